theorem minZ_b (a b : Int) : minZ a b ≤ a ∧ minZ a b ≤ b ∧ (minZ a b = a ∨ minZ a b = b) := by unfold minZ; split <;> omega
theorem maxZ_b (a b : Int) : a ≤ maxZ a b ∧ b ≤ maxZ a b ∧ (maxZ a b = a ∨ maxZ a b = b) := by unfold maxZ; split <;> omega
def colW (bk st : Int → Int) (C x r : Int) : Prop := (∃ c : Int, 0 ≤ c ∧ c < C ∧ (∃ k : Int, st c ≤ k ∧ k < st (c + 1) ∧ bk k = x) ∧ (∀ c1 : Int, 0 ≤ c1 → c1 < c → ∀ k : Int, st c1 ≤ k → k < st (c1 + 1) → bk k ≠ x) ∧ r = c) ∨ ((∀ c1 : Int, 0 ≤ c1 → c1 < C → ∀ k : Int, st c1 ≤ k → k < st (c1 + 1) → bk k ≠ x) ∧ r = -1)
def fgZ (bk : Int → Int) (a b r : Int) : Prop := (∃ k : Int, a ≤ k ∧ k < b ∧ bk k % 6 = 0 ∧ (∀ i : Int, a ≤ i → i < k → bk i % 6 ≠ 0) ∧ r = bk k / 6) ∨ ((∀ i : Int, a ≤ i → i < b → bk i % 6 ≠ 0) ∧ r = bk a / 6)
def lgZ (bk : Int → Int) (a b r : Int) : Prop := (∃ k : Int, a ≤ k ∧ k < b ∧ bk k % 6 = 0 ∧ (∀ i : Int, k < i → i < b → bk i % 6 ≠ 0) ∧ r = bk k / 6) ∨ ((∀ i : Int, a ≤ i → i < b → bk i % 6 ≠ 0) ∧ r = bk a / 6)
def colEq (bk st bk2 st2 : Int → Int) (m t : Int) : Prop := st (m + 1) - st m = st2 (t + 1) - st2 t ∧ ∀ k : Int, 0 ≤ k → k < st (m + 1) - st m → bk (st m + k) = bk2 (st2 t + k)
def pgEq (bk st : Int → Int) (C w : Int) (bk2 st2 : Int → Int) (C2 w2 pg : Int) : Prop := minZ ((pg + 1) * w) C - minZ (pg * w) C = minZ ((pg + 1) * w2) C2 - minZ (pg * w2) C2 ∧ ∀ k : Int, 0 ≤ k → k < minZ ((pg + 1) * w) C - minZ (pg * w) C → colEq bk st bk2 st2 (minZ (pg * w) C + k) (minZ (pg * w2) C2 + k)
def unN (bad : Int → Int) : Nat → Int
  | 0 => 0
  | n + 1 => unN bad n + bad n
def qX1_openEmpty (cB cI cJ cY : ClassId) (h : Nat) (qk : Nat) (qt : Nat) (qn : Nat) (st : Int → Int) (B : Int) (C : Int) (w : Int) (G : Int) (K : Int) (on : Int) : Option Value → va_W → Prop := fun rv w1 => rv = none ∧ w1 = [(h, .inr (1, [.ref qk, .ref qt, .ref qn, .int (iZ B), .int (iZ 0), .int (iZ on), .int (iZ 0), .int (iZ K)])), (qt, .inl (cI, 901, .inl (zA (upZ st 0 0))))]
set_option maxHeartbeats 4000000 in
set_option maxRecDepth 100000 in
theorem ctX1_openEmpty (l : Launch) (D : va_G) (cB cI cJ cY : ClassId) (h : Nat) (qk : Nat) (qt : Nat) (qn : Nat) (st : Int → Int) (B : Int) (C : Int) (w : Int) (G : Int) (K : Int) (on : Int)  : gM l yX1_openEmpty wsX1_openEmpty { frames := 0, cells := 0, slots := 0, locals := 0 } D (gT cB cI cJ cY) [.ref h, .int (iZ on)] [(h, .inr (1, [.ref qk, .ref qt, .ref qn, .int (iZ B), .int (iZ C), .int (iZ w), .int (iZ G), .int (iZ K)])), (qt, .inl (cI, 901, .inl (zA st)))] 0 0 (qX1_openEmpty cB cI cJ cY h qk qt qn st B C w G K on) := by
  refine g_start (cc := cX1_openEmpty) (maxL := 2) (ret := none) (lv := [(0, .ref h), (1, .int (iZ on))]) (by decide) rfl (Nat.le_of_ble_eq_true rfl) rfl ?_
  intro p e s m args below meth c A X hr hnm
  have hin1 : ∀ w ∈ u_ws RX1 TX1 8, w ∈ wsX1_openEmpty := by decide +kernel
  refine g_aload_n X 0 dX1_openEmpty_0 rfl rfl ?_
  refine g_iload_n X 1 dX1_openEmpty_1 rfl rfl ?_
  refine g_put X (index := 21) (ref := "GuideWords$Setting") hin1 0 rfl rfl 5 (by decide) rfl tyX1 tyX1_ok nmX1 (by decide +kernel) rfl rfl rfl rfl (Nat.le_of_ble_eq_true rfl) (ws2 := [(h, .inr (1, [.ref qk, .ref qt, .ref qn, .int (iZ B), .int (iZ C), .int (iZ on), .int (iZ G), .int (iZ K)])), (qt, .inl (cI, 901, .inl (zA st)))]) rfl dX1_openEmpty_2 ?_
  refine g_aload_n X 0 dX1_openEmpty_5 rfl rfl ?_
  refine g_iconst X dX1_openEmpty_6 ?_
  refine g_put X (index := 25) (ref := "GuideWords$Setting") hin1 0 rfl rfl 4 (by decide) rfl tyX1 tyX1_ok nmX1 (by decide +kernel) rfl rfl rfl rfl (Nat.le_of_ble_eq_true rfl) (ws2 := [(h, .inr (1, [.ref qk, .ref qt, .ref qn, .int (iZ B), .int (iZ 0), .int (iZ on), .int (iZ G), .int (iZ K)])), (qt, .inl (cI, 901, .inl (zA st)))]) rfl dX1_openEmpty_7 ?_
  refine g_aload_n X 0 dX1_openEmpty_10 rfl rfl ?_
  refine g_iconst X dX1_openEmpty_11 ?_
  refine g_put X (index := 28) (ref := "GuideWords$Setting") hin1 0 rfl rfl 6 (by decide) rfl tyX1 tyX1_ok nmX1 (by decide +kernel) rfl rfl rfl rfl (Nat.le_of_ble_eq_true rfl) (ws2 := [(h, .inr (1, [.ref qk, .ref qt, .ref qn, .int (iZ B), .int (iZ 0), .int (iZ on), .int (iZ 0), .int (iZ K)])), (qt, .inl (cI, 901, .inl (zA st)))]) rfl dX1_openEmpty_12 ?_
  refine g_aload_n X 0 dX1_openEmpty_15 rfl rfl ?_
  refine g_get X (index := 15) (ref := "GuideWords$Setting") hin1 0 rfl rfl 1 (by decide) rfl (by decide +kernel) (v := .ref qt) rfl dX1_openEmpty_16 ?_
  refine g_iconst X dX1_openEmpty_19 ?_
  refine g_iconst X dX1_openEmpty_20 ?_
  refine g_iast X 1 1 rfl rfl (by omega) (by decide) (ws2 := [(h, .inr (1, [.ref qk, .ref qt, .ref qn, .int (iZ B), .int (iZ 0), .int (iZ on), .int (iZ 0), .int (iZ K)])), (qt, .inl (cI, 901, .inl (zA (upZ st 0 0))))]) rfl dX1_openEmpty_21 ?_
  exact g_vret X hr (by decide) (by decide) dX1_openEmpty_22 ⟨rfl, rfl⟩
def qX1_addColumn (cB cI cJ cY : ClassId) (h : Nat) (qk : Nat) (qt : Nat) (qn : Nat) (st : Int → Int) (cl : Int → Int) (B : Int) (C : Int) (w : Int) (G : Int) (K : Int) (en : Int) (li : Int) (bg : Int) : Option Value → va_W → Prop := fun rv w1 => ∃ (G2 : Int), rv = none ∧ G2 = G + bg ∧ w1 = [(h, .inr (1, [.ref qk, .ref qt, .ref qn, .int (iZ B), .int (iZ (C + 1)), .int (iZ w), .int (iZ G2), .int (iZ K)])), (qt, .inl (cI, 901, .inl (zA (upZ st (C + 1) en)))), (qn, .inl (cI, 900, .inl (zA (upZ cl C li))))]
set_option maxHeartbeats 4000000 in
set_option maxRecDepth 100000 in
theorem ctX1_addColumn (l : Launch) (D : va_G) (cB cI cJ cY : ClassId) (h : Nat) (qk : Nat) (qt : Nat) (qn : Nat) (st : Int → Int) (cl : Int → Int) (B : Int) (C : Int) (w : Int) (G : Int) (K : Int) (en : Int) (li : Int) (bg : Int) (hc : 0 ≤ C ∧ C < 900) (hbg : bg = 0 ∨ bg = 1) : gM l yX1_addColumn wsX1_addColumn { frames := 0, cells := 0, slots := 0, locals := 0 } D (gT cB cI cJ cY) [.ref h, .int (iZ en), .int (iZ li), .int (iZ bg)] [(h, .inr (1, [.ref qk, .ref qt, .ref qn, .int (iZ B), .int (iZ C), .int (iZ w), .int (iZ G), .int (iZ K)])), (qt, .inl (cI, 901, .inl (zA st))), (qn, .inl (cI, 900, .inl (zA cl)))] 0 0 (qX1_addColumn cB cI cJ cY h qk qt qn st cl B C w G K en li bg) := by
  refine g_start (cc := cX1_addColumn) (maxL := 4) (ret := none) (lv := [(0, .ref h), (1, .int (iZ en)), (2, .int (iZ li)), (3, .int (iZ bg))]) (by decide) rfl (Nat.le_of_ble_eq_true rfl) rfl ?_
  intro p e s m args below meth c A X hr hnm
  have hin1 : ∀ w ∈ u_ws RX1 TX1 8, w ∈ wsX1_addColumn := by decide +kernel
  refine g_aload_n X 0 dX1_addColumn_0 rfl rfl ?_
  refine g_get X (index := 18) (ref := "GuideWords$Setting") hin1 0 rfl rfl 2 (by decide) rfl (by decide +kernel) (v := .ref qn) rfl dX1_addColumn_1 ?_
  refine g_aload_n X 0 dX1_addColumn_4 rfl rfl ?_
  refine g_get X (index := 25) (ref := "GuideWords$Setting") hin1 0 rfl rfl 4 (by decide) rfl (by decide +kernel) (v := .int (iZ C)) rfl dX1_addColumn_5 ?_
  refine g_iload_n X 2 dX1_addColumn_8 rfl rfl ?_
  refine g_iast X 2 1 rfl rfl (by omega) (by decide) (ws2 := [(h, .inr (1, [.ref qk, .ref qt, .ref qn, .int (iZ B), .int (iZ C), .int (iZ w), .int (iZ G), .int (iZ K)])), (qt, .inl (cI, 901, .inl (zA st))), (qn, .inl (cI, 900, .inl (zA (upZ cl C li))))]) rfl dX1_addColumn_9 ?_
  refine g_aload_n X 0 dX1_addColumn_10 rfl rfl ?_
  refine g_dup X dX1_addColumn_11 rfl ?_
  refine g_get X (index := 25) (ref := "GuideWords$Setting") hin1 0 rfl rfl 4 (by decide) rfl (by decide +kernel) (v := .int (iZ C)) rfl dX1_addColumn_12 ?_
  refine g_iconst X dX1_addColumn_15 ?_
  refine g_iadd X dX1_addColumn_16 ?_
  refine g_put X (index := 25) (ref := "GuideWords$Setting") hin1 0 rfl rfl 4 (by decide) rfl tyX1 tyX1_ok nmX1 (by decide +kernel) rfl rfl rfl rfl (Nat.le_of_ble_eq_true rfl) (ws2 := [(h, .inr (1, [.ref qk, .ref qt, .ref qn, .int (iZ B), .int (iZ (C + 1)), .int (iZ w), .int (iZ G), .int (iZ K)])), (qt, .inl (cI, 901, .inl (zA st))), (qn, .inl (cI, 900, .inl (zA (upZ cl C li))))]) rfl dX1_addColumn_17 ?_
  refine g_aload_n X 0 dX1_addColumn_20 rfl rfl ?_
  refine g_get X (index := 15) (ref := "GuideWords$Setting") hin1 0 rfl rfl 1 (by decide) rfl (by decide +kernel) (v := .ref qt) rfl dX1_addColumn_21 ?_
  refine g_aload_n X 0 dX1_addColumn_24 rfl rfl ?_
  refine g_get X (index := 25) (ref := "GuideWords$Setting") hin1 0 rfl rfl 4 (by decide) rfl (by decide +kernel) (v := .int (iZ (C + 1))) rfl dX1_addColumn_25 ?_
  refine g_iload_n X 1 dX1_addColumn_28 rfl rfl ?_
  refine g_iast X 1 1 rfl rfl (by omega) (by decide) (ws2 := [(h, .inr (1, [.ref qk, .ref qt, .ref qn, .int (iZ B), .int (iZ (C + 1)), .int (iZ w), .int (iZ G), .int (iZ K)])), (qt, .inl (cI, 901, .inl (zA (upZ st (C + 1) en)))), (qn, .inl (cI, 900, .inl (zA (upZ cl C li))))]) rfl dX1_addColumn_29 ?_
  refine g_iload_n X 3 dX1_addColumn_30 rfl rfl ?_
  refine g_if_eq X 44 dX1_addColumn_31 (by decide) (by omega) (fun c_31 => ?_) (fun c_31 => ?_)
  · skip
    exact g_vret X hr (by decide) (by decide) dX1_addColumn_44 ⟨_, rfl, by omega, rfl⟩
  · skip
    refine g_aload_n X 0 dX1_addColumn_34 rfl rfl ?_
    refine g_dup X dX1_addColumn_35 rfl ?_
    refine g_get X (index := 28) (ref := "GuideWords$Setting") hin1 0 rfl rfl 6 (by decide) rfl (by decide +kernel) (v := .int (iZ G)) rfl dX1_addColumn_36 ?_
    refine g_iconst X dX1_addColumn_39 ?_
    refine g_iadd X dX1_addColumn_40 ?_
    refine g_put X (index := 28) (ref := "GuideWords$Setting") hin1 0 rfl rfl 6 (by decide) rfl tyX1 tyX1_ok nmX1 (by decide +kernel) rfl rfl rfl rfl (Nat.le_of_ble_eq_true rfl) (ws2 := [(h, .inr (1, [.ref qk, .ref qt, .ref qn, .int (iZ B), .int (iZ (C + 1)), .int (iZ w), .int (iZ (G + 1)), .int (iZ K)])), (qt, .inl (cI, 901, .inl (zA (upZ st (C + 1) en)))), (qn, .inl (cI, 900, .inl (zA (upZ cl C li))))]) rfl dX1_addColumn_41 ?_
    exact g_vret X hr (by decide) (by decide) dX1_addColumn_44 ⟨_, rfl, by omega, rfl⟩
def qX1_entryOf (cB cI cJ cY : ClassId) (h : Nat) (qk : Nat) (qt : Nat) (qn : Nat) (bk : Int → Int) (B : Int) (C : Int) (w : Int) (G : Int) (K : Int) (k : Int) : Option Value → va_W → Prop := fun rv w1 => rv = some (.int (iZ (bk k / 6))) ∧ w1 = [(h, .inr (1, [.ref qk, .ref qt, .ref qn, .int (iZ B), .int (iZ C), .int (iZ w), .int (iZ G), .int (iZ K)])), (qk, .inl (cI, 900, .inl (zA bk)))]
set_option maxHeartbeats 4000000 in
set_option maxRecDepth 100000 in
theorem ctX1_entryOf (l : Launch) (D : va_G) (cB cI cJ cY : ClassId) (h : Nat) (qk : Nat) (qt : Nat) (qn : Nat) (bk : Int → Int) (B : Int) (C : Int) (w : Int) (G : Int) (K : Int) (k : Int) (hbk : ∀ j : Int, 0 ≤ j ∧ j < 900 → 0 ≤ bk j ∧ bk j < 900) (hk : 0 ≤ k ∧ k < 900) : gM l yX1_entryOf wsX1_entryOf { frames := 0, cells := 0, slots := 0, locals := 0 } D (gT cB cI cJ cY) [.ref h, .int (iZ k)] [(h, .inr (1, [.ref qk, .ref qt, .ref qn, .int (iZ B), .int (iZ C), .int (iZ w), .int (iZ G), .int (iZ K)])), (qk, .inl (cI, 900, .inl (zA bk)))] 0 0 (qX1_entryOf cB cI cJ cY h qk qt qn bk B C w G K k) := by
  refine g_start (cc := cX1_entryOf) (maxL := 2) (ret := some .int) (lv := [(0, .ref h), (1, .int (iZ k))]) (by decide) rfl (Nat.le_of_ble_eq_true rfl) rfl ?_
  intro p e s m args below meth c A X hr hnm
  have hin1 : ∀ w ∈ u_ws RX1 TX1 8, w ∈ wsX1_entryOf := by decide +kernel
  refine g_aload_n X 0 dX1_entryOf_0 rfl rfl ?_
  refine g_get X (index := 9) (ref := "GuideWords$Setting") hin1 0 rfl rfl 0 (by decide) rfl (by decide +kernel) (v := .ref qk) rfl dX1_entryOf_1 ?_
  refine g_iload_n X 1 dX1_entryOf_4 rfl rfl ?_
  refine g_iald X 1 1 rfl rfl (by omega) (by decide) dX1_entryOf_5 ?_
  have r_5 := hbk k (by omega)
  refine g_bipush X dX1_entryOf_6 (by decide) ?_
  refine g_idiv X dX1_entryOf_8 (by omega) (by omega) ?_
  exact g_iret X hr (by decide) (by decide) dX1_entryOf_9 ⟨rfl, rfl⟩
def qX1_senseOf (cB cI cJ cY : ClassId) (h : Nat) (qk : Nat) (qt : Nat) (qn : Nat) (bk : Int → Int) (B : Int) (C : Int) (w : Int) (G : Int) (K : Int) (k : Int) : Option Value → va_W → Prop := fun rv w1 => rv = some (.int (iZ (bk k % 6))) ∧ w1 = [(h, .inr (1, [.ref qk, .ref qt, .ref qn, .int (iZ B), .int (iZ C), .int (iZ w), .int (iZ G), .int (iZ K)])), (qk, .inl (cI, 900, .inl (zA bk)))]
set_option maxHeartbeats 4000000 in
set_option maxRecDepth 100000 in
theorem ctX1_senseOf (l : Launch) (D : va_G) (cB cI cJ cY : ClassId) (h : Nat) (qk : Nat) (qt : Nat) (qn : Nat) (bk : Int → Int) (B : Int) (C : Int) (w : Int) (G : Int) (K : Int) (k : Int) (hbk : ∀ j : Int, 0 ≤ j ∧ j < 900 → 0 ≤ bk j ∧ bk j < 900) (hk : 0 ≤ k ∧ k < 900) : gM l yX1_senseOf wsX1_senseOf { frames := 0, cells := 0, slots := 0, locals := 0 } D (gT cB cI cJ cY) [.ref h, .int (iZ k)] [(h, .inr (1, [.ref qk, .ref qt, .ref qn, .int (iZ B), .int (iZ C), .int (iZ w), .int (iZ G), .int (iZ K)])), (qk, .inl (cI, 900, .inl (zA bk)))] 0 0 (qX1_senseOf cB cI cJ cY h qk qt qn bk B C w G K k) := by
  refine g_start (cc := cX1_senseOf) (maxL := 2) (ret := some .int) (lv := [(0, .ref h), (1, .int (iZ k))]) (by decide) rfl (Nat.le_of_ble_eq_true rfl) rfl ?_
  intro p e s m args below meth c A X hr hnm
  have hin1 : ∀ w ∈ u_ws RX1 TX1 8, w ∈ wsX1_senseOf := by decide +kernel
  refine g_aload_n X 0 dX1_senseOf_0 rfl rfl ?_
  refine g_get X (index := 9) (ref := "GuideWords$Setting") hin1 0 rfl rfl 0 (by decide) rfl (by decide +kernel) (v := .ref qk) rfl dX1_senseOf_1 ?_
  refine g_iload_n X 1 dX1_senseOf_4 rfl rfl ?_
  refine g_iald X 1 1 rfl rfl (by omega) (by decide) dX1_senseOf_5 ?_
  have r_5 := hbk k (by omega)
  refine g_bipush X dX1_senseOf_6 (by decide) ?_
  refine g_irem X dX1_senseOf_8 (by omega) (by omega) ?_
  exact g_iret X hr (by decide) (by decide) dX1_senseOf_9 ⟨rfl, rfl⟩
def qX1_firstColumn (cB cI cJ cY : ClassId) (h : Nat) (qk : Nat) (qt : Nat) (qn : Nat) (B : Int) (C : Int) (w : Int) (G : Int) (K : Int) (pg : Int) : Option Value → va_W → Prop := fun rv w1 => rv = some (.int (iZ (minZ (pg * w) C))) ∧ w1 = [(h, .inr (1, [.ref qk, .ref qt, .ref qn, .int (iZ B), .int (iZ C), .int (iZ w), .int (iZ G), .int (iZ K)]))]
set_option maxHeartbeats 4000000 in
set_option maxRecDepth 100000 in
theorem ctX1_firstColumn (l : Launch) (D : va_G) (cB cI cJ cY : ClassId) (h : Nat) (qk : Nat) (qt : Nat) (qn : Nat) (B : Int) (C : Int) (w : Int) (G : Int) (K : Int) (pg : Int) (hc : 0 ≤ C ∧ C ≤ 900) (hpw : 0 ≤ pg * w ∧ pg * w ≤ 4000) : gM l yX1_firstColumn wsX1_firstColumn { frames := 1, cells := 0, slots := 0, locals := 21 } D (gT cB cI cJ cY) [.ref h, .int (iZ pg)] [(h, .inr (1, [.ref qk, .ref qt, .ref qn, .int (iZ B), .int (iZ C), .int (iZ w), .int (iZ G), .int (iZ K)]))] 0 0 (qX1_firstColumn cB cI cJ cY h qk qt qn B C w G K pg) := by
  refine g_start (cc := cX1_firstColumn) (maxL := 2) (ret := some .int) (lv := [(0, .ref h), (1, .int (iZ pg))]) (by decide) rfl (Nat.le_of_ble_eq_true rfl) rfl ?_
  intro p e s m args below meth c A X hr hnm
  have hin1 : ∀ w ∈ u_ws RX1 TX1 8, w ∈ wsX1_firstColumn := by decide +kernel
  refine g_iload_n X 1 dX1_firstColumn_0 rfl rfl ?_
  refine g_aload_n X 0 dX1_firstColumn_1 rfl rfl ?_
  refine g_get X (index := 21) (ref := "GuideWords$Setting") hin1 0 rfl rfl 5 (by decide) rfl (by decide +kernel) (v := .int (iZ w)) rfl dX1_firstColumn_2 ?_
  refine g_imul X dX1_firstColumn_5 ?_
  refine g_aload_n X 0 dX1_firstColumn_6 rfl rfl ?_
  refine g_get X (index := 25) (ref := "GuideWords$Setting") hin1 0 rfl rfl 4 (by decide) rfl (by decide +kernel) (v := .int (iZ C)) rfl dX1_firstColumn_7 ?_
  refine g_mmin X (index := 58) (by decide +kernel) (by decide +kernel) (by decide +kernel) (by decide +kernel) (by omega) (by omega) (by decide) (Nat.le_of_ble_eq_true rfl) (by decide) (by decide) dX1_firstColumn_10 ?_
  exact g_iret X hr (by decide) (by decide) dX1_firstColumn_13 ⟨rfl, rfl⟩
def qX1_endColumn (cB cI cJ cY : ClassId) (h : Nat) (qk : Nat) (qt : Nat) (qn : Nat) (B : Int) (C : Int) (w : Int) (G : Int) (K : Int) (pg : Int) : Option Value → va_W → Prop := fun rv w1 => rv = some (.int (iZ (minZ ((pg + 1) * w) C))) ∧ w1 = [(h, .inr (1, [.ref qk, .ref qt, .ref qn, .int (iZ B), .int (iZ C), .int (iZ w), .int (iZ G), .int (iZ K)]))]
set_option maxHeartbeats 4000000 in
set_option maxRecDepth 100000 in
theorem ctX1_endColumn (l : Launch) (D : va_G) (cB cI cJ cY : ClassId) (h : Nat) (qk : Nat) (qt : Nat) (qn : Nat) (B : Int) (C : Int) (w : Int) (G : Int) (K : Int) (pg : Int) (hc : 0 ≤ C ∧ C ≤ 900) (hpw1 : 0 ≤ (pg + 1) * w ∧ (pg + 1) * w ≤ 4000) : gM l yX1_endColumn wsX1_endColumn { frames := 1, cells := 0, slots := 0, locals := 21 } D (gT cB cI cJ cY) [.ref h, .int (iZ pg)] [(h, .inr (1, [.ref qk, .ref qt, .ref qn, .int (iZ B), .int (iZ C), .int (iZ w), .int (iZ G), .int (iZ K)]))] 0 0 (qX1_endColumn cB cI cJ cY h qk qt qn B C w G K pg) := by
  refine g_start (cc := cX1_endColumn) (maxL := 2) (ret := some .int) (lv := [(0, .ref h), (1, .int (iZ pg))]) (by decide) rfl (Nat.le_of_ble_eq_true rfl) rfl ?_
  intro p e s m args below meth c A X hr hnm
  have hin1 : ∀ w ∈ u_ws RX1 TX1 8, w ∈ wsX1_endColumn := by decide +kernel
  refine g_iload_n X 1 dX1_endColumn_0 rfl rfl ?_
  refine g_iconst X dX1_endColumn_1 ?_
  refine g_iadd X dX1_endColumn_2 ?_
  refine g_aload_n X 0 dX1_endColumn_3 rfl rfl ?_
  refine g_get X (index := 21) (ref := "GuideWords$Setting") hin1 0 rfl rfl 5 (by decide) rfl (by decide +kernel) (v := .int (iZ w)) rfl dX1_endColumn_4 ?_
  refine g_imul X dX1_endColumn_7 ?_
  refine g_aload_n X 0 dX1_endColumn_8 rfl rfl ?_
  refine g_get X (index := 25) (ref := "GuideWords$Setting") hin1 0 rfl rfl 4 (by decide) rfl (by decide +kernel) (v := .int (iZ C)) rfl dX1_endColumn_9 ?_
  refine g_mmin X (index := 58) (by decide +kernel) (by decide +kernel) (by decide +kernel) (by decide +kernel) (by omega) (by omega) (by decide) (Nat.le_of_ble_eq_true rfl) (by decide) (by decide) dX1_endColumn_12 ?_
  exact g_iret X hr (by decide) (by decide) dX1_endColumn_15 ⟨rfl, rfl⟩
def qX1_columnWith (cB cI cJ cY : ClassId) (h : Nat) (qk : Nat) (qt : Nat) (qn : Nat) (bk : Int → Int) (st : Int → Int) (B : Int) (C : Int) (w : Int) (G : Int) (K : Int) (x : Int) : Option Value → va_W → Prop := fun rv w1 => ∃ (r : Int), rv = some (.int (iZ r)) ∧ colW bk st C x r ∧ w1 = [(h, .inr (1, [.ref qk, .ref qt, .ref qn, .int (iZ B), .int (iZ C), .int (iZ w), .int (iZ G), .int (iZ K)])), (qk, .inl (cI, 900, .inl (zA bk))), (qt, .inl (cI, 901, .inl (zA st)))]
set_option maxHeartbeats 4000000 in
set_option maxRecDepth 100000 in
theorem ctX1_columnWith (l : Launch) (D : va_G) (cB cI cJ cY : ClassId) (h : Nat) (qk : Nat) (qt : Nat) (qn : Nat) (bk : Int → Int) (st : Int → Int) (B : Int) (C : Int) (w : Int) (G : Int) (K : Int) (x : Int) (hc : 0 ≤ C ∧ C ≤ 900) (hst : ∀ j : Int, 0 ≤ j ∧ j ≤ C → 0 ≤ st j ∧ st j ≤ 900) (hbk : ∀ j : Int, 0 ≤ j ∧ j < 900 → 0 ≤ bk j ∧ bk j < 900) (hx : -2147483648 ≤ x ∧ x ≤ 2147483647) : gM l yX1_columnWith wsX1_columnWith { frames := 0, cells := 0, slots := 0, locals := 0 } D (gT cB cI cJ cY) [.ref h, .int (iZ x)] [(h, .inr (1, [.ref qk, .ref qt, .ref qn, .int (iZ B), .int (iZ C), .int (iZ w), .int (iZ G), .int (iZ K)])), (qk, .inl (cI, 900, .inl (zA bk))), (qt, .inl (cI, 901, .inl (zA st)))] 0 0 (qX1_columnWith cB cI cJ cY h qk qt qn bk st B C w G K x) := by
  refine g_start (cc := cX1_columnWith) (maxL := 4) (ret := some .int) (lv := [(0, .ref h), (1, .int (iZ x))]) (by decide) rfl (Nat.le_of_ble_eq_true rfl) rfl ?_
  intro p e s m args below meth c A X hr hnm
  have hin1 : ∀ w ∈ u_ws RX1 TX1 8, w ∈ wsX1_columnWith := by decide +kernel
  refine g_iconst X dX1_columnWith_0 ?_
  refine g_istore_n (lv2 := [(2, .int (iZ 0)), (0, .ref h), (1, .int (iZ x))]) X dX1_columnWith_1 rfl (by decide) rfl ?_
  refine g_lv (lv' := [(0, .ref h), (1, .int (iZ x)), (2, .int (iZ 0))]) [1, 2, 0] rfl ?_
  have loop_2 : ∀ (kf : Nat) (c9 : Int), (h9 : 0 ≤ c9 ∧ c9 ≤ C) → (hno : ∀ c1 : Int, 0 ≤ c1 → c1 < c9 → ∀ k : Int, st c1 ≤ k → k < st (c1 + 1) → bk k ≠ x) → (C - c9).toNat < kf → gW p l e { frames := 0, cells := 0, slots := 0, locals := 0 } s m args below meth c D A 4 0 0 (MQ below (gQ D (gT cB cI cJ cY) (qX1_columnWith cB cI cJ cY h qk qt qn bk st B C w G K x) A) args s 0 0 A) [(h, .inr (1, [.ref qk, .ref qt, .ref qn, .int (iZ B), .int (iZ C), .int (iZ w), .int (iZ G), .int (iZ K)])), (qk, .inl (cI, 900, .inl (zA bk))), (qt, .inl (cI, 901, .inl (zA st)))] 2 [(0, .ref h), (1, .int (iZ x)), (2, .int (iZ c9))] [] := by
    intro kf
    induction kf with
    | zero => intro c9 h9 hno hm; exact absurd hm (Nat.not_lt_zero _)
    | succ kf ih_2 =>
      intro c9 h9 hno hm
      refine g_iload_n X 2 dX1_columnWith_2 rfl rfl ?_
      refine g_aload_n X 0 dX1_columnWith_3 rfl rfl ?_
      refine g_get X (index := 25) (ref := "GuideWords$Setting") hin1 0 rfl rfl 4 (by decide) rfl (by decide +kernel) (v := .int (iZ C)) rfl dX1_columnWith_4 ?_
      refine g_icmp_ge X 53 dX1_columnWith_7 (by decide) (by omega) (by omega) (fun c_7 => ?_) (fun c_7 => ?_)
      · skip
        refine g_iconst X dX1_columnWith_53 ?_
        exact g_iret X hr (by decide) (by decide) dX1_columnWith_54 ⟨_, rfl, Or.inr ⟨fun c1 h1 h2 => hno c1 h1 (by omega), rfl⟩, rfl⟩
      · skip
        refine g_aload_n X 0 dX1_columnWith_10 rfl rfl ?_
        refine g_get X (index := 15) (ref := "GuideWords$Setting") hin1 0 rfl rfl 1 (by decide) rfl (by decide +kernel) (v := .ref qt) rfl dX1_columnWith_11 ?_
        refine g_iload_n X 2 dX1_columnWith_14 rfl rfl ?_
        refine g_iald X 2 1 rfl rfl (by omega) (by decide) dX1_columnWith_15 ?_
        have r_15 := hst c9 (by omega)
        refine g_istore_n (lv2 := [(3, .int (iZ (st c9))), (0, .ref h), (1, .int (iZ x)), (2, .int (iZ c9))]) X dX1_columnWith_16 rfl (by decide) rfl ?_
        refine g_lv (lv' := [(0, .ref h), (1, .int (iZ x)), (2, .int (iZ c9)), (3, .int (iZ (st c9)))]) [1, 2, 3, 0] rfl ?_
        have loop_17 : ∀ (kf : Nat) (k : Int), (hk : st c9 ≤ k ∧ k ≤ 900) → (hin : ∀ i : Int, st c9 ≤ i → i < k → bk i ≠ x) → (900 - k).toNat < kf → gW p l e { frames := 0, cells := 0, slots := 0, locals := 0 } s m args below meth c D A 4 0 0 (MQ below (gQ D (gT cB cI cJ cY) (qX1_columnWith cB cI cJ cY h qk qt qn bk st B C w G K x) A) args s 0 0 A) [(h, .inr (1, [.ref qk, .ref qt, .ref qn, .int (iZ B), .int (iZ C), .int (iZ w), .int (iZ G), .int (iZ K)])), (qk, .inl (cI, 900, .inl (zA bk))), (qt, .inl (cI, 901, .inl (zA st)))] 17 [(0, .ref h), (1, .int (iZ x)), (2, .int (iZ c9)), (3, .int (iZ k))] [] := by
          intro kf
          induction kf with
          | zero => intro k hk hin hm; exact absurd hm (Nat.not_lt_zero _)
          | succ kf ih_17 =>
            intro k hk hin hm
            refine g_iload_n X 3 dX1_columnWith_17 rfl rfl ?_
            refine g_aload_n X 0 dX1_columnWith_18 rfl rfl ?_
            refine g_get X (index := 15) (ref := "GuideWords$Setting") hin1 0 rfl rfl 1 (by decide) rfl (by decide +kernel) (v := .ref qt) rfl dX1_columnWith_19 ?_
            refine g_iload_n X 2 dX1_columnWith_22 rfl rfl ?_
            refine g_iconst X dX1_columnWith_23 ?_
            refine g_iadd X dX1_columnWith_24 ?_
            refine g_iald X 2 1 rfl rfl (by omega) (by decide) dX1_columnWith_25 ?_
            have r_25 := hst (c9 + 1) (by omega)
            refine g_icmp_ge X 47 dX1_columnWith_26 (by decide) (by omega) (by omega) (fun c_26 => ?_) (fun c_26 => ?_)
            · skip
              have hno2 : ∀ c1 : Int, 0 ≤ c1 → c1 < c9 + 1 → ∀ k : Int, st c1 ≤ k → k < st (c1 + 1) → bk k ≠ x := fun c1 h1 h2 k1 h3 h4 => by
                rcases (show c1 = c9 ∨ c1 < c9 by omega) with h | h
                · subst h; exact hin k1 h3 (by omega)
                · exact hno c1 h1 h k1 h3 h4
              refine g_iinc (q := 2) (lv2 := [(2, .int (iZ (c9 + 1))), (0, .ref h), (1, .int (iZ x)), (3, .int (iZ k))]) X dX1_columnWith_47 rfl (by decide) rfl ?_
              refine g_goto X 2 dX1_columnWith_50 (by decide) ?_
              refine g_lv (lv' := [(0, .ref h), (1, .int (iZ x)), (2, .int (iZ (c9 + 1)))]) [1, 2, 0] rfl ?_
              exact ih_2 (c9 + 1) (by omega) hno2 (by omega)
            · skip
              refine g_aload_n X 0 dX1_columnWith_29 rfl rfl ?_
              refine g_get X (index := 9) (ref := "GuideWords$Setting") hin1 0 rfl rfl 0 (by decide) rfl (by decide +kernel) (v := .ref qk) rfl dX1_columnWith_30 ?_
              refine g_iload_n X 3 dX1_columnWith_33 rfl rfl ?_
              refine g_iald X 1 1 rfl rfl (by omega) (by decide) dX1_columnWith_34 ?_
              have r_34 := hbk k (by omega)
              refine g_iload_n X 1 dX1_columnWith_35 rfl rfl ?_
              refine g_icmp_ne X 41 dX1_columnWith_36 (by decide) (by omega) (by omega) (fun c_36 => ?_) (fun c_36 => ?_)
              · skip
                refine g_iinc (q := 3) (lv2 := [(3, .int (iZ (k + 1))), (0, .ref h), (1, .int (iZ x)), (2, .int (iZ c9))]) X dX1_columnWith_41 rfl (by decide) rfl ?_
                refine g_goto X 17 dX1_columnWith_44 (by decide) ?_
                refine g_lv (lv' := [(0, .ref h), (1, .int (iZ x)), (2, .int (iZ c9)), (3, .int (iZ (k + 1)))]) [1, 2, 3, 0] rfl ?_
                exact ih_17 (k + 1) (by omega) (fun i h1 h2 => by
                    rcases (show i = k ∨ i < k by omega) with h | h
                    · rw [h]; exact c_36
                    · exact hin i h1 h) (by omega)
              · skip
                refine g_iload_n X 2 dX1_columnWith_39 rfl rfl ?_
                exact g_iret X hr (by decide) (by decide) dX1_columnWith_40 ⟨_, rfl, Or.inl ⟨c9, by omega, by omega, ⟨k, by omega, by omega, c_36⟩, hno, rfl⟩, rfl⟩
        exact loop_17 _ (st c9) (by omega) (fun i h1 h2 => by omega) (Nat.lt_succ_self _)
  exact loop_2 _ 0 (by omega) (fun c1 h1 h2 => by omega) (Nat.lt_succ_self _)
def qX1_firstGuide (cB cI cJ cY : ClassId) (h : Nat) (qk : Nat) (qt : Nat) (qn : Nat) (bk : Int → Int) (st : Int → Int) (B : Int) (C : Int) (w : Int) (G : Int) (K : Int) (pg : Int) : Option Value → va_W → Prop := fun rv w1 => ∃ (r : Int), rv = some (.int (iZ r)) ∧ fgZ bk (st (minZ (pg * w) C)) (st (minZ ((pg + 1) * w) C)) r ∧ w1 = [(h, .inr (1, [.ref qk, .ref qt, .ref qn, .int (iZ B), .int (iZ C), .int (iZ w), .int (iZ G), .int (iZ K)])), (qk, .inl (cI, 900, .inl (zA bk))), (qt, .inl (cI, 901, .inl (zA st)))]
set_option maxHeartbeats 4000000 in
set_option maxRecDepth 100000 in
theorem ctX1_firstGuide (l : Launch) (D : va_G) (cB cI cJ cY : ClassId) (h : Nat) (qk : Nat) (qt : Nat) (qn : Nat) (bk : Int → Int) (st : Int → Int) (B : Int) (C : Int) (w : Int) (G : Int) (K : Int) (pg : Int) (hc : 0 ≤ C ∧ C ≤ 900) (hst : ∀ j : Int, 0 ≤ j ∧ j ≤ C → 0 ≤ st j ∧ st j ≤ 900) (hbk : ∀ j : Int, 0 ≤ j ∧ j < 900 → 0 ≤ bk j ∧ bk j < 900) (hpw : 0 ≤ pg * w ∧ pg * w ≤ 4000) (hpw1 : 0 ≤ (pg + 1) * w ∧ (pg + 1) * w ≤ 4000) (ha : st (minZ (pg * w) C) < 900) : gM l yX1_firstGuide wsX1_firstGuide { frames := 2, cells := 0, slots := 0, locals := 42 } D (gT cB cI cJ cY) [.ref h, .int (iZ pg)] [(h, .inr (1, [.ref qk, .ref qt, .ref qn, .int (iZ B), .int (iZ C), .int (iZ w), .int (iZ G), .int (iZ K)])), (qk, .inl (cI, 900, .inl (zA bk))), (qt, .inl (cI, 901, .inl (zA st)))] 0 0 (qX1_firstGuide cB cI cJ cY h qk qt qn bk st B C w G K pg) := by
  refine g_start (cc := cX1_firstGuide) (maxL := 5) (ret := some .int) (lv := [(0, .ref h), (1, .int (iZ pg))]) (by decide) rfl (Nat.le_of_ble_eq_true rfl) rfl ?_
  intro p e s m args below meth c A X hr hnm
  have hin1 : ∀ w ∈ u_ws RX1 TX1 8, w ∈ wsX1_firstGuide := by decide +kernel
  refine g_aload_n X 0 dX1_firstGuide_0 rfl rfl ?_
  refine g_get X (index := 15) (ref := "GuideWords$Setting") hin1 0 rfl rfl 1 (by decide) rfl (by decide +kernel) (v := .ref qt) rfl dX1_firstGuide_1 ?_
  refine g_aload_n X 0 dX1_firstGuide_4 rfl rfl ?_
  refine g_iload_n X 1 dX1_firstGuide_5 rfl rfl ?_
  refine g_callV0 X (As := [.int (iZ pg)]) (rest := [.ref qt]) (ctX1_firstColumn l D cB cI cJ cY h qk qt qn B C w G K pg (by first | assumption | omega) (by first | assumption | omega)) (cwV 1 X.2.2.2.2.1 gX1_firstGuide_X1_firstColumn rfl rfl rfl (by decide +kernel) ⟨by decide, by decide⟩) 0 rfl rfl (wc := [(h, .inr (1, [.ref qk, .ref qt, .ref qn, .int (iZ B), .int (iZ C), .int (iZ w), .int (iZ G), .int (iZ K)]))]) (wr := [(qk, .inl (cI, 900, .inl (zA bk))), (qt, .inl (cI, 901, .inl (zA st)))]) [0] [1, 2] rfl rfl (by decide) (by decide) (by decide) rfl rfl (Nat.le_of_ble_eq_true rfl) ⟨by decide, by decide⟩ dX1_firstGuide_6 (fun v w1 hq => ?_)
  obtain ⟨rfl, rfl⟩ := hq
  refine g_eq (ws' := [(qk, .inl (cI, 900, .inl (zA bk))), (qt, .inl (cI, 901, .inl (zA st))), (h, .inr (1, [.ref qk, .ref qt, .ref qn, .int (iZ B), .int (iZ C), .int (iZ w), .int (iZ G), .int (iZ K)]))]) (pc' := 9) (st' := [.int (iZ (minZ (pg * w) C)), .ref qt]) rfl rfl rfl rfl ?_
  refine g_perm (ws' := [(h, .inr (1, [.ref qk, .ref qt, .ref qn, .int (iZ B), .int (iZ C), .int (iZ w), .int (iZ G), .int (iZ K)])), (qk, .inl (cI, 900, .inl (zA bk))), (qt, .inl (cI, 901, .inl (zA st)))]) [2, 0, 1] (by decide) rfl ?_
  have m1 := minZ_b (pg * w) C
  refine g_iald X 2 1 rfl rfl (by omega) (by decide) dX1_firstGuide_9 ?_
  have r_9 := hst (minZ (pg * w) C) (by omega)
  refine g_istore_n (lv2 := [(2, .int (iZ (st (minZ (pg * w) C)))), (0, .ref h), (1, .int (iZ pg))]) X dX1_firstGuide_10 rfl (by decide) rfl ?_
  refine g_aload_n X 1 dX1_firstGuide_11 rfl rfl ?_
  refine g_get X (index := 15) (ref := "GuideWords$Setting") hin1 0 rfl rfl 1 (by decide) rfl (by decide +kernel) (v := .ref qt) rfl dX1_firstGuide_12 ?_
  refine g_aload_n X 1 dX1_firstGuide_15 rfl rfl ?_
  refine g_iload_n X 2 dX1_firstGuide_16 rfl rfl ?_
  refine g_callV0 X (As := [.int (iZ pg)]) (rest := [.ref qt]) (ctX1_endColumn l D cB cI cJ cY h qk qt qn B C w G K pg (by first | assumption | omega) (by first | assumption | omega)) (cwV 1 X.2.2.2.2.1 gX1_firstGuide_X1_endColumn rfl rfl rfl (by decide +kernel) ⟨by decide, by decide⟩) 0 rfl rfl (wc := [(h, .inr (1, [.ref qk, .ref qt, .ref qn, .int (iZ B), .int (iZ C), .int (iZ w), .int (iZ G), .int (iZ K)]))]) (wr := [(qk, .inl (cI, 900, .inl (zA bk))), (qt, .inl (cI, 901, .inl (zA st)))]) [0] [1, 2] rfl rfl (by decide) (by decide) (by decide) rfl rfl (Nat.le_of_ble_eq_true rfl) ⟨by decide, by decide⟩ dX1_firstGuide_17 (fun v w1 hq => ?_)
  obtain ⟨rfl, rfl⟩ := hq
  refine g_eq (ws' := [(qk, .inl (cI, 900, .inl (zA bk))), (qt, .inl (cI, 901, .inl (zA st))), (h, .inr (1, [.ref qk, .ref qt, .ref qn, .int (iZ B), .int (iZ C), .int (iZ w), .int (iZ G), .int (iZ K)]))]) (pc' := 20) (st' := [.int (iZ (minZ ((pg + 1) * w) C)), .ref qt]) rfl rfl rfl rfl ?_
  refine g_perm (ws' := [(h, .inr (1, [.ref qk, .ref qt, .ref qn, .int (iZ B), .int (iZ C), .int (iZ w), .int (iZ G), .int (iZ K)])), (qk, .inl (cI, 900, .inl (zA bk))), (qt, .inl (cI, 901, .inl (zA st)))]) [2, 0, 1] (by decide) rfl ?_
  have m2 := minZ_b ((pg + 1) * w) C
  refine g_iald X 2 1 rfl rfl (by omega) (by decide) dX1_firstGuide_20 ?_
  have r_20 := hst (minZ ((pg + 1) * w) C) (by omega)
  refine g_istore_n (lv2 := [(3, .int (iZ (st (minZ ((pg + 1) * w) C)))), (2, .int (iZ (st (minZ (pg * w) C)))), (0, .ref h), (1, .int (iZ pg))]) X dX1_firstGuide_21 rfl (by decide) rfl ?_
  refine g_iload_n X 1 dX1_firstGuide_22 rfl rfl ?_
  refine g_istore (lv2 := [(4, .int (iZ (st (minZ (pg * w) C)))), (3, .int (iZ (st (minZ ((pg + 1) * w) C)))), (2, .int (iZ (st (minZ (pg * w) C)))), (0, .ref h), (1, .int (iZ pg))]) X dX1_firstGuide_23 (by decide) rfl ?_
  refine g_lv (lv' := [(0, .ref h), (2, .int (iZ (st (minZ (pg * w) C)))), (3, .int (iZ (st (minZ ((pg + 1) * w) C)))), (4, .int (iZ (st (minZ (pg * w) C))))]) [3, 2, 1, 0] rfl ?_
  have loop_25 : ∀ (kf : Nat) (k : Int), (hk : st (minZ (pg * w) C) ≤ k ∧ k ≤ 900) → (hin : ∀ i : Int, st (minZ (pg * w) C) ≤ i → i < k → bk i % 6 ≠ 0) → (900 - k).toNat < kf → gW p l e { frames := 2, cells := 0, slots := 0, locals := 42 } s m args below meth c D A 5 0 0 (MQ below (gQ D (gT cB cI cJ cY) (qX1_firstGuide cB cI cJ cY h qk qt qn bk st B C w G K pg) A) args s 0 0 A) [(h, .inr (1, [.ref qk, .ref qt, .ref qn, .int (iZ B), .int (iZ C), .int (iZ w), .int (iZ G), .int (iZ K)])), (qk, .inl (cI, 900, .inl (zA bk))), (qt, .inl (cI, 901, .inl (zA st)))] 25 [(0, .ref h), (2, .int (iZ (st (minZ (pg * w) C)))), (3, .int (iZ (st (minZ ((pg + 1) * w) C)))), (4, .int (iZ k))] [] := by
    intro kf
    induction kf with
    | zero => intro k hk hin hm; exact absurd hm (Nat.not_lt_zero _)
    | succ kf ih_25 =>
      intro k hk hin hm
      refine g_iload X 3 dX1_firstGuide_25 rfl ?_
      refine g_iload_n X 2 dX1_firstGuide_27 rfl rfl ?_
      refine g_icmp_ge X 53 dX1_firstGuide_28 (by decide) (by omega) (by omega) (fun c_28 => ?_) (fun c_28 => ?_)
      · skip
        refine g_aload_n X 0 dX1_firstGuide_53 rfl rfl ?_
        refine g_iload_n X 1 dX1_firstGuide_54 rfl rfl ?_
        refine g_callV0 X (As := [.int (iZ (st (minZ (pg * w) C)))]) (rest := []) (ctX1_entryOf l D cB cI cJ cY h qk qt qn bk B C w G K (st (minZ (pg * w) C)) (by first | assumption | omega) (by first | assumption | omega)) (cwV 1 X.2.2.2.2.1 gX1_firstGuide_X1_entryOf rfl rfl rfl (by decide +kernel) ⟨by decide, by decide⟩) 0 rfl rfl (wc := [(h, .inr (1, [.ref qk, .ref qt, .ref qn, .int (iZ B), .int (iZ C), .int (iZ w), .int (iZ G), .int (iZ K)])), (qk, .inl (cI, 900, .inl (zA bk)))]) (wr := [(qt, .inl (cI, 901, .inl (zA st)))]) [0, 1] [2] rfl rfl (by decide) (by decide) (by decide) rfl rfl (Nat.le_of_ble_eq_true rfl) ⟨by decide, by decide⟩ dX1_firstGuide_55 (fun v w1 hq => ?_)
        obtain ⟨rfl, rfl⟩ := hq
        refine g_eq (ws' := [(qt, .inl (cI, 901, .inl (zA st))), (h, .inr (1, [.ref qk, .ref qt, .ref qn, .int (iZ B), .int (iZ C), .int (iZ w), .int (iZ G), .int (iZ K)])), (qk, .inl (cI, 900, .inl (zA bk)))]) (pc' := 58) (st' := [.int (iZ (bk (st (minZ (pg * w) C)) / 6))]) rfl rfl rfl rfl ?_
        refine g_perm (ws' := [(h, .inr (1, [.ref qk, .ref qt, .ref qn, .int (iZ B), .int (iZ C), .int (iZ w), .int (iZ G), .int (iZ K)])), (qk, .inl (cI, 900, .inl (zA bk))), (qt, .inl (cI, 901, .inl (zA st)))]) [1, 2, 0] (by decide) rfl ?_
        exact g_iret X hr (by decide) (by decide) dX1_firstGuide_58 ⟨_, rfl, Or.inr ⟨fun i h1 h2 => hin i h1 (by omega), rfl⟩, rfl⟩
      · skip
        refine g_aload_n X 0 dX1_firstGuide_31 rfl rfl ?_
        refine g_iload X 3 dX1_firstGuide_32 rfl ?_
        refine g_callV0 X (As := [.int (iZ k)]) (rest := []) (ctX1_senseOf l D cB cI cJ cY h qk qt qn bk B C w G K k (by first | assumption | omega) (by first | assumption | omega)) (cwV 1 X.2.2.2.2.1 gX1_firstGuide_X1_senseOf rfl rfl rfl (by decide +kernel) ⟨by decide, by decide⟩) 0 rfl rfl (wc := [(h, .inr (1, [.ref qk, .ref qt, .ref qn, .int (iZ B), .int (iZ C), .int (iZ w), .int (iZ G), .int (iZ K)])), (qk, .inl (cI, 900, .inl (zA bk)))]) (wr := [(qt, .inl (cI, 901, .inl (zA st)))]) [0, 1] [2] rfl rfl (by decide) (by decide) (by decide) rfl rfl (Nat.le_of_ble_eq_true rfl) ⟨by decide, by decide⟩ dX1_firstGuide_34 (fun v w1 hq => ?_)
        obtain ⟨rfl, rfl⟩ := hq
        refine g_eq (ws' := [(qt, .inl (cI, 901, .inl (zA st))), (h, .inr (1, [.ref qk, .ref qt, .ref qn, .int (iZ B), .int (iZ C), .int (iZ w), .int (iZ G), .int (iZ K)])), (qk, .inl (cI, 900, .inl (zA bk)))]) (pc' := 37) (st' := [.int (iZ (bk k % 6))]) rfl rfl rfl rfl ?_
        refine g_perm (ws' := [(h, .inr (1, [.ref qk, .ref qt, .ref qn, .int (iZ B), .int (iZ C), .int (iZ w), .int (iZ G), .int (iZ K)])), (qk, .inl (cI, 900, .inl (zA bk))), (qt, .inl (cI, 901, .inl (zA st)))]) [1, 2, 0] (by decide) rfl ?_
        refine g_if_ne X 47 dX1_firstGuide_37 (by decide) (by omega) (fun c_37 => ?_) (fun c_37 => ?_)
        · skip
          refine g_iinc (q := 3) (lv2 := [(4, .int (iZ (k + 1))), (0, .ref h), (2, .int (iZ (st (minZ (pg * w) C)))), (3, .int (iZ (st (minZ ((pg + 1) * w) C))))]) X dX1_firstGuide_47 rfl (by decide) rfl ?_
          refine g_goto X 25 dX1_firstGuide_50 (by decide) ?_
          refine g_lv (lv' := [(0, .ref h), (2, .int (iZ (st (minZ (pg * w) C)))), (3, .int (iZ (st (minZ ((pg + 1) * w) C)))), (4, .int (iZ (k + 1)))]) [1, 2, 3, 0] rfl ?_
          exact ih_25 (k + 1) (by omega) (fun i h1 h2 => by
              rcases (show i = k ∨ i < k by omega) with h | h
              · rw [h]; exact c_37
              · exact hin i h1 h) (by omega)
        · skip
          refine g_aload_n X 0 dX1_firstGuide_40 rfl rfl ?_
          refine g_iload X 3 dX1_firstGuide_41 rfl ?_
          refine g_callV0 X (As := [.int (iZ k)]) (rest := []) (ctX1_entryOf l D cB cI cJ cY h qk qt qn bk B C w G K k (by first | assumption | omega) (by first | assumption | omega)) (cwV 1 X.2.2.2.2.1 gX1_firstGuide_X1_entryOf rfl rfl rfl (by decide +kernel) ⟨by decide, by decide⟩) 0 rfl rfl (wc := [(h, .inr (1, [.ref qk, .ref qt, .ref qn, .int (iZ B), .int (iZ C), .int (iZ w), .int (iZ G), .int (iZ K)])), (qk, .inl (cI, 900, .inl (zA bk)))]) (wr := [(qt, .inl (cI, 901, .inl (zA st)))]) [0, 1] [2] rfl rfl (by decide) (by decide) (by decide) rfl rfl (Nat.le_of_ble_eq_true rfl) ⟨by decide, by decide⟩ dX1_firstGuide_43 (fun v w1 hq => ?_)
          obtain ⟨rfl, rfl⟩ := hq
          refine g_eq (ws' := [(qt, .inl (cI, 901, .inl (zA st))), (h, .inr (1, [.ref qk, .ref qt, .ref qn, .int (iZ B), .int (iZ C), .int (iZ w), .int (iZ G), .int (iZ K)])), (qk, .inl (cI, 900, .inl (zA bk)))]) (pc' := 46) (st' := [.int (iZ (bk k / 6))]) rfl rfl rfl rfl ?_
          refine g_perm (ws' := [(h, .inr (1, [.ref qk, .ref qt, .ref qn, .int (iZ B), .int (iZ C), .int (iZ w), .int (iZ G), .int (iZ K)])), (qk, .inl (cI, 900, .inl (zA bk))), (qt, .inl (cI, 901, .inl (zA st)))]) [1, 2, 0] (by decide) rfl ?_
          exact g_iret X hr (by decide) (by decide) dX1_firstGuide_46 ⟨_, rfl, Or.inl ⟨k, by omega, by omega, c_37, hin, rfl⟩, rfl⟩
  exact loop_25 _ (st (minZ (pg * w) C)) (by omega) (fun i h1 h2 => by omega) (Nat.lt_succ_self _)
def qX1_lastGuide (cB cI cJ cY : ClassId) (h : Nat) (qk : Nat) (qt : Nat) (qn : Nat) (bk : Int → Int) (st : Int → Int) (B : Int) (C : Int) (w : Int) (G : Int) (K : Int) (pg : Int) : Option Value → va_W → Prop := fun rv w1 => ∃ (r : Int), rv = some (.int (iZ r)) ∧ lgZ bk (st (minZ (pg * w) C)) (st (minZ ((pg + 1) * w) C)) r ∧ w1 = [(h, .inr (1, [.ref qk, .ref qt, .ref qn, .int (iZ B), .int (iZ C), .int (iZ w), .int (iZ G), .int (iZ K)])), (qk, .inl (cI, 900, .inl (zA bk))), (qt, .inl (cI, 901, .inl (zA st)))]
set_option maxHeartbeats 4000000 in
set_option maxRecDepth 100000 in
theorem ctX1_lastGuide (l : Launch) (D : va_G) (cB cI cJ cY : ClassId) (h : Nat) (qk : Nat) (qt : Nat) (qn : Nat) (bk : Int → Int) (st : Int → Int) (B : Int) (C : Int) (w : Int) (G : Int) (K : Int) (pg : Int) (hc : 0 ≤ C ∧ C ≤ 900) (hst : ∀ j : Int, 0 ≤ j ∧ j ≤ C → 0 ≤ st j ∧ st j ≤ 900) (hbk : ∀ j : Int, 0 ≤ j ∧ j < 900 → 0 ≤ bk j ∧ bk j < 900) (hpw : 0 ≤ pg * w ∧ pg * w ≤ 4000) (hpw1 : 0 ≤ (pg + 1) * w ∧ (pg + 1) * w ≤ 4000) (ha : st (minZ (pg * w) C) < 900) : gM l yX1_lastGuide wsX1_lastGuide { frames := 2, cells := 0, slots := 0, locals := 42 } D (gT cB cI cJ cY) [.ref h, .int (iZ pg)] [(h, .inr (1, [.ref qk, .ref qt, .ref qn, .int (iZ B), .int (iZ C), .int (iZ w), .int (iZ G), .int (iZ K)])), (qk, .inl (cI, 900, .inl (zA bk))), (qt, .inl (cI, 901, .inl (zA st)))] 0 0 (qX1_lastGuide cB cI cJ cY h qk qt qn bk st B C w G K pg) := by
  refine g_start (cc := cX1_lastGuide) (maxL := 4) (ret := some .int) (lv := [(0, .ref h), (1, .int (iZ pg))]) (by decide) rfl (Nat.le_of_ble_eq_true rfl) rfl ?_
  intro p e s m args below meth c A X hr hnm
  have hin1 : ∀ w ∈ u_ws RX1 TX1 8, w ∈ wsX1_lastGuide := by decide +kernel
  refine g_aload_n X 0 dX1_lastGuide_0 rfl rfl ?_
  refine g_get X (index := 15) (ref := "GuideWords$Setting") hin1 0 rfl rfl 1 (by decide) rfl (by decide +kernel) (v := .ref qt) rfl dX1_lastGuide_1 ?_
  refine g_aload_n X 0 dX1_lastGuide_4 rfl rfl ?_
  refine g_iload_n X 1 dX1_lastGuide_5 rfl rfl ?_
  refine g_callV0 X (As := [.int (iZ pg)]) (rest := [.ref qt]) (ctX1_firstColumn l D cB cI cJ cY h qk qt qn B C w G K pg (by first | assumption | omega) (by first | assumption | omega)) (cwV 1 X.2.2.2.2.1 gX1_lastGuide_X1_firstColumn rfl rfl rfl (by decide +kernel) ⟨by decide, by decide⟩) 0 rfl rfl (wc := [(h, .inr (1, [.ref qk, .ref qt, .ref qn, .int (iZ B), .int (iZ C), .int (iZ w), .int (iZ G), .int (iZ K)]))]) (wr := [(qk, .inl (cI, 900, .inl (zA bk))), (qt, .inl (cI, 901, .inl (zA st)))]) [0] [1, 2] rfl rfl (by decide) (by decide) (by decide) rfl rfl (Nat.le_of_ble_eq_true rfl) ⟨by decide, by decide⟩ dX1_lastGuide_6 (fun v w1 hq => ?_)
  obtain ⟨rfl, rfl⟩ := hq
  refine g_eq (ws' := [(qk, .inl (cI, 900, .inl (zA bk))), (qt, .inl (cI, 901, .inl (zA st))), (h, .inr (1, [.ref qk, .ref qt, .ref qn, .int (iZ B), .int (iZ C), .int (iZ w), .int (iZ G), .int (iZ K)]))]) (pc' := 9) (st' := [.int (iZ (minZ (pg * w) C)), .ref qt]) rfl rfl rfl rfl ?_
  refine g_perm (ws' := [(h, .inr (1, [.ref qk, .ref qt, .ref qn, .int (iZ B), .int (iZ C), .int (iZ w), .int (iZ G), .int (iZ K)])), (qk, .inl (cI, 900, .inl (zA bk))), (qt, .inl (cI, 901, .inl (zA st)))]) [2, 0, 1] (by decide) rfl ?_
  have m1 := minZ_b (pg * w) C
  refine g_iald X 2 1 rfl rfl (by omega) (by decide) dX1_lastGuide_9 ?_
  have r_9 := hst (minZ (pg * w) C) (by omega)
  refine g_istore_n (lv2 := [(2, .int (iZ (st (minZ (pg * w) C)))), (0, .ref h), (1, .int (iZ pg))]) X dX1_lastGuide_10 rfl (by decide) rfl ?_
  refine g_aload_n X 1 dX1_lastGuide_11 rfl rfl ?_
  refine g_get X (index := 15) (ref := "GuideWords$Setting") hin1 0 rfl rfl 1 (by decide) rfl (by decide +kernel) (v := .ref qt) rfl dX1_lastGuide_12 ?_
  refine g_aload_n X 1 dX1_lastGuide_15 rfl rfl ?_
  refine g_iload_n X 2 dX1_lastGuide_16 rfl rfl ?_
  refine g_callV0 X (As := [.int (iZ pg)]) (rest := [.ref qt]) (ctX1_endColumn l D cB cI cJ cY h qk qt qn B C w G K pg (by first | assumption | omega) (by first | assumption | omega)) (cwV 1 X.2.2.2.2.1 gX1_lastGuide_X1_endColumn rfl rfl rfl (by decide +kernel) ⟨by decide, by decide⟩) 0 rfl rfl (wc := [(h, .inr (1, [.ref qk, .ref qt, .ref qn, .int (iZ B), .int (iZ C), .int (iZ w), .int (iZ G), .int (iZ K)]))]) (wr := [(qk, .inl (cI, 900, .inl (zA bk))), (qt, .inl (cI, 901, .inl (zA st)))]) [0] [1, 2] rfl rfl (by decide) (by decide) (by decide) rfl rfl (Nat.le_of_ble_eq_true rfl) ⟨by decide, by decide⟩ dX1_lastGuide_17 (fun v w1 hq => ?_)
  obtain ⟨rfl, rfl⟩ := hq
  refine g_eq (ws' := [(qk, .inl (cI, 900, .inl (zA bk))), (qt, .inl (cI, 901, .inl (zA st))), (h, .inr (1, [.ref qk, .ref qt, .ref qn, .int (iZ B), .int (iZ C), .int (iZ w), .int (iZ G), .int (iZ K)]))]) (pc' := 20) (st' := [.int (iZ (minZ ((pg + 1) * w) C)), .ref qt]) rfl rfl rfl rfl ?_
  refine g_perm (ws' := [(h, .inr (1, [.ref qk, .ref qt, .ref qn, .int (iZ B), .int (iZ C), .int (iZ w), .int (iZ G), .int (iZ K)])), (qk, .inl (cI, 900, .inl (zA bk))), (qt, .inl (cI, 901, .inl (zA st)))]) [2, 0, 1] (by decide) rfl ?_
  have m2 := minZ_b ((pg + 1) * w) C
  refine g_iald X 2 1 rfl rfl (by omega) (by decide) dX1_lastGuide_20 ?_
  have r_20 := hst (minZ ((pg + 1) * w) C) (by omega)
  refine g_iconst X dX1_lastGuide_21 ?_
  refine g_isub X dX1_lastGuide_22 ?_
  refine g_istore_n (lv2 := [(3, .int (iZ ((st (minZ ((pg + 1) * w) C)) - 1))), (2, .int (iZ (st (minZ (pg * w) C)))), (0, .ref h), (1, .int (iZ pg))]) X dX1_lastGuide_23 rfl (by decide) rfl ?_
  refine g_lv (lv' := [(0, .ref h), (2, .int (iZ (st (minZ (pg * w) C)))), (3, .int (iZ ((st (minZ ((pg + 1) * w) C)) - 1)))]) [2, 1, 0] rfl ?_
  have loop_24 : ∀ (kf : Nat) (k : Int), (hk : -1 ≤ k ∧ k < st (minZ ((pg + 1) * w) C)) → (hin : ∀ i : Int, k < i → i < st (minZ ((pg + 1) * w) C) → bk i % 6 ≠ 0) → (k + 1).toNat < kf → gW p l e { frames := 2, cells := 0, slots := 0, locals := 42 } s m args below meth c D A 4 0 0 (MQ below (gQ D (gT cB cI cJ cY) (qX1_lastGuide cB cI cJ cY h qk qt qn bk st B C w G K pg) A) args s 0 0 A) [(h, .inr (1, [.ref qk, .ref qt, .ref qn, .int (iZ B), .int (iZ C), .int (iZ w), .int (iZ G), .int (iZ K)])), (qk, .inl (cI, 900, .inl (zA bk))), (qt, .inl (cI, 901, .inl (zA st)))] 24 [(0, .ref h), (2, .int (iZ (st (minZ (pg * w) C)))), (3, .int (iZ k))] [] := by
    intro kf
    induction kf with
    | zero => intro k hk hin hm; exact absurd hm (Nat.not_lt_zero _)
    | succ kf ih_24 =>
      intro k hk hin hm
      refine g_iload_n X 2 dX1_lastGuide_24 rfl rfl ?_
      refine g_iload_n X 1 dX1_lastGuide_25 rfl rfl ?_
      refine g_icmp_lt X 49 dX1_lastGuide_26 (by decide) (by omega) (by omega) (fun c_26 => ?_) (fun c_26 => ?_)
      · skip
        refine g_aload_n X 0 dX1_lastGuide_49 rfl rfl ?_
        refine g_iload_n X 1 dX1_lastGuide_50 rfl rfl ?_
        refine g_callV0 X (As := [.int (iZ (st (minZ (pg * w) C)))]) (rest := []) (ctX1_entryOf l D cB cI cJ cY h qk qt qn bk B C w G K (st (minZ (pg * w) C)) (by first | assumption | omega) (by first | assumption | omega)) (cwV 1 X.2.2.2.2.1 gX1_lastGuide_X1_entryOf rfl rfl rfl (by decide +kernel) ⟨by decide, by decide⟩) 0 rfl rfl (wc := [(h, .inr (1, [.ref qk, .ref qt, .ref qn, .int (iZ B), .int (iZ C), .int (iZ w), .int (iZ G), .int (iZ K)])), (qk, .inl (cI, 900, .inl (zA bk)))]) (wr := [(qt, .inl (cI, 901, .inl (zA st)))]) [0, 1] [2] rfl rfl (by decide) (by decide) (by decide) rfl rfl (Nat.le_of_ble_eq_true rfl) ⟨by decide, by decide⟩ dX1_lastGuide_51 (fun v w1 hq => ?_)
        obtain ⟨rfl, rfl⟩ := hq
        refine g_eq (ws' := [(qt, .inl (cI, 901, .inl (zA st))), (h, .inr (1, [.ref qk, .ref qt, .ref qn, .int (iZ B), .int (iZ C), .int (iZ w), .int (iZ G), .int (iZ K)])), (qk, .inl (cI, 900, .inl (zA bk)))]) (pc' := 54) (st' := [.int (iZ (bk (st (minZ (pg * w) C)) / 6))]) rfl rfl rfl rfl ?_
        refine g_perm (ws' := [(h, .inr (1, [.ref qk, .ref qt, .ref qn, .int (iZ B), .int (iZ C), .int (iZ w), .int (iZ G), .int (iZ K)])), (qk, .inl (cI, 900, .inl (zA bk))), (qt, .inl (cI, 901, .inl (zA st)))]) [1, 2, 0] (by decide) rfl ?_
        exact g_iret X hr (by decide) (by decide) dX1_lastGuide_54 ⟨_, rfl, Or.inr ⟨fun i h1 h2 => hin i (by omega) h2, rfl⟩, rfl⟩
      · skip
        refine g_aload_n X 0 dX1_lastGuide_29 rfl rfl ?_
        refine g_iload_n X 2 dX1_lastGuide_30 rfl rfl ?_
        refine g_callV0 X (As := [.int (iZ k)]) (rest := []) (ctX1_senseOf l D cB cI cJ cY h qk qt qn bk B C w G K k (by first | assumption | omega) (by first | assumption | omega)) (cwV 1 X.2.2.2.2.1 gX1_lastGuide_X1_senseOf rfl rfl rfl (by decide +kernel) ⟨by decide, by decide⟩) 0 rfl rfl (wc := [(h, .inr (1, [.ref qk, .ref qt, .ref qn, .int (iZ B), .int (iZ C), .int (iZ w), .int (iZ G), .int (iZ K)])), (qk, .inl (cI, 900, .inl (zA bk)))]) (wr := [(qt, .inl (cI, 901, .inl (zA st)))]) [0, 1] [2] rfl rfl (by decide) (by decide) (by decide) rfl rfl (Nat.le_of_ble_eq_true rfl) ⟨by decide, by decide⟩ dX1_lastGuide_31 (fun v w1 hq => ?_)
        obtain ⟨rfl, rfl⟩ := hq
        refine g_eq (ws' := [(qt, .inl (cI, 901, .inl (zA st))), (h, .inr (1, [.ref qk, .ref qt, .ref qn, .int (iZ B), .int (iZ C), .int (iZ w), .int (iZ G), .int (iZ K)])), (qk, .inl (cI, 900, .inl (zA bk)))]) (pc' := 34) (st' := [.int (iZ (bk k % 6))]) rfl rfl rfl rfl ?_
        refine g_perm (ws' := [(h, .inr (1, [.ref qk, .ref qt, .ref qn, .int (iZ B), .int (iZ C), .int (iZ w), .int (iZ G), .int (iZ K)])), (qk, .inl (cI, 900, .inl (zA bk))), (qt, .inl (cI, 901, .inl (zA st)))]) [1, 2, 0] (by decide) rfl ?_
        refine g_if_ne X 43 dX1_lastGuide_34 (by decide) (by omega) (fun c_34 => ?_) (fun c_34 => ?_)
        · skip
          refine g_iinc (q := 2) (lv2 := [(3, .int (iZ (k + (-1)))), (0, .ref h), (2, .int (iZ (st (minZ (pg * w) C))))]) X dX1_lastGuide_43 rfl (by decide) rfl ?_
          refine g_goto X 24 dX1_lastGuide_46 (by decide) ?_
          refine g_lv (lv' := [(0, .ref h), (2, .int (iZ (st (minZ (pg * w) C)))), (3, .int (iZ (k + (-1))))]) [1, 2, 0] rfl ?_
          exact ih_24 (k + (-1)) (by omega) (fun i h1 h2 => by
              rcases (show i = k ∨ k < i by omega) with h | h
              · rw [h]; exact c_34
              · exact hin i h h2) (by omega)
        · skip
          refine g_aload_n X 0 dX1_lastGuide_37 rfl rfl ?_
          refine g_iload_n X 2 dX1_lastGuide_38 rfl rfl ?_
          refine g_callV0 X (As := [.int (iZ k)]) (rest := []) (ctX1_entryOf l D cB cI cJ cY h qk qt qn bk B C w G K k (by first | assumption | omega) (by first | assumption | omega)) (cwV 1 X.2.2.2.2.1 gX1_lastGuide_X1_entryOf rfl rfl rfl (by decide +kernel) ⟨by decide, by decide⟩) 0 rfl rfl (wc := [(h, .inr (1, [.ref qk, .ref qt, .ref qn, .int (iZ B), .int (iZ C), .int (iZ w), .int (iZ G), .int (iZ K)])), (qk, .inl (cI, 900, .inl (zA bk)))]) (wr := [(qt, .inl (cI, 901, .inl (zA st)))]) [0, 1] [2] rfl rfl (by decide) (by decide) (by decide) rfl rfl (Nat.le_of_ble_eq_true rfl) ⟨by decide, by decide⟩ dX1_lastGuide_39 (fun v w1 hq => ?_)
          obtain ⟨rfl, rfl⟩ := hq
          refine g_eq (ws' := [(qt, .inl (cI, 901, .inl (zA st))), (h, .inr (1, [.ref qk, .ref qt, .ref qn, .int (iZ B), .int (iZ C), .int (iZ w), .int (iZ G), .int (iZ K)])), (qk, .inl (cI, 900, .inl (zA bk)))]) (pc' := 42) (st' := [.int (iZ (bk k / 6))]) rfl rfl rfl rfl ?_
          refine g_perm (ws' := [(h, .inr (1, [.ref qk, .ref qt, .ref qn, .int (iZ B), .int (iZ C), .int (iZ w), .int (iZ G), .int (iZ K)])), (qk, .inl (cI, 900, .inl (zA bk))), (qt, .inl (cI, 901, .inl (zA st)))]) [1, 2, 0] (by decide) rfl ?_
          exact g_iret X hr (by decide) (by decide) dX1_lastGuide_42 ⟨_, rfl, Or.inl ⟨k, by omega, by omega, c_34, hin, rfl⟩, rfl⟩
  exact loop_24 _ ((st (minZ ((pg + 1) * w) C)) - 1) (by omega) (fun i h1 h2 => by omega) (Nat.lt_succ_self _)
def qX1_likeColumn (cB cI cJ cY : ClassId) (h : Nat) (qk : Nat) (qt : Nat) (qn : Nat) (bk : Int → Int) (st : Int → Int) (B : Int) (C : Int) (w : Int) (G : Int) (K : Int) (h2 : Nat) (qk2 : Nat) (qt2 : Nat) (qn2 : Nat) (bk2 : Int → Int) (st2 : Int → Int) (B2 : Int) (C2 : Int) (w2 : Int) (G2 : Int) (K2 : Int) (m9 : Int) (t9 : Int) : Option Value → va_W → Prop := fun rv w1 => ∃ (r : Int), rv = some (.int (iZ r)) ∧ ((r = 1 ∧ colEq bk st bk2 st2 m9 t9) ∨ (r = 0 ∧ ¬ colEq bk st bk2 st2 m9 t9)) ∧ w1 = [(h, .inr (1, [.ref qk, .ref qt, .ref qn, .int (iZ B), .int (iZ C), .int (iZ w), .int (iZ G), .int (iZ K)])), (qk, .inl (cI, 900, .inl (zA bk))), (qt, .inl (cI, 901, .inl (zA st))), (h2, .inr (1, [.ref qk2, .ref qt2, .ref qn2, .int (iZ B2), .int (iZ C2), .int (iZ w2), .int (iZ G2), .int (iZ K2)])), (qk2, .inl (cI, 900, .inl (zA bk2))), (qt2, .inl (cI, 901, .inl (zA st2)))]
set_option maxHeartbeats 4000000 in
set_option maxRecDepth 100000 in
theorem ctX1_likeColumn (l : Launch) (D : va_G) (cB cI cJ cY : ClassId) (h : Nat) (qk : Nat) (qt : Nat) (qn : Nat) (bk : Int → Int) (st : Int → Int) (B : Int) (C : Int) (w : Int) (G : Int) (K : Int) (h2 : Nat) (qk2 : Nat) (qt2 : Nat) (qn2 : Nat) (bk2 : Int → Int) (st2 : Int → Int) (B2 : Int) (C2 : Int) (w2 : Int) (G2 : Int) (K2 : Int) (m9 : Int) (t9 : Int) (hc : 0 ≤ C ∧ C ≤ 900) (hst : ∀ j : Int, 0 ≤ j ∧ j ≤ C → 0 ≤ st j ∧ st j ≤ 900) (hbk : ∀ j : Int, 0 ≤ j ∧ j < 900 → 0 ≤ bk j ∧ bk j < 900) (hc2 : 0 ≤ C2 ∧ C2 ≤ 900) (hst2 : ∀ j : Int, 0 ≤ j ∧ j ≤ C2 → 0 ≤ st2 j ∧ st2 j ≤ 900) (hbk2 : ∀ j : Int, 0 ≤ j ∧ j < 900 → 0 ≤ bk2 j ∧ bk2 j < 900) (hm9 : 0 ≤ m9 ∧ m9 < C) (ht9 : 0 ≤ t9 ∧ t9 < C2) : gM l yX1_likeColumn wsX1_likeColumn { frames := 0, cells := 0, slots := 0, locals := 0 } D (gT cB cI cJ cY) [.ref h, .int (iZ m9), .ref h2, .int (iZ t9)] [(h, .inr (1, [.ref qk, .ref qt, .ref qn, .int (iZ B), .int (iZ C), .int (iZ w), .int (iZ G), .int (iZ K)])), (qk, .inl (cI, 900, .inl (zA bk))), (qt, .inl (cI, 901, .inl (zA st))), (h2, .inr (1, [.ref qk2, .ref qt2, .ref qn2, .int (iZ B2), .int (iZ C2), .int (iZ w2), .int (iZ G2), .int (iZ K2)])), (qk2, .inl (cI, 900, .inl (zA bk2))), (qt2, .inl (cI, 901, .inl (zA st2)))] 0 0 (qX1_likeColumn cB cI cJ cY h qk qt qn bk st B C w G K h2 qk2 qt2 qn2 bk2 st2 B2 C2 w2 G2 K2 m9 t9) := by
  refine g_start (cc := cX1_likeColumn) (maxL := 8) (ret := some .boolean) (lv := [(0, .ref h), (1, .int (iZ m9)), (2, .ref h2), (3, .int (iZ t9))]) (by decide) rfl (Nat.le_of_ble_eq_true rfl) rfl ?_
  intro p e s m args below meth c A X hr hnm
  have hin1 : ∀ w ∈ u_ws RX1 TX1 8, w ∈ wsX1_likeColumn := by decide +kernel
  refine g_aload_n X 0 dX1_likeColumn_0 rfl rfl ?_
  refine g_get X (index := 15) (ref := "GuideWords$Setting") hin1 0 rfl rfl 1 (by decide) rfl (by decide +kernel) (v := .ref qt) rfl dX1_likeColumn_1 ?_
  refine g_iload_n X 1 dX1_likeColumn_4 rfl rfl ?_
  refine g_iald X 2 1 rfl rfl (by omega) (by decide) dX1_likeColumn_5 ?_
  have r_5 := hst m9 (by omega)
  refine g_istore (lv2 := [(4, .int (iZ (st m9))), (0, .ref h), (1, .int (iZ m9)), (2, .ref h2), (3, .int (iZ t9))]) X dX1_likeColumn_6 (by decide) rfl ?_
  refine g_aload_n X 3 dX1_likeColumn_8 rfl rfl ?_
  refine g_get X (index := 15) (ref := "GuideWords$Setting") hin1 3 rfl rfl 1 (by decide) rfl (by decide +kernel) (v := .ref qt2) rfl dX1_likeColumn_9 ?_
  refine g_iload_n X 4 dX1_likeColumn_12 rfl rfl ?_
  refine g_iald X 5 1 rfl rfl (by omega) (by decide) dX1_likeColumn_13 ?_
  have r_13 := hst2 t9 (by omega)
  refine g_istore (lv2 := [(5, .int (iZ (st2 t9))), (4, .int (iZ (st m9))), (0, .ref h), (1, .int (iZ m9)), (2, .ref h2), (3, .int (iZ t9))]) X dX1_likeColumn_14 (by decide) rfl ?_
  refine g_aload_n X 2 dX1_likeColumn_16 rfl rfl ?_
  refine g_get X (index := 15) (ref := "GuideWords$Setting") hin1 0 rfl rfl 1 (by decide) rfl (by decide +kernel) (v := .ref qt) rfl dX1_likeColumn_17 ?_
  refine g_iload_n X 3 dX1_likeColumn_20 rfl rfl ?_
  refine g_iconst X dX1_likeColumn_21 ?_
  refine g_iadd X dX1_likeColumn_22 ?_
  refine g_iald X 2 1 rfl rfl (by omega) (by decide) dX1_likeColumn_23 ?_
  have r_23 := hst (m9 + 1) (by omega)
  refine g_iload X 1 dX1_likeColumn_24 rfl ?_
  refine g_isub X dX1_likeColumn_26 ?_
  refine g_istore (lv2 := [(6, .int (iZ ((st (m9 + 1)) - (st m9)))), (5, .int (iZ (st2 t9))), (4, .int (iZ (st m9))), (0, .ref h), (1, .int (iZ m9)), (2, .ref h2), (3, .int (iZ t9))]) X dX1_likeColumn_27 (by decide) rfl ?_
  refine g_iload X 0 dX1_likeColumn_29 rfl ?_
  refine g_aload_n X 5 dX1_likeColumn_31 rfl rfl ?_
  refine g_get X (index := 15) (ref := "GuideWords$Setting") hin1 3 rfl rfl 1 (by decide) rfl (by decide +kernel) (v := .ref qt2) rfl dX1_likeColumn_32 ?_
  refine g_iload_n X 6 dX1_likeColumn_35 rfl rfl ?_
  refine g_iconst X dX1_likeColumn_36 ?_
  refine g_iadd X dX1_likeColumn_37 ?_
  refine g_iald X 5 1 rfl rfl (by omega) (by decide) dX1_likeColumn_38 ?_
  have r_38 := hst2 (t9 + 1) (by omega)
  refine g_iload X 1 dX1_likeColumn_39 rfl ?_
  refine g_isub X dX1_likeColumn_41 ?_
  refine g_icmp_eq X 47 dX1_likeColumn_42 (by decide) (by omega) (by omega) (fun c_42 => ?_) (fun c_42 => ?_)
  · skip
    refine g_iconst X dX1_likeColumn_47 ?_
    refine g_istore (lv2 := [(7, .int (iZ 0)), (6, .int (iZ ((st (m9 + 1)) - (st m9)))), (5, .int (iZ (st2 t9))), (4, .int (iZ (st m9))), (0, .ref h), (1, .int (iZ m9)), (2, .ref h2), (3, .int (iZ t9))]) X dX1_likeColumn_48 (by decide) rfl ?_
    refine g_lv (lv' := [(0, .ref h), (2, .ref h2), (4, .int (iZ (st m9))), (5, .int (iZ (st2 t9))), (6, .int (iZ ((st (m9 + 1)) - (st m9)))), (7, .int (iZ 0))]) [4, 6, 3, 2, 1, 0] rfl ?_
    have loop_50 : ∀ (kf : Nat) (k : Int), (hk : 0 ≤ k ∧ k ≤ 900) → (hin : ∀ i : Int, 0 ≤ i → i < k → bk (st m9 + i) = bk2 (st2 t9 + i)) → (900 - k).toNat < kf → gW p l e { frames := 0, cells := 0, slots := 0, locals := 0 } s m args below meth c D A 8 0 0 (MQ below (gQ D (gT cB cI cJ cY) (qX1_likeColumn cB cI cJ cY h qk qt qn bk st B C w G K h2 qk2 qt2 qn2 bk2 st2 B2 C2 w2 G2 K2 m9 t9) A) args s 0 0 A) [(h, .inr (1, [.ref qk, .ref qt, .ref qn, .int (iZ B), .int (iZ C), .int (iZ w), .int (iZ G), .int (iZ K)])), (qk, .inl (cI, 900, .inl (zA bk))), (qt, .inl (cI, 901, .inl (zA st))), (h2, .inr (1, [.ref qk2, .ref qt2, .ref qn2, .int (iZ B2), .int (iZ C2), .int (iZ w2), .int (iZ G2), .int (iZ K2)])), (qk2, .inl (cI, 900, .inl (zA bk2))), (qt2, .inl (cI, 901, .inl (zA st2)))] 50 [(0, .ref h), (2, .ref h2), (4, .int (iZ (st m9))), (5, .int (iZ (st2 t9))), (6, .int (iZ ((st (m9 + 1)) - (st m9)))), (7, .int (iZ k))] [] := by
      intro kf
      induction kf with
      | zero => intro k hk hin hm; exact absurd hm (Nat.not_lt_zero _)
      | succ kf ih_50 =>
        intro k hk hin hm
        refine g_iload X 5 dX1_likeColumn_50 rfl ?_
        refine g_iload X 4 dX1_likeColumn_52 rfl ?_
        refine g_icmp_ge X 88 dX1_likeColumn_54 (by decide) (by omega) (by omega) (fun c_54 => ?_) (fun c_54 => ?_)
        · skip
          refine g_iconst X dX1_likeColumn_88 ?_
          exact g_zret X (by omega) hr (by decide) (by decide) dX1_likeColumn_89 ⟨_, rfl, Or.inl ⟨rfl, c_42, fun i h1 h2 => hin i h1 (by omega)⟩, rfl⟩
        · skip
          refine g_aload_n X 0 dX1_likeColumn_57 rfl rfl ?_
          refine g_get X (index := 9) (ref := "GuideWords$Setting") hin1 0 rfl rfl 0 (by decide) rfl (by decide +kernel) (v := .ref qk) rfl dX1_likeColumn_58 ?_
          refine g_iload X 2 dX1_likeColumn_61 rfl ?_
          refine g_iload X 5 dX1_likeColumn_63 rfl ?_
          refine g_iadd X dX1_likeColumn_65 ?_
          refine g_iald X 1 1 rfl rfl (by omega) (by decide) dX1_likeColumn_66 ?_
          have r_66 := hbk ((st m9) + k) (by omega)
          refine g_aload_n X 1 dX1_likeColumn_67 rfl rfl ?_
          refine g_get X (index := 9) (ref := "GuideWords$Setting") hin1 3 rfl rfl 0 (by decide) rfl (by decide +kernel) (v := .ref qk2) rfl dX1_likeColumn_68 ?_
          refine g_iload X 3 dX1_likeColumn_71 rfl ?_
          refine g_iload X 5 dX1_likeColumn_73 rfl ?_
          refine g_iadd X dX1_likeColumn_75 ?_
          refine g_iald X 4 1 rfl rfl (by omega) (by decide) dX1_likeColumn_76 ?_
          have r_76 := hbk2 ((st2 t9) + k) (by omega)
          refine g_icmp_eq X 82 dX1_likeColumn_77 (by decide) (by omega) (by omega) (fun c_77 => ?_) (fun c_77 => ?_)
          · skip
            refine g_iinc (q := 5) (lv2 := [(7, .int (iZ (k + 1))), (0, .ref h), (2, .ref h2), (4, .int (iZ (st m9))), (5, .int (iZ (st2 t9))), (6, .int (iZ ((st (m9 + 1)) - (st m9))))]) X dX1_likeColumn_82 rfl (by decide) rfl ?_
            refine g_goto X 50 dX1_likeColumn_85 (by decide) ?_
            refine g_lv (lv' := [(0, .ref h), (2, .ref h2), (4, .int (iZ (st m9))), (5, .int (iZ (st2 t9))), (6, .int (iZ ((st (m9 + 1)) - (st m9)))), (7, .int (iZ (k + 1)))]) [1, 2, 3, 4, 5, 0] rfl ?_
            exact ih_50 (k + 1) (by omega) (fun i h1 h2 => by
                rcases (show i = k ∨ i < k by omega) with h | h
                · rw [h]; exact c_77
                · exact hin i h1 h) (by omega)
          · skip
            refine g_iconst X dX1_likeColumn_80 ?_
            exact g_zret X (by omega) hr (by decide) (by decide) dX1_likeColumn_81 ⟨_, rfl, Or.inr ⟨rfl, fun h9 => c_77 (h9.2 k (by omega) (by omega))⟩, rfl⟩
    exact loop_50 _ 0 (by omega) (fun i h1 h2 => by omega) (Nat.lt_succ_self _)
  · skip
    refine g_iconst X dX1_likeColumn_45 ?_
    exact g_zret X (by omega) hr (by decide) (by decide) dX1_likeColumn_46 ⟨_, rfl, Or.inr ⟨rfl, fun h9 => c_42 h9.1⟩, rfl⟩
def qX1_likePage (cB cI cJ cY : ClassId) (h : Nat) (qk : Nat) (qt : Nat) (qn : Nat) (bk : Int → Int) (st : Int → Int) (B : Int) (C : Int) (w : Int) (G : Int) (K : Int) (h2 : Nat) (qk2 : Nat) (qt2 : Nat) (qn2 : Nat) (bk2 : Int → Int) (st2 : Int → Int) (B2 : Int) (C2 : Int) (w2 : Int) (G2 : Int) (K2 : Int) (pg : Int) : Option Value → va_W → Prop := fun rv w1 => ∃ (r : Int), rv = some (.int (iZ r)) ∧ ((r = 1 ∧ pgEq bk st C w bk2 st2 C2 w2 pg) ∨ (r = 0 ∧ ¬ pgEq bk st C w bk2 st2 C2 w2 pg)) ∧ w1 = [(h, .inr (1, [.ref qk, .ref qt, .ref qn, .int (iZ B), .int (iZ C), .int (iZ w), .int (iZ G), .int (iZ K)])), (qk, .inl (cI, 900, .inl (zA bk))), (qt, .inl (cI, 901, .inl (zA st))), (h2, .inr (1, [.ref qk2, .ref qt2, .ref qn2, .int (iZ B2), .int (iZ C2), .int (iZ w2), .int (iZ G2), .int (iZ K2)])), (qk2, .inl (cI, 900, .inl (zA bk2))), (qt2, .inl (cI, 901, .inl (zA st2)))]
set_option maxHeartbeats 4000000 in
set_option maxRecDepth 100000 in
theorem ctX1_likePage (l : Launch) (D : va_G) (cB cI cJ cY : ClassId) (h : Nat) (qk : Nat) (qt : Nat) (qn : Nat) (bk : Int → Int) (st : Int → Int) (B : Int) (C : Int) (w : Int) (G : Int) (K : Int) (h2 : Nat) (qk2 : Nat) (qt2 : Nat) (qn2 : Nat) (bk2 : Int → Int) (st2 : Int → Int) (B2 : Int) (C2 : Int) (w2 : Int) (G2 : Int) (K2 : Int) (pg : Int) (hc : 0 ≤ C ∧ C ≤ 900) (hst : ∀ j : Int, 0 ≤ j ∧ j ≤ C → 0 ≤ st j ∧ st j ≤ 900) (hbk : ∀ j : Int, 0 ≤ j ∧ j < 900 → 0 ≤ bk j ∧ bk j < 900) (hc2 : 0 ≤ C2 ∧ C2 ≤ 900) (hst2 : ∀ j : Int, 0 ≤ j ∧ j ≤ C2 → 0 ≤ st2 j ∧ st2 j ≤ 900) (hbk2 : ∀ j : Int, 0 ≤ j ∧ j < 900 → 0 ≤ bk2 j ∧ bk2 j < 900) (hpw : 0 ≤ pg * w ∧ pg * w ≤ 4000) (hpw1 : pg * w ≤ (pg + 1) * w ∧ (pg + 1) * w ≤ 4000) (hpw2 : 0 ≤ pg * w2 ∧ pg * w2 ≤ 4000) (hpw3 : pg * w2 ≤ (pg + 1) * w2 ∧ (pg + 1) * w2 ≤ 4000) : gM l yX1_likePage wsX1_likePage { frames := 2, cells := 0, slots := 0, locals := 42 } D (gT cB cI cJ cY) [.ref h, .ref h2, .int (iZ pg)] [(h, .inr (1, [.ref qk, .ref qt, .ref qn, .int (iZ B), .int (iZ C), .int (iZ w), .int (iZ G), .int (iZ K)])), (qk, .inl (cI, 900, .inl (zA bk))), (qt, .inl (cI, 901, .inl (zA st))), (h2, .inr (1, [.ref qk2, .ref qt2, .ref qn2, .int (iZ B2), .int (iZ C2), .int (iZ w2), .int (iZ G2), .int (iZ K2)])), (qk2, .inl (cI, 900, .inl (zA bk2))), (qt2, .inl (cI, 901, .inl (zA st2)))] 0 0 (qX1_likePage cB cI cJ cY h qk qt qn bk st B C w G K h2 qk2 qt2 qn2 bk2 st2 B2 C2 w2 G2 K2 pg) := by
  refine g_start (cc := cX1_likePage) (maxL := 7) (ret := some .boolean) (lv := [(0, .ref h), (1, .ref h2), (2, .int (iZ pg))]) (by decide) rfl (Nat.le_of_ble_eq_true rfl) rfl ?_
  intro p e s m args below meth c A X hr hnm
  have hin1 : ∀ w ∈ u_ws RX1 TX1 8, w ∈ wsX1_likePage := by decide +kernel
  refine g_aload_n X 0 dX1_likePage_0 rfl rfl ?_
  refine g_iload_n X 2 dX1_likePage_1 rfl rfl ?_
  refine g_callV0 X (As := [.int (iZ pg)]) (rest := []) (ctX1_firstColumn l D cB cI cJ cY h qk qt qn B C w G K pg (by first | assumption | omega) (by first | assumption | omega)) (cwV 1 X.2.2.2.2.1 gX1_likePage_X1_firstColumn rfl rfl rfl (by decide +kernel) ⟨by decide, by decide⟩) 0 rfl rfl (wc := [(h, .inr (1, [.ref qk, .ref qt, .ref qn, .int (iZ B), .int (iZ C), .int (iZ w), .int (iZ G), .int (iZ K)]))]) (wr := [(qk, .inl (cI, 900, .inl (zA bk))), (qt, .inl (cI, 901, .inl (zA st))), (h2, .inr (1, [.ref qk2, .ref qt2, .ref qn2, .int (iZ B2), .int (iZ C2), .int (iZ w2), .int (iZ G2), .int (iZ K2)])), (qk2, .inl (cI, 900, .inl (zA bk2))), (qt2, .inl (cI, 901, .inl (zA st2)))]) [0] [1, 2, 3, 4, 5] rfl rfl (by decide) (by decide) (by decide) rfl rfl (Nat.le_of_ble_eq_true rfl) ⟨by decide, by decide⟩ dX1_likePage_2 (fun v w1 hq => ?_)
  obtain ⟨rfl, rfl⟩ := hq
  refine g_eq (ws' := [(qk, .inl (cI, 900, .inl (zA bk))), (qt, .inl (cI, 901, .inl (zA st))), (h2, .inr (1, [.ref qk2, .ref qt2, .ref qn2, .int (iZ B2), .int (iZ C2), .int (iZ w2), .int (iZ G2), .int (iZ K2)])), (qk2, .inl (cI, 900, .inl (zA bk2))), (qt2, .inl (cI, 901, .inl (zA st2))), (h, .inr (1, [.ref qk, .ref qt, .ref qn, .int (iZ B), .int (iZ C), .int (iZ w), .int (iZ G), .int (iZ K)]))]) (pc' := 5) (st' := [.int (iZ (minZ (pg * w) C))]) rfl rfl rfl rfl ?_
  refine g_perm (ws' := [(h, .inr (1, [.ref qk, .ref qt, .ref qn, .int (iZ B), .int (iZ C), .int (iZ w), .int (iZ G), .int (iZ K)])), (qk, .inl (cI, 900, .inl (zA bk))), (qt, .inl (cI, 901, .inl (zA st))), (h2, .inr (1, [.ref qk2, .ref qt2, .ref qn2, .int (iZ B2), .int (iZ C2), .int (iZ w2), .int (iZ G2), .int (iZ K2)])), (qk2, .inl (cI, 900, .inl (zA bk2))), (qt2, .inl (cI, 901, .inl (zA st2)))]) [5, 0, 1, 2, 3, 4] (by decide) rfl ?_
  have m1 := minZ_b (pg * w) C
  refine g_istore_n (lv2 := [(3, .int (iZ (minZ (pg * w) C))), (0, .ref h), (1, .ref h2), (2, .int (iZ pg))]) X dX1_likePage_5 rfl (by decide) rfl ?_
  refine g_aload_n X 2 dX1_likePage_6 rfl rfl ?_
  refine g_iload_n X 3 dX1_likePage_7 rfl rfl ?_
  refine g_callV0 X (As := [.int (iZ pg)]) (rest := []) (ctX1_firstColumn l D cB cI cJ cY h2 qk2 qt2 qn2 B2 C2 w2 G2 K2 pg (by first | assumption | omega) (by first | assumption | omega)) (cwV 1 X.2.2.2.2.1 gX1_likePage_X1_firstColumn rfl rfl rfl (by decide +kernel) ⟨by decide, by decide⟩) 0 rfl rfl (wc := [(h2, .inr (1, [.ref qk2, .ref qt2, .ref qn2, .int (iZ B2), .int (iZ C2), .int (iZ w2), .int (iZ G2), .int (iZ K2)]))]) (wr := [(h, .inr (1, [.ref qk, .ref qt, .ref qn, .int (iZ B), .int (iZ C), .int (iZ w), .int (iZ G), .int (iZ K)])), (qk, .inl (cI, 900, .inl (zA bk))), (qt, .inl (cI, 901, .inl (zA st))), (qk2, .inl (cI, 900, .inl (zA bk2))), (qt2, .inl (cI, 901, .inl (zA st2)))]) [3] [0, 1, 2, 4, 5] rfl rfl (by decide) (by decide) (by decide) rfl rfl (Nat.le_of_ble_eq_true rfl) ⟨by decide, by decide⟩ dX1_likePage_8 (fun v w1 hq => ?_)
  obtain ⟨rfl, rfl⟩ := hq
  refine g_eq (ws' := [(h, .inr (1, [.ref qk, .ref qt, .ref qn, .int (iZ B), .int (iZ C), .int (iZ w), .int (iZ G), .int (iZ K)])), (qk, .inl (cI, 900, .inl (zA bk))), (qt, .inl (cI, 901, .inl (zA st))), (qk2, .inl (cI, 900, .inl (zA bk2))), (qt2, .inl (cI, 901, .inl (zA st2))), (h2, .inr (1, [.ref qk2, .ref qt2, .ref qn2, .int (iZ B2), .int (iZ C2), .int (iZ w2), .int (iZ G2), .int (iZ K2)]))]) (pc' := 11) (st' := [.int (iZ (minZ (pg * w2) C2))]) rfl rfl rfl rfl ?_
  refine g_perm (ws' := [(h, .inr (1, [.ref qk, .ref qt, .ref qn, .int (iZ B), .int (iZ C), .int (iZ w), .int (iZ G), .int (iZ K)])), (qk, .inl (cI, 900, .inl (zA bk))), (qt, .inl (cI, 901, .inl (zA st))), (h2, .inr (1, [.ref qk2, .ref qt2, .ref qn2, .int (iZ B2), .int (iZ C2), .int (iZ w2), .int (iZ G2), .int (iZ K2)])), (qk2, .inl (cI, 900, .inl (zA bk2))), (qt2, .inl (cI, 901, .inl (zA st2)))]) [0, 1, 2, 5, 3, 4] (by decide) rfl ?_
  have m2 := minZ_b (pg * w2) C2
  refine g_istore (lv2 := [(4, .int (iZ (minZ (pg * w2) C2))), (3, .int (iZ (minZ (pg * w) C))), (0, .ref h), (1, .ref h2), (2, .int (iZ pg))]) X dX1_likePage_11 (by decide) rfl ?_
  refine g_aload_n X 2 dX1_likePage_13 rfl rfl ?_
  refine g_iload_n X 4 dX1_likePage_14 rfl rfl ?_
  refine g_callV0 X (As := [.int (iZ pg)]) (rest := []) (ctX1_endColumn l D cB cI cJ cY h qk qt qn B C w G K pg (by first | assumption | omega) (by first | assumption | omega)) (cwV 1 X.2.2.2.2.1 gX1_likePage_X1_endColumn rfl rfl rfl (by decide +kernel) ⟨by decide, by decide⟩) 0 rfl rfl (wc := [(h, .inr (1, [.ref qk, .ref qt, .ref qn, .int (iZ B), .int (iZ C), .int (iZ w), .int (iZ G), .int (iZ K)]))]) (wr := [(qk, .inl (cI, 900, .inl (zA bk))), (qt, .inl (cI, 901, .inl (zA st))), (h2, .inr (1, [.ref qk2, .ref qt2, .ref qn2, .int (iZ B2), .int (iZ C2), .int (iZ w2), .int (iZ G2), .int (iZ K2)])), (qk2, .inl (cI, 900, .inl (zA bk2))), (qt2, .inl (cI, 901, .inl (zA st2)))]) [0] [1, 2, 3, 4, 5] rfl rfl (by decide) (by decide) (by decide) rfl rfl (Nat.le_of_ble_eq_true rfl) ⟨by decide, by decide⟩ dX1_likePage_15 (fun v w1 hq => ?_)
  obtain ⟨rfl, rfl⟩ := hq
  refine g_eq (ws' := [(qk, .inl (cI, 900, .inl (zA bk))), (qt, .inl (cI, 901, .inl (zA st))), (h2, .inr (1, [.ref qk2, .ref qt2, .ref qn2, .int (iZ B2), .int (iZ C2), .int (iZ w2), .int (iZ G2), .int (iZ K2)])), (qk2, .inl (cI, 900, .inl (zA bk2))), (qt2, .inl (cI, 901, .inl (zA st2))), (h, .inr (1, [.ref qk, .ref qt, .ref qn, .int (iZ B), .int (iZ C), .int (iZ w), .int (iZ G), .int (iZ K)]))]) (pc' := 18) (st' := [.int (iZ (minZ ((pg + 1) * w) C))]) rfl rfl rfl rfl ?_
  refine g_perm (ws' := [(h, .inr (1, [.ref qk, .ref qt, .ref qn, .int (iZ B), .int (iZ C), .int (iZ w), .int (iZ G), .int (iZ K)])), (qk, .inl (cI, 900, .inl (zA bk))), (qt, .inl (cI, 901, .inl (zA st))), (h2, .inr (1, [.ref qk2, .ref qt2, .ref qn2, .int (iZ B2), .int (iZ C2), .int (iZ w2), .int (iZ G2), .int (iZ K2)])), (qk2, .inl (cI, 900, .inl (zA bk2))), (qt2, .inl (cI, 901, .inl (zA st2)))]) [5, 0, 1, 2, 3, 4] (by decide) rfl ?_
  have m3 := minZ_b ((pg + 1) * w) C
  have m5 : minZ (pg * w) C ≤ minZ ((pg + 1) * w) C := by unfold minZ; split <;> split <;> omega
  refine g_iload_n X 1 dX1_likePage_18 rfl rfl ?_
  refine g_isub X dX1_likePage_19 ?_
  refine g_istore (lv2 := [(5, .int (iZ ((minZ ((pg + 1) * w) C) - (minZ (pg * w) C)))), (4, .int (iZ (minZ (pg * w2) C2))), (3, .int (iZ (minZ (pg * w) C))), (0, .ref h), (1, .ref h2), (2, .int (iZ pg))]) X dX1_likePage_20 (by decide) rfl ?_
  refine g_iload X 0 dX1_likePage_22 rfl ?_
  refine g_aload_n X 4 dX1_likePage_24 rfl rfl ?_
  refine g_iload_n X 5 dX1_likePage_25 rfl rfl ?_
  refine g_callV0 X (As := [.int (iZ pg)]) (rest := [.int (iZ ((minZ ((pg + 1) * w) C) - (minZ (pg * w) C)))]) (ctX1_endColumn l D cB cI cJ cY h2 qk2 qt2 qn2 B2 C2 w2 G2 K2 pg (by first | assumption | omega) (by first | assumption | omega)) (cwV 1 X.2.2.2.2.1 gX1_likePage_X1_endColumn rfl rfl rfl (by decide +kernel) ⟨by decide, by decide⟩) 0 rfl rfl (wc := [(h2, .inr (1, [.ref qk2, .ref qt2, .ref qn2, .int (iZ B2), .int (iZ C2), .int (iZ w2), .int (iZ G2), .int (iZ K2)]))]) (wr := [(h, .inr (1, [.ref qk, .ref qt, .ref qn, .int (iZ B), .int (iZ C), .int (iZ w), .int (iZ G), .int (iZ K)])), (qk, .inl (cI, 900, .inl (zA bk))), (qt, .inl (cI, 901, .inl (zA st))), (qk2, .inl (cI, 900, .inl (zA bk2))), (qt2, .inl (cI, 901, .inl (zA st2)))]) [3] [0, 1, 2, 4, 5] rfl rfl (by decide) (by decide) (by decide) rfl rfl (Nat.le_of_ble_eq_true rfl) ⟨by decide, by decide⟩ dX1_likePage_26 (fun v w1 hq => ?_)
  obtain ⟨rfl, rfl⟩ := hq
  refine g_eq (ws' := [(h, .inr (1, [.ref qk, .ref qt, .ref qn, .int (iZ B), .int (iZ C), .int (iZ w), .int (iZ G), .int (iZ K)])), (qk, .inl (cI, 900, .inl (zA bk))), (qt, .inl (cI, 901, .inl (zA st))), (qk2, .inl (cI, 900, .inl (zA bk2))), (qt2, .inl (cI, 901, .inl (zA st2))), (h2, .inr (1, [.ref qk2, .ref qt2, .ref qn2, .int (iZ B2), .int (iZ C2), .int (iZ w2), .int (iZ G2), .int (iZ K2)]))]) (pc' := 29) (st' := [.int (iZ (minZ ((pg + 1) * w2) C2)), .int (iZ ((minZ ((pg + 1) * w) C) - (minZ (pg * w) C)))]) rfl rfl rfl rfl ?_
  refine g_perm (ws' := [(h, .inr (1, [.ref qk, .ref qt, .ref qn, .int (iZ B), .int (iZ C), .int (iZ w), .int (iZ G), .int (iZ K)])), (qk, .inl (cI, 900, .inl (zA bk))), (qt, .inl (cI, 901, .inl (zA st))), (h2, .inr (1, [.ref qk2, .ref qt2, .ref qn2, .int (iZ B2), .int (iZ C2), .int (iZ w2), .int (iZ G2), .int (iZ K2)])), (qk2, .inl (cI, 900, .inl (zA bk2))), (qt2, .inl (cI, 901, .inl (zA st2)))]) [0, 1, 2, 5, 3, 4] (by decide) rfl ?_
  have m4 := minZ_b ((pg + 1) * w2) C2
  have m6 : minZ (pg * w2) C2 ≤ minZ ((pg + 1) * w2) C2 := by unfold minZ; split <;> split <;> omega
  refine g_iload X 1 dX1_likePage_29 rfl ?_
  refine g_isub X dX1_likePage_31 ?_
  refine g_icmp_eq X 37 dX1_likePage_32 (by decide) (by omega) (by omega) (fun c_32 => ?_) (fun c_32 => ?_)
  · skip
    refine g_iconst X dX1_likePage_37 ?_
    refine g_istore (lv2 := [(6, .int (iZ 0)), (5, .int (iZ ((minZ ((pg + 1) * w) C) - (minZ (pg * w) C)))), (4, .int (iZ (minZ (pg * w2) C2))), (3, .int (iZ (minZ (pg * w) C))), (0, .ref h), (1, .ref h2), (2, .int (iZ pg))]) X dX1_likePage_38 (by decide) rfl ?_
    refine g_lv (lv' := [(0, .ref h), (1, .ref h2), (3, .int (iZ (minZ (pg * w) C))), (4, .int (iZ (minZ (pg * w2) C2))), (5, .int (iZ ((minZ ((pg + 1) * w) C) - (minZ (pg * w) C)))), (6, .int (iZ 0))]) [4, 5, 3, 2, 1, 0] rfl ?_
    have loop_40 : ∀ (kf : Nat) (k : Int), (hk : 0 ≤ k ∧ k ≤ 900) → (hin : ∀ i : Int, 0 ≤ i → i < k → colEq bk st bk2 st2 (minZ (pg * w) C + i) (minZ (pg * w2) C2 + i)) → (900 - k).toNat < kf → gW p l e { frames := 2, cells := 0, slots := 0, locals := 42 } s m args below meth c D A 7 0 0 (MQ below (gQ D (gT cB cI cJ cY) (qX1_likePage cB cI cJ cY h qk qt qn bk st B C w G K h2 qk2 qt2 qn2 bk2 st2 B2 C2 w2 G2 K2 pg) A) args s 0 0 A) [(h, .inr (1, [.ref qk, .ref qt, .ref qn, .int (iZ B), .int (iZ C), .int (iZ w), .int (iZ G), .int (iZ K)])), (qk, .inl (cI, 900, .inl (zA bk))), (qt, .inl (cI, 901, .inl (zA st))), (h2, .inr (1, [.ref qk2, .ref qt2, .ref qn2, .int (iZ B2), .int (iZ C2), .int (iZ w2), .int (iZ G2), .int (iZ K2)])), (qk2, .inl (cI, 900, .inl (zA bk2))), (qt2, .inl (cI, 901, .inl (zA st2)))] 40 [(0, .ref h), (1, .ref h2), (3, .int (iZ (minZ (pg * w) C))), (4, .int (iZ (minZ (pg * w2) C2))), (5, .int (iZ ((minZ ((pg + 1) * w) C) - (minZ (pg * w) C)))), (6, .int (iZ k))] [] := by
      intro kf
      induction kf with
      | zero => intro k hk hin hm; exact absurd hm (Nat.not_lt_zero _)
      | succ kf ih_40 =>
        intro k hk hin hm
        refine g_iload X 5 dX1_likePage_40 rfl ?_
        refine g_iload X 4 dX1_likePage_42 rfl ?_
        refine g_icmp_ge X 72 dX1_likePage_44 (by decide) (by omega) (by omega) (fun c_44 => ?_) (fun c_44 => ?_)
        · skip
          refine g_iconst X dX1_likePage_72 ?_
          exact g_zret X (by omega) hr (by decide) (by decide) dX1_likePage_73 ⟨_, rfl, Or.inl ⟨rfl, c_32, fun i h1 h2 => hin i h1 (by omega)⟩, rfl⟩
        · skip
          refine g_aload_n X 0 dX1_likePage_47 rfl rfl ?_
          refine g_iload_n X 2 dX1_likePage_48 rfl rfl ?_
          refine g_iload X 5 dX1_likePage_49 rfl ?_
          refine g_iadd X dX1_likePage_51 ?_
          refine g_aload_n X 1 dX1_likePage_52 rfl rfl ?_
          refine g_iload X 3 dX1_likePage_53 rfl ?_
          refine g_iload X 5 dX1_likePage_55 rfl ?_
          refine g_iadd X dX1_likePage_57 ?_
          refine g_callV0 X (As := [.int (iZ ((minZ (pg * w) C) + k)), .ref h2, .int (iZ ((minZ (pg * w2) C2) + k))]) (rest := []) (ctX1_likeColumn l D cB cI cJ cY h qk qt qn bk st B C w G K h2 qk2 qt2 qn2 bk2 st2 B2 C2 w2 G2 K2 ((minZ (pg * w) C) + k) ((minZ (pg * w2) C2) + k) (by first | assumption | omega) (by first | assumption | omega) (by first | assumption | omega) (by first | assumption | omega) (by first | assumption | omega) (by first | assumption | omega) (by first | assumption | omega) (by first | assumption | omega)) (cwV 3 X.2.2.2.2.1 gX1_likePage_X1_likeColumn rfl rfl rfl (by decide +kernel) ⟨by decide, by decide⟩) 0 rfl rfl (wc := [(h, .inr (1, [.ref qk, .ref qt, .ref qn, .int (iZ B), .int (iZ C), .int (iZ w), .int (iZ G), .int (iZ K)])), (qk, .inl (cI, 900, .inl (zA bk))), (qt, .inl (cI, 901, .inl (zA st))), (h2, .inr (1, [.ref qk2, .ref qt2, .ref qn2, .int (iZ B2), .int (iZ C2), .int (iZ w2), .int (iZ G2), .int (iZ K2)])), (qk2, .inl (cI, 900, .inl (zA bk2))), (qt2, .inl (cI, 901, .inl (zA st2)))]) (wr := []) [0, 1, 2, 3, 4, 5] [] rfl rfl (by decide) (by decide) (by decide) rfl rfl (Nat.le_of_ble_eq_true rfl) ⟨by decide, by decide⟩ dX1_likePage_58 (fun v w1 hq => ?_)
          obtain ⟨b, rfl, hb, rfl⟩ := hq
          refine g_eq (ws' := [(h, .inr (1, [.ref qk, .ref qt, .ref qn, .int (iZ B), .int (iZ C), .int (iZ w), .int (iZ G), .int (iZ K)])), (qk, .inl (cI, 900, .inl (zA bk))), (qt, .inl (cI, 901, .inl (zA st))), (h2, .inr (1, [.ref qk2, .ref qt2, .ref qn2, .int (iZ B2), .int (iZ C2), .int (iZ w2), .int (iZ G2), .int (iZ K2)])), (qk2, .inl (cI, 900, .inl (zA bk2))), (qt2, .inl (cI, 901, .inl (zA st2)))]) (pc' := 61) (st' := [.int (iZ b)]) rfl rfl rfl rfl ?_
          have hb9 : b = 0 ∨ b = 1 := by rcases hb with h | h <;> omega
          refine g_if_ne X 66 dX1_likePage_61 (by decide) (by omega) (fun c_61 => ?_) (fun c_61 => ?_)
          · skip
            have hin2 : ∀ i : Int, 0 ≤ i → i < k + 1 → colEq bk st bk2 st2 (minZ (pg * w) C + i) (minZ (pg * w2) C2 + i) := fun i h1 h2 => by
              rcases (show i = k ∨ i < k by omega) with h | h
              · rw [h]; rcases hb with h9 | h9
                · exact h9.2
                · omega
              · exact hin i h1 h
            refine g_iinc (q := 5) (lv2 := [(6, .int (iZ (k + 1))), (0, .ref h), (1, .ref h2), (3, .int (iZ (minZ (pg * w) C))), (4, .int (iZ (minZ (pg * w2) C2))), (5, .int (iZ ((minZ ((pg + 1) * w) C) - (minZ (pg * w) C))))]) X dX1_likePage_66 rfl (by decide) rfl ?_
            refine g_goto X 40 dX1_likePage_69 (by decide) ?_
            refine g_lv (lv' := [(0, .ref h), (1, .ref h2), (3, .int (iZ (minZ (pg * w) C))), (4, .int (iZ (minZ (pg * w2) C2))), (5, .int (iZ ((minZ ((pg + 1) * w) C) - (minZ (pg * w) C)))), (6, .int (iZ (k + 1)))]) [1, 2, 3, 4, 5, 0] rfl ?_
            exact ih_40 (k + 1) (by omega) hin2 (by omega)
          · skip
            refine g_iconst X dX1_likePage_64 ?_
            exact g_zret X (by omega) hr (by decide) (by decide) dX1_likePage_65 ⟨_, rfl, Or.inr ⟨rfl, fun h9 => hb.elim (fun h8 => by omega) (fun h8 => h8.2 (h9.2 k (by omega) (by omega)))⟩, rfl⟩
    exact loop_40 _ 0 (by omega) (fun i h1 h2 => by omega) (Nat.lt_succ_self _)
  · skip
    refine g_iconst X dX1_likePage_35 ?_
    exact g_zret X (by omega) hr (by decide) (by decide) dX1_likePage_36 ⟨_, rfl, Or.inr ⟨rfl, fun h9 => c_32 h9.1⟩, rfl⟩
def qX1_pagesUnlike (cB cI cJ cY : ClassId) (h : Nat) (qk : Nat) (qt : Nat) (qn : Nat) (bk : Int → Int) (st : Int → Int) (B : Int) (C : Int) (w : Int) (G : Int) (K : Int) (h2 : Nat) (qk2 : Nat) (qt2 : Nat) (qn2 : Nat) (bk2 : Int → Int) (st2 : Int → Int) (B2 : Int) (C2 : Int) (w2 : Int) (G2 : Int) (K2 : Int) (bad : Int → Int) : Option Value → va_W → Prop := fun rv w1 => ∃ (r : Int), rv = some (.int (iZ r)) ∧ r = unN bad (maxZ G G2).toNat ∧ w1 = [(h, .inr (1, [.ref qk, .ref qt, .ref qn, .int (iZ B), .int (iZ C), .int (iZ w), .int (iZ G), .int (iZ K)])), (qk, .inl (cI, 900, .inl (zA bk))), (qt, .inl (cI, 901, .inl (zA st))), (h2, .inr (1, [.ref qk2, .ref qt2, .ref qn2, .int (iZ B2), .int (iZ C2), .int (iZ w2), .int (iZ G2), .int (iZ K2)])), (qk2, .inl (cI, 900, .inl (zA bk2))), (qt2, .inl (cI, 901, .inl (zA st2)))]
set_option maxHeartbeats 4000000 in
set_option maxRecDepth 100000 in
theorem ctX1_pagesUnlike (l : Launch) (D : va_G) (cB cI cJ cY : ClassId) (h : Nat) (qk : Nat) (qt : Nat) (qn : Nat) (bk : Int → Int) (st : Int → Int) (B : Int) (C : Int) (w : Int) (G : Int) (K : Int) (h2 : Nat) (qk2 : Nat) (qt2 : Nat) (qn2 : Nat) (bk2 : Int → Int) (st2 : Int → Int) (B2 : Int) (C2 : Int) (w2 : Int) (G2 : Int) (K2 : Int) (bad : Int → Int) (hc : 0 ≤ C ∧ C ≤ 900) (hst : ∀ j : Int, 0 ≤ j ∧ j ≤ C → 0 ≤ st j ∧ st j ≤ 900) (hbk : ∀ j : Int, 0 ≤ j ∧ j < 900 → 0 ≤ bk j ∧ bk j < 900) (hc2 : 0 ≤ C2 ∧ C2 ≤ 900) (hst2 : ∀ j : Int, 0 ≤ j ∧ j ≤ C2 → 0 ≤ st2 j ∧ st2 j ≤ 900) (hbk2 : ∀ j : Int, 0 ≤ j ∧ j < 900 → 0 ≤ bk2 j ∧ bk2 j < 900) (hG : 0 ≤ G ∧ G ≤ 900 ∧ 0 ≤ G2 ∧ G2 ≤ 900) (hw : 0 ≤ w ∧ w ≤ 4 ∧ 0 ≤ w2 ∧ w2 ≤ 4) (hbad : ∀ q : Int, 0 ≤ q → (bad q = 0 ∨ bad q = 1) ∧ (bad q = 0 ↔ (q < G ∧ q < G2 ∧ pgEq bk st C w bk2 st2 C2 w2 q))) : gM l yX1_pagesUnlike wsX1_pagesUnlike { frames := 3, cells := 0, slots := 0, locals := 68 } D (gT cB cI cJ cY) [.ref h, .ref h2] [(h, .inr (1, [.ref qk, .ref qt, .ref qn, .int (iZ B), .int (iZ C), .int (iZ w), .int (iZ G), .int (iZ K)])), (qk, .inl (cI, 900, .inl (zA bk))), (qt, .inl (cI, 901, .inl (zA st))), (h2, .inr (1, [.ref qk2, .ref qt2, .ref qn2, .int (iZ B2), .int (iZ C2), .int (iZ w2), .int (iZ G2), .int (iZ K2)])), (qk2, .inl (cI, 900, .inl (zA bk2))), (qt2, .inl (cI, 901, .inl (zA st2)))] 0 0 (qX1_pagesUnlike cB cI cJ cY h qk qt qn bk st B C w G K h2 qk2 qt2 qn2 bk2 st2 B2 C2 w2 G2 K2 bad) := by
  refine g_start (cc := cX1_pagesUnlike) (maxL := 5) (ret := some .int) (lv := [(0, .ref h), (1, .ref h2)]) (by decide) rfl (Nat.le_of_ble_eq_true rfl) rfl ?_
  intro p e s m args below meth c A X hr hnm
  have hin1 : ∀ w ∈ u_ws RX1 TX1 8, w ∈ wsX1_pagesUnlike := by decide +kernel
  refine g_aload_n X 0 dX1_pagesUnlike_0 rfl rfl ?_
  refine g_get X (index := 28) (ref := "GuideWords$Setting") hin1 0 rfl rfl 6 (by decide) rfl (by decide +kernel) (v := .int (iZ G)) rfl dX1_pagesUnlike_1 ?_
  refine g_aload_n X 1 dX1_pagesUnlike_4 rfl rfl ?_
  refine g_get X (index := 28) (ref := "GuideWords$Setting") hin1 3 rfl rfl 6 (by decide) rfl (by decide +kernel) (v := .int (iZ G2)) rfl dX1_pagesUnlike_5 ?_
  refine g_mmax X (index := 44) (by decide +kernel) (by decide +kernel) (by decide +kernel) (by decide +kernel) (by omega) (by omega) (by decide) (Nat.le_of_ble_eq_true rfl) (by decide) (by decide) dX1_pagesUnlike_8 ?_
  refine g_istore_n (lv2 := [(2, .int (iZ (maxZ G G2))), (0, .ref h), (1, .ref h2)]) X dX1_pagesUnlike_11 rfl (by decide) rfl ?_
  refine g_iconst X dX1_pagesUnlike_12 ?_
  refine g_istore_n (lv2 := [(3, .int (iZ 0)), (2, .int (iZ (maxZ G G2))), (0, .ref h), (1, .ref h2)]) X dX1_pagesUnlike_13 rfl (by decide) rfl ?_
  refine g_iconst X dX1_pagesUnlike_14 ?_
  refine g_istore (lv2 := [(4, .int (iZ 0)), (3, .int (iZ 0)), (2, .int (iZ (maxZ G G2))), (0, .ref h), (1, .ref h2)]) X dX1_pagesUnlike_15 (by decide) rfl ?_
  have mx := maxZ_b G G2
  refine g_lv (lv' := [(0, .ref h), (1, .ref h2), (2, .int (iZ (maxZ G G2))), (3, .int (iZ 0)), (4, .int (iZ 0))]) [3, 4, 2, 1, 0] rfl ?_
  have loop_17 : ∀ (kf : Nat) (u : Int) (k : Int), (hk : 0 ≤ k ∧ k ≤ maxZ G G2) → (hu : u = unN bad k.toNat) → (maxZ G G2 - k).toNat < kf → gW p l e { frames := 3, cells := 0, slots := 0, locals := 68 } s m args below meth c D A 5 0 0 (MQ below (gQ D (gT cB cI cJ cY) (qX1_pagesUnlike cB cI cJ cY h qk qt qn bk st B C w G K h2 qk2 qt2 qn2 bk2 st2 B2 C2 w2 G2 K2 bad) A) args s 0 0 A) [(h, .inr (1, [.ref qk, .ref qt, .ref qn, .int (iZ B), .int (iZ C), .int (iZ w), .int (iZ G), .int (iZ K)])), (qk, .inl (cI, 900, .inl (zA bk))), (qt, .inl (cI, 901, .inl (zA st))), (h2, .inr (1, [.ref qk2, .ref qt2, .ref qn2, .int (iZ B2), .int (iZ C2), .int (iZ w2), .int (iZ G2), .int (iZ K2)])), (qk2, .inl (cI, 900, .inl (zA bk2))), (qt2, .inl (cI, 901, .inl (zA st2)))] 17 [(0, .ref h), (1, .ref h2), (2, .int (iZ (maxZ G G2))), (3, .int (iZ u)), (4, .int (iZ k))] [] := by
    intro kf
    induction kf with
    | zero => intro u k hk hu hm; exact absurd hm (Nat.not_lt_zero _)
    | succ kf ih_17 =>
      intro u k hk hu hm
      refine g_iload X 4 dX1_pagesUnlike_17 rfl ?_
      refine g_iload_n X 2 dX1_pagesUnlike_19 rfl rfl ?_
      refine g_icmp_ge X 60 dX1_pagesUnlike_20 (by decide) (by omega) (by omega) (fun c_20 => ?_) (fun c_20 => ?_)
      · skip
        refine g_iload_n X 3 dX1_pagesUnlike_60 rfl rfl ?_
        exact g_iret X hr (by decide) (by decide) dX1_pagesUnlike_61 ⟨_, rfl, by rw [hu, show k = maxZ G G2 by omega], rfl⟩
      · skip
        have hk1 : (k + 1).toNat = k.toNat + 1 := by omega
        have hk2 : ((k.toNat : Nat) : Int) = k := by omega
        have hbk9 := hbad k (by omega)
        refine g_iload X 4 dX1_pagesUnlike_23 rfl ?_
        refine g_aload_n X 0 dX1_pagesUnlike_25 rfl rfl ?_
        refine g_get X (index := 28) (ref := "GuideWords$Setting") hin1 0 rfl rfl 6 (by decide) rfl (by decide +kernel) (v := .int (iZ G)) rfl dX1_pagesUnlike_26 ?_
        refine g_icmp_ge X 51 dX1_pagesUnlike_29 (by decide) (by omega) (by omega) (fun c_29 => ?_) (fun c_29 => ?_)
        · skip
          have e9 : bad k = 1 := by
            rcases hbk9.1 with h | h
            · have := hbk9.2.mp h; omega
            · exact h
          refine g_iinc (q := 3) (lv2 := [(3, .int (iZ (u + 1))), (0, .ref h), (1, .ref h2), (2, .int (iZ (maxZ G G2))), (4, .int (iZ k))]) X dX1_pagesUnlike_51 rfl (by decide) rfl ?_
          refine g_iinc (q := 4) (lv2 := [(4, .int (iZ (k + 1))), (3, .int (iZ (u + 1))), (0, .ref h), (1, .ref h2), (2, .int (iZ (maxZ G G2)))]) X dX1_pagesUnlike_54 rfl (by decide) rfl ?_
          refine g_goto X 17 dX1_pagesUnlike_57 (by decide) ?_
          refine g_lv (lv' := [(0, .ref h), (1, .ref h2), (2, .int (iZ (maxZ G G2))), (3, .int (iZ (u + 1))), (4, .int (iZ (k + 1)))]) [2, 3, 4, 1, 0] rfl ?_
          exact ih_17 (u + 1) (k + 1) (by omega) (by rw [hk1, unN, hk2, ← hu]; omega) (by omega)
        · skip
          refine g_iload X 4 dX1_pagesUnlike_32 rfl ?_
          refine g_aload_n X 1 dX1_pagesUnlike_34 rfl rfl ?_
          refine g_get X (index := 28) (ref := "GuideWords$Setting") hin1 3 rfl rfl 6 (by decide) rfl (by decide +kernel) (v := .int (iZ G2)) rfl dX1_pagesUnlike_35 ?_
          refine g_icmp_ge X 51 dX1_pagesUnlike_38 (by decide) (by omega) (by omega) (fun c_38 => ?_) (fun c_38 => ?_)
          · skip
            have e9 : bad k = 1 := by
              rcases hbk9.1 with h | h
              · have := hbk9.2.mp h; omega
              · exact h
            refine g_iinc (q := 3) (lv2 := [(3, .int (iZ (u + 1))), (0, .ref h), (1, .ref h2), (2, .int (iZ (maxZ G G2))), (4, .int (iZ k))]) X dX1_pagesUnlike_51 rfl (by decide) rfl ?_
            refine g_iinc (q := 4) (lv2 := [(4, .int (iZ (k + 1))), (3, .int (iZ (u + 1))), (0, .ref h), (1, .ref h2), (2, .int (iZ (maxZ G G2)))]) X dX1_pagesUnlike_54 rfl (by decide) rfl ?_
            refine g_goto X 17 dX1_pagesUnlike_57 (by decide) ?_
            refine g_lv (lv' := [(0, .ref h), (1, .ref h2), (2, .int (iZ (maxZ G G2))), (3, .int (iZ (u + 1))), (4, .int (iZ (k + 1)))]) [2, 3, 4, 1, 0] rfl ?_
            exact ih_17 (u + 1) (k + 1) (by omega) (by rw [hk1, unN, hk2, ← hu]; omega) (by omega)
          · skip
            have q0 : 0 ≤ k * w ∧ k * w ≤ 3600 := ⟨Int.mul_nonneg (by omega) (by omega), Int.le_trans (Int.mul_le_mul (show k ≤ 900 by omega) hw.2.1 hw.1 (by omega)) (by omega)⟩
            have q1 : 0 ≤ k * w ∧ k * w ≤ 4000 := by omega
            have q2 : k * w ≤ (k + 1) * w ∧ (k + 1) * w ≤ 4000 := by rw [Int.add_mul]; omega
            have q9 : 0 ≤ k * w2 ∧ k * w2 ≤ 3600 := ⟨Int.mul_nonneg (by omega) (by omega), Int.le_trans (Int.mul_le_mul (show k ≤ 900 by omega) hw.2.2.2 hw.2.2.1 (by omega)) (by omega)⟩
            have q3 : 0 ≤ k * w2 ∧ k * w2 ≤ 4000 := by omega
            have q4 : k * w2 ≤ (k + 1) * w2 ∧ (k + 1) * w2 ≤ 4000 := by rw [Int.add_mul]; omega
            refine g_aload_n X 0 dX1_pagesUnlike_41 rfl rfl ?_
            refine g_aload_n X 1 dX1_pagesUnlike_42 rfl rfl ?_
            refine g_iload X 4 dX1_pagesUnlike_43 rfl ?_
            refine g_callV0 X (As := [.ref h2, .int (iZ k)]) (rest := []) (ctX1_likePage l D cB cI cJ cY h qk qt qn bk st B C w G K h2 qk2 qt2 qn2 bk2 st2 B2 C2 w2 G2 K2 k (by first | assumption | omega) (by first | assumption | omega) (by first | assumption | omega) (by first | assumption | omega) (by first | assumption | omega) (by first | assumption | omega) q1 q2 q3 q4) (cwV 2 X.2.2.2.2.1 gX1_pagesUnlike_X1_likePage rfl rfl rfl (by decide +kernel) ⟨by decide, by decide⟩) 0 rfl rfl (wc := [(h, .inr (1, [.ref qk, .ref qt, .ref qn, .int (iZ B), .int (iZ C), .int (iZ w), .int (iZ G), .int (iZ K)])), (qk, .inl (cI, 900, .inl (zA bk))), (qt, .inl (cI, 901, .inl (zA st))), (h2, .inr (1, [.ref qk2, .ref qt2, .ref qn2, .int (iZ B2), .int (iZ C2), .int (iZ w2), .int (iZ G2), .int (iZ K2)])), (qk2, .inl (cI, 900, .inl (zA bk2))), (qt2, .inl (cI, 901, .inl (zA st2)))]) (wr := []) [0, 1, 2, 3, 4, 5] [] rfl rfl (by decide) (by decide) (by decide) rfl rfl (Nat.le_of_ble_eq_true rfl) ⟨by decide, by decide⟩ dX1_pagesUnlike_45 (fun v w1 hq => ?_)
            obtain ⟨b, rfl, hb, rfl⟩ := hq
            refine g_eq (ws' := [(h, .inr (1, [.ref qk, .ref qt, .ref qn, .int (iZ B), .int (iZ C), .int (iZ w), .int (iZ G), .int (iZ K)])), (qk, .inl (cI, 900, .inl (zA bk))), (qt, .inl (cI, 901, .inl (zA st))), (h2, .inr (1, [.ref qk2, .ref qt2, .ref qn2, .int (iZ B2), .int (iZ C2), .int (iZ w2), .int (iZ G2), .int (iZ K2)])), (qk2, .inl (cI, 900, .inl (zA bk2))), (qt2, .inl (cI, 901, .inl (zA st2)))]) (pc' := 48) (st' := [.int (iZ b)]) rfl rfl rfl rfl ?_
            have hb9 : b = 0 ∨ b = 1 := by rcases hb with h | h <;> omega
            refine g_if_ne X 54 dX1_pagesUnlike_48 (by decide) (by omega) (fun c_48 => ?_) (fun c_48 => ?_)
            · skip
              have e9 : bad k = 0 := by
                rcases hb with h | h
                · exact hbk9.2.mpr ⟨by omega, by omega, h.2⟩
                · omega
              refine g_iinc (q := 4) (lv2 := [(4, .int (iZ (k + 1))), (0, .ref h), (1, .ref h2), (2, .int (iZ (maxZ G G2))), (3, .int (iZ u))]) X dX1_pagesUnlike_54 rfl (by decide) rfl ?_
              refine g_goto X 17 dX1_pagesUnlike_57 (by decide) ?_
              refine g_lv (lv' := [(0, .ref h), (1, .ref h2), (2, .int (iZ (maxZ G G2))), (3, .int (iZ u)), (4, .int (iZ (k + 1)))]) [1, 2, 3, 4, 0] rfl ?_
              exact ih_17 u (k + 1) (by omega) (by rw [hk1, unN, hk2, ← hu]; omega) (by omega)
            · skip
              have e9 : bad k = 1 := by
                rcases hbk9.1 with h | h
                · rcases hb with h8 | h8
                  · omega
                  · exact absurd (hbk9.2.mp h).2.2 h8.2
                · exact h
              refine g_iinc (q := 3) (lv2 := [(3, .int (iZ (u + 1))), (0, .ref h), (1, .ref h2), (2, .int (iZ (maxZ G G2))), (4, .int (iZ k))]) X dX1_pagesUnlike_51 rfl (by decide) rfl ?_
              refine g_iinc (q := 4) (lv2 := [(4, .int (iZ (k + 1))), (3, .int (iZ (u + 1))), (0, .ref h), (1, .ref h2), (2, .int (iZ (maxZ G G2)))]) X dX1_pagesUnlike_54 rfl (by decide) rfl ?_
              refine g_goto X 17 dX1_pagesUnlike_57 (by decide) ?_
              refine g_lv (lv' := [(0, .ref h), (1, .ref h2), (2, .int (iZ (maxZ G G2))), (3, .int (iZ (u + 1))), (4, .int (iZ (k + 1)))]) [2, 3, 4, 1, 0] rfl ?_
              exact ih_17 (u + 1) (k + 1) (by omega) (by rw [hk1, unN, hk2, ← hu]; omega) (by omega)
  exact loop_17 _ 0 0 (by omega) rfl (Nat.lt_succ_self _)
