/-! the law's loop -/
set_option maxHeartbeats 8000000 in
set_option maxRecDepth 100000 in
theorem lw_loop {p : Program} {l : Launch} {e : Env} {s : State} {m : MethodId} {args : Array Value} {below : List Frame} {meth : Method} {c : Code} {D : va_G} {A : Nat → Prop} {cB cI cJ cY : ClassId} {Q : State → Prop} {b L tL tH tS : Nat} {xs : Nat → Int32} (hl : l.stackTraces = false) (X : gX p s m args meth c cL_law 7 wsL_law RL D (gT cB cI cJ cY) A) (hE : gE tL tH tS A s s.heap) (hCc : gC s) (hX : va_X b L xs s s.heap) (hbl : b < s.heap.size) (hbA : ¬ A b) (hL : L ≤ 3072) (hend : ∀ (cells slots : Nat) (ws : va_W) (lv : List (Nat × Value)), cells ≤ 1093 → slots ≤ 48045 → gW p l e room_1 s m args below meth c D A 7 cells slots Q ws 971 lv [.int (iZ 1)]) : ∀ (kf n : Nat) (i : Int), i = 6 * n → i ≤ L → (L : Int) - i < kf → LwN p l e s m args below meth c D A cB cI cJ cY Q b n i := by
  intro kf
  induction kf with
  | zero => intro n i h1 h2 hm; omega
  | succ kf ih =>
    intro n i hn hiL hm
    have next9 : i + 6 ≤ L → LwN p l e s m args below meth c D A cB cI cJ cY Q b (n + 1) (i + 6) := fun h => ih (n + 1) (i + 6) (by omega) (by omega) (by omega)
    have hL9 : (L : Int) ≤ 2147483647 := by omega
    unfold LwN
    intro g0 qv qz tp qb h qh qm qs ql qd qo qp ht qi qr qe qu qL hs qks qts qns hz qk qt qn m0 a6 a8 a10 a11 a12 a13 a14 a15 a17 a19 a20 a21 a22 a23 a24 a26 a27 a28 a35 a36 a37 a38 a39 a40 a41 a44 a45 ou pn ch tn N P nb Bs Cs ws Gs Ks B C w G K z0 z1 z2 z3 z4 z5 z7 z9 z16 z18 z25 z29 z30 z31 z32 z33 z34 z42 z43 vv pz tf hd me se ln dr od pa li br le uu lz bks sts cls bk st cl g6 g8 g10 g11 g12 g13 g14 g15 g17 g19 g20 g21 g22 g23 g24 g26 g27 g28 g35 g36 g37 g38 g39 g40 g41 g44 g45 fo rV rP rT rE rS rC hli hbr hle hbk k26 k39 k40
    refine g_iload X 4 dL_law_23 rfl ?_
    refine g_aload_n X 0 dL_law_25 rfl rfl ?_
    refine g_slen X hX hbl hbA dL_law_26 ?_
    refine g_bipush X dL_law_27 (by decide) ?_
    refine g_isub X dL_law_29 ?_
    refine g_icmp_gt X 970 dL_law_30 (by decide) (by omega) (by omega) (fun c_30 => ?_) (fun c_30 => ?_)
    · refine g_iconst X dL_law_970 ?_
      exact hend _ _ _ _ (by omega) (by omega)
    · refine g_aload_n X 0 dL_law_33 rfl rfl ?_
      refine g_iload X 4 dL_law_34 rfl ?_
      refine g_sld X hX hbl hbA (by omega) hL9 dL_law_36 ?_
      refine g_bipush X dL_law_37 (by decide) ?_
      refine g_iand (z := xzF xs i % 16) X dL_law_39 (iZ_and15 _) ?_
      rcases (show xzF xs i % 16 = 0 ∨ xzF xs i % 16 = 1 ∨ xzF xs i % 16 = 2 ∨ xzF xs i % 16 = 3 ∨ xzF xs i % 16 = 4 ∨ xzF xs i % 16 = 5 ∨ xzF xs i % 16 = 6 ∨ xzF xs i % 16 = 7 ∨ xzF xs i % 16 = 8 ∨ xzF xs i % 16 = 9 ∨ xzF xs i % 16 = 10 ∨ xzF xs i % 16 = 11 ∨ xzF xs i % 16 = 12 ∨ xzF xs i % 16 = 13 ∨ xzF xs i % 16 = 14 ∨ xzF xs i % 16 = 15 by omega) with c9 | c9 | c9 | c9 | c9 | c9 | c9 | c9 | c9 | c9 | c9 | c9 | c9 | c9 | c9 | c9
      · refine g_tsw X 0 120 dL_law_40 c9 (by decide) (by decide) (by decide) rfl (by decide) ?_
        exact lw_c0 hl X hE hCc hX hbl hbA hL hn (by omega) (next9 (by omega)) rV rP rT rE rS rC hli hbr hle hbk k26 k39 k40
      · refine g_tsw X 1 188 dL_law_40 c9 (by decide) (by decide) (by decide) rfl (by decide) ?_
        exact lw_c1 hl X hE hCc hX hbl hbA hL hn (by omega) (next9 (by omega)) rV rP rT rE rS rC hli hbr hle hbk k26 k39 k40
      · refine g_tsw X 2 244 dL_law_40 c9 (by decide) (by decide) (by decide) rfl (by decide) ?_
        exact lw_c2 hl X hE hCc hX hbl hbA hL hn (by omega) (next9 (by omega)) rV rP rT rE rS rC hli hbr hle hbk k26 k39 k40
      · refine g_tsw X 3 317 dL_law_40 c9 (by decide) (by decide) (by decide) rfl (by decide) ?_
        exact lw_c3 hl X hE hCc hX hbl hbA hL hn (by omega) (next9 (by omega)) rV rP rT rE rS rC hli hbr hle hbk k26 k39 k40
      · refine g_tsw X 4 373 dL_law_40 c9 (by decide) (by decide) (by decide) rfl (by decide) ?_
        exact lw_c4 hl X hE hCc hX hbl hbA hL hn (by omega) (next9 (by omega)) rV rP rT rE rS rC hli hbr hle hbk k26 k39 k40
      · refine g_tsw X 5 441 dL_law_40 c9 (by decide) (by decide) (by decide) rfl (by decide) ?_
        exact lw_c5 hl X hE hCc hX hbl hbA hL hn (by omega) (next9 (by omega)) rV rP rT rE rS rC hli hbr hle hbk k26 k39 k40
      · refine g_tsw X 6 504 dL_law_40 c9 (by decide) (by decide) (by decide) rfl (by decide) ?_
        exact lw_c6 hl X hE hCc hX hbl hbA hL hn (by omega) (next9 (by omega)) rV rP rT rE rS rC hli hbr hle hbk k26 k39 k40
      · refine g_tsw X 7 529 dL_law_40 c9 (by decide) (by decide) (by decide) rfl (by decide) ?_
        exact lw_c7 hl X hE hCc hX hbl hbA hL hn (by omega) (next9 (by omega)) rV rP rT rE rS rC hli hbr hle hbk k26 k39 k40
      · refine g_tsw X 8 585 dL_law_40 c9 (by decide) (by decide) (by decide) rfl (by decide) ?_
        exact lw_c8 hl X hE hCc hX hbl hbA hL hn (by omega) (next9 (by omega)) rV rP rT rE rS rC hli hbr hle hbk k26 k39 k40
      · refine g_tsw X 9 598 dL_law_40 c9 (by decide) (by decide) (by decide) rfl (by decide) ?_
        exact lw_c9 hl X hE hCc hX hbl hbA hL hn (by omega) (next9 (by omega)) rV rP rT rE rS rC hli hbr hle hbk k26 k39 k40
      · refine g_tsw X 10 654 dL_law_40 c9 (by decide) (by decide) (by decide) rfl (by decide) ?_
        exact lw_c10 hl X hE hCc hX hbl hbA hL hn (by omega) (next9 (by omega)) rV rP rT rE rS rC hli hbr hle hbk k26 k39 k40
      · refine g_tsw X 11 722 dL_law_40 c9 (by decide) (by decide) (by decide) rfl (by decide) ?_
        exact lw_c11 hl X hE hCc hX hbl hbA hL hn (by omega) (next9 (by omega)) rV rP rT rE rS rC hli hbr hle hbk k26 k39 k40
      · refine g_tsw X 12 790 dL_law_40 c9 (by decide) (by decide) (by decide) rfl (by decide) ?_
        exact lw_c12 hl X hE hCc hX hbl hbA hL hn (by omega) (next9 (by omega)) rV rP rT rE rS rC hli hbr hle hbk k26 k39 k40
      · refine g_tsw X 13 858 dL_law_40 c9 (by decide) (by decide) (by decide) rfl (by decide) ?_
        exact lw_c13 hl X hE hCc hX hbl hbA hL hn (by omega) (next9 (by omega)) rV rP rT rE rS rC hli hbr hle hbk k26 k39 k40
      · refine g_tsw X 14 926 dL_law_40 c9 (by decide) (by decide) (by decide) rfl (by decide) ?_
        exact lw_c14 hl X hE hCc hX hbl hbA hL hn (by omega) (next9 (by omega)) rV rP rT rE rS rC hli hbr hle hbk k26 k39 k40
      · refine g_tsw X 15 939 dL_law_40 c9 (by decide) (by decide) (by decide) rfl (by decide) ?_
        exact lw_c15 hl X hE hCc hX hbl hbA hL hn (by omega) (next9 (by omega)) rV rP rT rE rS rC hli hbr hle hbk k26 k39 k40
