set_option maxRecDepth 20000 in
set_option maxHeartbeats 4000000 in
theorem cc_Md_case0 {h : px_H} {xs : List CS3} {tx : List Nat} {sn cn : Int32} {p rs rc tm : Nat} {kp : Bool} {wr rd ky vl mo : Int32} {gq : gQ} {gh : gH} {gw : gW} {gu : gU} {gv : gV} (H0 : h.2.2 269 = some (12, mB (nI tx.length, sn, cn) (nI p, false, wr, rd, nI rs, nI rc, nI tm, ky, vl, mo) gq gh gw gu gv)) (H1 : px_pa h 270 52 500 vN tx) (p0 : p + 1 ≤ tx.length) (p1 : okTx tx) (p2 : rc < 8) : px_wp 137 [.ref (269)] h (fun h1 r => r = some (.int (bI ((rdCase tx (p + 1)).1))) ∧ pMS h1 tx sn cn ((rdCase tx (p + 1)).2.1) false (if (rdCase tx (p + 1)).1 = true then wr else nI (rdCase tx (p + 1)).2.1) rs (if (rdCase tx (p + 1)).1 = true then rc + 1 else rc) tm gq gh gw gu gv (fun _ _ _ => True) ∧ px_fi 269 1 h h1) := by
  have fr0 : px_fi 269 1 h h := fi_rf _ _ _
  have le := pa_len H1
  show px_to 137 0 [some (.ref (269)), none] [] h _
  refine e_aload_n f_137_0 rfl rfl ?_
  refine e_dup f_137_1 rfl rfl ?_
  refine e_getf f_137_2 H0 rfl rfl ?_
  show px_to 137 5 [some (.ref (269)), none] [.int (nI p), .ref (269)] h _
  refine e_iconst (v := nI 1) f_137_5 (by decide) rfl ?_
  refine e_iadd (z := nI (p + 1)) f_137_6 (nI_add _ _) rfl ?_
  refine e_putp (vs' := mB (nI tx.length, sn, cn) (nI (p + 1), false, wr, rd, nI rs, nI rc, nI tm, ky, vl, mo) gq gh gw gu gv) f_137_7 H0 (Nat.le_of_ble_eq_true rfl) (rfl) (rfl) rfl rfl (fun h1 g2 fx3 => ?_)
  have fr4 : px_fi 269 1 h h1 := fi_tr fr0 fx3 (by omega)
  refine e_iconst (v := nI 0) f_137_10 (by decide) rfl ?_
  refine e_istore_n (L' := [some (.ref (269)), some (.int (nI 0))]) f_137_11 (Nat.le_of_ble_eq_true rfl) rfl rfl ?_
  have g5 : pMS h1 tx sn cn (p + 1) false wr rs rc tm gq gh gw gu gv (fun _ _ _ => True) := ⟨_, _, _, _, g2, trivial⟩
  have g6 : px_pa h1 270 52 500 vN tx := pa_fi H1 fr4 (by omega)
  refine ll_Md_evs0 (h0 := h1) (y := (caE tx (p + 1))) (es0 := List.replicate 192 (0, 0, 0, 0)) g6 p1 p2 (fun g1 q1 es1 z0 zf hy1 hy2 hy3 hy4 => ?_) (fun g1 q1 n1 es1 z0 zf hy1 hy2 hy3 hy4 hy5 hy6 hy7 hy8 => ?_) 25 0 (p + 1) [] (List.replicate 192 (0, 0, 0, 0)) h1 (by omega) p0 (by omega) rfl rfl List.length_replicate trivial (fun _ _ => rfl) g5 (fi_rf _ _ _)
  · skip
    have fr7 : px_fi 269 1 h g1 := fi_tr fr4 zf (by omega)
    refine e_iconst (v := nI 0) f_137_40 (by decide) rfl ?_
    refine e_iret f_137_41 rfl (rfl) ?_
    subst hy2
    have er : rdCase tx (p + 1) = (false, (caE tx (p + 1)).2.1, ([], [], 0)) := by rw [rdCase_to, if_neg (by rw [hy1]; decide)]
    rw [er]
    dsimp only
    rw [if_neg (by decide), if_neg (by decide)]
    exact ⟨rfl, z0, fr7⟩
  · skip
    have fr8 : px_fi 269 1 h g1 := fi_tr fr4 zf (by omega)
    have hs1 : sgn tx q1 = sgn tx (caE tx (p + 1)).2.1 := by unfold sgn; rw [hy3]
    refine e_aload_n f_137_48 rfl rfl ?_
    obtain ⟨rd9, ky10, vl11, mo12, g13, hX14⟩ := id z0
    refine e_getf f_137_49 g13 rfl rfl ?_
    show px_to 137 52 [some (.ref (269)), some (.int (nI n1))] [.int (bI false)] g1 _
    refine e_if_eq_t f_137_52 (by decide) ?_
    refine e_aload_n f_137_65 rfl rfl ?_
    refine e_bipush (v := nI 58) f_137_66 (by decide) rfl ?_
    have g15 : px_pa g1 270 52 500 vN tx := pa_fi H1 fr8 (by omega)
    refine e_callV (As := [.int (nI 58)]) (rest := []) f_137_68 rfl rfl rfl (Nat.le_of_ble_eq_true rfl) (Nat.le_of_ble_eq_true rfl) g13 rfl (Nat.le_of_ble_eq_true rfl) (cc_Md_takes (c := 58) (tx := tx) (sn := sn) (cn := cn) (p := q1) (kp := false) (wr := wr) (rd := rd9) (rs := rs) (rc := rc) (tm := tm) (ky := ky10) (vl := vl11) (mo := mo12) (gq := gq) (gh := gh) (gw := gw) (gu := gu) (gv := gv) g13 g15 (hy2) (p1) (by omega)) rfl (fun h16 r17 q18 => ?_)
    obtain ⟨rfl, g19, fx20⟩ := q18
    have fr21 : px_fi 269 1 h h16 := fi_tr fr8 fx20 (by omega)
    show px_to 137 71 [some (.ref (269)), some (.int (nI n1))] [.int (bI (decide (sgn tx q1 = 58)))] h16 _
    refine e_if_eq f_137_71 rfl (fun c_71 => ?_) (fun c_71 => ?_)
    · skip
      have c_71 : (decide (sgn tx q1 = 58)) = false := bI_f c_71
      have h58 : ¬ sgn tx (caE tx (p + 1)).2.1 = 58 := by rw [← hs1]; exact of_decide_eq_false c_71
      have hq58 : ¬ sgn tx q1 = 58 := fun z => h58 (hs1.symm.trans z)
      have g22 : h16.2.2 269 = some (12, mB (nI tx.length, sn, cn) (nI (skp tx (caE tx (p + 1)).2.1), false, nI (skp tx (caE tx (p + 1)).2.1), rd9, nI rs, nI rc, nI tm, ky10, vl11, mo12) gq gh gw gu gv) := by have z := g19; rw [if_neg hq58, if_neg hq58, hy3] at z; exact z
      refine e_iconst (v := nI 0) f_137_81 (by decide) rfl ?_
      refine e_iret f_137_82 rfl (rfl) ?_
      have er : rdCase tx (p + 1) = (false, skp tx (caE tx (p + 1)).2.1, ([], [], 0)) := by rw [rdCase_to, if_pos hy1, if_neg h58]
      rw [er]
      dsimp only
      rw [if_neg (by decide), if_neg (by decide)]
      exact ⟨rfl, ⟨_, _, _, _, g22, trivial⟩, fr21⟩
    · skip
      have c_71 : (decide (sgn tx q1 = 58)) = true := bI_t' c_71
      have h58 : sgn tx (caE tx (p + 1)).2.1 = 58 := by rw [← hs1]; exact of_decide_eq_true c_71
      have hq58 : sgn tx q1 = 58 := hs1.trans h58
      have hsl3 : (skp tx (caE tx (p + 1)).2.1 + 1) ≤ tx.length := sgn_nx h58 (by decide)
      have g23 : h16.2.2 269 = some (12, mB (nI tx.length, sn, cn) (nI (skp tx (caE tx (p + 1)).2.1 + 1), false, wr, rd9, nI rs, nI rc, nI tm, ky10, vl11, mo12) gq gh gw gu gv) := by have z := g19; rw [if_pos hq58, if_pos hq58, hy3] at z; exact z
      refine e_aload_n f_137_74 rfl rfl ?_
      have g24 : px_pa h16 270 52 500 vN tx := pa_fi H1 fr21 (by omega)
      refine e_callV (As := []) (rest := []) f_137_75 rfl rfl rfl (Nat.le_of_ble_eq_true rfl) (Nat.le_of_ble_eq_true rfl) g23 rfl (Nat.le_of_ble_eq_true rfl) (cc_Md_outs0 (om := []) (ro := []) (wn := []) (tx := tx) (sn := sn) (cn := cn) (p := skp tx (caE tx (p + 1)).2.1 + 1) (kp := true) (wr := wr) (rd := rd9) (rs := rs) (rc := rc) (tm := tm) (ky := ky10) (vl := vl11) (mo := mo12) (gq := gq) (gh := gh) (gw := gw) (gu := gu) (gv := gv) g23 g24 (hsl3) (p1) (by omega)) rfl (fun h25 r26 q27 => ?_)
      obtain ⟨rfl, g28, fx29⟩ := q27
      have fr30 : px_fi 269 1 h h25 := fi_tr fr21 fx29 (by omega)
      show px_to 137 78 [some (.ref (269)), some (.int (nI n1))] [.int (bI ((toR tx (skp tx (caE tx (p + 1)).2.1 + 1)).1))] h25 _
      refine e_if_ne f_137_78 rfl (fun c_78 => ?_) (fun c_78 => ?_)
      · skip
        have c_78 : ((toR tx (skp tx (caE tx (p + 1)).2.1 + 1)).1) = true := bI_t c_78
        obtain ⟨rd31, ky32, vl33, mo34, g35, hX36⟩ := id g28
        have g37 : h25.2.2 269 = some (12, mB (nI tx.length, sn, cn) (nI ((toR tx (skp tx (caE tx (p + 1)).2.1 + 1)).2.1), false, wr, rd31, nI rs, nI rc, nI tm, ky32, vl33, mo34) gq gh gw gu gv) := by have z := g35; rw [c_78, if_pos rfl] at z; exact z
        refine e_aload_n f_137_83 rfl rfl ?_
        refine e_dup f_137_84 rfl rfl ?_
        refine e_getf f_137_85 g37 rfl rfl ?_
        show px_to 137 88 [some (.ref (269)), some (.int (nI n1))] [.int (nI rc), .ref (269)] h25 _
        refine e_iconst (v := nI 1) f_137_88 (by decide) rfl ?_
        refine e_iadd (z := nI (rc + 1)) f_137_89 (nI_add _ _) rfl ?_
        refine e_putp (vs' := mB (nI tx.length, sn, cn) (nI ((toR tx (skp tx (caE tx (p + 1)).2.1 + 1)).2.1), false, wr, rd31, nI rs, nI (rc + 1), nI tm, ky32, vl33, mo34) gq gh gw gu gv) f_137_90 g37 (Nat.le_of_ble_eq_true rfl) (rfl) (rfl) rfl rfl (fun h38 g39 fx40 => ?_)
        have fr41 : px_fi 269 1 h h38 := fi_tr fr30 fx40 (by omega)
        refine e_iconst (v := nI 1) f_137_93 (by decide) rfl ?_
        refine e_iret f_137_94 rfl (rfl) ?_
        have er : rdCase tx (p + 1) = (true, (toR tx (skp tx (caE tx (p + 1)).2.1 + 1)).2.1, ((caE tx (p + 1)).2.2, (toR tx (skp tx (caE tx (p + 1)).2.1 + 1)).2.2.1, (toR tx (skp tx (caE tx (p + 1)).2.1 + 1)).2.2.2)) := by rw [rdCase_to, if_pos hy1, if_pos h58, c_78, if_pos rfl]
        rw [er]
        dsimp only
        rw [if_pos rfl, if_pos rfl]
        exact ⟨rfl, ⟨_, _, _, _, g39, trivial⟩, fr41⟩
      · skip
        have c_78 : ((toR tx (skp tx (caE tx (p + 1)).2.1 + 1)).1) = false := bI_f' c_78
        refine e_iconst (v := nI 0) f_137_81 (by decide) rfl ?_
        refine e_iret f_137_82 rfl (rfl) ?_
        obtain ⟨rd42, ky43, vl44, mo45, g46, hX47⟩ := id g28
        have g48 : h25.2.2 269 = some (12, mB (nI tx.length, sn, cn) (nI ((toR tx (skp tx (caE tx (p + 1)).2.1 + 1)).2.1), false, nI (toR tx (skp tx (caE tx (p + 1)).2.1 + 1)).2.1, rd42, nI rs, nI rc, nI tm, ky43, vl44, mo45) gq gh gw gu gv) := by have z := g46; rw [c_78, if_neg (by decide)] at z; exact z
        have er : rdCase tx (p + 1) = (false, (toR tx (skp tx (caE tx (p + 1)).2.1 + 1)).2.1, ([], [], 0)) := by rw [rdCase_to, if_pos hy1, if_pos h58, c_78, if_neg (by decide)]
        rw [er]
        dsimp only
        rw [if_neg (by decide), if_neg (by decide)]
        exact ⟨rfl, ⟨_, _, _, _, g48, trivial⟩, fr30⟩

set_option maxRecDepth 20000 in
set_option maxHeartbeats 4000000 in
theorem cc_Md_case1 {h : px_H} {xs : List CS3} {tx : List Nat} {sn cn : Int32} {p rs rc tm : Nat} {kp : Bool} {wr rd ky vl mo : Int32} {gq : gQ} {gh : gH} {gw : gW} {gu : gU} {gv : gV} (H0 : h.2.2 269 = some (12, mB (nI tx.length, sn, cn) (nI p, true, wr, rd, nI rs, nI rc, nI tm, ky, vl, mo) gq gh gw gu gv)) (H1 : px_pa h 270 52 500 vN tx) (H2 : pMA h xs) (p0 : p + 1 ≤ tx.length) (p1 : okTx tx) (p2 : rc < 8) (p3 : xs.length = rc) (p4 : ∀ x ∈ xs, okC3 x) : px_wp 137 [.ref (269)] h (fun h1 r => r = some (.int (bI ((rdCase tx (p + 1)).1))) ∧ pMS h1 tx sn cn ((rdCase tx (p + 1)).2.1) true (if (rdCase tx (p + 1)).1 = true then wr else nI (rdCase tx (p + 1)).2.1) rs (if (rdCase tx (p + 1)).1 = true then rc + 1 else rc) tm gq gh gw gu gv (fun _ _ _ => True) ∧ pMA h1 (if (rdCase tx (p + 1)).1 = true then xs ++ [(rdCase tx (p + 1)).2.2] else xs) ∧ px_fj 269 1 274 10 h h1) := by
  have fr0 : px_fj 269 1 274 10 h h := fj_rf _ _ _ _ _
  have le := pa_len H1
  show px_to 137 0 [some (.ref (269)), none] [] h _
  refine e_aload_n f_137_0 rfl rfl ?_
  refine e_dup f_137_1 rfl rfl ?_
  refine e_getf f_137_2 H0 rfl rfl ?_
  show px_to 137 5 [some (.ref (269)), none] [.int (nI p), .ref (269)] h _
  refine e_iconst (v := nI 1) f_137_5 (by decide) rfl ?_
  refine e_iadd (z := nI (p + 1)) f_137_6 (nI_add _ _) rfl ?_
  refine e_putp (vs' := mB (nI tx.length, sn, cn) (nI (p + 1), true, wr, rd, nI rs, nI rc, nI tm, ky, vl, mo) gq gh gw gu gv) f_137_7 H0 (Nat.le_of_ble_eq_true rfl) (rfl) (rfl) rfl rfl (fun h1 g2 fx3 => ?_)
  have fr4 : px_fj 269 1 274 10 h h1 := fj_tr fr0 fx3 (by omega)
  refine e_iconst (v := nI 0) f_137_10 (by decide) rfl ?_
  refine e_istore_n (L' := [some (.ref (269)), some (.int (nI 0))]) f_137_11 (Nat.le_of_ble_eq_true rfl) rfl rfl ?_
  have g5 : pMS h1 tx sn cn (p + 1) true wr rs rc tm gq gh gw gu gv (fun _ _ _ => True) := ⟨_, _, _, _, g2, trivial⟩
  obtain ⟨hm7, fa8, fb9⟩ := fj_mid fr4
  have g6 : px_pa h1 270 52 500 vN tx := pa_fi (pa_fi H1 fa8 (by omega)) fb9 (by omega)
  have g15 : pMA h1 xs := pMA_fi H2 fx3 (by omega)
  obtain ⟨em10, es11, om12, ro13, wn14, g16, g17, g18, g19, g20, g21, g22, g23, g24, g25, hA26⟩ := id g15
  have hA0 := hA26.1
  refine ll_Md_evs1 (h0 := h1) (y := (caE tx (p + 1))) (es0 := es11) g6 p1 p2 (fun g1 q1 es1 z0 z1 z2 z3 z4 zf hy1 hy2 hy3 hy4 => ?_) (fun g1 q1 n1 es1 z0 z1 z2 z3 z4 zf hy1 hy2 hy3 hy4 hy5 hy6 hy7 hy8 => ?_) 25 0 (p + 1) [] es11 h1 (by omega) p0 (by omega) rfl rfl hA0.2.1 (fun i hi => absurd hi (by simp)) (fun _ _ => rfl) g5 g17 g18 g19 g20 (fj_rf _ _ _ _ _)
  · skip
    obtain ⟨hm27, fa28, fb29⟩ := fj_mid zf
    have fr30 : px_fj 269 1 274 10 h hm27 := fj_tr fr4 fa28 (by omega)
    have fr31 : px_fj 269 1 274 10 h g1 := fj_tr fr30 fb29 (by omega)
    refine e_iconst (v := nI 0) f_137_40 (by decide) rfl ?_
    refine e_iret f_137_41 rfl (rfl) ?_
    subst hy2
    have g32 : px_pa hm27 274 50 8 vN em10 := pa_fi g16 fa28 (by omega)
    have g33 : px_pa g1 274 50 8 vN em10 := pa_fi g32 fb29 (by omega)
    have g34 : px_pa hm27 279 50 8 vN om12 := pa_fi g21 fa28 (by omega)
    have g35 : px_pa g1 279 50 8 vN om12 := pa_fi g34 fb29 (by omega)
    have g36 : px_pa hm27 280 54 128 rK ro13 := pa_fi g22 fa28 (by omega)
    have g37 : px_pa g1 280 54 128 rK ro13 := pa_fi g36 fb29 (by omega)
    have g38 : px_pa hm27 281 53 128 rV ro13 := pa_fi g23 fa28 (by omega)
    have g39 : px_pa g1 281 53 128 rV ro13 := pa_fi g38 fb29 (by omega)
    have g40 : px_pa hm27 282 53 128 rT ro13 := pa_fi g24 fa28 (by omega)
    have g41 : px_pa g1 282 53 128 rT ro13 := pa_fi g40 fb29 (by omega)
    have g42 : px_pa hm27 283 52 8 vN wn14 := pa_fi g25 fa28 (by omega)
    have g43 : px_pa g1 283 52 8 vN wn14 := pa_fi g42 fb29 (by omega)
    have er : rdCase tx (p + 1) = (false, (caE tx (p + 1)).2.1, ([], [], 0)) := by rw [rdCase_to, if_neg (by rw [hy1]; decide)]
    rw [er]
    dsimp only
    rw [if_neg (by decide), if_neg (by decide)]
    rw [if_neg (by decide)]
    exact ⟨rfl, z0, ⟨_, _, _, _, _, g33, z1, z2, z3, z4, g35, g37, g39, g41, g43, okA_up hA26 p4 p3 ⟨hA0.1, hy3, hA0.2.2⟩ (fun _ _ => rfl) hy4 (fun _ _ => ⟨rfl, rfl⟩) (fun _ _ => rfl)⟩, fr31⟩
  · skip
    obtain ⟨hm44, fa45, fb46⟩ := fj_mid zf
    have fr47 : px_fj 269 1 274 10 h hm44 := fj_tr fr4 fa45 (by omega)
    have fr48 : px_fj 269 1 274 10 h g1 := fj_tr fr47 fb46 (by omega)
    have hs1 : sgn tx q1 = sgn tx (caE tx (p + 1)).2.1 := by unfold sgn; rw [hy3]
    refine e_aload_n f_137_48 rfl rfl ?_
    obtain ⟨rd49, ky50, vl51, mo52, g53, hX54⟩ := id z0
    refine e_getf f_137_49 g53 rfl rfl ?_
    show px_to 137 52 [some (.ref (269)), some (.int (nI n1))] [.int (bI true)] g1 _
    refine e_if_eq_f f_137_52 (by decide) rfl ?_
    refine e_aload_n f_137_55 rfl rfl ?_
    refine e_getf f_137_56 g53 rfl rfl ?_
    refine e_aload_n f_137_59 rfl rfl ?_
    refine e_getf f_137_60 g53 rfl rfl ?_
    show px_to 137 63 [some (.ref (269)), some (.int (nI n1))] [.int (nI rc), .ref (274)] g1 _
    refine e_iload_n f_137_63 rfl rfl ?_
    have g55 : px_pa hm44 274 50 8 vN em10 := pa_fi g16 fa45 (by omega)
    have g56 : px_pa g1 274 50 8 vN em10 := pa_fi g55 fb46 (by omega)
    refine e_iastore_p (xs := em10) (x := n1) f_137_64 g56 (by omega) (by first | omega | (simp only [List.length_set]; omega)) (rfl) rfl (fun h57 g58 fx59 => ?_)
    have fr60 : px_fj 269 1 274 10 h h57 := fj_tr fr48 fx59 (by omega)
    refine e_aload_n f_137_65 rfl rfl ?_
    refine e_bipush (v := nI 58) f_137_66 (by decide) rfl ?_
    have g61 : h57.2.2 269 = some (12, mB (nI tx.length, sn, cn) (nI q1, true, wr, rd49, nI rs, nI rc, nI tm, ky50, vl51, mo52) gq gh gw gu gv) := fi_at g53 fx59 (by omega)
    obtain ⟨hm63, fa64, fb65⟩ := fj_mid fr60
    have g62 : px_pa h57 270 52 500 vN tx := pa_fi (pa_fi H1 fa64 (by omega)) fb65 (by omega)
    refine e_callV (As := [.int (nI 58)]) (rest := []) f_137_68 rfl rfl rfl (Nat.le_of_ble_eq_true rfl) (Nat.le_of_ble_eq_true rfl) g61 rfl (Nat.le_of_ble_eq_true rfl) (cc_Md_takes (c := 58) (tx := tx) (sn := sn) (cn := cn) (p := q1) (kp := true) (wr := wr) (rd := rd49) (rs := rs) (rc := rc) (tm := tm) (ky := ky50) (vl := vl51) (mo := mo52) (gq := gq) (gh := gh) (gw := gw) (gu := gu) (gv := gv) g61 g62 (hy2) (p1) (by omega)) rfl (fun h66 r67 q68 => ?_)
    obtain ⟨rfl, g69, fx70⟩ := q68
    have fr71 : px_fj 269 1 274 10 h h66 := fj_tr fr60 fx70 (by omega)
    show px_to 137 71 [some (.ref (269)), some (.int (nI n1))] [.int (bI (decide (sgn tx q1 = 58)))] h66 _
    refine e_if_eq f_137_71 rfl (fun c_71 => ?_) (fun c_71 => ?_)
    · skip
      have c_71 : (decide (sgn tx q1 = 58)) = false := bI_f c_71
      have h58 : ¬ sgn tx (caE tx (p + 1)).2.1 = 58 := by rw [← hs1]; exact of_decide_eq_false c_71
      have hq58 : ¬ sgn tx q1 = 58 := fun z => h58 (hs1.symm.trans z)
      have g72 : h66.2.2 269 = some (12, mB (nI tx.length, sn, cn) (nI (skp tx (caE tx (p + 1)).2.1), true, nI (skp tx (caE tx (p + 1)).2.1), rd49, nI rs, nI rc, nI tm, ky50, vl51, mo52) gq gh gw gu gv) := by have z := g69; rw [if_neg hq58, if_neg hq58, hy3] at z; exact z
      refine e_iconst (v := nI 0) f_137_81 (by decide) rfl ?_
      refine e_iret f_137_82 rfl (rfl) ?_
      have g73 : px_pa h66 274 50 8 vN (em10.set rc n1) := pa_fi g58 fx70 (by omega)
      have g74 : px_pa h57 275 52 192 evS es1 := pa_fi z1 fx59 (by omega)
      have g75 : px_pa h66 275 52 192 evS es1 := pa_fi g74 fx70 (by omega)
      have g76 : px_pa h57 276 54 192 evK es1 := pa_fi z2 fx59 (by omega)
      have g77 : px_pa h66 276 54 192 evK es1 := pa_fi g76 fx70 (by omega)
      have g78 : px_pa h57 277 53 192 evV es1 := pa_fi z3 fx59 (by omega)
      have g79 : px_pa h66 277 53 192 evV es1 := pa_fi g78 fx70 (by omega)
      have g80 : px_pa h57 278 53 192 evT es1 := pa_fi z4 fx59 (by omega)
      have g81 : px_pa h66 278 53 192 evT es1 := pa_fi g80 fx70 (by omega)
      have g82 : px_pa hm44 279 50 8 vN om12 := pa_fi g21 fa45 (by omega)
      have g83 : px_pa g1 279 50 8 vN om12 := pa_fi g82 fb46 (by omega)
      have g84 : px_pa h57 279 50 8 vN om12 := pa_fi g83 fx59 (by omega)
      have g85 : px_pa h66 279 50 8 vN om12 := pa_fi g84 fx70 (by omega)
      have g86 : px_pa hm44 280 54 128 rK ro13 := pa_fi g22 fa45 (by omega)
      have g87 : px_pa g1 280 54 128 rK ro13 := pa_fi g86 fb46 (by omega)
      have g88 : px_pa h57 280 54 128 rK ro13 := pa_fi g87 fx59 (by omega)
      have g89 : px_pa h66 280 54 128 rK ro13 := pa_fi g88 fx70 (by omega)
      have g90 : px_pa hm44 281 53 128 rV ro13 := pa_fi g23 fa45 (by omega)
      have g91 : px_pa g1 281 53 128 rV ro13 := pa_fi g90 fb46 (by omega)
      have g92 : px_pa h57 281 53 128 rV ro13 := pa_fi g91 fx59 (by omega)
      have g93 : px_pa h66 281 53 128 rV ro13 := pa_fi g92 fx70 (by omega)
      have g94 : px_pa hm44 282 53 128 rT ro13 := pa_fi g24 fa45 (by omega)
      have g95 : px_pa g1 282 53 128 rT ro13 := pa_fi g94 fb46 (by omega)
      have g96 : px_pa h57 282 53 128 rT ro13 := pa_fi g95 fx59 (by omega)
      have g97 : px_pa h66 282 53 128 rT ro13 := pa_fi g96 fx70 (by omega)
      have g98 : px_pa hm44 283 52 8 vN wn14 := pa_fi g25 fa45 (by omega)
      have g99 : px_pa g1 283 52 8 vN wn14 := pa_fi g98 fb46 (by omega)
      have g100 : px_pa h57 283 52 8 vN wn14 := pa_fi g99 fx59 (by omega)
      have g101 : px_pa h66 283 52 8 vN wn14 := pa_fi g100 fx70 (by omega)
      have er : rdCase tx (p + 1) = (false, skp tx (caE tx (p + 1)).2.1, ([], [], 0)) := by rw [rdCase_to, if_pos hy1, if_neg h58]
      rw [er]
      dsimp only
      rw [if_neg (by decide), if_neg (by decide)]
      rw [if_neg (by decide)]
      exact ⟨rfl, ⟨_, _, _, _, g72, trivial⟩, ⟨_, _, _, _, _, g73, g75, g77, g79, g81, g85, g89, g93, g97, g101, okA_up hA26 p4 p3 ⟨by rw [List.length_set]; exact hA0.1, hy6, hA0.2.2⟩ (fun i hi => getD_set_ne (fun e => hi e.symm)) hy8 (fun _ _ => ⟨rfl, rfl⟩) (fun _ _ => rfl)⟩, fr71⟩
    · skip
      have c_71 : (decide (sgn tx q1 = 58)) = true := bI_t' c_71
      have h58 : sgn tx (caE tx (p + 1)).2.1 = 58 := by rw [← hs1]; exact of_decide_eq_true c_71
      have hq58 : sgn tx q1 = 58 := hs1.trans h58
      have hsl3 : (skp tx (caE tx (p + 1)).2.1 + 1) ≤ tx.length := sgn_nx h58 (by decide)
      have g102 : h66.2.2 269 = some (12, mB (nI tx.length, sn, cn) (nI (skp tx (caE tx (p + 1)).2.1 + 1), true, wr, rd49, nI rs, nI rc, nI tm, ky50, vl51, mo52) gq gh gw gu gv) := by have z := g69; rw [if_pos hq58, if_pos hq58, hy3] at z; exact z
      refine e_aload_n f_137_74 rfl rfl ?_
      obtain ⟨hm104, fa105, fb106⟩ := fj_mid fr71
      have g103 : px_pa h66 270 52 500 vN tx := pa_fi (pa_fi H1 fa105 (by omega)) fb106 (by omega)
      have g107 : px_pa hm44 279 50 8 vN om12 := pa_fi g21 fa45 (by omega)
      have g108 : px_pa g1 279 50 8 vN om12 := pa_fi g107 fb46 (by omega)
      have g109 : px_pa h57 279 50 8 vN om12 := pa_fi g108 fx59 (by omega)
      have g110 : px_pa h66 279 50 8 vN om12 := pa_fi g109 fx70 (by omega)
      have g111 : px_pa hm44 280 54 128 rK ro13 := pa_fi g22 fa45 (by omega)
      have g112 : px_pa g1 280 54 128 rK ro13 := pa_fi g111 fb46 (by omega)
      have g113 : px_pa h57 280 54 128 rK ro13 := pa_fi g112 fx59 (by omega)
      have g114 : px_pa h66 280 54 128 rK ro13 := pa_fi g113 fx70 (by omega)
      have g115 : px_pa hm44 281 53 128 rV ro13 := pa_fi g23 fa45 (by omega)
      have g116 : px_pa g1 281 53 128 rV ro13 := pa_fi g115 fb46 (by omega)
      have g117 : px_pa h57 281 53 128 rV ro13 := pa_fi g116 fx59 (by omega)
      have g118 : px_pa h66 281 53 128 rV ro13 := pa_fi g117 fx70 (by omega)
      have g119 : px_pa hm44 282 53 128 rT ro13 := pa_fi g24 fa45 (by omega)
      have g120 : px_pa g1 282 53 128 rT ro13 := pa_fi g119 fb46 (by omega)
      have g121 : px_pa h57 282 53 128 rT ro13 := pa_fi g120 fx59 (by omega)
      have g122 : px_pa h66 282 53 128 rT ro13 := pa_fi g121 fx70 (by omega)
      have g123 : px_pa hm44 283 52 8 vN wn14 := pa_fi g25 fa45 (by omega)
      have g124 : px_pa g1 283 52 8 vN wn14 := pa_fi g123 fb46 (by omega)
      have g125 : px_pa h57 283 52 8 vN wn14 := pa_fi g124 fx59 (by omega)
      have g126 : px_pa h66 283 52 8 vN wn14 := pa_fi g125 fx70 (by omega)
      refine e_callV (As := []) (rest := []) f_137_75 rfl rfl rfl (Nat.le_of_ble_eq_true rfl) (Nat.le_of_ble_eq_true rfl) g102 rfl (Nat.le_of_ble_eq_true rfl) (cc_Md_outs1 (om := om12) (ro := ro13) (wn := wn14) (tx := tx) (sn := sn) (cn := cn) (p := skp tx (caE tx (p + 1)).2.1 + 1) (kp := true) (wr := wr) (rd := rd49) (rs := rs) (rc := rc) (tm := tm) (ky := ky50) (vl := vl51) (mo := mo52) (gq := gq) (gh := gh) (gw := gw) (gu := gu) (gv := gv) g102 g103 g110 g114 g118 g122 g126 (hsl3) (p1) (by omega) (hA0.2.2.1) (hA0.2.2.2.1) (hA0.2.2.2.2)) rfl (fun h127 r128 q129 => ?_)
      obtain ⟨rfl, g130, g131, fx132⟩ := q129
      obtain ⟨hm133, fa134, fb135⟩ := fj_mid fx132
      have fr136 : px_fj 269 1 274 10 h hm133 := fj_tr fr71 fa134 (by omega)
      have fr137 : px_fj 269 1 274 10 h h127 := fj_tr fr136 fb135 (by omega)
      show px_to 137 78 [some (.ref (269)), some (.int (nI n1))] [.int (bI ((toR tx (skp tx (caE tx (p + 1)).2.1 + 1)).1))] h127 _
      refine e_if_ne f_137_78 rfl (fun c_78 => ?_) (fun c_78 => ?_)
      · skip
        have c_78 : ((toR tx (skp tx (caE tx (p + 1)).2.1 + 1)).1) = true := bI_t c_78
        obtain ⟨rd138, ky139, vl140, mo141, g142, hX143⟩ := id g130
        have g144 : h127.2.2 269 = some (12, mB (nI tx.length, sn, cn) (nI ((toR tx (skp tx (caE tx (p + 1)).2.1 + 1)).2.1), true, wr, rd138, nI rs, nI rc, nI tm, ky139, vl140, mo141) gq gh gw gu gv) := by have z := g142; rw [c_78, if_pos rfl] at z; exact z
        refine e_aload_n f_137_83 rfl rfl ?_
        refine e_dup f_137_84 rfl rfl ?_
        refine e_getf f_137_85 g144 rfl rfl ?_
        show px_to 137 88 [some (.ref (269)), some (.int (nI n1))] [.int (nI rc), .ref (269)] h127 _
        refine e_iconst (v := nI 1) f_137_88 (by decide) rfl ?_
        refine e_iadd (z := nI (rc + 1)) f_137_89 (nI_add _ _) rfl ?_
        refine e_putp (vs' := mB (nI tx.length, sn, cn) (nI ((toR tx (skp tx (caE tx (p + 1)).2.1 + 1)).2.1), true, wr, rd138, nI rs, nI (rc + 1), nI tm, ky139, vl140, mo141) gq gh gw gu gv) f_137_90 g144 (Nat.le_of_ble_eq_true rfl) (rfl) (rfl) rfl rfl (fun h145 g146 fx147 => ?_)
        have fr148 : px_fj 269 1 274 10 h h145 := fj_tr fr137 fx147 (by omega)
        refine e_iconst (v := nI 1) f_137_93 (by decide) rfl ?_
        refine e_iret f_137_94 rfl (rfl) ?_
        have g152 : pMO h145 om12 ro13 wn14 rc (toR tx (skp tx (caE tx (p + 1)).2.1 + 1)) := pMO_fi g131 fx147 (by omega)
        obtain ⟨om149, ro150, wn151, g153, g154, g155, g156, g157, hO158⟩ := id g152
        have g159 : px_pa h66 274 50 8 vN (em10.set rc n1) := pa_fi g58 fx70 (by omega)
        have g160 : px_pa hm133 274 50 8 vN (em10.set rc n1) := pa_fi g159 fa134 (by omega)
        have g161 : px_pa h127 274 50 8 vN (em10.set rc n1) := pa_fi g160 fb135 (by omega)
        have g162 : px_pa h145 274 50 8 vN (em10.set rc n1) := pa_fi g161 fx147 (by omega)
        have g163 : px_pa h57 275 52 192 evS es1 := pa_fi z1 fx59 (by omega)
        have g164 : px_pa h66 275 52 192 evS es1 := pa_fi g163 fx70 (by omega)
        have g165 : px_pa hm133 275 52 192 evS es1 := pa_fi g164 fa134 (by omega)
        have g166 : px_pa h127 275 52 192 evS es1 := pa_fi g165 fb135 (by omega)
        have g167 : px_pa h145 275 52 192 evS es1 := pa_fi g166 fx147 (by omega)
        have g168 : px_pa h57 276 54 192 evK es1 := pa_fi z2 fx59 (by omega)
        have g169 : px_pa h66 276 54 192 evK es1 := pa_fi g168 fx70 (by omega)
        have g170 : px_pa hm133 276 54 192 evK es1 := pa_fi g169 fa134 (by omega)
        have g171 : px_pa h127 276 54 192 evK es1 := pa_fi g170 fb135 (by omega)
        have g172 : px_pa h145 276 54 192 evK es1 := pa_fi g171 fx147 (by omega)
        have g173 : px_pa h57 277 53 192 evV es1 := pa_fi z3 fx59 (by omega)
        have g174 : px_pa h66 277 53 192 evV es1 := pa_fi g173 fx70 (by omega)
        have g175 : px_pa hm133 277 53 192 evV es1 := pa_fi g174 fa134 (by omega)
        have g176 : px_pa h127 277 53 192 evV es1 := pa_fi g175 fb135 (by omega)
        have g177 : px_pa h145 277 53 192 evV es1 := pa_fi g176 fx147 (by omega)
        have g178 : px_pa h57 278 53 192 evT es1 := pa_fi z4 fx59 (by omega)
        have g179 : px_pa h66 278 53 192 evT es1 := pa_fi g178 fx70 (by omega)
        have g180 : px_pa hm133 278 53 192 evT es1 := pa_fi g179 fa134 (by omega)
        have g181 : px_pa h127 278 53 192 evT es1 := pa_fi g180 fb135 (by omega)
        have g182 : px_pa h145 278 53 192 evT es1 := pa_fi g181 fx147 (by omega)
        have er : rdCase tx (p + 1) = (true, (toR tx (skp tx (caE tx (p + 1)).2.1 + 1)).2.1, ((caE tx (p + 1)).2.2, (toR tx (skp tx (caE tx (p + 1)).2.1 + 1)).2.2.1, (toR tx (skp tx (caE tx (p + 1)).2.1 + 1)).2.2.2)) := by rw [rdCase_to, if_pos hy1, if_pos h58, c_78, if_pos rfl]
        rw [er]
        dsimp only
        rw [if_pos rfl, if_pos rfl]
        rw [if_pos rfl]
        exact ⟨rfl, ⟨_, _, _, _, g146, trivial⟩, ⟨_, _, _, _, _, g162, g167, g172, g177, g182, g153, g154, g155, g156, g157, okA_app (x := ((caE tx (p + 1)).2.2, (toR tx (skp tx (caE tx (p + 1)).2.1 + 1)).2.2.1, (toR tx (skp tx (caE tx (p + 1)).2.1 + 1)).2.2.2)) (okA_up hA26 p4 p3 ⟨by rw [List.length_set]; exact hA0.1, hy6, hO158.1, hO158.2.1, hO158.2.2.1⟩ (fun i hi => getD_set_ne (fun e => hi e.symm)) hy8 hO158.2.2.2.1 hO158.2.2.2.2.1) p3 ((getD_set_same (by omega)).trans hy4) hy7 (hO158.2.2.2.2.2 c_78).1 (hO158.2.2.2.2.2 c_78).2.2 (hO158.2.2.2.2.2 c_78).2.1⟩, fr148⟩
      · skip
        have c_78 : ((toR tx (skp tx (caE tx (p + 1)).2.1 + 1)).1) = false := bI_f' c_78
        refine e_iconst (v := nI 0) f_137_81 (by decide) rfl ?_
        refine e_iret f_137_82 rfl (rfl) ?_
        obtain ⟨om183, ro184, wn185, g186, g187, g188, g189, g190, hO191⟩ := id g131
        obtain ⟨rd192, ky193, vl194, mo195, g196, hX197⟩ := id g130
        have g198 : h127.2.2 269 = some (12, mB (nI tx.length, sn, cn) (nI ((toR tx (skp tx (caE tx (p + 1)).2.1 + 1)).2.1), true, nI (toR tx (skp tx (caE tx (p + 1)).2.1 + 1)).2.1, rd192, nI rs, nI rc, nI tm, ky193, vl194, mo195) gq gh gw gu gv) := by have z := g196; rw [c_78, if_neg (by decide)] at z; exact z
        have g199 : px_pa h66 274 50 8 vN (em10.set rc n1) := pa_fi g58 fx70 (by omega)
        have g200 : px_pa hm133 274 50 8 vN (em10.set rc n1) := pa_fi g199 fa134 (by omega)
        have g201 : px_pa h127 274 50 8 vN (em10.set rc n1) := pa_fi g200 fb135 (by omega)
        have g202 : px_pa h57 275 52 192 evS es1 := pa_fi z1 fx59 (by omega)
        have g203 : px_pa h66 275 52 192 evS es1 := pa_fi g202 fx70 (by omega)
        have g204 : px_pa hm133 275 52 192 evS es1 := pa_fi g203 fa134 (by omega)
        have g205 : px_pa h127 275 52 192 evS es1 := pa_fi g204 fb135 (by omega)
        have g206 : px_pa h57 276 54 192 evK es1 := pa_fi z2 fx59 (by omega)
        have g207 : px_pa h66 276 54 192 evK es1 := pa_fi g206 fx70 (by omega)
        have g208 : px_pa hm133 276 54 192 evK es1 := pa_fi g207 fa134 (by omega)
        have g209 : px_pa h127 276 54 192 evK es1 := pa_fi g208 fb135 (by omega)
        have g210 : px_pa h57 277 53 192 evV es1 := pa_fi z3 fx59 (by omega)
        have g211 : px_pa h66 277 53 192 evV es1 := pa_fi g210 fx70 (by omega)
        have g212 : px_pa hm133 277 53 192 evV es1 := pa_fi g211 fa134 (by omega)
        have g213 : px_pa h127 277 53 192 evV es1 := pa_fi g212 fb135 (by omega)
        have g214 : px_pa h57 278 53 192 evT es1 := pa_fi z4 fx59 (by omega)
        have g215 : px_pa h66 278 53 192 evT es1 := pa_fi g214 fx70 (by omega)
        have g216 : px_pa hm133 278 53 192 evT es1 := pa_fi g215 fa134 (by omega)
        have g217 : px_pa h127 278 53 192 evT es1 := pa_fi g216 fb135 (by omega)
        have er : rdCase tx (p + 1) = (false, (toR tx (skp tx (caE tx (p + 1)).2.1 + 1)).2.1, ([], [], 0)) := by rw [rdCase_to, if_pos hy1, if_pos h58, c_78, if_neg (by decide)]
        rw [er]
        dsimp only
        rw [if_neg (by decide), if_neg (by decide)]
        rw [if_neg (by decide)]
        exact ⟨rfl, ⟨_, _, _, _, g198, trivial⟩, ⟨_, _, _, _, _, g201, g205, g209, g213, g217, g186, g187, g188, g189, g190, okA_up hA26 p4 p3 ⟨by rw [List.length_set]; exact hA0.1, hy6, hO191.1, hO191.2.1, hO191.2.2.1⟩ (fun i hi => getD_set_ne (fun e => hi e.symm)) hy8 hO191.2.2.2.1 hO191.2.2.2.2.1⟩, fr137⟩
