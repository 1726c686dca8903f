def pMO (h : px_H) (om0 : List Nat) (ro0 : List Row) (wn0 : List Nat) (rc : Nat) (R : Bool × Nat × List Row × Nat) : Prop := ∃ (om : List Nat) (ro : List Row) (wn : List Nat), px_pa h 279 50 8 vN om ∧ px_pa h 280 54 128 rK ro ∧ px_pa h 281 53 128 rV ro ∧ px_pa h 282 53 128 rT ro ∧ px_pa h 283 52 8 vN wn ∧ (om.length = 8 ∧ ro.length = 128 ∧ wn.length = 8 ∧ (∀ i, i ≠ rc → om.getD i 0 = om0.getD i 0 ∧ wn.getD i 0 = wn0.getD i 0) ∧ (∀ i, i < 16 * rc → ro.getD i (0, 0, 0) = ro0.getD i (0, 0, 0)) ∧ (R.1 = true → om.getD rc 0 = R.2.2.1.length ∧ wn.getD rc 0 = R.2.2.2 ∧ inR ro rc R.2.2.1))
theorem pMO_fi {h h1 : px_H} {om0 : List Nat} {ro0 : List Row} {wn0 : List Nat} {rc : Nat} {R : Bool × Nat × List Row × Nat} {lo n : Nat} (q : pMO h om0 ro0 wn0 rc R) (f : px_fi lo n h h1) (d : 284 ≤ lo ∨ lo + n ≤ 279) : pMO h1 om0 ro0 wn0 rc R := by
  obtain ⟨om, ro, wn, z1, z2, z3, z4, z5, y⟩ := q
  exact ⟨om, ro, wn, pa_fi z1 f (by omega), pa_fi z2 f (by omega), pa_fi z3 f (by omega), pa_fi z4 f (by omega), pa_fi z5 f (by omega), y⟩

set_option maxRecDepth 20000 in
set_option maxHeartbeats 4000000 in
theorem cc_Md_outs0 {h : px_H} {om : List Nat} {ro : List Row} {wn : List Nat} {tx : List Nat} {sn cn : Int32} {p rs rc tm : Nat} {kp : Bool} {wr rd ky vl mo : Int32} {gq : gQ} {gh : gH} {gw : gW} {gu : gU} {gv : gV} (H0 : h.2.2 269 = some (12, mB (nI tx.length, sn, cn) (nI p, false, wr, rd, nI rs, nI rc, nI tm, ky, vl, mo) gq gh gw gu gv)) (H1 : px_pa h 270 52 500 vN tx) (p0 : p ≤ tx.length) (p1 : okTx tx) (p2 : rc < 8) : px_wp 136 [.ref (269)] h (fun h1 r => r = some (.int (bI ((toR tx p).1))) ∧ pMS h1 tx sn cn ((toR tx p).2.1) false (if (toR tx p).1 = true then wr else nI (toR tx p).2.1) rs rc tm gq gh gw gu gv (fun _ _ _ => True) ∧ px_fi 269 1 h h1) := by
  have fr0 : px_fi 269 1 h h := fi_rf _ _ _
  have le := pa_len H1
  show px_to 136 0 [some (.ref (269)), none, none] [] h _
  refine e_iconst (v := nI 0) f_136_0 (by decide) rfl ?_
  refine e_istore_n (L' := [some (.ref (269)), some (.int (nI 0)), none]) f_136_1 (Nat.le_of_ble_eq_true rfl) rfl rfl ?_
  have g1 : pMS h tx sn cn p false wr rs rc tm gq gh gw gu gv (fun _ _ _ => True) := ⟨_, _, _, _, H0, trivial⟩
  refine ll_Md_outs0 (h0 := h) (y := (rdTold tx 16 p [])) (ro0 := List.replicate 128 (0, 0, 0)) H1 p1 p2 (fun g1 q1 ro1 z0 zf hy1 hy2 hy3 hy4 => ?_) (fun g1 q1 n1 ro1 z0 zf hy1 hy2 hy3 hy4 hy5 hy6 hy7 hy8 => ?_) 17 0 p [] (List.replicate 128 (0, 0, 0)) h (by omega) p0 (by omega) rfl rfl List.length_replicate trivial (fun _ _ => rfl) g1 (fi_rf _ _ _)
  · skip
    have fr2 : px_fi 269 1 h g1 := fi_tr fr0 zf (by omega)
    refine e_iconst (v := nI 0) f_136_33 (by decide) rfl ?_
    refine e_iret f_136_34 rfl (rfl) ?_
    subst hy2
    have er : toR tx p = (false, (rdTold tx 16 p []).2.1, [], 0) := by unfold toR; rw [if_neg (by rw [hy1]; decide)]
    rw [er]
    dsimp only
    rw [if_neg (by decide)]
    exact ⟨rfl, z0, fr2⟩
  · skip
    have fr3 : px_fi 269 1 h g1 := fi_tr fr0 zf (by omega)
    have hs1 : sgn tx q1 = sgn tx (rdTold tx 16 p []).2.1 := by unfold sgn; rw [hy3]
    have hslq : sgn tx (rdTold tx 16 p []).2.1 < 127 := tx_lt p1 _
    have hom : (sgn tx q1 ∈ [61, 126, 33, 33]) ↔ (sgn tx (rdTold tx 16 p []).2.1 ∈ ordL) := by rw [hs1]; simp only [ordL, List.mem_cons, List.not_mem_nil, or_false]; omega
    refine e_aload_n f_136_91 rfl rfl ?_
    refine e_bipush (v := nI 61) f_136_92 (by decide) rfl ?_
    refine e_bipush (v := nI 126) f_136_94 (by decide) rfl ?_
    refine e_bipush (v := nI 33) f_136_96 (by decide) rfl ?_
    refine e_bipush (v := nI 33) f_136_98 (by decide) rfl ?_
    obtain ⟨rd4, ky5, vl6, mo7, g8, hX9⟩ := id z0
    have g10 : px_pa g1 270 52 500 vN tx := pa_fi H1 fr3 (by omega)
    refine e_callV (As := [.int (nI 61), .int (nI 126), .int (nI 33), .int (nI 33)]) (rest := []) f_136_100 rfl rfl rfl (Nat.le_of_ble_eq_true rfl) (Nat.le_of_ble_eq_true rfl) g8 rfl (Nat.le_of_ble_eq_true rfl) (cc_Md_one (a1 := 61) (a2 := 126) (a3 := 33) (a4 := 33) (tx := tx) (sn := sn) (cn := cn) (p := q1) (kp := false) (wr := wr) (rd := rd4) (rs := rs) (rc := rc) (tm := tm) (ky := ky5) (vl := vl6) (mo := mo7) (gq := gq) (gh := gh) (gw := gw) (gu := gu) (gv := gv) g8 g10 (hy2) (p1) (by decide)) rfl (fun h11 r12 q13 => ?_)
    obtain ⟨rfl, g14, fx15⟩ := q13
    have fr16 : px_fi 269 1 h h11 := fi_tr fr3 fx15 (by omega)
    show px_to 136 103 [some (.ref (269)), some (.int (nI n1)), none] [.int (bI (decide (sgn tx q1 ∈ [61, 126, 33, 33])))] h11 _
    refine e_if_ne f_136_103 rfl (fun c_103 => ?_) (fun c_103 => ?_)
    · skip
      have c_103 : (decide (sgn tx q1 ∈ [61, 126, 33, 33])) = true := bI_t c_103
      have hin : sgn tx (rdTold tx 16 p []).2.1 ∈ ordL := hom.mp (of_decide_eq_true c_103)
      have hinl : sgn tx q1 ∈ [61, 126, 33, 33] := of_decide_eq_true c_103
      have hsl3 : skp tx (rdTold tx 16 p []).2.1 + 1 ≤ tx.length := sgn_next hin (by decide)
      have g17 : h11.2.2 269 = some (12, mB (nI tx.length, sn, cn) (nI (skp tx (rdTold tx 16 p []).2.1 + 1), false, wr, nI (sgn tx (rdTold tx 16 p []).2.1), nI rs, nI rc, nI tm, ky5, vl6, mo7) gq gh gw gu gv) := by have z := g14; rw [if_pos hinl, if_pos hinl, if_pos hinl, hs1, hy3] at z; exact z
      refine e_aload_n f_136_108 rfl rfl ?_
      refine e_getf f_136_109 g17 rfl rfl ?_
      show px_to 136 112 [some (.ref (269)), some (.int (nI n1)), none] [.int (bI false)] h11 _
      refine e_if_eq_t f_136_112 (by decide) ?_
      refine e_aload_n f_136_139 rfl rfl ?_
      refine e_bipush (v := nI 59) f_136_140 (by decide) rfl ?_
      have g18 : px_pa h11 270 52 500 vN tx := pa_fi H1 fr16 (by omega)
      refine e_callV (As := [.int (nI 59)]) (rest := []) f_136_142 rfl rfl rfl (Nat.le_of_ble_eq_true rfl) (Nat.le_of_ble_eq_true rfl) g17 rfl (Nat.le_of_ble_eq_true rfl) (cc_Md_takes (c := 59) (tx := tx) (sn := sn) (cn := cn) (p := skp tx (rdTold tx 16 p []).2.1 + 1) (kp := false) (wr := wr) (rd := nI (sgn tx (rdTold tx 16 p []).2.1)) (rs := rs) (rc := rc) (tm := tm) (ky := ky5) (vl := vl6) (mo := mo7) (gq := gq) (gh := gh) (gw := gw) (gu := gu) (gv := gv) g17 g18 (hsl3) (p1) (by omega)) rfl (fun h19 r20 q21 => ?_)
      obtain ⟨rfl, g22, fx23⟩ := q21
      have fr24 : px_fi 269 1 h h19 := fi_tr fr16 fx23 (by omega)
      show px_to 136 145 [some (.ref (269)), some (.int (nI n1)), none] [.int (bI (decide (sgn tx (skp tx (rdTold tx 16 p []).2.1 + 1) = 59)))] h19 _
      refine e_iret f_136_145 rfl (nw_bI _) ?_
      have zz := g22
      by_cases c59 : sgn tx (skp tx (rdTold tx 16 p []).2.1 + 1) = 59
      · skip
        have er : toR tx p = (true, skp tx (skp tx (rdTold tx 16 p []).2.1 + 1) + 1, (rdTold tx 16 p []).2.2, sgn tx (rdTold tx 16 p []).2.1) := by unfold toR; rw [if_pos hy1, if_pos hin, if_pos c59]
        rw [if_pos c59, if_pos c59] at zz
        rw [er, decide_eq_true c59]
        dsimp only
        rw [if_pos rfl]
        exact ⟨rfl, ⟨_, _, _, _, zz, trivial⟩, fr24⟩
      · skip
        have er : toR tx p = (false, skp tx (skp tx (rdTold tx 16 p []).2.1 + 1), [], 0) := by unfold toR; rw [if_pos hy1, if_pos hin, if_neg c59]
        rw [if_neg c59, if_neg c59] at zz
        rw [er, decide_eq_false c59]
        dsimp only
        rw [if_neg (by decide)]
        exact ⟨rfl, ⟨_, _, _, _, zz, trivial⟩, fr24⟩
    · skip
      have c_103 : (decide (sgn tx q1 ∈ [61, 126, 33, 33])) = false := bI_f' c_103
      have hin : ¬ sgn tx (rdTold tx 16 p []).2.1 ∈ ordL := fun z => of_decide_eq_false c_103 (hom.mpr z)
      have hinl : ¬ sgn tx q1 ∈ [61, 126, 33, 33] := of_decide_eq_false c_103
      have g25 : h11.2.2 269 = some (12, mB (nI tx.length, sn, cn) (nI (skp tx (rdTold tx 16 p []).2.1), false, nI (skp tx (rdTold tx 16 p []).2.1), if sgn tx q1 ∈ [61, 126, 33, 33] then nI (sgn tx q1) else rd4, nI rs, nI rc, nI tm, ky5, vl6, mo7) gq gh gw gu gv) := by have z := g14; rw [if_neg hinl, if_neg hinl, hy3] at z; exact z
      refine e_iconst (v := nI 0) f_136_106 (by decide) rfl ?_
      refine e_iret f_136_107 rfl (rfl) ?_
      have er : toR tx p = (false, skp tx (rdTold tx 16 p []).2.1, [], 0) := by unfold toR; rw [if_pos hy1, if_neg hin]
      rw [er]
      dsimp only
      rw [if_neg (by decide)]
      exact ⟨rfl, ⟨_, _, _, _, g25, trivial⟩, fr16⟩

set_option maxRecDepth 20000 in
set_option maxHeartbeats 4000000 in
theorem cc_Md_outs1 {h : px_H} {om : List Nat} {ro : List Row} {wn : List Nat} {tx : List Nat} {sn cn : Int32} {p rs rc tm : Nat} {kp : Bool} {wr rd ky vl mo : Int32} {gq : gQ} {gh : gH} {gw : gW} {gu : gU} {gv : gV} (H0 : h.2.2 269 = some (12, mB (nI tx.length, sn, cn) (nI p, true, wr, rd, nI rs, nI rc, nI tm, ky, vl, mo) gq gh gw gu gv)) (H1 : px_pa h 270 52 500 vN tx) (H2 : px_pa h 279 50 8 vN om) (H3 : px_pa h 280 54 128 rK ro) (H4 : px_pa h 281 53 128 rV ro) (H5 : px_pa h 282 53 128 rT ro) (H6 : px_pa h 283 52 8 vN wn) (p0 : p ≤ tx.length) (p1 : okTx tx) (p2 : rc < 8) (p3 : om.length = 8) (p4 : ro.length = 128) (p5 : wn.length = 8) : px_wp 136 [.ref (269)] h (fun h1 r => r = some (.int (bI ((toR tx p).1))) ∧ pMS h1 tx sn cn ((toR tx p).2.1) true (if (toR tx p).1 = true then wr else nI (toR tx p).2.1) rs rc tm gq gh gw gu gv (fun _ _ _ => True) ∧ pMO h1 om ro wn rc (toR tx p) ∧ px_fj 269 1 279 5 h h1) := by
  have fr0 : px_fj 269 1 279 5 h h := fj_rf _ _ _ _ _
  have le := pa_len H1
  show px_to 136 0 [some (.ref (269)), none, none] [] h _
  refine e_iconst (v := nI 0) f_136_0 (by decide) rfl ?_
  refine e_istore_n (L' := [some (.ref (269)), some (.int (nI 0)), none]) f_136_1 (Nat.le_of_ble_eq_true rfl) rfl rfl ?_
  have g1 : pMS h tx sn cn p true wr rs rc tm gq gh gw gu gv (fun _ _ _ => True) := ⟨_, _, _, _, H0, trivial⟩
  refine ll_Md_outs1 (h0 := h) (y := (rdTold tx 16 p [])) (ro0 := ro) H1 p1 p2 (fun g1 q1 ro1 z0 z1 z2 z3 zf hy1 hy2 hy3 hy4 => ?_) (fun g1 q1 n1 ro1 z0 z1 z2 z3 zf hy1 hy2 hy3 hy4 hy5 hy6 hy7 hy8 => ?_) 17 0 p [] ro h (by omega) p0 (by omega) rfl rfl p4 (fun i hi => absurd hi (by simp)) (fun _ _ => rfl) g1 H3 H4 H5 (fj_rf _ _ _ _ _)
  · skip
    obtain ⟨hm2, fa3, fb4⟩ := fj_mid zf
    have fr5 : px_fj 269 1 279 5 h hm2 := fj_tr fr0 fa3 (by omega)
    have fr6 : px_fj 269 1 279 5 h g1 := fj_tr fr5 fb4 (by omega)
    refine e_iconst (v := nI 0) f_136_33 (by decide) rfl ?_
    refine e_iret f_136_34 rfl (rfl) ?_
    subst hy2
    have g7 : px_pa hm2 279 50 8 vN om := pa_fi H2 fa3 (by omega)
    have g8 : px_pa g1 279 50 8 vN om := pa_fi g7 fb4 (by omega)
    have g9 : px_pa hm2 283 52 8 vN wn := pa_fi H6 fa3 (by omega)
    have g10 : px_pa g1 283 52 8 vN wn := pa_fi g9 fb4 (by omega)
    have er : toR tx p = (false, (rdTold tx 16 p []).2.1, [], 0) := by unfold toR; rw [if_neg (by rw [hy1]; decide)]
    rw [er]
    dsimp only
    rw [if_neg (by decide)]
    exact ⟨rfl, z0, ⟨_, _, _, g8, z1, z2, z3, g10, p3, hy3, p5, fun _ _ => ⟨rfl, rfl⟩, hy4, fun e => absurd e Bool.false_ne_true⟩, fr6⟩
  · skip
    obtain ⟨hm11, fa12, fb13⟩ := fj_mid zf
    have fr14 : px_fj 269 1 279 5 h hm11 := fj_tr fr0 fa12 (by omega)
    have fr15 : px_fj 269 1 279 5 h g1 := fj_tr fr14 fb13 (by omega)
    have hs1 : sgn tx q1 = sgn tx (rdTold tx 16 p []).2.1 := by unfold sgn; rw [hy3]
    have hslq : sgn tx (rdTold tx 16 p []).2.1 < 127 := tx_lt p1 _
    have hom : (sgn tx q1 ∈ [61, 126, 33, 33]) ↔ (sgn tx (rdTold tx 16 p []).2.1 ∈ ordL) := by rw [hs1]; simp only [ordL, List.mem_cons, List.not_mem_nil, or_false]; omega
    refine e_aload_n f_136_91 rfl rfl ?_
    refine e_bipush (v := nI 61) f_136_92 (by decide) rfl ?_
    refine e_bipush (v := nI 126) f_136_94 (by decide) rfl ?_
    refine e_bipush (v := nI 33) f_136_96 (by decide) rfl ?_
    refine e_bipush (v := nI 33) f_136_98 (by decide) rfl ?_
    obtain ⟨rd16, ky17, vl18, mo19, g20, hX21⟩ := id z0
    obtain ⟨hm23, fa24, fb25⟩ := fj_mid fr15
    have g22 : px_pa g1 270 52 500 vN tx := pa_fi (pa_fi H1 fa24 (by omega)) fb25 (by omega)
    refine e_callV (As := [.int (nI 61), .int (nI 126), .int (nI 33), .int (nI 33)]) (rest := []) f_136_100 rfl rfl rfl (Nat.le_of_ble_eq_true rfl) (Nat.le_of_ble_eq_true rfl) g20 rfl (Nat.le_of_ble_eq_true rfl) (cc_Md_one (a1 := 61) (a2 := 126) (a3 := 33) (a4 := 33) (tx := tx) (sn := sn) (cn := cn) (p := q1) (kp := true) (wr := wr) (rd := rd16) (rs := rs) (rc := rc) (tm := tm) (ky := ky17) (vl := vl18) (mo := mo19) (gq := gq) (gh := gh) (gw := gw) (gu := gu) (gv := gv) g20 g22 (hy2) (p1) (by decide)) rfl (fun h26 r27 q28 => ?_)
    obtain ⟨rfl, g29, fx30⟩ := q28
    have fr31 : px_fj 269 1 279 5 h h26 := fj_tr fr15 fx30 (by omega)
    show px_to 136 103 [some (.ref (269)), some (.int (nI n1)), none] [.int (bI (decide (sgn tx q1 ∈ [61, 126, 33, 33])))] h26 _
    refine e_if_ne f_136_103 rfl (fun c_103 => ?_) (fun c_103 => ?_)
    · skip
      have c_103 : (decide (sgn tx q1 ∈ [61, 126, 33, 33])) = true := bI_t c_103
      have hin : sgn tx (rdTold tx 16 p []).2.1 ∈ ordL := hom.mp (of_decide_eq_true c_103)
      have hinl : sgn tx q1 ∈ [61, 126, 33, 33] := of_decide_eq_true c_103
      have hsl3 : skp tx (rdTold tx 16 p []).2.1 + 1 ≤ tx.length := sgn_next hin (by decide)
      have g32 : h26.2.2 269 = some (12, mB (nI tx.length, sn, cn) (nI (skp tx (rdTold tx 16 p []).2.1 + 1), true, wr, nI (sgn tx (rdTold tx 16 p []).2.1), nI rs, nI rc, nI tm, ky17, vl18, mo19) gq gh gw gu gv) := by have z := g29; rw [if_pos hinl, if_pos hinl, if_pos hinl, hs1, hy3] at z; exact z
      refine e_aload_n f_136_108 rfl rfl ?_
      refine e_getf f_136_109 g32 rfl rfl ?_
      show px_to 136 112 [some (.ref (269)), some (.int (nI n1)), none] [.int (bI true)] h26 _
      refine e_if_eq_f f_136_112 (by decide) rfl ?_
      refine e_aload_n f_136_115 rfl rfl ?_
      refine e_getf f_136_116 g32 rfl rfl ?_
      refine e_aload_n f_136_119 rfl rfl ?_
      refine e_getf f_136_120 g32 rfl rfl ?_
      show px_to 136 123 [some (.ref (269)), some (.int (nI n1)), none] [.int (nI rc), .ref (279)] h26 _
      refine e_iload_n f_136_123 rfl rfl ?_
      have g33 : px_pa hm11 279 50 8 vN om := pa_fi H2 fa12 (by omega)
      have g34 : px_pa g1 279 50 8 vN om := pa_fi g33 fb13 (by omega)
      have g35 : px_pa h26 279 50 8 vN om := pa_fi g34 fx30 (by omega)
      refine e_iastore_p (xs := om) (x := n1) f_136_124 g35 (by omega) (by first | omega | (simp only [List.length_set]; omega)) (rfl) rfl (fun h36 g37 fx38 => ?_)
      have fr39 : px_fj 269 1 279 5 h h36 := fj_tr fr31 fx38 (by omega)
      refine e_aload_n f_136_125 rfl rfl ?_
      have g40 : h36.2.2 269 = some (12, mB (nI tx.length, sn, cn) (nI (skp tx (rdTold tx 16 p []).2.1 + 1), true, wr, nI (sgn tx (rdTold tx 16 p []).2.1), nI rs, nI rc, nI tm, ky17, vl18, mo19) gq gh gw gu gv) := fi_at g32 fx38 (by omega)
      refine e_getf f_136_126 g40 rfl rfl ?_
      refine e_aload_n f_136_129 rfl rfl ?_
      refine e_getf f_136_130 g40 rfl rfl ?_
      show px_to 136 133 [some (.ref (269)), some (.int (nI n1)), none] [.int (nI rc), .ref (283)] h36 _
      refine e_aload_n f_136_133 rfl rfl ?_
      refine e_getf f_136_134 g40 rfl rfl ?_
      show px_to 136 137 [some (.ref (269)), some (.int (nI n1)), none] [.int (nI (sgn tx (rdTold tx 16 p []).2.1)), .int (nI rc), .ref (283)] h36 _
      refine e_i2c (z := nI (sgn tx (rdTold tx 16 p []).2.1)) f_136_137 (i2c_id (by omega)) rfl ?_
      have g41 : px_pa hm11 283 52 8 vN wn := pa_fi H6 fa12 (by omega)
      have g42 : px_pa g1 283 52 8 vN wn := pa_fi g41 fb13 (by omega)
      have g43 : px_pa h26 283 52 8 vN wn := pa_fi g42 fx30 (by omega)
      have g44 : px_pa h36 283 52 8 vN wn := pa_fi g43 fx38 (by omega)
      refine e_castore_p (xs := wn) (x := sgn tx (rdTold tx 16 p []).2.1) f_136_138 g44 (by omega) (by first | omega | (simp only [List.length_set]; omega)) (nw_ch (by omega)) rfl (fun h45 g46 fx47 => ?_)
      have fr48 : px_fj 269 1 279 5 h h45 := fj_tr fr39 fx47 (by omega)
      refine e_aload_n f_136_139 rfl rfl ?_
      refine e_bipush (v := nI 59) f_136_140 (by decide) rfl ?_
      have g49 : h45.2.2 269 = some (12, mB (nI tx.length, sn, cn) (nI (skp tx (rdTold tx 16 p []).2.1 + 1), true, wr, nI (sgn tx (rdTold tx 16 p []).2.1), nI rs, nI rc, nI tm, ky17, vl18, mo19) gq gh gw gu gv) := fi_at g40 fx47 (by omega)
      obtain ⟨hm51, fa52, fb53⟩ := fj_mid fr48
      have g50 : px_pa h45 270 52 500 vN tx := pa_fi (pa_fi H1 fa52 (by omega)) fb53 (by omega)
      refine e_callV (As := [.int (nI 59)]) (rest := []) f_136_142 rfl rfl rfl (Nat.le_of_ble_eq_true rfl) (Nat.le_of_ble_eq_true rfl) g49 rfl (Nat.le_of_ble_eq_true rfl) (cc_Md_takes (c := 59) (tx := tx) (sn := sn) (cn := cn) (p := skp tx (rdTold tx 16 p []).2.1 + 1) (kp := true) (wr := wr) (rd := nI (sgn tx (rdTold tx 16 p []).2.1)) (rs := rs) (rc := rc) (tm := tm) (ky := ky17) (vl := vl18) (mo := mo19) (gq := gq) (gh := gh) (gw := gw) (gu := gu) (gv := gv) g49 g50 (hsl3) (p1) (by omega)) rfl (fun h54 r55 q56 => ?_)
      obtain ⟨rfl, g57, fx58⟩ := q56
      have fr59 : px_fj 269 1 279 5 h h54 := fj_tr fr48 fx58 (by omega)
      show px_to 136 145 [some (.ref (269)), some (.int (nI n1)), none] [.int (bI (decide (sgn tx (skp tx (rdTold tx 16 p []).2.1 + 1) = 59)))] h54 _
      refine e_iret f_136_145 rfl (nw_bI _) ?_
      have g60 : px_pa h45 279 50 8 vN (om.set rc n1) := pa_fi g37 fx47 (by omega)
      have g61 : px_pa h54 279 50 8 vN (om.set rc n1) := pa_fi g60 fx58 (by omega)
      have g62 : px_pa h26 280 54 128 rK ro1 := pa_fi z1 fx30 (by omega)
      have g63 : px_pa h36 280 54 128 rK ro1 := pa_fi g62 fx38 (by omega)
      have g64 : px_pa h45 280 54 128 rK ro1 := pa_fi g63 fx47 (by omega)
      have g65 : px_pa h54 280 54 128 rK ro1 := pa_fi g64 fx58 (by omega)
      have g66 : px_pa h26 281 53 128 rV ro1 := pa_fi z2 fx30 (by omega)
      have g67 : px_pa h36 281 53 128 rV ro1 := pa_fi g66 fx38 (by omega)
      have g68 : px_pa h45 281 53 128 rV ro1 := pa_fi g67 fx47 (by omega)
      have g69 : px_pa h54 281 53 128 rV ro1 := pa_fi g68 fx58 (by omega)
      have g70 : px_pa h26 282 53 128 rT ro1 := pa_fi z3 fx30 (by omega)
      have g71 : px_pa h36 282 53 128 rT ro1 := pa_fi g70 fx38 (by omega)
      have g72 : px_pa h45 282 53 128 rT ro1 := pa_fi g71 fx47 (by omega)
      have g73 : px_pa h54 282 53 128 rT ro1 := pa_fi g72 fx58 (by omega)
      have g74 : px_pa h54 283 52 8 vN (wn.set rc (sgn tx (rdTold tx 16 p []).2.1)) := pa_fi g46 fx58 (by omega)
      have zz := g57
      by_cases c59 : sgn tx (skp tx (rdTold tx 16 p []).2.1 + 1) = 59
      · skip
        have er : toR tx p = (true, skp tx (skp tx (rdTold tx 16 p []).2.1 + 1) + 1, (rdTold tx 16 p []).2.2, sgn tx (rdTold tx 16 p []).2.1) := by unfold toR; rw [if_pos hy1, if_pos hin, if_pos c59]
        rw [if_pos c59, if_pos c59] at zz
        rw [er, decide_eq_true c59]
        dsimp only
        rw [if_pos rfl]
        exact ⟨rfl, ⟨_, _, _, _, zz, trivial⟩, ⟨_, _, _, g61, g65, g69, g73, g74, by rw [List.length_set]; exact p3, hy6, by rw [List.length_set]; exact p5, fun i hi => ⟨getD_set_ne (fun e => hi e.symm), getD_set_ne (fun e => hi e.symm)⟩, hy8, fun _ => ⟨(getD_set_same (by omega)).trans hy4, getD_set_same (by omega), hy7⟩⟩, fr59⟩
      · skip
        have er : toR tx p = (false, skp tx (skp tx (rdTold tx 16 p []).2.1 + 1), [], 0) := by unfold toR; rw [if_pos hy1, if_pos hin, if_neg c59]
        rw [if_neg c59, if_neg c59] at zz
        rw [er, decide_eq_false c59]
        dsimp only
        rw [if_neg (by decide)]
        exact ⟨rfl, ⟨_, _, _, _, zz, trivial⟩, ⟨_, _, _, g61, g65, g69, g73, g74, by rw [List.length_set]; exact p3, hy6, by rw [List.length_set]; exact p5, fun i hi => ⟨getD_set_ne (fun e => hi e.symm), getD_set_ne (fun e => hi e.symm)⟩, hy8, fun e => absurd e Bool.false_ne_true⟩, fr59⟩
    · skip
      have c_103 : (decide (sgn tx q1 ∈ [61, 126, 33, 33])) = false := bI_f' c_103
      have hin : ¬ sgn tx (rdTold tx 16 p []).2.1 ∈ ordL := fun z => of_decide_eq_false c_103 (hom.mpr z)
      have hinl : ¬ sgn tx q1 ∈ [61, 126, 33, 33] := of_decide_eq_false c_103
      have g75 : h26.2.2 269 = some (12, mB (nI tx.length, sn, cn) (nI (skp tx (rdTold tx 16 p []).2.1), true, nI (skp tx (rdTold tx 16 p []).2.1), if sgn tx q1 ∈ [61, 126, 33, 33] then nI (sgn tx q1) else rd16, nI rs, nI rc, nI tm, ky17, vl18, mo19) gq gh gw gu gv) := by have z := g29; rw [if_neg hinl, if_neg hinl, hy3] at z; exact z
      refine e_iconst (v := nI 0) f_136_106 (by decide) rfl ?_
      refine e_iret f_136_107 rfl (rfl) ?_
      have g76 : px_pa hm11 279 50 8 vN om := pa_fi H2 fa12 (by omega)
      have g77 : px_pa g1 279 50 8 vN om := pa_fi g76 fb13 (by omega)
      have g78 : px_pa h26 279 50 8 vN om := pa_fi g77 fx30 (by omega)
      have g79 : px_pa h26 280 54 128 rK ro1 := pa_fi z1 fx30 (by omega)
      have g80 : px_pa h26 281 53 128 rV ro1 := pa_fi z2 fx30 (by omega)
      have g81 : px_pa h26 282 53 128 rT ro1 := pa_fi z3 fx30 (by omega)
      have g82 : px_pa hm11 283 52 8 vN wn := pa_fi H6 fa12 (by omega)
      have g83 : px_pa g1 283 52 8 vN wn := pa_fi g82 fb13 (by omega)
      have g84 : px_pa h26 283 52 8 vN wn := pa_fi g83 fx30 (by omega)
      have er : toR tx p = (false, skp tx (rdTold tx 16 p []).2.1, [], 0) := by unfold toR; rw [if_pos hy1, if_neg hin]
      rw [er]
      dsimp only
      rw [if_neg (by decide)]
      exact ⟨rfl, ⟨_, _, _, _, g75, trivial⟩, ⟨_, _, _, g78, g79, g80, g81, g84, p3, hy6, p5, fun _ _ => ⟨rfl, rfl⟩, hy8, fun e => absurd e Bool.false_ne_true⟩, fr31⟩
