set_option maxRecDepth 20000 in
set_option maxHeartbeats 4000000 in
theorem cc_Md_isDig {h : px_H} {tx : List Nat} {sn cn : Int32} {p rs rc tm : Nat} {kp : Bool} {wr rd ky vl mo : Int32} {gq : gQ} {gh : gH} {gw : gW} {gu : gU} {gv : gV} (H0 : h.2.2 269 = some (12, mB (nI tx.length, sn, cn) (nI p, kp, wr, rd, nI rs, nI rc, nI tm, ky, vl, mo) gq gh gw gu gv)) (H1 : px_pa h 270 52 500 vN tx) (p0 : p ≤ tx.length) (p1 : okTx tx) : px_wp 124 [.ref (269)] h (fun h1 r => r = some (.int (bI (decide (p < tx.length ∧ 48 ≤ tx.getD p 0 ∧ tx.getD p 0 ≤ 57)))) ∧ h1 = h) := by
  have le := pa_len H1
  have hcl := tx_lt p1 p
  show px_to 124 0 [some (.ref (269))] [] h _
  refine e_aload_n f_124_0 rfl rfl ?_
  refine e_getf f_124_1 H0 rfl rfl ?_
  show px_to 124 4 [some (.ref (269))] [.int (nI p)] h _
  refine e_aload_n f_124_4 rfl rfl ?_
  refine e_getf f_124_5 H0 rfl rfl ?_
  show px_to 124 8 [some (.ref (269))] [.int (nI tx.length), .int (nI p)] h _
  refine e_icmp_ge f_124_8 rfl (fun c_8 => ?_) (fun c_8 => ?_)
  · skip
    have c_8 : tx.length ≤ p := cv_le (by omega) (by omega) c_8
    refine e_iconst (v := nI 0) f_124_43 (by decide) rfl ?_
    refine e_iret f_124_44 rfl (rfl) ?_
    exact ⟨congrArg (fun z => some (Value.int z)) (b0 (decide_eq_false (fun z => by omega))), rfl⟩
  · skip
    have c_8 : p < tx.length := cv_nle (by omega) (by omega) c_8
    refine e_aload_n f_124_11 rfl rfl ?_
    refine e_getf f_124_12 H0 rfl rfl ?_
    refine e_aload_n f_124_15 rfl rfl ?_
    refine e_getf f_124_16 H0 rfl rfl ?_
    show px_to 124 19 [some (.ref (269))] [.int (nI p), .ref (270)] h _
    refine e_caload_p (xs := tx) f_124_19 H1 (d := 0) (by first | omega | (simp only [List.length_set]; omega)) rfl ?_
    show px_to 124 20 [some (.ref (269))] [.int (nI (tx.getD p 0))] h _
    refine e_bipush (v := nI 48) f_124_20 (by decide) rfl ?_
    refine e_icmp_lt f_124_22 rfl (fun c_22 => ?_) (fun c_22 => ?_)
    · skip
      have c_22 : tx.getD p 0 < 48 := cv_lt (by omega) (by omega) c_22
      refine e_iconst (v := nI 0) f_124_43 (by decide) rfl ?_
      refine e_iret f_124_44 rfl (rfl) ?_
      exact ⟨congrArg (fun z => some (Value.int z)) (b0 (decide_eq_false (fun z => by omega))), rfl⟩
    · skip
      have c_22 : 48 ≤ tx.getD p 0 := cv_nlt (by omega) (by omega) c_22
      refine e_aload_n f_124_25 rfl rfl ?_
      refine e_getf f_124_26 H0 rfl rfl ?_
      refine e_aload_n f_124_29 rfl rfl ?_
      refine e_getf f_124_30 H0 rfl rfl ?_
      show px_to 124 33 [some (.ref (269))] [.int (nI p), .ref (270)] h _
      refine e_caload_p (xs := tx) f_124_33 H1 (d := 0) (by first | omega | (simp only [List.length_set]; omega)) rfl ?_
      show px_to 124 34 [some (.ref (269))] [.int (nI (tx.getD p 0))] h _
      refine e_bipush (v := nI 57) f_124_34 (by decide) rfl ?_
      refine e_icmp_gt f_124_36 rfl (fun c_36 => ?_) (fun c_36 => ?_)
      · skip
        have c_36 : 57 < tx.getD p 0 := cv_lt (by omega) (by omega) c_36
        refine e_iconst (v := nI 0) f_124_43 (by decide) rfl ?_
        refine e_iret f_124_44 rfl (rfl) ?_
        exact ⟨congrArg (fun z => some (Value.int z)) (b0 (decide_eq_false (fun z => by omega))), rfl⟩
      · skip
        have c_36 : tx.getD p 0 ≤ 57 := cv_nlt (by omega) (by omega) c_36
        refine e_iconst (v := nI 1) f_124_39 (by decide) rfl ?_
        refine e_goto f_124_40 ?_
        refine e_iret f_124_44 rfl (rfl) ?_
        exact ⟨congrArg (fun z => some (Value.int z)) (b1 (decide_eq_true ⟨by omega, by omega, by omega⟩)), rfl⟩

set_option maxRecDepth 20000 in
set_option maxHeartbeats 4000000 in
theorem ll_Md_dig {h0 : px_H} {tx : List Nat} {sn cn : Int32} {p0 y v rs rc tm : Nat} {kp : Bool} {wr ky vl mo : Int32} {gq : gQ} {gh : gH} {gw : gW} {gu : gU} {gv : gV} (H1 : px_pa h0 270 52 500 vN tx) (p1 : okTx tx) : ∀ (d : Nat) (i : Nat) (p : Nat) (s : Nat) (g : px_H), (3 < i + d) → (p ≤ tx.length) → (p0 + i = p) → (dgs (3 - i) (tx.drop p) s = (y - i, v)) → (i ≤ y) → (i ≤ 3) → g.2.2 269 = some (12, mB (nI tx.length, sn, cn) (nI p, kp, wr, nI s, nI rs, nI rc, nI tm, ky, vl, mo) gq gh gw gu gv) → px_fi 269 1 h0 g → px_to 125 19 [some (.ref (269)), some (.int (nI i))] [] g (fun h1 r => r = some (.int (nI 1)) ∧ h1.2.2 269 = some (12, mB (nI tx.length, sn, cn) (nI (p0 + y), kp, wr, nI v, nI rs, nI rc, nI tm, ky, vl, mo) gq gh gw gu gv) ∧ px_fi 269 1 h0 h1) := by
  intro d
  induction d using Nat.strongRecOn with
  | ind d ih =>
    intro i p s g q0 q1 q2 q3 q4 q5 G0 frg
    have le := pa_len H1
    have ly := (dgs_le (3 - i) (tx.drop p) s).1
    rw [q3] at ly
    have hcl := tx_lt p1 p
    refine e_iload_n f_125_19 rfl rfl ?_
    refine e_iconst (v := nI 3) f_125_20 (by decide) rfl ?_
    refine e_icmp_ge f_125_21 rfl (fun c_21 => ?_) (fun c_21 => ?_)
    · skip
      have c_21 : 3 ≤ i := cv_le (by omega) (by omega) c_21
      refine e_iconst (v := nI 1) f_125_71 (by decide) rfl ?_
      refine e_iret f_125_72 rfl (rfl) ?_
      rw [show 3 - i = 0 by omega, dgs] at q3
      have e1 := congrArg Prod.fst q3
      have e2 := congrArg Prod.snd q3
      dsimp only at e1 e2
      have ei : y = i := by omega
      subst ei
      subst e2
      have ep : p = p0 + y := by omega
      subst ep
      exact ⟨rfl, G0, frg⟩
    · skip
      have c_21 : i < 3 := cv_nle (by omega) (by omega) c_21
      refine e_aload_n f_125_24 rfl rfl ?_
      have g1 : px_pa g 270 52 500 vN tx := pa_fi H1 frg (by omega)
      refine e_callV (As := []) (rest := []) f_125_25 rfl rfl rfl (Nat.le_of_ble_eq_true rfl) (Nat.le_of_ble_eq_true rfl) G0 rfl (Nat.le_of_ble_eq_true rfl) (cc_Md_isDig (tx := tx) (sn := sn) (cn := cn) (p := p) (kp := kp) (wr := wr) (rd := nI s) (rs := rs) (rc := rc) (tm := tm) (ky := ky) (vl := vl) (mo := mo) (gq := gq) (gh := gh) (gw := gw) (gu := gu) (gv := gv) G0 g1 (by omega) (p1)) rfl (fun h2 r3 q4 => ?_)
      obtain ⟨rfl, qe⟩ := q4
      have qe := qe.symm
      subst qe
      show px_to 125 28 [some (.ref (269)), some (.int (nI i))] [.int (bI (decide (p < tx.length ∧ 48 ≤ tx.getD p 0 ∧ tx.getD p 0 ≤ 57)))] g _
      refine e_if_eq f_125_28 rfl (fun c_28 => ?_) (fun c_28 => ?_)
      · skip
        have c_28 : (decide (p < tx.length ∧ 48 ≤ tx.getD p 0 ∧ tx.getD p 0 ≤ 57)) = false := bI_f c_28
        refine e_iconst (v := nI 1) f_125_71 (by decide) rfl ?_
        refine e_iret f_125_72 rfl (rfl) ?_
        have hnd := of_decide_eq_false c_28
        rw [show 3 - i = (3 - (i + 1)) + 1 by omega] at q3
        have q3 : (0, s) = (y - i, v) := by
          rw [← q3]
          rcases Nat.lt_or_ge p tx.length with hp | hp
          · rw [drop_step 0 hp, dgs, if_neg (fun z => hnd ⟨hp, z.1, z.2⟩)]
          · rw [List.drop_eq_nil_of_le hp, dgs]
        have e1 := congrArg Prod.fst q3
        have e2 := congrArg Prod.snd q3
        dsimp only at e1 e2
        have ei : y = i := by omega
        subst ei
        subst e2
        have ep : p = p0 + y := by omega
        subst ep
        exact ⟨rfl, G0, frg⟩
      · skip
        have c_28 : (decide (p < tx.length ∧ 48 ≤ tx.getD p 0 ∧ tx.getD p 0 ≤ 57)) = true := bI_t' c_28
        obtain ⟨hd1, hd2, hd3⟩ := of_decide_eq_true c_28
        refine e_aload_n f_125_31 rfl rfl ?_
        refine e_bipush (v := nI 10) f_125_32 (by decide) rfl ?_
        refine e_aload_n f_125_34 rfl rfl ?_
        refine e_getf f_125_35 G0 rfl rfl ?_
        show px_to 125 38 [some (.ref (269)), some (.int (nI i))] [.int (nI s), .int (nI 10), .ref (269)] g _
        refine e_imul (z := nI (10 * s)) f_125_38 (pk_mul _ _) rfl ?_
        refine e_aload_n f_125_39 rfl rfl ?_
        refine e_getf f_125_40 G0 rfl rfl ?_
        refine e_aload_n f_125_43 rfl rfl ?_
        refine e_getf f_125_44 G0 rfl rfl ?_
        show px_to 125 47 [some (.ref (269)), some (.int (nI i))] [.int (nI p), .ref (270), .int (nI (10 * s)), .ref (269)] g _
        refine e_caload_p (xs := tx) f_125_47 g1 (d := 0) (by first | omega | (simp only [List.length_set]; omega)) rfl ?_
        show px_to 125 48 [some (.ref (269)), some (.int (nI i))] [.int (nI (tx.getD p 0)), .int (nI (10 * s)), .ref (269)] g _
        refine e_iadd (z := nI (10 * s + tx.getD p 0)) f_125_48 (nI_add _ _) rfl ?_
        refine e_bipush (v := nI 48) f_125_49 (by decide) rfl ?_
        refine e_isub (z := nI (s * 10 + (tx.getD p 0 - 48))) f_125_51 ((pk_sub (by omega)).trans (congrArg nI (by omega))) rfl ?_
        refine e_putp (vs' := mB (nI tx.length, sn, cn) (nI p, kp, wr, nI (s * 10 + (tx.getD p 0 - 48)), nI rs, nI rc, nI tm, ky, vl, mo) gq gh gw gu gv) f_125_52 G0 (Nat.le_of_ble_eq_true rfl) (rfl) (rfl) rfl rfl (fun h5 g6 fx7 => ?_)
        have fr8 : px_fi 269 1 h0 h5 := fi_tr frg fx7 (by omega)
        refine e_aload_n f_125_55 rfl rfl ?_
        refine e_dup f_125_56 rfl rfl ?_
        refine e_getf f_125_57 g6 rfl rfl ?_
        show px_to 125 60 [some (.ref (269)), some (.int (nI i))] [.int (nI p), .ref (269)] h5 _
        refine e_iconst (v := nI 1) f_125_60 (by decide) rfl ?_
        refine e_iadd (z := nI (p + 1)) f_125_61 (nI_add _ _) rfl ?_
        refine e_putp (vs' := mB (nI tx.length, sn, cn) (nI (p + 1), kp, wr, nI (s * 10 + (tx.getD p 0 - 48)), nI rs, nI rc, nI tm, ky, vl, mo) gq gh gw gu gv) f_125_62 g6 (Nat.le_of_ble_eq_true rfl) (rfl) (rfl) rfl rfl (fun h9 g10 fx11 => ?_)
        have fr12 : px_fi 269 1 h0 h9 := fi_tr fr8 fx11 (by omega)
        refine e_iinc (y := nI (i + 1)) (L' := [some (.ref (269)), some (.int (nI (i + 1)))]) f_125_65 rfl (by rw [show Int32.ofInt 1 = nI 1 by decide]; exact (nI_add _ _)) rfl rfl ?_
        refine e_goto f_125_68 ?_
        obtain ⟨hd1, hd2, hd3⟩ := of_decide_eq_true c_28
        rw [show 3 - i = (3 - (i + 1)) + 1 by omega, drop_step 0 (show p < tx.length by omega), dgs, if_pos ⟨by omega, by omega⟩] at q3
        have e1 := congrArg Prod.fst q3
        have e2 := congrArg Prod.snd q3
        dsimp only at e1 e2
        first | (exfalso; omega) | exact ih (d - 1) (by omega) (i + 1) (p + 1) (s * 10 + (tx.getD p 0 - 48)) h9 (by omega) (by omega) (by omega) (Prod.ext (by show _ = y - (i + 1); omega) e2) (by omega) (by omega) g10 fr12

set_option maxRecDepth 20000 in
set_option maxHeartbeats 4000000 in
theorem cc_Md_dig {h : px_H} {tx : List Nat} {sn cn : Int32} {p rs rc tm : Nat} {kp : Bool} {wr rd ky vl mo : Int32} {gq : gQ} {gh : gH} {gw : gW} {gu : gU} {gv : gV} (H0 : h.2.2 269 = some (12, mB (nI tx.length, sn, cn) (nI p, kp, wr, rd, nI rs, nI rc, nI tm, ky, vl, mo) gq gh gw gu gv)) (H1 : px_pa h 270 52 500 vN tx) (p0 : p ≤ tx.length) (p1 : okTx tx) : px_wp 125 [.ref (269)] h (fun h1 r => r = some (.int (bI (decide (0 < (dgs 3 (tx.drop p) 0).1)))) ∧ h1.2.2 269 = some (12, mB (nI tx.length, sn, cn) (nI (p + (dgs 3 (tx.drop p) 0).1), kp, if decide (0 < (dgs 3 (tx.drop p) 0).1) = true then wr else nI (p + (dgs 3 (tx.drop p) 0).1), if decide (0 < (dgs 3 (tx.drop p) 0).1) = true then nI (dgs 3 (tx.drop p) 0).2 else rd, nI rs, nI rc, nI tm, ky, vl, mo) gq gh gw gu gv) ∧ px_fi 269 1 h h1) := by
  have fr0 : px_fi 269 1 h h := fi_rf _ _ _
  show px_to 125 0 [some (.ref (269)), none] [] h _
  refine e_aload_n f_125_0 rfl rfl ?_
  refine e_callV (As := []) (rest := []) f_125_1 rfl rfl rfl (Nat.le_of_ble_eq_true rfl) (Nat.le_of_ble_eq_true rfl) H0 rfl (Nat.le_of_ble_eq_true rfl) (cc_Md_isDig (tx := tx) (sn := sn) (cn := cn) (p := p) (kp := kp) (wr := wr) (rd := rd) (rs := rs) (rc := rc) (tm := tm) (ky := ky) (vl := vl) (mo := mo) (gq := gq) (gh := gh) (gw := gw) (gu := gu) (gv := gv) H0 H1 (by omega) (p1)) rfl (fun h1 r2 q3 => ?_)
  obtain ⟨rfl, qe⟩ := q3
  have qe := qe.symm
  subst qe
  show px_to 125 4 [some (.ref (269)), none] [.int (bI (decide (p < tx.length ∧ 48 ≤ tx.getD p 0 ∧ tx.getD p 0 ≤ 57)))] h _
  refine e_if_ne f_125_4 rfl (fun c_4 => ?_) (fun c_4 => ?_)
  · skip
    have c_4 : (decide (p < tx.length ∧ 48 ≤ tx.getD p 0 ∧ tx.getD p 0 ≤ 57)) = true := bI_t c_4
    obtain ⟨hd1, hd2, hd3⟩ := of_decide_eq_true c_4
    have hpos : 0 < (dgs 3 (tx.drop p) 0).1 := by rw [drop_step 0 hd1, dgs, if_pos ⟨hd2, hd3⟩]; exact Nat.succ_pos _
    refine e_aload_n f_125_12 rfl rfl ?_
    refine e_iconst (v := nI 0) f_125_13 (by decide) rfl ?_
    refine e_putp (vs' := mB (nI tx.length, sn, cn) (nI p, kp, wr, nI 0, nI rs, nI rc, nI tm, ky, vl, mo) gq gh gw gu gv) f_125_14 H0 (Nat.le_of_ble_eq_true rfl) (rfl) (rfl) rfl rfl (fun h4 g5 fx6 => ?_)
    have fr7 : px_fi 269 1 h h4 := fi_tr fr0 fx6 (by omega)
    refine e_iconst (v := nI 0) f_125_17 (by decide) rfl ?_
    refine e_istore_n (L' := [some (.ref (269)), some (.int (nI 0))]) f_125_18 (Nat.le_of_ble_eq_true rfl) rfl rfl ?_
    rw [decide_eq_true hpos, if_pos rfl, if_pos rfl]
    exact ll_Md_dig (h0 := h) (p0 := p) H1 p1 4 0 p 0 h4 (by omega) p0 rfl rfl (Nat.zero_le _) (by omega) g5 fr7
  · skip
    have c_4 : (decide (p < tx.length ∧ 48 ≤ tx.getD p 0 ∧ tx.getD p 0 ≤ 57)) = false := bI_f' c_4
    refine e_aload_n f_125_7 rfl rfl ?_
    refine e_callV (As := []) (rest := []) f_125_8 rfl rfl rfl (Nat.le_of_ble_eq_true rfl) (Nat.le_of_ble_eq_true rfl) H0 rfl (Nat.le_of_ble_eq_true rfl) (cc_Md_fails (tx := tx) (sn := sn) (cn := cn) (p := p) (kp := kp) (wr := wr) (rd := rd) (rs := rs) (rc := rc) (tm := tm) (ky := ky) (vl := vl) (mo := mo) (gq := gq) (gh := gh) (gw := gw) (gu := gu) (gv := gv) H0 ) rfl (fun h8 r9 q10 => ?_)
    obtain ⟨rfl, g11, fx12⟩ := q10
    have fr13 : px_fi 269 1 h h8 := fi_tr fr0 fx12 (by omega)
    show px_to 125 11 [some (.ref (269)), none] [.int (nI 0)] h8 _
    refine e_iret f_125_11 rfl (rfl) ?_
    have hnd := of_decide_eq_false c_4
    have hz : (dgs 3 (tx.drop p) 0).1 = 0 := by
      rcases Nat.lt_or_ge p tx.length with hp | hp
      · rw [drop_step 0 hp, dgs, if_neg (fun z => hnd ⟨hp, z.1, z.2⟩)]
      · rw [List.drop_eq_nil_of_le hp, dgs]
    rw [hz, decide_eq_false (Nat.lt_irrefl 0), if_neg (by decide), if_neg (by decide)]
    exact ⟨rfl, g11, fr13⟩

set_option maxRecDepth 20000 in
set_option maxHeartbeats 4000000 in
theorem cc_Md_time {h : px_H} {tx : List Nat} {sn cn : Int32} {p rs rc tm : Nat} {kp : Bool} {wr rd ky vl mo : Int32} {gq : gQ} {gh : gH} {gw : gW} {gu : gU} {gv : gV} (H0 : h.2.2 269 = some (12, mB (nI tx.length, sn, cn) (nI p, kp, wr, rd, nI rs, nI rc, nI tm, ky, vl, mo) gq gh gw gu gv)) (H1 : px_pa h 270 52 500 vN tx) (p0 : p ≤ tx.length) (p1 : okTx tx) : px_wp 126 [.ref (269)] h (fun h1 r => r = some (.int (bI ((rdT tx p).1))) ∧ h1.2.2 269 = some (12, mB (nI tx.length, sn, cn) (nI ((rdT tx p).2.2), kp, if (rdT tx p).1 = true then wr else nI (rdT tx p).2.2, if (rdT tx p).1 = true then nI (rdT tx p).2.1 else rd, nI rs, nI rc, nI tm, ky, vl, mo) gq gh gw gu gv) ∧ px_fi 269 1 h h1) := by
  have fr0 : px_fi 269 1 h h := fi_rf _ _ _
  show px_to 126 0 [some (.ref (269)), none] [] h _
  refine e_aload_n f_126_0 rfl rfl ?_
  refine e_callV (As := []) (rest := []) f_126_1 rfl rfl rfl (Nat.le_of_ble_eq_true rfl) (Nat.le_of_ble_eq_true rfl) H0 rfl (Nat.le_of_ble_eq_true rfl) (cc_Md_look (tx := tx) (sn := sn) (cn := cn) (p := p) (kp := kp) (wr := wr) (rd := rd) (rs := rs) (rc := rc) (tm := tm) (ky := ky) (vl := vl) (mo := mo) (gq := gq) (gh := gh) (gw := gw) (gu := gu) (gv := gv) H0 H1 (by omega) (p1)) rfl (fun h1 r2 q3 => ?_)
  obtain ⟨rfl, g4, fx5⟩ := q3
  have fr6 : px_fi 269 1 h h1 := fi_tr fr0 fx5 (by omega)
  show px_to 126 4 [some (.ref (269)), none] [.int (nI (sgn tx p))] h1 _
  refine e_istore_n (L' := [some (.ref (269)), some (.int (nI (sgn tx p)))]) f_126_4 (Nat.le_of_ble_eq_true rfl) rfl rfl ?_
  refine e_aload_n f_126_5 rfl rfl ?_
  have g7 : px_pa h1 270 52 500 vN tx := pa_fi H1 fr6 (by omega)
  refine e_callV (As := []) (rest := []) f_126_6 rfl rfl rfl (Nat.le_of_ble_eq_true rfl) (Nat.le_of_ble_eq_true rfl) g4 rfl (Nat.le_of_ble_eq_true rfl) (cc_Md_dig (tx := tx) (sn := sn) (cn := cn) (p := skp tx p) (kp := kp) (wr := wr) (rd := rd) (rs := rs) (rc := rc) (tm := tm) (ky := ky) (vl := vl) (mo := mo) (gq := gq) (gh := gh) (gw := gw) (gu := gu) (gv := gv) g4 g7 (skp_le p0) (p1)) rfl (fun h8 r9 q10 => ?_)
  obtain ⟨rfl, g11, fx12⟩ := q10
  have fr13 : px_fi 269 1 h h8 := fi_tr fr6 fx12 (by omega)
  show px_to 126 9 [some (.ref (269)), some (.int (nI (sgn tx p)))] [.int (bI (decide (0 < (dgs 3 (tx.drop (skp tx p)) 0).1)))] h8 _
  refine e_iret f_126_9 rfl (nw_bI _) ?_
  first | (exfalso; omega) | exact ⟨rfl, g11, fr13⟩

set_option maxRecDepth 20000 in
set_option maxHeartbeats 4000000 in
theorem cc_Md_whole {h : px_H} {tx : List Nat} {sn cn : Int32} {p rs rc tm : Nat} {kp : Bool} {wr rd ky vl mo : Int32} {gq : gQ} {gh : gH} {gw : gW} {gu : gU} {gv : gV} (H0 : h.2.2 269 = some (12, mB (nI tx.length, sn, cn) (nI p, kp, wr, rd, nI rs, nI rc, nI tm, ky, vl, mo) gq gh gw gu gv)) (H1 : px_pa h 270 52 500 vN tx) (p0 : p ≤ tx.length) (p1 : okTx tx) : px_wp 127 [.ref (269)] h (fun h1 r => r = some (.int (bI ((rdI tx p).1))) ∧ h1.2.2 269 = some (12, mB (nI tx.length, sn, cn) (nI ((rdI tx p).2.2), kp, if (rdI tx p).1 = true then wr else nI (rdI tx p).2.2, if (rdI tx p).1 = true then (rdI tx p).2.1 else rd, nI rs, nI rc, nI tm, ky, vl, mo) gq gh gw gu gv) ∧ px_fi 269 1 h h1) := by
  have fr0 : px_fi 269 1 h h := fi_rf _ _ _
  have le := pa_len H1
  have hsl : sgn tx p < 127 := tx_lt p1 _
  have hsk := skp_le p0
  show px_to 127 0 [some (.ref (269)), none] [] h _
  refine e_aload_n f_127_0 rfl rfl ?_
  refine e_callV (As := []) (rest := []) f_127_1 rfl rfl rfl (Nat.le_of_ble_eq_true rfl) (Nat.le_of_ble_eq_true rfl) H0 rfl (Nat.le_of_ble_eq_true rfl) (cc_Md_look (tx := tx) (sn := sn) (cn := cn) (p := p) (kp := kp) (wr := wr) (rd := rd) (rs := rs) (rc := rc) (tm := tm) (ky := ky) (vl := vl) (mo := mo) (gq := gq) (gh := gh) (gw := gw) (gu := gu) (gv := gv) H0 H1 (by omega) (p1)) rfl (fun h1 r2 q3 => ?_)
  obtain ⟨rfl, g4, fx5⟩ := q3
  have fr6 : px_fi 269 1 h h1 := fi_tr fr0 fx5 (by omega)
  show px_to 127 4 [some (.ref (269)), none] [.int (nI (sgn tx p))] h1 _
  refine e_bipush (v := nI 45) f_127_4 (by decide) rfl ?_
  refine e_icmp_ne f_127_6 rfl (fun c_6 => ?_) (fun c_6 => ?_)
  · skip
    have c_6 : sgn tx p ≠ 45 := cv_ne c_6
    refine e_iconst (v := nI 0) f_127_13 (by decide) rfl ?_
    refine e_istore_n (L' := [some (.ref (269)), some (.int (nI 0))]) f_127_14 (Nat.le_of_ble_eq_true rfl) rfl rfl ?_
    refine e_aload_n f_127_15 rfl rfl ?_
    refine e_iload_n f_127_16 rfl rfl ?_
    refine e_if_eq_t f_127_17 (by decide) ?_
    refine e_aload_n f_127_29 rfl rfl ?_
    refine e_getf f_127_30 g4 rfl rfl ?_
    show px_to 127 33 [some (.ref (269)), some (.int (nI 0))] [.int (nI (skp tx p)), .ref (269)] h1 _
    refine e_putp (vs' := mB (nI tx.length, sn, cn) (nI (skp tx p), kp, wr, rd, nI rs, nI rc, nI tm, ky, vl, mo) gq gh gw gu gv) f_127_33 g4 (Nat.le_of_ble_eq_true rfl) (rfl) (rfl) rfl rfl (fun h7 g8 fx9 => ?_)
    have fr10 : px_fi 269 1 h h7 := fi_tr fr6 fx9 (by omega)
    refine e_aload_n f_127_36 rfl rfl ?_
    have g11 : px_pa h7 270 52 500 vN tx := pa_fi H1 fr10 (by omega)
    refine e_callV (As := []) (rest := []) f_127_37 rfl rfl rfl (Nat.le_of_ble_eq_true rfl) (Nat.le_of_ble_eq_true rfl) g8 rfl (Nat.le_of_ble_eq_true rfl) (cc_Md_dig (tx := tx) (sn := sn) (cn := cn) (p := skp tx p) (kp := kp) (wr := wr) (rd := rd) (rs := rs) (rc := rc) (tm := tm) (ky := ky) (vl := vl) (mo := mo) (gq := gq) (gh := gh) (gw := gw) (gu := gu) (gv := gv) g8 g11 (by first | exact sgn_in (by rw [c_6]; decide) | exact skp_le p0) (p1)) rfl (fun h12 r13 q14 => ?_)
    obtain ⟨rfl, g15, fx16⟩ := q14
    have fr17 : px_fi 269 1 h h12 := fi_tr fr10 fx16 (by omega)
    show px_to 127 40 [some (.ref (269)), some (.int (nI 0))] [.int (bI (decide (0 < (dgs 3 (tx.drop (skp tx p)) 0).1)))] h12 _
    refine e_if_ne f_127_40 rfl (fun c_40 => ?_) (fun c_40 => ?_)
    · skip
      have c_40 : (decide (0 < (dgs 3 (tx.drop (skp tx p)) 0).1)) = true := bI_t c_40
      refine e_aload_n f_127_45 rfl rfl ?_
      refine e_iload_n f_127_46 rfl rfl ?_
      refine e_if_eq_t f_127_47 (by decide) ?_
      refine e_aload_n f_127_58 rfl rfl ?_
      refine e_getf f_127_59 g15 rfl rfl ?_
      show px_to 127 62 [some (.ref (269)), some (.int (nI 0))] [.int (if decide (0 < (dgs 3 (tx.drop (skp tx p)) 0).1) = true then nI (dgs 3 (tx.drop (skp tx p)) 0).2 else rd), .ref (269)] h12 _
      refine e_putp (vs' := mB (nI tx.length, sn, cn) (nI (skp tx p + (dgs 3 (tx.drop (skp tx p)) 0).1), kp, if decide (0 < (dgs 3 (tx.drop (skp tx p)) 0).1) = true then wr else nI (skp tx p + (dgs 3 (tx.drop (skp tx p)) 0).1), if decide (0 < (dgs 3 (tx.drop (skp tx p)) 0).1) = true then nI (dgs 3 (tx.drop (skp tx p)) 0).2 else rd, nI rs, nI rc, nI tm, ky, vl, mo) gq gh gw gu gv) f_127_62 g15 (Nat.le_of_ble_eq_true rfl) (rfl) (rfl) rfl rfl (fun h18 g19 fx20 => ?_)
      have fr21 : px_fi 269 1 h h18 := fi_tr fr17 fx20 (by omega)
      refine e_iconst (v := nI 1) f_127_65 (by decide) rfl ?_
      refine e_iret f_127_66 rfl (rfl) ?_
      have ei : rdI tx p = (decide (0 < (dgs 3 (tx.drop (skp tx p)) 0).1), nI (dgs 3 (tx.drop (skp tx p)) 0).2, (skp tx p) + (dgs 3 (tx.drop (skp tx p)) 0).1) := by unfold rdI; rw [if_neg c_6]
      rw [ei]
      dsimp only
      rw [c_40]
      have z := g19
      rw [c_40] at z
      exact ⟨rfl, z, fr21⟩
    · skip
      have c_40 : (decide (0 < (dgs 3 (tx.drop (skp tx p)) 0).1)) = false := bI_f' c_40
      refine e_iconst (v := nI 0) f_127_43 (by decide) rfl ?_
      refine e_iret f_127_44 rfl (rfl) ?_
      have ei : rdI tx p = (decide (0 < (dgs 3 (tx.drop (skp tx p)) 0).1), nI (dgs 3 (tx.drop (skp tx p)) 0).2, (skp tx p) + (dgs 3 (tx.drop (skp tx p)) 0).1) := by unfold rdI; rw [if_neg c_6]
      rw [ei]
      dsimp only
      rw [c_40]
      have z := g15
      rw [c_40] at z
      exact ⟨rfl, z, fr17⟩
  · skip
    have c_6 : sgn tx p = 45 := cv_nne (by omega) (by omega) c_6
    refine e_iconst (v := nI 1) f_127_9 (by decide) rfl ?_
    refine e_goto f_127_10 ?_
    refine e_istore_n (L' := [some (.ref (269)), some (.int (nI 1))]) f_127_14 (Nat.le_of_ble_eq_true rfl) rfl rfl ?_
    refine e_aload_n f_127_15 rfl rfl ?_
    refine e_iload_n f_127_16 rfl rfl ?_
    refine e_if_eq_f f_127_17 (by decide) rfl ?_
    refine e_aload_n f_127_20 rfl rfl ?_
    refine e_getf f_127_21 g4 rfl rfl ?_
    show px_to 127 24 [some (.ref (269)), some (.int (nI 1))] [.int (nI (skp tx p)), .ref (269)] h1 _
    refine e_iconst (v := nI 1) f_127_24 (by decide) rfl ?_
    refine e_iadd (z := nI (skp tx p + 1)) f_127_25 (nI_add _ _) rfl ?_
    refine e_goto f_127_26 ?_
    refine e_putp (vs' := mB (nI tx.length, sn, cn) (nI (skp tx p + 1), kp, wr, rd, nI rs, nI rc, nI tm, ky, vl, mo) gq gh gw gu gv) f_127_33 g4 (Nat.le_of_ble_eq_true rfl) (rfl) (rfl) rfl rfl (fun h22 g23 fx24 => ?_)
    have fr25 : px_fi 269 1 h h22 := fi_tr fr6 fx24 (by omega)
    refine e_aload_n f_127_36 rfl rfl ?_
    have g26 : px_pa h22 270 52 500 vN tx := pa_fi H1 fr25 (by omega)
    refine e_callV (As := []) (rest := []) f_127_37 rfl rfl rfl (Nat.le_of_ble_eq_true rfl) (Nat.le_of_ble_eq_true rfl) g23 rfl (Nat.le_of_ble_eq_true rfl) (cc_Md_dig (tx := tx) (sn := sn) (cn := cn) (p := skp tx p + 1) (kp := kp) (wr := wr) (rd := rd) (rs := rs) (rc := rc) (tm := tm) (ky := ky) (vl := vl) (mo := mo) (gq := gq) (gh := gh) (gw := gw) (gu := gu) (gv := gv) g23 g26 (by first | exact sgn_in (by rw [c_6]; decide) | exact skp_le p0) (p1)) rfl (fun h27 r28 q29 => ?_)
    obtain ⟨rfl, g30, fx31⟩ := q29
    have fr32 : px_fi 269 1 h h27 := fi_tr fr25 fx31 (by omega)
    show px_to 127 40 [some (.ref (269)), some (.int (nI 1))] [.int (bI (decide (0 < (dgs 3 (tx.drop (skp tx p + 1)) 0).1)))] h27 _
    refine e_if_ne f_127_40 rfl (fun c_40 => ?_) (fun c_40 => ?_)
    · skip
      have c_40 : (decide (0 < (dgs 3 (tx.drop (skp tx p + 1)) 0).1)) = true := bI_t c_40
      refine e_aload_n f_127_45 rfl rfl ?_
      refine e_iload_n f_127_46 rfl rfl ?_
      refine e_if_eq_f f_127_47 (by decide) rfl ?_
      refine e_aload_n f_127_50 rfl rfl ?_
      refine e_getf f_127_51 g30 rfl rfl ?_
      show px_to 127 54 [some (.ref (269)), some (.int (nI 1))] [.int (if decide (0 < (dgs 3 (tx.drop (skp tx p + 1)) 0).1) = true then nI (dgs 3 (tx.drop (skp tx p + 1)) 0).2 else rd), .ref (269)] h27 _
      refine e_ineg (z := -(if decide (0 < (dgs 3 (tx.drop (skp tx p + 1)) 0).1) = true then nI (dgs 3 (tx.drop (skp tx p + 1)) 0).2 else rd)) f_127_54 rfl rfl ?_
      refine e_goto f_127_55 ?_
      refine e_putp (vs' := mB (nI tx.length, sn, cn) (nI (skp tx p + 1 + (dgs 3 (tx.drop (skp tx p + 1)) 0).1), kp, if decide (0 < (dgs 3 (tx.drop (skp tx p + 1)) 0).1) = true then wr else nI (skp tx p + 1 + (dgs 3 (tx.drop (skp tx p + 1)) 0).1), -(if decide (0 < (dgs 3 (tx.drop (skp tx p + 1)) 0).1) = true then nI (dgs 3 (tx.drop (skp tx p + 1)) 0).2 else rd), nI rs, nI rc, nI tm, ky, vl, mo) gq gh gw gu gv) f_127_62 g30 (Nat.le_of_ble_eq_true rfl) (rfl) (rfl) rfl rfl (fun h33 g34 fx35 => ?_)
      have fr36 : px_fi 269 1 h h33 := fi_tr fr32 fx35 (by omega)
      refine e_iconst (v := nI 1) f_127_65 (by decide) rfl ?_
      refine e_iret f_127_66 rfl (rfl) ?_
      have ei : rdI tx p = (decide (0 < (dgs 3 (tx.drop (skp tx p + 1)) 0).1), -(nI (dgs 3 (tx.drop (skp tx p + 1)) 0).2), skp tx p + 1 + (dgs 3 (tx.drop (skp tx p + 1)) 0).1) := by unfold rdI; rw [if_pos c_6]
      rw [ei]
      dsimp only
      rw [c_40]
      have z := g34
      rw [c_40] at z
      exact ⟨rfl, z, fr36⟩
    · skip
      have c_40 : (decide (0 < (dgs 3 (tx.drop (skp tx p + 1)) 0).1)) = false := bI_f' c_40
      refine e_iconst (v := nI 0) f_127_43 (by decide) rfl ?_
      refine e_iret f_127_44 rfl (rfl) ?_
      have ei : rdI tx p = (decide (0 < (dgs 3 (tx.drop (skp tx p + 1)) 0).1), -(nI (dgs 3 (tx.drop (skp tx p + 1)) 0).2), skp tx p + 1 + (dgs 3 (tx.drop (skp tx p + 1)) 0).1) := by unfold rdI; rw [if_pos c_6]
      rw [ei]
      dsimp only
      rw [c_40]
      have z := g30
      rw [c_40] at z
      exact ⟨rfl, z, fr32⟩

set_option maxRecDepth 20000 in
set_option maxHeartbeats 4000000 in
theorem cc_Md_nat {h : px_H} {tx : List Nat} {sn cn : Int32} {p rs rc tm : Nat} {kp : Bool} {wr rd ky vl mo : Int32} {gq : gQ} {gh : gH} {gw : gW} {gu : gU} {gv : gV} (H0 : h.2.2 269 = some (12, mB (nI tx.length, sn, cn) (nI p, kp, wr, rd, nI rs, nI rc, nI tm, ky, vl, mo) gq gh gw gu gv)) (H1 : px_pa h 270 52 500 vN tx) (p0 : p ≤ tx.length) (p1 : okTx tx) : px_wp 128 [.ref (269)] h (fun h1 r => r = some (.int (bI ((rdT tx p).1 && decide (0 < (rdT tx p).2.1)))) ∧ h1.2.2 269 = some (12, mB (nI tx.length, sn, cn) (nI ((rdT tx p).2.2), kp, if ((rdT tx p).1 && decide (0 < (rdT tx p).2.1)) = true then wr else nI (rdT tx p).2.2, if (rdT tx p).1 = true then nI (rdT tx p).2.1 else rd, nI rs, nI rc, nI tm, ky, vl, mo) gq gh gw gu gv) ∧ px_fi 269 1 h h1) := by
  have fr0 : px_fi 269 1 h h := fi_rf _ _ _
  have htb := rdT_b (tx := tx) (p := p)
  show px_to 128 0 [some (.ref (269))] [] h _
  refine e_aload_n f_128_0 rfl rfl ?_
  refine e_callV (As := []) (rest := []) f_128_1 rfl rfl rfl (Nat.le_of_ble_eq_true rfl) (Nat.le_of_ble_eq_true rfl) H0 rfl (Nat.le_of_ble_eq_true rfl) (cc_Md_time (tx := tx) (sn := sn) (cn := cn) (p := p) (kp := kp) (wr := wr) (rd := rd) (rs := rs) (rc := rc) (tm := tm) (ky := ky) (vl := vl) (mo := mo) (gq := gq) (gh := gh) (gw := gw) (gu := gu) (gv := gv) H0 H1 (by omega) (p1)) rfl (fun h1 r2 q3 => ?_)
  obtain ⟨rfl, g4, fx5⟩ := q3
  have fr6 : px_fi 269 1 h h1 := fi_tr fr0 fx5 (by omega)
  show px_to 128 4 [some (.ref (269))] [.int (bI ((rdT tx p).1))] h1 _
  refine e_if_ne f_128_4 rfl (fun c_4 => ?_) (fun c_4 => ?_)
  · skip
    have c_4 : ((rdT tx p).1) = true := bI_t c_4
    refine e_aload_n f_128_9 rfl rfl ?_
    refine e_getf f_128_10 g4 rfl rfl ?_
    show px_to 128 13 [some (.ref (269))] [.int (if (rdT tx p).1 = true then nI (rdT tx p).2.1 else rd)] h1 _
    refine e_if_gt f_128_13 rfl (fun c_13 => ?_) (fun c_13 => ?_)
    · skip
      rw [if_pos c_4] at c_13
      rw [← nI_0] at c_13
      have c_13 : 0 < (rdT tx p).2.1 := cv_lt (by omega) (by omega) c_13
      refine e_iconst (v := nI 1) f_128_23 (by decide) rfl ?_
      refine e_goto f_128_24 ?_
      refine e_iret f_128_28 rfl (rfl) ?_
      have hb : ((rdT tx p).1 && decide (0 < (rdT tx p).2.1)) = true := by rw [c_4, decide_eq_true c_13]; rfl
      have z := g4
      rw [c_4] at z
      rw [hb, c_4]
      exact ⟨rfl, z, fr6⟩
    · skip
      rw [if_pos c_4] at c_13
      rw [← nI_0] at c_13
      have c_13 : (rdT tx p).2.1 ≤ 0 := cv_nlt (by omega) (by omega) c_13
      refine e_aload_n f_128_16 rfl rfl ?_
      refine e_callV (As := []) (rest := []) f_128_17 rfl rfl rfl (Nat.le_of_ble_eq_true rfl) (Nat.le_of_ble_eq_true rfl) g4 rfl (Nat.le_of_ble_eq_true rfl) (cc_Md_fails (tx := tx) (sn := sn) (cn := cn) (p := (rdT tx p).2.2) (kp := kp) (wr := if (rdT tx p).1 = true then wr else nI (rdT tx p).2.2) (rd := if (rdT tx p).1 = true then nI (rdT tx p).2.1 else rd) (rs := rs) (rc := rc) (tm := tm) (ky := ky) (vl := vl) (mo := mo) (gq := gq) (gh := gh) (gw := gw) (gu := gu) (gv := gv) g4 ) rfl (fun h7 r8 q9 => ?_)
      obtain ⟨rfl, g10, fx11⟩ := q9
      have fr12 : px_fi 269 1 h h7 := fi_tr fr6 fx11 (by omega)
      show px_to 128 20 [some (.ref (269))] [.int (nI 0)] h7 _
      refine e_if_eq_t f_128_20 (by decide) ?_
      refine e_iconst (v := nI 0) f_128_27 (by decide) rfl ?_
      refine e_iret f_128_28 rfl (rfl) ?_
      have hb : ((rdT tx p).1 && decide (0 < (rdT tx p).2.1)) = false := by rw [c_4, decide_eq_false (by omega)]; rfl
      have z := g10
      rw [c_4] at z
      rw [hb, c_4]
      exact ⟨rfl, z, fr12⟩
  · skip
    have c_4 : ((rdT tx p).1) = false := bI_f' c_4
    refine e_iconst (v := nI 0) f_128_7 (by decide) rfl ?_
    refine e_iret f_128_8 rfl (rfl) ?_
    have hb : ((rdT tx p).1 && decide (0 < (rdT tx p).2.1)) = false := by rw [c_4]; rfl
    have z := g4
    rw [c_4] at z
    rw [hb, c_4]
    exact ⟨rfl, z, fr6⟩
