abbrev gA := Int32 × Int32 × Int32
abbrev gP := Int32 × Bool × Int32 × Int32 × Int32 × Int32 × Int32 × Int32 × Int32 × Int32
abbrev gQ := Int32 × Bool × Int32 × Int32 × Bool × Bool × Bool
abbrev gH := Int32 × Int32
abbrev gW := Int32 × Int32 × Int32
abbrev gU := Int32 × Int32 × Int32
abbrev gV := Int32 × Int32 × Int32 × Int32 × Int32 × Bool × Int32 × Int32 × Int32
def mB (ga : gA) (gp : gP) (gq : gQ) (gh : gH) (gw : gW) (gu : gU) (gv : gV) : List Value := [.ref (270), .int (ga.1), .int (ga.2.1), .ref (271), .ref (272), .ref (273), .int (ga.2.2), .ref (274), .ref (275), .ref (276), .ref (277), .ref (278), .ref (279), .ref (280), .ref (281), .ref (282), .ref (283), .int (gp.1), .int (bI gp.2.1), .int (gp.2.2.1), .int (gp.2.2.2.1), .int (gp.2.2.2.2.1), .int (gp.2.2.2.2.2.1), .int (gp.2.2.2.2.2.2.1), .int (gp.2.2.2.2.2.2.2.1), .int (gp.2.2.2.2.2.2.2.2.1), .int (gp.2.2.2.2.2.2.2.2.2), .int (gq.1), .ref (284), .ref (285), .ref (286), .ref (287), .ref (288), .int (gh.1), .ref (289), .ref (290), .ref (291), .int (gh.2), .ref (292), .ref (293), .ref (294), .int (bI gq.2.1), .int (gq.2.2.1), .int (gq.2.2.2.1), .int (bI gq.2.2.2.2.1), .int (bI gq.2.2.2.2.2.1), .int (bI gq.2.2.2.2.2.2), .ref (295), .int (gw.1), .int (gw.2.1), .int (gw.2.2), .ref (296), .int (gu.1), .int (gu.2.1), .ref (297), .ref (298), .ref (299), .int (gu.2.2), .ref (300), .ref (301), .ref (302), .int (gv.1), .int (gv.2.1), .int (gv.2.2.1), .int (gv.2.2.2.1), .int (gv.2.2.2.2.1), .int (bI gv.2.2.2.2.2.1), .int (gv.2.2.2.2.2.2.1), .ref (303), .int (gv.2.2.2.2.2.2.2.1), .int (gv.2.2.2.2.2.2.2.2)]

set_option maxRecDepth 20000 in
set_option maxHeartbeats 4000000 in
theorem cc_Md_in {h : px_H} {v lo hi : Int32}   : px_wp 118 [.int (v), .int (lo), .int (hi)] h (fun h1 r => r = some (.int (bI (decide (lo ≤ v ∧ v ≤ hi)))) ∧ h1 = h) := by
  show px_to 118 0 [some (.int (v)), some (.int (lo)), some (.int (hi))] [] h _
  refine e_iload_n f_118_0 rfl rfl ?_
  refine e_iload_n f_118_1 rfl rfl ?_
  refine e_icmp_lt f_118_2 rfl (fun c_2 => ?_) (fun c_2 => ?_)
  · skip
    refine e_iconst (v := nI 0) f_118_14 (by decide) rfl ?_
    refine e_iret f_118_15 rfl (rfl) ?_
    exact ⟨congrArg (fun z => some (Value.int z)) (b0 (decide_eq_false (fun z => Int32.not_le.mpr c_2 z.1))), rfl⟩
  · skip
    refine e_iload_n f_118_5 rfl rfl ?_
    refine e_iload_n f_118_6 rfl rfl ?_
    refine e_icmp_gt f_118_7 rfl (fun c_7 => ?_) (fun c_7 => ?_)
    · skip
      refine e_iconst (v := nI 0) f_118_14 (by decide) rfl ?_
      refine e_iret f_118_15 rfl (rfl) ?_
      exact ⟨congrArg (fun z => some (Value.int z)) (b0 (decide_eq_false (fun z => Int32.not_le.mpr c_7 z.2))), rfl⟩
    · skip
      refine e_iconst (v := nI 1) f_118_10 (by decide) rfl ?_
      refine e_goto f_118_11 ?_
      refine e_iret f_118_15 rfl (rfl) ?_
      exact ⟨congrArg (fun z => some (Value.int z)) (b1 (decide_eq_true ⟨Int32.not_lt.mp c_2, Int32.not_lt.mp c_7⟩)), rfl⟩

set_option maxRecDepth 20000 in
set_option maxHeartbeats 4000000 in
theorem ll_Md_look {h0 : px_H} {tx : List Nat} {sn cn : Int32} {y rs rc tm : Nat} {kp : Bool} {wr rd ky vl mo : Int32} {gq : gQ} {gh : gH} {gw : gW} {gu : gU} {gv : gV} (H1 : px_pa h0 270 52 500 vN tx) (p1 : okTx tx) : ∀ (d : Nat) (p : Nat) (g : px_H), (tx.length ≤ p + d) → (p ≤ tx.length) → (p + sk (tx.drop p) = y) → g.2.2 269 = some (12, mB (nI tx.length, sn, cn) (nI p, kp, wr, rd, nI rs, nI rc, nI tm, ky, vl, mo) gq gh gw gu gv) → px_fi 269 1 h0 g → px_to 120 0 [some (.ref (269))] [] g (fun h1 r => r = some (.int (nI (tx.getD y 0))) ∧ h1.2.2 269 = some (12, mB (nI tx.length, sn, cn) (nI y, kp, wr, rd, nI rs, nI rc, nI tm, ky, vl, mo) gq gh gw gu gv) ∧ px_fi 269 1 h0 h1) := by
  intro d
  induction d using Nat.strongRecOn with
  | ind d ih =>
    intro p g q0 q1 q2 G0 frg
    have le := pa_len H1
    refine e_aload_n f_120_0 rfl rfl ?_
    refine e_getf f_120_1 G0 rfl rfl ?_
    show px_to 120 4 [some (.ref (269))] [.int (nI p)] g _
    refine e_aload_n f_120_4 rfl rfl ?_
    refine e_getf f_120_5 G0 rfl rfl ?_
    show px_to 120 8 [some (.ref (269))] [.int (nI tx.length), .int (nI p)] g _
    refine e_icmp_ge f_120_8 rfl (fun c_8 => ?_) (fun c_8 => ?_)
    · skip
      have c_8 : tx.length ≤ p := cv_le (by omega) (by omega) c_8
      refine e_aload_n f_120_38 rfl rfl ?_
      refine e_getf f_120_39 G0 rfl rfl ?_
      show px_to 120 42 [some (.ref (269))] [.int (nI p)] g _
      refine e_aload_n f_120_42 rfl rfl ?_
      refine e_getf f_120_43 G0 rfl rfl ?_
      show px_to 120 46 [some (.ref (269))] [.int (nI tx.length), .int (nI p)] g _
      refine e_icmp_ge f_120_46 rfl (fun c_46 => ?_) (fun c_46 => ?_)
      · skip
        have c_46 : tx.length ≤ p := cv_le (by omega) (by omega) c_46
        refine e_iconst (v := nI 0) f_120_61 (by decide) rfl ?_
        refine e_iret f_120_62 rfl (rfl) ?_
        have ey : p = y := by rw [← q2]; rw [List.drop_eq_nil_of_le (by omega)]; rfl
        subst ey
        first | (exfalso; omega) | exact ⟨rfl, G0, frg⟩ | exact ⟨by rw [List.getD_eq_getElem?_getD, List.getElem?_eq_none (by omega)]; rfl, G0, frg⟩
      · skip
        have c_46 : p < tx.length := cv_nle (by omega) (by omega) c_46
        refine e_aload_n f_120_49 rfl rfl ?_
        refine e_getf f_120_50 G0 rfl rfl ?_
        refine e_aload_n f_120_53 rfl rfl ?_
        refine e_getf f_120_54 G0 rfl rfl ?_
        show px_to 120 57 [some (.ref (269))] [.int (nI p), .ref (270)] g _
        have g1 : px_pa g 270 52 500 vN tx := pa_fi H1 frg (by omega)
        refine e_caload_p (xs := tx) f_120_57 g1 (d := 0) (by first | omega | (simp only [List.length_set]; omega)) rfl ?_
        show px_to 120 58 [some (.ref (269))] [.int (nI (tx.getD p 0))] g _
        refine e_goto f_120_58 ?_
        refine e_iret f_120_62 rfl (nw_ch (by omega)) ?_
        have ey : p = y := by rw [← q2]; rw [List.drop_eq_nil_of_le (by omega)]; rfl
        subst ey
        first | (exfalso; omega) | exact ⟨rfl, G0, frg⟩ | exact ⟨by rw [List.getD_eq_getElem?_getD, List.getElem?_eq_none (by omega)]; rfl, G0, frg⟩
    · skip
      have c_8 : p < tx.length := cv_nle (by omega) (by omega) c_8
      have htc := p1 _ (getD_mem 0 (show p < tx.length by omega))
      refine e_aload_n f_120_11 rfl rfl ?_
      refine e_getf f_120_12 G0 rfl rfl ?_
      refine e_aload_n f_120_15 rfl rfl ?_
      refine e_getf f_120_16 G0 rfl rfl ?_
      show px_to 120 19 [some (.ref (269))] [.int (nI p), .ref (270)] g _
      have g2 : px_pa g 270 52 500 vN tx := pa_fi H1 frg (by omega)
      refine e_caload_p (xs := tx) f_120_19 g2 (d := 0) (by first | omega | (simp only [List.length_set]; omega)) rfl ?_
      show px_to 120 20 [some (.ref (269))] [.int (nI (tx.getD p 0))] g _
      refine e_bipush (v := nI 32) f_120_20 (by decide) rfl ?_
      refine e_icmp_ne f_120_22 rfl (fun c_22 => ?_) (fun c_22 => ?_)
      · skip
        have c_22 : tx.getD p 0 ≠ 32 := cv_ne c_22
        refine e_aload_n f_120_38 rfl rfl ?_
        refine e_getf f_120_39 G0 rfl rfl ?_
        show px_to 120 42 [some (.ref (269))] [.int (nI p)] g _
        refine e_aload_n f_120_42 rfl rfl ?_
        refine e_getf f_120_43 G0 rfl rfl ?_
        show px_to 120 46 [some (.ref (269))] [.int (nI tx.length), .int (nI p)] g _
        refine e_icmp_ge f_120_46 rfl (fun c_46 => ?_) (fun c_46 => ?_)
        · skip
          have c_46 : tx.length ≤ p := cv_le (by omega) (by omega) c_46
          refine e_iconst (v := nI 0) f_120_61 (by decide) rfl ?_
          refine e_iret f_120_62 rfl (rfl) ?_
          have ey : p = y := by rw [← q2]; rw [drop_step 0 (show p < tx.length by omega), sk, if_neg c_22]; rfl
          subst ey
          first | (exfalso; omega) | exact ⟨rfl, G0, frg⟩ | exact ⟨by rw [List.getD_eq_getElem?_getD, List.getElem?_eq_none (by omega)]; rfl, G0, frg⟩
        · skip
          have c_46 : p < tx.length := cv_nle (by omega) (by omega) c_46
          refine e_aload_n f_120_49 rfl rfl ?_
          refine e_getf f_120_50 G0 rfl rfl ?_
          refine e_aload_n f_120_53 rfl rfl ?_
          refine e_getf f_120_54 G0 rfl rfl ?_
          show px_to 120 57 [some (.ref (269))] [.int (nI p), .ref (270)] g _
          refine e_caload_p (xs := tx) f_120_57 g2 (d := 0) (by first | omega | (simp only [List.length_set]; omega)) rfl ?_
          show px_to 120 58 [some (.ref (269))] [.int (nI (tx.getD p 0))] g _
          refine e_goto f_120_58 ?_
          refine e_iret f_120_62 rfl (nw_ch (by omega)) ?_
          have ey : p = y := by rw [← q2]; rw [drop_step 0 (show p < tx.length by omega), sk, if_neg c_22]; rfl
          subst ey
          first | (exfalso; omega) | exact ⟨rfl, G0, frg⟩ | exact ⟨by rw [List.getD_eq_getElem?_getD, List.getElem?_eq_none (by omega)]; rfl, G0, frg⟩
      · skip
        have c_22 : tx.getD p 0 = 32 := cv_nne (by omega) (by omega) c_22
        refine e_aload_n f_120_25 rfl rfl ?_
        refine e_dup f_120_26 rfl rfl ?_
        refine e_getf f_120_27 G0 rfl rfl ?_
        show px_to 120 30 [some (.ref (269))] [.int (nI p), .ref (269)] g _
        refine e_iconst (v := nI 1) f_120_30 (by decide) rfl ?_
        refine e_iadd (z := nI (p + 1)) f_120_31 (nI_add _ _) rfl ?_
        refine e_putp (vs' := mB (nI tx.length, sn, cn) (nI (p + 1), kp, wr, rd, nI rs, nI rc, nI tm, ky, vl, mo) gq gh gw gu gv) f_120_32 G0 (Nat.le_of_ble_eq_true rfl) (rfl) (rfl) rfl rfl (fun h3 g4 fx5 => ?_)
        have fr6 : px_fi 269 1 h0 h3 := fi_tr frg fx5 (by omega)
        refine e_goto f_120_35 ?_
        first | (exfalso; omega) | exact ih (d - 1) (by omega) (p + 1) h3 (by omega) (by omega) (by rw [drop_step 0 (show p < tx.length by omega), sk, if_pos c_22] at q2; omega) g4 fr6

set_option maxRecDepth 20000 in
set_option maxHeartbeats 4000000 in
theorem cc_Md_look {h : px_H} {tx : List Nat} {sn cn : Int32} {p rs rc tm : Nat} {kp : Bool} {wr rd ky vl mo : Int32} {gq : gQ} {gh : gH} {gw : gW} {gu : gU} {gv : gV} (H0 : h.2.2 269 = some (12, mB (nI tx.length, sn, cn) (nI p, kp, wr, rd, nI rs, nI rc, nI tm, ky, vl, mo) gq gh gw gu gv)) (H1 : px_pa h 270 52 500 vN tx) (p0 : p ≤ tx.length) (p1 : okTx tx) : px_wp 120 [.ref (269)] h (fun h1 r => r = some (.int (nI (sgn tx p))) ∧ h1.2.2 269 = some (12, mB (nI tx.length, sn, cn) (nI (skp tx p), kp, wr, rd, nI rs, nI rc, nI tm, ky, vl, mo) gq gh gw gu gv) ∧ px_fi 269 1 h h1) := by
  have fr0 : px_fi 269 1 h h := fi_rf _ _ _
  show px_to 120 0 [some (.ref (269))] [] h _
  exact ll_Md_look (h0 := h) H1 p1 tx.length p h (by omega) p0 rfl H0 fr0

set_option maxRecDepth 20000 in
set_option maxHeartbeats 4000000 in
theorem cc_Md_fails {h : px_H} {tx : List Nat} {sn cn : Int32} {p rs rc tm : Nat} {kp : Bool} {wr rd ky vl mo : Int32} {gq : gQ} {gh : gH} {gw : gW} {gu : gU} {gv : gV} (H0 : h.2.2 269 = some (12, mB (nI tx.length, sn, cn) (nI p, kp, wr, rd, nI rs, nI rc, nI tm, ky, vl, mo) gq gh gw gu gv))  : px_wp 121 [.ref (269)] h (fun h1 r => r = some (.int (nI 0)) ∧ h1.2.2 269 = some (12, mB (nI tx.length, sn, cn) (nI p, kp, nI p, rd, nI rs, nI rc, nI tm, ky, vl, mo) gq gh gw gu gv) ∧ px_fi 269 1 h h1) := by
  have fr0 : px_fi 269 1 h h := fi_rf _ _ _
  show px_to 121 0 [some (.ref (269))] [] h _
  refine e_aload_n f_121_0 rfl rfl ?_
  refine e_aload_n f_121_1 rfl rfl ?_
  refine e_getf f_121_2 H0 rfl rfl ?_
  show px_to 121 5 [some (.ref (269))] [.int (nI p), .ref (269)] h _
  refine e_putp (vs' := mB (nI tx.length, sn, cn) (nI p, kp, nI p, rd, nI rs, nI rc, nI tm, ky, vl, mo) gq gh gw gu gv) f_121_5 H0 (Nat.le_of_ble_eq_true rfl) (rfl) (rfl) rfl rfl (fun h1 g2 fx3 => ?_)
  have fr4 : px_fi 269 1 h h1 := fi_tr fr0 fx3 (by omega)
  refine e_iconst (v := nI 0) f_121_8 (by decide) rfl ?_
  refine e_iret f_121_9 rfl (rfl) ?_
  first | (exfalso; omega) | exact ⟨rfl, g2, fr4⟩

set_option maxRecDepth 20000 in
set_option maxHeartbeats 4000000 in
theorem cc_Md_takes {h : px_H} {c : Nat} {tx : List Nat} {sn cn : Int32} {p rs rc tm : Nat} {kp : Bool} {wr rd ky vl mo : Int32} {gq : gQ} {gh : gH} {gw : gW} {gu : gU} {gv : gV} (H0 : h.2.2 269 = some (12, mB (nI tx.length, sn, cn) (nI p, kp, wr, rd, nI rs, nI rc, nI tm, ky, vl, mo) gq gh gw gu gv)) (H1 : px_pa h 270 52 500 vN tx) (p0 : p ≤ tx.length) (p1 : okTx tx) (p2 : c < 128) : px_wp 122 [.ref (269), .int (nI c)] h (fun h1 r => r = some (.int (bI (decide (sgn tx p = c)))) ∧ h1.2.2 269 = some (12, mB (nI tx.length, sn, cn) (nI (if sgn tx p = c then skp tx p + 1 else skp tx p), kp, if sgn tx p = c then wr else nI (skp tx p), rd, nI rs, nI rc, nI tm, ky, vl, mo) gq gh gw gu gv) ∧ px_fi 269 1 h h1) := by
  have fr0 : px_fi 269 1 h h := fi_rf _ _ _
  have le := pa_len H1
  have hsl : sgn tx p < 127 := tx_lt p1 _
  have hsk := skp_le p0
  show px_to 122 0 [some (.ref (269)), some (.int (nI c))] [] h _
  refine e_aload_n f_122_0 rfl rfl ?_
  refine e_callV (As := []) (rest := []) f_122_1 rfl rfl rfl (Nat.le_of_ble_eq_true rfl) (Nat.le_of_ble_eq_true rfl) H0 rfl (Nat.le_of_ble_eq_true rfl) (cc_Md_look (tx := tx) (sn := sn) (cn := cn) (p := p) (kp := kp) (wr := wr) (rd := rd) (rs := rs) (rc := rc) (tm := tm) (ky := ky) (vl := vl) (mo := mo) (gq := gq) (gh := gh) (gw := gw) (gu := gu) (gv := gv) H0 H1 (by omega) (p1)) rfl (fun h1 r2 q3 => ?_)
  obtain ⟨rfl, g4, fx5⟩ := q3
  have fr6 : px_fi 269 1 h h1 := fi_tr fr0 fx5 (by omega)
  show px_to 122 4 [some (.ref (269)), some (.int (nI c))] [.int (nI (sgn tx p))] h1 _
  refine e_iload_n f_122_4 rfl rfl ?_
  refine e_icmp_eq f_122_5 rfl (fun c_5 => ?_) (fun c_5 => ?_)
  · skip
    have c_5 : sgn tx p = c := cv_eq (by omega) (by omega) c_5
    refine e_aload_n f_122_13 rfl rfl ?_
    refine e_dup f_122_14 rfl rfl ?_
    refine e_getf f_122_15 g4 rfl rfl ?_
    show px_to 122 18 [some (.ref (269)), some (.int (nI c))] [.int (nI (skp tx p)), .ref (269)] h1 _
    refine e_iconst (v := nI 1) f_122_18 (by decide) rfl ?_
    refine e_iadd (z := nI (skp tx p + 1)) f_122_19 (nI_add _ _) rfl ?_
    refine e_putp (vs' := mB (nI tx.length, sn, cn) (nI (skp tx p + 1), kp, wr, rd, nI rs, nI rc, nI tm, ky, vl, mo) gq gh gw gu gv) f_122_20 g4 (Nat.le_of_ble_eq_true rfl) (rfl) (rfl) rfl rfl (fun h7 g8 fx9 => ?_)
    have fr10 : px_fi 269 1 h h7 := fi_tr fr6 fx9 (by omega)
    refine e_iconst (v := nI 1) f_122_23 (by decide) rfl ?_
    refine e_iret f_122_24 rfl (rfl) ?_
    rw [if_pos c_5, if_pos c_5]
    exact ⟨congrArg (fun z => some (Value.int z)) (b1 (decide_eq_true c_5)), g8, fr10⟩
  · skip
    have c_5 : sgn tx p ≠ c := cv_ne c_5
    refine e_aload_n f_122_8 rfl rfl ?_
    refine e_callV (As := []) (rest := []) f_122_9 rfl rfl rfl (Nat.le_of_ble_eq_true rfl) (Nat.le_of_ble_eq_true rfl) g4 rfl (Nat.le_of_ble_eq_true rfl) (cc_Md_fails (tx := tx) (sn := sn) (cn := cn) (p := skp tx p) (kp := kp) (wr := wr) (rd := rd) (rs := rs) (rc := rc) (tm := tm) (ky := ky) (vl := vl) (mo := mo) (gq := gq) (gh := gh) (gw := gw) (gu := gu) (gv := gv) g4 ) rfl (fun h11 r12 q13 => ?_)
    obtain ⟨rfl, g14, fx15⟩ := q13
    have fr16 : px_fi 269 1 h h11 := fi_tr fr6 fx15 (by omega)
    show px_to 122 12 [some (.ref (269)), some (.int (nI c))] [.int (nI 0)] h11 _
    refine e_iret f_122_12 rfl (rfl) ?_
    rw [if_neg c_5, if_neg c_5]
    exact ⟨congrArg (fun z => some (Value.int z)) (b0 (decide_eq_false c_5)), g14, fr16⟩

set_option maxRecDepth 20000 in
set_option maxHeartbeats 4000000 in
theorem cc_Md_one {h : px_H} {a1 a2 a3 a4 : Nat} {tx : List Nat} {sn cn : Int32} {p rs rc tm : Nat} {kp : Bool} {wr rd ky vl mo : Int32} {gq : gQ} {gh : gH} {gw : gW} {gu : gU} {gv : gV} (H0 : h.2.2 269 = some (12, mB (nI tx.length, sn, cn) (nI p, kp, wr, rd, nI rs, nI rc, nI tm, ky, vl, mo) gq gh gw gu gv)) (H1 : px_pa h 270 52 500 vN tx) (p0 : p ≤ tx.length) (p1 : okTx tx) (p2 : 0 < a1 ∧ 0 < a2 ∧ 0 < a3 ∧ 0 < a4 ∧ a1 < 128 ∧ a2 < 128 ∧ a3 < 128 ∧ a4 < 128) : px_wp 123 [.ref (269), .int (nI a1), .int (nI a2), .int (nI a3), .int (nI a4)] h (fun h1 r => r = some (.int (bI (decide (sgn tx p ∈ [a1, a2, a3, a4])))) ∧ h1.2.2 269 = some (12, mB (nI tx.length, sn, cn) (nI (if sgn tx p ∈ [a1, a2, a3, a4] then skp tx p + 1 else skp tx p), kp, if sgn tx p ∈ [a1, a2, a3, a4] then wr else nI (skp tx p), if sgn tx p ∈ [a1, a2, a3, a4] then nI (sgn tx p) else rd, nI rs, nI rc, nI tm, ky, vl, mo) gq gh gw gu gv) ∧ px_fi 269 1 h h1) := by
  have fr0 : px_fi 269 1 h h := fi_rf _ _ _
  have le := pa_len H1
  have hsl : sgn tx p < 127 := tx_lt p1 _
  have hsk := skp_le p0
  show px_to 123 0 [some (.ref (269)), some (.int (nI a1)), some (.int (nI a2)), some (.int (nI a3)), some (.int (nI a4)), none] [] h _
  refine e_aload_n f_123_0 rfl rfl ?_
  refine e_callV (As := []) (rest := []) f_123_1 rfl rfl rfl (Nat.le_of_ble_eq_true rfl) (Nat.le_of_ble_eq_true rfl) H0 rfl (Nat.le_of_ble_eq_true rfl) (cc_Md_look (tx := tx) (sn := sn) (cn := cn) (p := p) (kp := kp) (wr := wr) (rd := rd) (rs := rs) (rc := rc) (tm := tm) (ky := ky) (vl := vl) (mo := mo) (gq := gq) (gh := gh) (gw := gw) (gu := gu) (gv := gv) H0 H1 (by omega) (p1)) rfl (fun h1 r2 q3 => ?_)
  obtain ⟨rfl, g4, fx5⟩ := q3
  have fr6 : px_fi 269 1 h h1 := fi_tr fr0 fx5 (by omega)
  show px_to 123 4 [some (.ref (269)), some (.int (nI a1)), some (.int (nI a2)), some (.int (nI a3)), some (.int (nI a4)), none] [.int (nI (sgn tx p))] h1 _
  refine e_istore (L' := [some (.ref (269)), some (.int (nI a1)), some (.int (nI a2)), some (.int (nI a3)), some (.int (nI a4)), some (.int (nI (sgn tx p)))]) f_123_4 (Nat.le_of_ble_eq_true rfl) rfl rfl ?_
  refine e_iload f_123_6 rfl rfl ?_
  refine e_if_eq f_123_8 rfl (fun c_8 => ?_) (fun c_8 => ?_)
  · skip
    rw [← nI_0] at c_8
    have c_8 : sgn tx p = 0 := cv_eq (by omega) (by omega) c_8
    refine e_aload_n f_123_36 rfl rfl ?_
    refine e_callV (As := []) (rest := []) f_123_37 rfl rfl rfl (Nat.le_of_ble_eq_true rfl) (Nat.le_of_ble_eq_true rfl) g4 rfl (Nat.le_of_ble_eq_true rfl) (cc_Md_fails (tx := tx) (sn := sn) (cn := cn) (p := skp tx p) (kp := kp) (wr := wr) (rd := rd) (rs := rs) (rc := rc) (tm := tm) (ky := ky) (vl := vl) (mo := mo) (gq := gq) (gh := gh) (gw := gw) (gu := gu) (gv := gv) g4 ) rfl (fun h7 r8 q9 => ?_)
    obtain ⟨rfl, g10, fx11⟩ := q9
    have fr12 : px_fi 269 1 h h7 := fi_tr fr6 fx11 (by omega)
    show px_to 123 40 [some (.ref (269)), some (.int (nI a1)), some (.int (nI a2)), some (.int (nI a3)), some (.int (nI a4)), some (.int (nI (sgn tx p)))] [.int (nI 0)] h7 _
    refine e_iret f_123_40 rfl (rfl) ?_
    have hin : sgn tx p ∉ [a1, a2, a3, a4] := fun z => by simp only [List.mem_cons, List.not_mem_nil, or_false] at z; omega
    rw [if_neg hin, if_neg hin, if_neg hin]
    exact ⟨congrArg (fun z => some (Value.int z)) (b0 (decide_eq_false hin)), g10, fr12⟩
  · skip
    rw [← nI_0] at c_8
    have c_8 : sgn tx p ≠ 0 := cv_ne c_8
    refine e_iload f_123_11 rfl rfl ?_
    refine e_iload_n f_123_13 rfl rfl ?_
    refine e_icmp_eq f_123_14 rfl (fun c_14 => ?_) (fun c_14 => ?_)
    · skip
      have c_14 : sgn tx p = a1 := cv_eq (by omega) (by omega) c_14
      refine e_aload_n f_123_41 rfl rfl ?_
      refine e_iload f_123_42 rfl rfl ?_
      refine e_putp (vs' := mB (nI tx.length, sn, cn) (nI (skp tx p), kp, wr, nI (sgn tx p), nI rs, nI rc, nI tm, ky, vl, mo) gq gh gw gu gv) f_123_44 g4 (Nat.le_of_ble_eq_true rfl) (rfl) (rfl) rfl rfl (fun h13 g14 fx15 => ?_)
      have fr16 : px_fi 269 1 h h13 := fi_tr fr6 fx15 (by omega)
      refine e_aload_n f_123_47 rfl rfl ?_
      refine e_dup f_123_48 rfl rfl ?_
      refine e_getf f_123_49 g14 rfl rfl ?_
      show px_to 123 52 [some (.ref (269)), some (.int (nI a1)), some (.int (nI a2)), some (.int (nI a3)), some (.int (nI a4)), some (.int (nI (sgn tx p)))] [.int (nI (skp tx p)), .ref (269)] h13 _
      refine e_iconst (v := nI 1) f_123_52 (by decide) rfl ?_
      refine e_iadd (z := nI (skp tx p + 1)) f_123_53 (nI_add _ _) rfl ?_
      refine e_putp (vs' := mB (nI tx.length, sn, cn) (nI (skp tx p + 1), kp, wr, nI (sgn tx p), nI rs, nI rc, nI tm, ky, vl, mo) gq gh gw gu gv) f_123_54 g14 (Nat.le_of_ble_eq_true rfl) (rfl) (rfl) rfl rfl (fun h17 g18 fx19 => ?_)
      have fr20 : px_fi 269 1 h h17 := fi_tr fr16 fx19 (by omega)
      refine e_iconst (v := nI 1) f_123_57 (by decide) rfl ?_
      refine e_iret f_123_58 rfl (rfl) ?_
      have hin : sgn tx p ∈ [a1, a2, a3, a4] := by rw [c_14]; simp
      rw [if_pos hin, if_pos hin, if_pos hin]
      exact ⟨congrArg (fun z => some (Value.int z)) (b1 (decide_eq_true hin)), g18, fr20⟩
    · skip
      have c_14 : sgn tx p ≠ a1 := cv_ne c_14
      refine e_iload f_123_17 rfl rfl ?_
      refine e_iload_n f_123_19 rfl rfl ?_
      refine e_icmp_eq f_123_20 rfl (fun c_20 => ?_) (fun c_20 => ?_)
      · skip
        have c_20 : sgn tx p = a2 := cv_eq (by omega) (by omega) c_20
        refine e_aload_n f_123_41 rfl rfl ?_
        refine e_iload f_123_42 rfl rfl ?_
        refine e_putp (vs' := mB (nI tx.length, sn, cn) (nI (skp tx p), kp, wr, nI (sgn tx p), nI rs, nI rc, nI tm, ky, vl, mo) gq gh gw gu gv) f_123_44 g4 (Nat.le_of_ble_eq_true rfl) (rfl) (rfl) rfl rfl (fun h21 g22 fx23 => ?_)
        have fr24 : px_fi 269 1 h h21 := fi_tr fr6 fx23 (by omega)
        refine e_aload_n f_123_47 rfl rfl ?_
        refine e_dup f_123_48 rfl rfl ?_
        refine e_getf f_123_49 g22 rfl rfl ?_
        show px_to 123 52 [some (.ref (269)), some (.int (nI a1)), some (.int (nI a2)), some (.int (nI a3)), some (.int (nI a4)), some (.int (nI (sgn tx p)))] [.int (nI (skp tx p)), .ref (269)] h21 _
        refine e_iconst (v := nI 1) f_123_52 (by decide) rfl ?_
        refine e_iadd (z := nI (skp tx p + 1)) f_123_53 (nI_add _ _) rfl ?_
        refine e_putp (vs' := mB (nI tx.length, sn, cn) (nI (skp tx p + 1), kp, wr, nI (sgn tx p), nI rs, nI rc, nI tm, ky, vl, mo) gq gh gw gu gv) f_123_54 g22 (Nat.le_of_ble_eq_true rfl) (rfl) (rfl) rfl rfl (fun h25 g26 fx27 => ?_)
        have fr28 : px_fi 269 1 h h25 := fi_tr fr24 fx27 (by omega)
        refine e_iconst (v := nI 1) f_123_57 (by decide) rfl ?_
        refine e_iret f_123_58 rfl (rfl) ?_
        have hin : sgn tx p ∈ [a1, a2, a3, a4] := by rw [c_20]; simp
        rw [if_pos hin, if_pos hin, if_pos hin]
        exact ⟨congrArg (fun z => some (Value.int z)) (b1 (decide_eq_true hin)), g26, fr28⟩
      · skip
        have c_20 : sgn tx p ≠ a2 := cv_ne c_20
        refine e_iload f_123_23 rfl rfl ?_
        refine e_iload_n f_123_25 rfl rfl ?_
        refine e_icmp_eq f_123_26 rfl (fun c_26 => ?_) (fun c_26 => ?_)
        · skip
          have c_26 : sgn tx p = a3 := cv_eq (by omega) (by omega) c_26
          refine e_aload_n f_123_41 rfl rfl ?_
          refine e_iload f_123_42 rfl rfl ?_
          refine e_putp (vs' := mB (nI tx.length, sn, cn) (nI (skp tx p), kp, wr, nI (sgn tx p), nI rs, nI rc, nI tm, ky, vl, mo) gq gh gw gu gv) f_123_44 g4 (Nat.le_of_ble_eq_true rfl) (rfl) (rfl) rfl rfl (fun h29 g30 fx31 => ?_)
          have fr32 : px_fi 269 1 h h29 := fi_tr fr6 fx31 (by omega)
          refine e_aload_n f_123_47 rfl rfl ?_
          refine e_dup f_123_48 rfl rfl ?_
          refine e_getf f_123_49 g30 rfl rfl ?_
          show px_to 123 52 [some (.ref (269)), some (.int (nI a1)), some (.int (nI a2)), some (.int (nI a3)), some (.int (nI a4)), some (.int (nI (sgn tx p)))] [.int (nI (skp tx p)), .ref (269)] h29 _
          refine e_iconst (v := nI 1) f_123_52 (by decide) rfl ?_
          refine e_iadd (z := nI (skp tx p + 1)) f_123_53 (nI_add _ _) rfl ?_
          refine e_putp (vs' := mB (nI tx.length, sn, cn) (nI (skp tx p + 1), kp, wr, nI (sgn tx p), nI rs, nI rc, nI tm, ky, vl, mo) gq gh gw gu gv) f_123_54 g30 (Nat.le_of_ble_eq_true rfl) (rfl) (rfl) rfl rfl (fun h33 g34 fx35 => ?_)
          have fr36 : px_fi 269 1 h h33 := fi_tr fr32 fx35 (by omega)
          refine e_iconst (v := nI 1) f_123_57 (by decide) rfl ?_
          refine e_iret f_123_58 rfl (rfl) ?_
          have hin : sgn tx p ∈ [a1, a2, a3, a4] := by rw [c_26]; simp
          rw [if_pos hin, if_pos hin, if_pos hin]
          exact ⟨congrArg (fun z => some (Value.int z)) (b1 (decide_eq_true hin)), g34, fr36⟩
        · skip
          have c_26 : sgn tx p ≠ a3 := cv_ne c_26
          refine e_iload f_123_29 rfl rfl ?_
          refine e_iload f_123_31 rfl rfl ?_
          refine e_icmp_eq f_123_33 rfl (fun c_33 => ?_) (fun c_33 => ?_)
          · skip
            have c_33 : sgn tx p = a4 := cv_eq (by omega) (by omega) c_33
            refine e_aload_n f_123_41 rfl rfl ?_
            refine e_iload f_123_42 rfl rfl ?_
            refine e_putp (vs' := mB (nI tx.length, sn, cn) (nI (skp tx p), kp, wr, nI (sgn tx p), nI rs, nI rc, nI tm, ky, vl, mo) gq gh gw gu gv) f_123_44 g4 (Nat.le_of_ble_eq_true rfl) (rfl) (rfl) rfl rfl (fun h37 g38 fx39 => ?_)
            have fr40 : px_fi 269 1 h h37 := fi_tr fr6 fx39 (by omega)
            refine e_aload_n f_123_47 rfl rfl ?_
            refine e_dup f_123_48 rfl rfl ?_
            refine e_getf f_123_49 g38 rfl rfl ?_
            show px_to 123 52 [some (.ref (269)), some (.int (nI a1)), some (.int (nI a2)), some (.int (nI a3)), some (.int (nI a4)), some (.int (nI (sgn tx p)))] [.int (nI (skp tx p)), .ref (269)] h37 _
            refine e_iconst (v := nI 1) f_123_52 (by decide) rfl ?_
            refine e_iadd (z := nI (skp tx p + 1)) f_123_53 (nI_add _ _) rfl ?_
            refine e_putp (vs' := mB (nI tx.length, sn, cn) (nI (skp tx p + 1), kp, wr, nI (sgn tx p), nI rs, nI rc, nI tm, ky, vl, mo) gq gh gw gu gv) f_123_54 g38 (Nat.le_of_ble_eq_true rfl) (rfl) (rfl) rfl rfl (fun h41 g42 fx43 => ?_)
            have fr44 : px_fi 269 1 h h41 := fi_tr fr40 fx43 (by omega)
            refine e_iconst (v := nI 1) f_123_57 (by decide) rfl ?_
            refine e_iret f_123_58 rfl (rfl) ?_
            have hin : sgn tx p ∈ [a1, a2, a3, a4] := by rw [c_33]; simp
            rw [if_pos hin, if_pos hin, if_pos hin]
            exact ⟨congrArg (fun z => some (Value.int z)) (b1 (decide_eq_true hin)), g42, fr44⟩
          · skip
            have c_33 : sgn tx p ≠ a4 := cv_ne c_33
            refine e_aload_n f_123_36 rfl rfl ?_
            refine e_callV (As := []) (rest := []) f_123_37 rfl rfl rfl (Nat.le_of_ble_eq_true rfl) (Nat.le_of_ble_eq_true rfl) g4 rfl (Nat.le_of_ble_eq_true rfl) (cc_Md_fails (tx := tx) (sn := sn) (cn := cn) (p := skp tx p) (kp := kp) (wr := wr) (rd := rd) (rs := rs) (rc := rc) (tm := tm) (ky := ky) (vl := vl) (mo := mo) (gq := gq) (gh := gh) (gw := gw) (gu := gu) (gv := gv) g4 ) rfl (fun h45 r46 q47 => ?_)
            obtain ⟨rfl, g48, fx49⟩ := q47
            have fr50 : px_fi 269 1 h h45 := fi_tr fr6 fx49 (by omega)
            show px_to 123 40 [some (.ref (269)), some (.int (nI a1)), some (.int (nI a2)), some (.int (nI a3)), some (.int (nI a4)), some (.int (nI (sgn tx p)))] [.int (nI 0)] h45 _
            refine e_iret f_123_40 rfl (rfl) ?_
            have hin : sgn tx p ∉ [a1, a2, a3, a4] := fun z => by simp only [List.mem_cons, List.not_mem_nil, or_false] at z; omega
            rw [if_neg hin, if_neg hin, if_neg hin]
            exact ⟨congrArg (fun z => some (Value.int z)) (b0 (decide_eq_false hin)), g48, fr50⟩
