theorem sI_n : ∀ n, n < 1000 → (nI n).toInt16.toInt32 = nI n := by decide +kernel
theorem sI_m : ∀ n, n < 1000 → (-(nI n)).toInt16.toInt32 = -(nI n) := by decide +kernel
theorem rdI_s {tx : List Nat} {p : Nat} : ((rdI tx p).2.1).toInt16.toInt32 = (rdI tx p).2.1 := by
  unfold rdI
  split
  · exact sI_m _ (Nat.lt_of_le_of_lt dgs_b3 (by decide))
  · exact sI_n _ (Nat.lt_of_le_of_lt dgs_b3 (by decide))
theorem nw_s {x : Int32} (h : x.toInt16.toInt32 = x) : narrow .short (.int x) = .int x := congrArg Value.int h
theorem nw_y {x : Int32} (h : x.toInt8.toInt32 = x) : narrow .byte (.int x) = .int x := congrArg Value.int h
theorem rdRow_s {tx : List Nat} {p : Nat} : ((rdRow tx p).2.2.2.1).toInt16.toInt32 = (rdRow tx p).2.2.2.1 := by
  unfold rdRow
  split
  · split
    · exact rdI_s
    · show (0 : Int32).toInt16.toInt32 = 0; decide
  · show (0 : Int32).toInt16.toInt32 = 0; decide
/-- what an event keeps fits its arrays -/
def evFit (e : Ev) : Prop := e.2.1.toInt8.toInt32 = e.2.1 ∧ e.2.2.1.toInt16.toInt32 = e.2.2.1 ∧ e.2.2.2.toInt16.toInt32 = e.2.2.2
theorem rdEv_fit {tx : List Nat} {s p : Nat} : evFit (rdEv tx s p).2.2 := by
  have h1 := rdRow_ok (tx := tx) (p := p)
  unfold rdEv
  split
  · exact ⟨i2b_id _ (by omega), rdRow_s, sI_n _ (by omega)⟩
  · split
    · exact ⟨by show (-3 : Int32).toInt8.toInt32 = -3; decide, by show (nI 0).toInt16.toInt32 = nI 0; decide, by show (-3 : Int32).toInt16.toInt32 = -3; decide⟩
    · exact ⟨by show (-3 : Int32).toInt8.toInt32 = -3; decide, by show (nI 0).toInt16.toInt32 = nI 0; decide, sI_n _ (Nat.lt_of_le_of_lt rdT_b (by decide))⟩

set_option maxRecDepth 20000 in
set_option maxHeartbeats 4000000 in
theorem cc_Md_evt0 {h : px_H} {s n : Nat} {es : List Ev} {tx : List Nat} {sn cn : Int32} {p rs rc tm : Nat} {kp : Bool} {wr rd ky vl mo : Int32} {gq : gQ} {gh : gH} {gw : gW} {gu : gU} {gv : gV} (H0 : h.2.2 269 = some (12, mB (nI tx.length, sn, cn) (nI p, false, wr, rd, nI rs, nI rc, nI tm, ky, vl, mo) gq gh gw gu gv)) (H1 : px_pa h 270 52 500 vN tx) (p0 : p + 1 ≤ tx.length) (p1 : okTx tx) (p2 : s ∈ evSigns) (p3 : True) (p4 : n < 24 ∧ rc < 8) : px_wp 135 [.ref (269), .int (nI s), .int (nI n)] h (fun h1 r => r = some (.int (bI ((rdEv tx s (p + 1)).1))) ∧ pMS h1 tx sn cn ((rdEv tx s (p + 1)).2.1) false (if (rdEv tx s (p + 1)).1 = true then wr else nI (rdEv tx s (p + 1)).2.1) rs rc tm gq gh gw gu gv (fun _ _ _ => True) ∧ px_fi 269 1 h h1) := by
  have fr0 : px_fi 269 1 h h := fi_rf _ _ _
  have le := pa_len H1
  have hsl : sgn tx (p + 1) < 127 := tx_lt p1 _
  have hsk := skp_le p0
  have hs2 : s = 114 ∨ s = 82 ∨ s = 104 ∨ s = 72 ∨ s = 107 ∨ s = 120 := by simpa [evSigns] using p2
  show px_to 135 0 [some (.ref (269)), some (.int (nI s)), some (.int (nI n)), none] [] h _
  refine e_aload_n f_135_0 rfl rfl ?_
  refine e_dup f_135_1 rfl rfl ?_
  refine e_getf f_135_2 H0 rfl rfl ?_
  show px_to 135 5 [some (.ref (269)), some (.int (nI s)), some (.int (nI n)), none] [.int (nI p), .ref (269)] h _
  refine e_iconst (v := nI 1) f_135_5 (by decide) rfl ?_
  refine e_iadd (z := nI (p + 1)) f_135_6 (nI_add _ _) rfl ?_
  refine e_putp (vs' := mB (nI tx.length, sn, cn) (nI (p + 1), false, wr, rd, nI rs, nI rc, nI tm, ky, vl, mo) gq gh gw gu gv) f_135_7 H0 (Nat.le_of_ble_eq_true rfl) (rfl) (rfl) rfl rfl (fun h1 g2 fx3 => ?_)
  have fr4 : px_fi 269 1 h h1 := fi_tr fr0 fx3 (by omega)
  refine e_aload_n f_135_10 rfl rfl ?_
  refine e_bipush (v := (-3)) f_135_11 (by decide) rfl ?_
  refine e_putp (vs' := mB (nI tx.length, sn, cn) (nI (p + 1), false, wr, rd, nI rs, nI rc, nI tm, (-3), vl, mo) gq gh gw gu gv) f_135_13 g2 (Nat.le_of_ble_eq_true rfl) (rfl) (rfl) rfl rfl (fun h5 g6 fx7 => ?_)
  have fr8 : px_fi 269 1 h h5 := fi_tr fr4 fx7 (by omega)
  refine e_aload_n f_135_16 rfl rfl ?_
  refine e_iconst (v := nI 0) f_135_17 (by decide) rfl ?_
  refine e_putp (vs' := mB (nI tx.length, sn, cn) (nI (p + 1), false, wr, rd, nI rs, nI rc, nI tm, (-3), nI 0, mo) gq gh gw gu gv) f_135_18 g6 (Nat.le_of_ble_eq_true rfl) (rfl) (rfl) rfl rfl (fun h9 g10 fx11 => ?_)
  have fr12 : px_fi 269 1 h h9 := fi_tr fr8 fx11 (by omega)
  refine e_aload_n f_135_21 rfl rfl ?_
  refine e_bipush (v := (-3)) f_135_22 (by decide) rfl ?_
  refine e_putp (vs' := mB (nI tx.length, sn, cn) (nI (p + 1), false, wr, rd, nI rs, nI rc, nI tm, (-3), nI 0, (-3)) gq gh gw gu gv) f_135_24 g10 (Nat.le_of_ble_eq_true rfl) (rfl) (rfl) rfl rfl (fun h13 g14 fx15 => ?_)
  have fr16 : px_fi 269 1 h h13 := fi_tr fr12 fx15 (by omega)
  refine e_iload_n f_135_27 rfl rfl ?_
  refine e_bipush (v := nI 114) f_135_28 (by decide) rfl ?_
  refine e_icmp_eq f_135_30 rfl (fun c_30 => ?_) (fun c_30 => ?_)
  · skip
    have c_30 : s = 114 := cv_eq (by omega) (by omega) c_30
    refine e_aload_n f_135_39 rfl rfl ?_
    have g17 : px_pa h13 270 52 500 vN tx := pa_fi H1 fr16 (by omega)
    refine e_callV (As := []) (rest := []) f_135_40 rfl rfl rfl (Nat.le_of_ble_eq_true rfl) (Nat.le_of_ble_eq_true rfl) g14 rfl (Nat.le_of_ble_eq_true rfl) (cc_Md_row (tx := tx) (sn := sn) (cn := cn) (p := p + 1) (kp := false) (wr := wr) (rd := rd) (rs := rs) (rc := rc) (tm := tm) (ky := (-3)) (vl := nI 0) (mo := (-3)) (gq := gq) (gh := gh) (gw := gw) (gu := gu) (gv := gv) g14 g17 (p0) (p1)) rfl (fun h18 r19 q20 => ?_)
    obtain ⟨rfl, g21, fx22⟩ := q20
    have fr23 : px_fi 269 1 h h18 := fi_tr fr16 fx22 (by omega)
    show px_to 135 43 [some (.ref (269)), some (.int (nI s)), some (.int (nI n)), none] [.int (bI ((rdRow tx (p + 1)).1))] h18 _
    refine e_if_ne f_135_43 rfl (fun c_43 => ?_) (fun c_43 => ?_)
    · skip
      have c_43 : ((rdRow tx (p + 1)).1) = true := bI_t c_43
      obtain ⟨rd24, ky25, vl26, mo27, g28, hX29⟩ := id g21
      obtain ⟨hk1, hk2, hk3⟩ := hX29 c_43
      have g30 : h18.2.2 269 = some (12, mB (nI tx.length, sn, cn) (nI ((rdRow tx (p + 1)).2.1), false, wr, rd24, nI rs, nI rc, nI tm, nI (rdRow tx (p + 1)).2.2.1, (rdRow tx (p + 1)).2.2.2.1, nI (rdRow tx (p + 1)).2.2.2.2) gq gh gw gu gv) := by have z := g28; rw [hk1, hk2, hk3, c_43, if_pos rfl] at z; exact z
      have ev2 : rdEv tx s (p + 1) = (true, (rdRow tx (p + 1)).2.1, (s, nI (rdRow tx (p + 1)).2.2.1, (rdRow tx (p + 1)).2.2.2.1, nI (rdRow tx (p + 1)).2.2.2.2)) := by unfold rdEv; rw [if_pos (show s = 114 ∨ s = 82 by omega), c_43]
      refine e_iload_n f_135_48 rfl rfl ?_
      refine e_bipush (v := nI 104) f_135_49 (by decide) rfl ?_
      refine e_icmp_eq f_135_51 rfl (fun c_51 => ?_) (fun c_51 => ?_)
      · skip
        have c_51 : s = 104 := cv_eq (by omega) (by omega) c_51
        exfalso; omega
      · skip
        have c_51 : s ≠ 104 := cv_ne c_51
        refine e_iload_n f_135_54 rfl rfl ?_
        refine e_bipush (v := nI 72) f_135_55 (by decide) rfl ?_
        refine e_icmp_ne f_135_57 rfl (fun c_57 => ?_) (fun c_57 => ?_)
        · skip
          have c_57 : s ≠ 72 := cv_ne c_57
          have hft := rdEv_fit (tx := tx) (s := s) (p := p + 1)
          rw [ev2] at hft
          refine e_aload_n f_135_77 rfl rfl ?_
          refine e_getf f_135_78 g30 rfl rfl ?_
          show px_to 135 81 [some (.ref (269)), some (.int (nI s)), some (.int (nI n)), none] [.int (bI false)] h18 _
          refine e_if_eq_t f_135_81 (by decide) ?_
          refine e_iconst (v := nI 1) f_135_134 (by decide) rfl ?_
          refine e_iret f_135_135 rfl (rfl) ?_
          rw [ev2]
          dsimp only
          rw [if_pos rfl]
          exact ⟨rfl, ⟨_, _, _, _, g30, trivial⟩, fr23⟩
        · skip
          have c_57 : s = 72 := cv_nne (by omega) (by omega) c_57
          exfalso; omega
    · skip
      have c_43 : ((rdRow tx (p + 1)).1) = false := bI_f' c_43
      refine e_iconst (v := nI 0) f_135_46 (by decide) rfl ?_
      refine e_iret f_135_47 rfl (rfl) ?_
      obtain ⟨rd31, ky32, vl33, mo34, g35, hX36⟩ := id g21
      have g37 : h18.2.2 269 = some (12, mB (nI tx.length, sn, cn) (nI ((rdRow tx (p + 1)).2.1), false, nI (rdRow tx (p + 1)).2.1, rd31, nI rs, nI rc, nI tm, ky32, vl33, mo34) gq gh gw gu gv) := by have z := g35; rw [c_43, if_neg (by decide)] at z; exact z
      have ev2 : rdEv tx s (p + 1) = (false, (rdRow tx (p + 1)).2.1, (s, nI (rdRow tx (p + 1)).2.2.1, (rdRow tx (p + 1)).2.2.2.1, nI (rdRow tx (p + 1)).2.2.2.2)) := by unfold rdEv; rw [if_pos (show s = 114 ∨ s = 82 by omega), c_43]
      rw [ev2]
      dsimp only
      rw [if_neg (by decide)]
      exact ⟨rfl, ⟨_, _, _, _, g37, trivial⟩, fr23⟩
  · skip
    have c_30 : s ≠ 114 := cv_ne c_30
    refine e_iload_n f_135_33 rfl rfl ?_
    refine e_bipush (v := nI 82) f_135_34 (by decide) rfl ?_
    refine e_icmp_ne f_135_36 rfl (fun c_36 => ?_) (fun c_36 => ?_)
    · skip
      have c_36 : s ≠ 82 := cv_ne c_36
      refine e_iload_n f_135_48 rfl rfl ?_
      refine e_bipush (v := nI 104) f_135_49 (by decide) rfl ?_
      refine e_icmp_eq f_135_51 rfl (fun c_51 => ?_) (fun c_51 => ?_)
      · skip
        have c_51 : s = 104 := cv_eq (by omega) (by omega) c_51
        refine e_aload_n f_135_60 rfl rfl ?_
        have g38 : px_pa h13 270 52 500 vN tx := pa_fi H1 fr16 (by omega)
        refine e_callV (As := []) (rest := []) f_135_61 rfl rfl rfl (Nat.le_of_ble_eq_true rfl) (Nat.le_of_ble_eq_true rfl) g14 rfl (Nat.le_of_ble_eq_true rfl) (cc_Md_time (tx := tx) (sn := sn) (cn := cn) (p := p + 1) (kp := false) (wr := wr) (rd := rd) (rs := rs) (rc := rc) (tm := tm) (ky := (-3)) (vl := nI 0) (mo := (-3)) (gq := gq) (gh := gh) (gw := gw) (gu := gu) (gv := gv) g14 g38 (p0) (p1)) rfl (fun h39 r40 q41 => ?_)
        obtain ⟨rfl, g42, fx43⟩ := q41
        have fr44 : px_fi 269 1 h h39 := fi_tr fr16 fx43 (by omega)
        show px_to 135 64 [some (.ref (269)), some (.int (nI s)), some (.int (nI n)), none] [.int (bI ((rdT tx (p + 1)).1))] h39 _
        refine e_if_ne f_135_64 rfl (fun c_64 => ?_) (fun c_64 => ?_)
        · skip
          have c_64 : ((rdT tx (p + 1)).1) = true := bI_t c_64
          have g45 : h39.2.2 269 = some (12, mB (nI tx.length, sn, cn) (nI ((rdT tx (p + 1)).2.2), false, wr, nI (rdT tx (p + 1)).2.1, nI rs, nI rc, nI tm, (-3), nI 0, (-3)) gq gh gw gu gv) := by have z := g42; rw [c_64, if_pos rfl, if_pos rfl] at z; exact z
          refine e_aload_n f_135_69 rfl rfl ?_
          refine e_aload_n f_135_70 rfl rfl ?_
          refine e_getf f_135_71 g45 rfl rfl ?_
          show px_to 135 74 [some (.ref (269)), some (.int (nI s)), some (.int (nI n)), none] [.int (nI (rdT tx (p + 1)).2.1), .ref (269)] h39 _
          refine e_putp (vs' := mB (nI tx.length, sn, cn) (nI ((rdT tx (p + 1)).2.2), false, wr, nI (rdT tx (p + 1)).2.1, nI rs, nI rc, nI tm, (-3), nI 0, nI (rdT tx (p + 1)).2.1) gq gh gw gu gv) f_135_74 g45 (Nat.le_of_ble_eq_true rfl) (rfl) (rfl) rfl rfl (fun h46 g47 fx48 => ?_)
          have fr49 : px_fi 269 1 h h46 := fi_tr fr44 fx48 (by omega)
          have ev2 : rdEv tx s (p + 1) = (true, (rdT tx (p + 1)).2.2, (s, -3, nI 0, nI (rdT tx (p + 1)).2.1)) := by unfold rdEv; rw [if_neg (show ¬ (s = 114 ∨ s = 82) by omega), if_neg (show ¬ (s = 107 ∨ s = 120) by omega), c_64]
          have hft := rdEv_fit (tx := tx) (s := s) (p := p + 1)
          rw [ev2] at hft
          refine e_aload_n f_135_77 rfl rfl ?_
          refine e_getf f_135_78 g47 rfl rfl ?_
          show px_to 135 81 [some (.ref (269)), some (.int (nI s)), some (.int (nI n)), none] [.int (bI false)] h46 _
          refine e_if_eq_t f_135_81 (by decide) ?_
          refine e_iconst (v := nI 1) f_135_134 (by decide) rfl ?_
          refine e_iret f_135_135 rfl (rfl) ?_
          rw [ev2]
          dsimp only
          rw [if_pos rfl]
          exact ⟨rfl, ⟨_, _, _, _, g47, trivial⟩, fr49⟩
        · skip
          have c_64 : ((rdT tx (p + 1)).1) = false := bI_f' c_64
          refine e_iconst (v := nI 0) f_135_67 (by decide) rfl ?_
          refine e_iret f_135_68 rfl (rfl) ?_
          have g50 : h39.2.2 269 = some (12, mB (nI tx.length, sn, cn) (nI ((rdT tx (p + 1)).2.2), false, nI (rdT tx (p + 1)).2.2, rd, nI rs, nI rc, nI tm, (-3), nI 0, (-3)) gq gh gw gu gv) := by have z := g42; rw [c_64, if_neg (by decide), if_neg (by decide)] at z; exact z
          have ev2 : rdEv tx s (p + 1) = (false, (rdT tx (p + 1)).2.2, (s, -3, nI 0, nI (rdT tx (p + 1)).2.1)) := by unfold rdEv; rw [if_neg (show ¬ (s = 114 ∨ s = 82) by omega), if_neg (show ¬ (s = 107 ∨ s = 120) by omega), c_64]
          rw [ev2]
          dsimp only
          rw [if_neg (by decide)]
          exact ⟨rfl, ⟨_, _, _, _, g50, trivial⟩, fr44⟩
      · skip
        have c_51 : s ≠ 104 := cv_ne c_51
        refine e_iload_n f_135_54 rfl rfl ?_
        refine e_bipush (v := nI 72) f_135_55 (by decide) rfl ?_
        refine e_icmp_ne f_135_57 rfl (fun c_57 => ?_) (fun c_57 => ?_)
        · skip
          have c_57 : s ≠ 72 := cv_ne c_57
          have ev2 : rdEv tx s (p + 1) = (true, p + 1, (s, -3, nI 0, -3)) := by unfold rdEv; rw [if_neg (show ¬ (s = 114 ∨ s = 82) by omega), if_pos (show s = 107 ∨ s = 120 by omega)]
          have hft := rdEv_fit (tx := tx) (s := s) (p := p + 1)
          rw [ev2] at hft
          refine e_aload_n f_135_77 rfl rfl ?_
          refine e_getf f_135_78 g14 rfl rfl ?_
          show px_to 135 81 [some (.ref (269)), some (.int (nI s)), some (.int (nI n)), none] [.int (bI false)] h13 _
          refine e_if_eq_t f_135_81 (by decide) ?_
          refine e_iconst (v := nI 1) f_135_134 (by decide) rfl ?_
          refine e_iret f_135_135 rfl (rfl) ?_
          rw [ev2]
          dsimp only
          rw [if_pos rfl]
          exact ⟨rfl, ⟨_, _, _, _, g14, trivial⟩, fr16⟩
        · skip
          have c_57 : s = 72 := cv_nne (by omega) (by omega) c_57
          refine e_aload_n f_135_60 rfl rfl ?_
          have g51 : px_pa h13 270 52 500 vN tx := pa_fi H1 fr16 (by omega)
          refine e_callV (As := []) (rest := []) f_135_61 rfl rfl rfl (Nat.le_of_ble_eq_true rfl) (Nat.le_of_ble_eq_true rfl) g14 rfl (Nat.le_of_ble_eq_true rfl) (cc_Md_time (tx := tx) (sn := sn) (cn := cn) (p := p + 1) (kp := false) (wr := wr) (rd := rd) (rs := rs) (rc := rc) (tm := tm) (ky := (-3)) (vl := nI 0) (mo := (-3)) (gq := gq) (gh := gh) (gw := gw) (gu := gu) (gv := gv) g14 g51 (p0) (p1)) rfl (fun h52 r53 q54 => ?_)
          obtain ⟨rfl, g55, fx56⟩ := q54
          have fr57 : px_fi 269 1 h h52 := fi_tr fr16 fx56 (by omega)
          show px_to 135 64 [some (.ref (269)), some (.int (nI s)), some (.int (nI n)), none] [.int (bI ((rdT tx (p + 1)).1))] h52 _
          refine e_if_ne f_135_64 rfl (fun c_64 => ?_) (fun c_64 => ?_)
          · skip
            have c_64 : ((rdT tx (p + 1)).1) = true := bI_t c_64
            have g58 : h52.2.2 269 = some (12, mB (nI tx.length, sn, cn) (nI ((rdT tx (p + 1)).2.2), false, wr, nI (rdT tx (p + 1)).2.1, nI rs, nI rc, nI tm, (-3), nI 0, (-3)) gq gh gw gu gv) := by have z := g55; rw [c_64, if_pos rfl, if_pos rfl] at z; exact z
            refine e_aload_n f_135_69 rfl rfl ?_
            refine e_aload_n f_135_70 rfl rfl ?_
            refine e_getf f_135_71 g58 rfl rfl ?_
            show px_to 135 74 [some (.ref (269)), some (.int (nI s)), some (.int (nI n)), none] [.int (nI (rdT tx (p + 1)).2.1), .ref (269)] h52 _
            refine e_putp (vs' := mB (nI tx.length, sn, cn) (nI ((rdT tx (p + 1)).2.2), false, wr, nI (rdT tx (p + 1)).2.1, nI rs, nI rc, nI tm, (-3), nI 0, nI (rdT tx (p + 1)).2.1) gq gh gw gu gv) f_135_74 g58 (Nat.le_of_ble_eq_true rfl) (rfl) (rfl) rfl rfl (fun h59 g60 fx61 => ?_)
            have fr62 : px_fi 269 1 h h59 := fi_tr fr57 fx61 (by omega)
            have ev2 : rdEv tx s (p + 1) = (true, (rdT tx (p + 1)).2.2, (s, -3, nI 0, nI (rdT tx (p + 1)).2.1)) := by unfold rdEv; rw [if_neg (show ¬ (s = 114 ∨ s = 82) by omega), if_neg (show ¬ (s = 107 ∨ s = 120) by omega), c_64]
            have hft := rdEv_fit (tx := tx) (s := s) (p := p + 1)
            rw [ev2] at hft
            refine e_aload_n f_135_77 rfl rfl ?_
            refine e_getf f_135_78 g60 rfl rfl ?_
            show px_to 135 81 [some (.ref (269)), some (.int (nI s)), some (.int (nI n)), none] [.int (bI false)] h59 _
            refine e_if_eq_t f_135_81 (by decide) ?_
            refine e_iconst (v := nI 1) f_135_134 (by decide) rfl ?_
            refine e_iret f_135_135 rfl (rfl) ?_
            rw [ev2]
            dsimp only
            rw [if_pos rfl]
            exact ⟨rfl, ⟨_, _, _, _, g60, trivial⟩, fr62⟩
          · skip
            have c_64 : ((rdT tx (p + 1)).1) = false := bI_f' c_64
            refine e_iconst (v := nI 0) f_135_67 (by decide) rfl ?_
            refine e_iret f_135_68 rfl (rfl) ?_
            have g63 : h52.2.2 269 = some (12, mB (nI tx.length, sn, cn) (nI ((rdT tx (p + 1)).2.2), false, nI (rdT tx (p + 1)).2.2, rd, nI rs, nI rc, nI tm, (-3), nI 0, (-3)) gq gh gw gu gv) := by have z := g55; rw [c_64, if_neg (by decide), if_neg (by decide)] at z; exact z
            have ev2 : rdEv tx s (p + 1) = (false, (rdT tx (p + 1)).2.2, (s, -3, nI 0, nI (rdT tx (p + 1)).2.1)) := by unfold rdEv; rw [if_neg (show ¬ (s = 114 ∨ s = 82) by omega), if_neg (show ¬ (s = 107 ∨ s = 120) by omega), c_64]
            rw [ev2]
            dsimp only
            rw [if_neg (by decide)]
            exact ⟨rfl, ⟨_, _, _, _, g63, trivial⟩, fr57⟩
    · skip
      have c_36 : s = 82 := cv_nne (by omega) (by omega) c_36
      refine e_aload_n f_135_39 rfl rfl ?_
      have g64 : px_pa h13 270 52 500 vN tx := pa_fi H1 fr16 (by omega)
      refine e_callV (As := []) (rest := []) f_135_40 rfl rfl rfl (Nat.le_of_ble_eq_true rfl) (Nat.le_of_ble_eq_true rfl) g14 rfl (Nat.le_of_ble_eq_true rfl) (cc_Md_row (tx := tx) (sn := sn) (cn := cn) (p := p + 1) (kp := false) (wr := wr) (rd := rd) (rs := rs) (rc := rc) (tm := tm) (ky := (-3)) (vl := nI 0) (mo := (-3)) (gq := gq) (gh := gh) (gw := gw) (gu := gu) (gv := gv) g14 g64 (p0) (p1)) rfl (fun h65 r66 q67 => ?_)
      obtain ⟨rfl, g68, fx69⟩ := q67
      have fr70 : px_fi 269 1 h h65 := fi_tr fr16 fx69 (by omega)
      show px_to 135 43 [some (.ref (269)), some (.int (nI s)), some (.int (nI n)), none] [.int (bI ((rdRow tx (p + 1)).1))] h65 _
      refine e_if_ne f_135_43 rfl (fun c_43 => ?_) (fun c_43 => ?_)
      · skip
        have c_43 : ((rdRow tx (p + 1)).1) = true := bI_t c_43
        obtain ⟨rd71, ky72, vl73, mo74, g75, hX76⟩ := id g68
        obtain ⟨hk1, hk2, hk3⟩ := hX76 c_43
        have g77 : h65.2.2 269 = some (12, mB (nI tx.length, sn, cn) (nI ((rdRow tx (p + 1)).2.1), false, wr, rd71, nI rs, nI rc, nI tm, nI (rdRow tx (p + 1)).2.2.1, (rdRow tx (p + 1)).2.2.2.1, nI (rdRow tx (p + 1)).2.2.2.2) gq gh gw gu gv) := by have z := g75; rw [hk1, hk2, hk3, c_43, if_pos rfl] at z; exact z
        have ev2 : rdEv tx s (p + 1) = (true, (rdRow tx (p + 1)).2.1, (s, nI (rdRow tx (p + 1)).2.2.1, (rdRow tx (p + 1)).2.2.2.1, nI (rdRow tx (p + 1)).2.2.2.2)) := by unfold rdEv; rw [if_pos (show s = 114 ∨ s = 82 by omega), c_43]
        refine e_iload_n f_135_48 rfl rfl ?_
        refine e_bipush (v := nI 104) f_135_49 (by decide) rfl ?_
        refine e_icmp_eq f_135_51 rfl (fun c_51 => ?_) (fun c_51 => ?_)
        · skip
          have c_51 : s = 104 := cv_eq (by omega) (by omega) c_51
          exfalso; omega
        · skip
          have c_51 : s ≠ 104 := cv_ne c_51
          refine e_iload_n f_135_54 rfl rfl ?_
          refine e_bipush (v := nI 72) f_135_55 (by decide) rfl ?_
          refine e_icmp_ne f_135_57 rfl (fun c_57 => ?_) (fun c_57 => ?_)
          · skip
            have c_57 : s ≠ 72 := cv_ne c_57
            have hft := rdEv_fit (tx := tx) (s := s) (p := p + 1)
            rw [ev2] at hft
            refine e_aload_n f_135_77 rfl rfl ?_
            refine e_getf f_135_78 g77 rfl rfl ?_
            show px_to 135 81 [some (.ref (269)), some (.int (nI s)), some (.int (nI n)), none] [.int (bI false)] h65 _
            refine e_if_eq_t f_135_81 (by decide) ?_
            refine e_iconst (v := nI 1) f_135_134 (by decide) rfl ?_
            refine e_iret f_135_135 rfl (rfl) ?_
            rw [ev2]
            dsimp only
            rw [if_pos rfl]
            exact ⟨rfl, ⟨_, _, _, _, g77, trivial⟩, fr70⟩
          · skip
            have c_57 : s = 72 := cv_nne (by omega) (by omega) c_57
            exfalso; omega
      · skip
        have c_43 : ((rdRow tx (p + 1)).1) = false := bI_f' c_43
        refine e_iconst (v := nI 0) f_135_46 (by decide) rfl ?_
        refine e_iret f_135_47 rfl (rfl) ?_
        obtain ⟨rd78, ky79, vl80, mo81, g82, hX83⟩ := id g68
        have g84 : h65.2.2 269 = some (12, mB (nI tx.length, sn, cn) (nI ((rdRow tx (p + 1)).2.1), false, nI (rdRow tx (p + 1)).2.1, rd78, nI rs, nI rc, nI tm, ky79, vl80, mo81) gq gh gw gu gv) := by have z := g82; rw [c_43, if_neg (by decide)] at z; exact z
        have ev2 : rdEv tx s (p + 1) = (false, (rdRow tx (p + 1)).2.1, (s, nI (rdRow tx (p + 1)).2.2.1, (rdRow tx (p + 1)).2.2.2.1, nI (rdRow tx (p + 1)).2.2.2.2)) := by unfold rdEv; rw [if_pos (show s = 114 ∨ s = 82 by omega), c_43]
        rw [ev2]
        dsimp only
        rw [if_neg (by decide)]
        exact ⟨rfl, ⟨_, _, _, _, g84, trivial⟩, fr70⟩

set_option maxRecDepth 20000 in
set_option maxHeartbeats 4000000 in
theorem cc_Md_evt1 {h : px_H} {s n : Nat} {es : List Ev} {tx : List Nat} {sn cn : Int32} {p rs rc tm : Nat} {kp : Bool} {wr rd ky vl mo : Int32} {gq : gQ} {gh : gH} {gw : gW} {gu : gU} {gv : gV} (H0 : h.2.2 269 = some (12, mB (nI tx.length, sn, cn) (nI p, true, wr, rd, nI rs, nI rc, nI tm, ky, vl, mo) gq gh gw gu gv)) (H1 : px_pa h 270 52 500 vN tx) (H2 : px_pa h 275 52 192 evS es) (H3 : px_pa h 276 54 192 evK es) (H4 : px_pa h 277 53 192 evV es) (H5 : px_pa h 278 53 192 evT es) (p0 : p + 1 ≤ tx.length) (p1 : okTx tx) (p2 : s ∈ evSigns) (p3 : es.length = 192) (p4 : n < 24 ∧ rc < 8) : px_wp 135 [.ref (269), .int (nI s), .int (nI n)] h (fun h1 r => r = some (.int (bI ((rdEv tx s (p + 1)).1))) ∧ pMS h1 tx sn cn ((rdEv tx s (p + 1)).2.1) true (if (rdEv tx s (p + 1)).1 = true then wr else nI (rdEv tx s (p + 1)).2.1) rs rc tm gq gh gw gu gv (fun _ _ _ => True) ∧ px_pa h1 275 52 192 evS (if (rdEv tx s (p + 1)).1 = true then es.set (24 * rc + n) (rdEv tx s (p + 1)).2.2 else es) ∧ px_pa h1 276 54 192 evK (if (rdEv tx s (p + 1)).1 = true then es.set (24 * rc + n) (rdEv tx s (p + 1)).2.2 else es) ∧ px_pa h1 277 53 192 evV (if (rdEv tx s (p + 1)).1 = true then es.set (24 * rc + n) (rdEv tx s (p + 1)).2.2 else es) ∧ px_pa h1 278 53 192 evT (if (rdEv tx s (p + 1)).1 = true then es.set (24 * rc + n) (rdEv tx s (p + 1)).2.2 else es) ∧ px_fj 269 1 275 4 h h1) := by
  have fr0 : px_fj 269 1 275 4 h h := fj_rf _ _ _ _ _
  have le := pa_len H1
  have hsl : sgn tx (p + 1) < 127 := tx_lt p1 _
  have hsk := skp_le p0
  have hs2 : s = 114 ∨ s = 82 ∨ s = 104 ∨ s = 72 ∨ s = 107 ∨ s = 120 := by simpa [evSigns] using p2
  show px_to 135 0 [some (.ref (269)), some (.int (nI s)), some (.int (nI n)), none] [] h _
  refine e_aload_n f_135_0 rfl rfl ?_
  refine e_dup f_135_1 rfl rfl ?_
  refine e_getf f_135_2 H0 rfl rfl ?_
  show px_to 135 5 [some (.ref (269)), some (.int (nI s)), some (.int (nI n)), none] [.int (nI p), .ref (269)] h _
  refine e_iconst (v := nI 1) f_135_5 (by decide) rfl ?_
  refine e_iadd (z := nI (p + 1)) f_135_6 (nI_add _ _) rfl ?_
  refine e_putp (vs' := mB (nI tx.length, sn, cn) (nI (p + 1), true, wr, rd, nI rs, nI rc, nI tm, ky, vl, mo) gq gh gw gu gv) f_135_7 H0 (Nat.le_of_ble_eq_true rfl) (rfl) (rfl) rfl rfl (fun h1 g2 fx3 => ?_)
  have fr4 : px_fj 269 1 275 4 h h1 := fj_tr fr0 fx3 (by omega)
  refine e_aload_n f_135_10 rfl rfl ?_
  refine e_bipush (v := (-3)) f_135_11 (by decide) rfl ?_
  refine e_putp (vs' := mB (nI tx.length, sn, cn) (nI (p + 1), true, wr, rd, nI rs, nI rc, nI tm, (-3), vl, mo) gq gh gw gu gv) f_135_13 g2 (Nat.le_of_ble_eq_true rfl) (rfl) (rfl) rfl rfl (fun h5 g6 fx7 => ?_)
  have fr8 : px_fj 269 1 275 4 h h5 := fj_tr fr4 fx7 (by omega)
  refine e_aload_n f_135_16 rfl rfl ?_
  refine e_iconst (v := nI 0) f_135_17 (by decide) rfl ?_
  refine e_putp (vs' := mB (nI tx.length, sn, cn) (nI (p + 1), true, wr, rd, nI rs, nI rc, nI tm, (-3), nI 0, mo) gq gh gw gu gv) f_135_18 g6 (Nat.le_of_ble_eq_true rfl) (rfl) (rfl) rfl rfl (fun h9 g10 fx11 => ?_)
  have fr12 : px_fj 269 1 275 4 h h9 := fj_tr fr8 fx11 (by omega)
  refine e_aload_n f_135_21 rfl rfl ?_
  refine e_bipush (v := (-3)) f_135_22 (by decide) rfl ?_
  refine e_putp (vs' := mB (nI tx.length, sn, cn) (nI (p + 1), true, wr, rd, nI rs, nI rc, nI tm, (-3), nI 0, (-3)) gq gh gw gu gv) f_135_24 g10 (Nat.le_of_ble_eq_true rfl) (rfl) (rfl) rfl rfl (fun h13 g14 fx15 => ?_)
  have fr16 : px_fj 269 1 275 4 h h13 := fj_tr fr12 fx15 (by omega)
  refine e_iload_n f_135_27 rfl rfl ?_
  refine e_bipush (v := nI 114) f_135_28 (by decide) rfl ?_
  refine e_icmp_eq f_135_30 rfl (fun c_30 => ?_) (fun c_30 => ?_)
  · skip
    have c_30 : s = 114 := cv_eq (by omega) (by omega) c_30
    refine e_aload_n f_135_39 rfl rfl ?_
    obtain ⟨hm18, fa19, fb20⟩ := fj_mid fr16
    have g17 : px_pa h13 270 52 500 vN tx := pa_fi (pa_fi H1 fa19 (by omega)) fb20 (by omega)
    refine e_callV (As := []) (rest := []) f_135_40 rfl rfl rfl (Nat.le_of_ble_eq_true rfl) (Nat.le_of_ble_eq_true rfl) g14 rfl (Nat.le_of_ble_eq_true rfl) (cc_Md_row (tx := tx) (sn := sn) (cn := cn) (p := p + 1) (kp := true) (wr := wr) (rd := rd) (rs := rs) (rc := rc) (tm := tm) (ky := (-3)) (vl := nI 0) (mo := (-3)) (gq := gq) (gh := gh) (gw := gw) (gu := gu) (gv := gv) g14 g17 (p0) (p1)) rfl (fun h21 r22 q23 => ?_)
    obtain ⟨rfl, g24, fx25⟩ := q23
    have fr26 : px_fj 269 1 275 4 h h21 := fj_tr fr16 fx25 (by omega)
    show px_to 135 43 [some (.ref (269)), some (.int (nI s)), some (.int (nI n)), none] [.int (bI ((rdRow tx (p + 1)).1))] h21 _
    refine e_if_ne f_135_43 rfl (fun c_43 => ?_) (fun c_43 => ?_)
    · skip
      have c_43 : ((rdRow tx (p + 1)).1) = true := bI_t c_43
      obtain ⟨rd27, ky28, vl29, mo30, g31, hX32⟩ := id g24
      obtain ⟨hk1, hk2, hk3⟩ := hX32 c_43
      have g33 : h21.2.2 269 = some (12, mB (nI tx.length, sn, cn) (nI ((rdRow tx (p + 1)).2.1), true, wr, rd27, nI rs, nI rc, nI tm, nI (rdRow tx (p + 1)).2.2.1, (rdRow tx (p + 1)).2.2.2.1, nI (rdRow tx (p + 1)).2.2.2.2) gq gh gw gu gv) := by have z := g31; rw [hk1, hk2, hk3, c_43, if_pos rfl] at z; exact z
      have ev2 : rdEv tx s (p + 1) = (true, (rdRow tx (p + 1)).2.1, (s, nI (rdRow tx (p + 1)).2.2.1, (rdRow tx (p + 1)).2.2.2.1, nI (rdRow tx (p + 1)).2.2.2.2)) := by unfold rdEv; rw [if_pos (show s = 114 ∨ s = 82 by omega), c_43]
      refine e_iload_n f_135_48 rfl rfl ?_
      refine e_bipush (v := nI 104) f_135_49 (by decide) rfl ?_
      refine e_icmp_eq f_135_51 rfl (fun c_51 => ?_) (fun c_51 => ?_)
      · skip
        have c_51 : s = 104 := cv_eq (by omega) (by omega) c_51
        exfalso; omega
      · skip
        have c_51 : s ≠ 104 := cv_ne c_51
        refine e_iload_n f_135_54 rfl rfl ?_
        refine e_bipush (v := nI 72) f_135_55 (by decide) rfl ?_
        refine e_icmp_ne f_135_57 rfl (fun c_57 => ?_) (fun c_57 => ?_)
        · skip
          have c_57 : s ≠ 72 := cv_ne c_57
          have hft := rdEv_fit (tx := tx) (s := s) (p := p + 1)
          rw [ev2] at hft
          refine e_aload_n f_135_77 rfl rfl ?_
          refine e_getf f_135_78 g33 rfl rfl ?_
          show px_to 135 81 [some (.ref (269)), some (.int (nI s)), some (.int (nI n)), none] [.int (bI true)] h21 _
          refine e_if_eq_f f_135_81 (by decide) rfl ?_
          refine e_bipush (v := nI 24) f_135_84 (by decide) rfl ?_
          refine e_aload_n f_135_86 rfl rfl ?_
          refine e_getf f_135_87 g33 rfl rfl ?_
          show px_to 135 90 [some (.ref (269)), some (.int (nI s)), some (.int (nI n)), none] [.int (nI rc), .int (nI 24)] h21 _
          refine e_imul (z := nI (24 * rc)) f_135_90 (pk_mul _ _) rfl ?_
          refine e_iload_n f_135_91 rfl rfl ?_
          refine e_iadd (z := nI (24 * rc + n)) f_135_92 (nI_add _ _) rfl ?_
          refine e_istore_n (L' := [some (.ref (269)), some (.int (nI s)), some (.int (nI n)), some (.int (nI (24 * rc + n)))]) f_135_93 (Nat.le_of_ble_eq_true rfl) rfl rfl ?_
          refine e_aload_n f_135_94 rfl rfl ?_
          refine e_getf f_135_95 g33 rfl rfl ?_
          refine e_iload_n f_135_98 rfl rfl ?_
          refine e_iload_n f_135_99 rfl rfl ?_
          have g34 : px_pa h1 275 52 192 evS es := pa_fi H2 fx3 (by omega)
          have g35 : px_pa h5 275 52 192 evS es := pa_fi g34 fx7 (by omega)
          have g36 : px_pa h9 275 52 192 evS es := pa_fi g35 fx11 (by omega)
          have g37 : px_pa h13 275 52 192 evS es := pa_fi g36 fx15 (by omega)
          have g38 : px_pa h21 275 52 192 evS es := pa_fi g37 fx25 (by omega)
          refine e_castore_p (xs := es) (x := (s, nI (rdRow tx (p + 1)).2.2.1, (rdRow tx (p + 1)).2.2.2.1, nI (rdRow tx (p + 1)).2.2.2.2)) f_135_100 g38 (by omega) (by first | omega | (simp only [List.length_set]; omega)) (nw_ch (by omega)) rfl (fun h39 g40 fx41 => ?_)
          have fr42 : px_fj 269 1 275 4 h h39 := fj_tr fr26 fx41 (by omega)
          refine e_aload_n f_135_101 rfl rfl ?_
          have g43 : h39.2.2 269 = some (12, mB (nI tx.length, sn, cn) (nI ((rdRow tx (p + 1)).2.1), true, wr, rd27, nI rs, nI rc, nI tm, nI (rdRow tx (p + 1)).2.2.1, (rdRow tx (p + 1)).2.2.2.1, nI (rdRow tx (p + 1)).2.2.2.2) gq gh gw gu gv) := fi_at g33 fx41 (by omega)
          refine e_getf f_135_102 g43 rfl rfl ?_
          refine e_iload_n f_135_105 rfl rfl ?_
          refine e_aload_n f_135_106 rfl rfl ?_
          refine e_getf f_135_107 g43 rfl rfl ?_
          show px_to 135 110 [some (.ref (269)), some (.int (nI s)), some (.int (nI n)), some (.int (nI (24 * rc + n)))] [.int (nI (rdRow tx (p + 1)).2.2.1), .int (nI (24 * rc + n)), .ref (276)] h39 _
          refine e_i2b (z := nI (rdRow tx (p + 1)).2.2.1) f_135_110 (hft.1) rfl ?_
          have g44 : px_pa h1 276 54 192 evK es := pa_fi H3 fx3 (by omega)
          have g45 : px_pa h5 276 54 192 evK es := pa_fi g44 fx7 (by omega)
          have g46 : px_pa h9 276 54 192 evK es := pa_fi g45 fx11 (by omega)
          have g47 : px_pa h13 276 54 192 evK es := pa_fi g46 fx15 (by omega)
          have g48 : px_pa h21 276 54 192 evK es := pa_fi g47 fx25 (by omega)
          have g49 : px_pa h39 276 54 192 evK es := pa_fi g48 fx41 (by omega)
          refine e_bastore_p (xs := es) (x := (s, nI (rdRow tx (p + 1)).2.2.1, (rdRow tx (p + 1)).2.2.2.1, nI (rdRow tx (p + 1)).2.2.2.2)) f_135_111 g49 (by omega) (by first | omega | (simp only [List.length_set]; omega)) (nw_y hft.1) rfl (fun h50 g51 fx52 => ?_)
          have fr53 : px_fj 269 1 275 4 h h50 := fj_tr fr42 fx52 (by omega)
          refine e_aload_n f_135_112 rfl rfl ?_
          have g54 : h50.2.2 269 = some (12, mB (nI tx.length, sn, cn) (nI ((rdRow tx (p + 1)).2.1), true, wr, rd27, nI rs, nI rc, nI tm, nI (rdRow tx (p + 1)).2.2.1, (rdRow tx (p + 1)).2.2.2.1, nI (rdRow tx (p + 1)).2.2.2.2) gq gh gw gu gv) := fi_at g43 fx52 (by omega)
          refine e_getf f_135_113 g54 rfl rfl ?_
          refine e_iload_n f_135_116 rfl rfl ?_
          refine e_aload_n f_135_117 rfl rfl ?_
          refine e_getf f_135_118 g54 rfl rfl ?_
          show px_to 135 121 [some (.ref (269)), some (.int (nI s)), some (.int (nI n)), some (.int (nI (24 * rc + n)))] [.int ((rdRow tx (p + 1)).2.2.2.1), .int (nI (24 * rc + n)), .ref (277)] h50 _
          refine e_i2s (z := (rdRow tx (p + 1)).2.2.2.1) f_135_121 (hft.2.1) rfl ?_
          have g55 : px_pa h1 277 53 192 evV es := pa_fi H4 fx3 (by omega)
          have g56 : px_pa h5 277 53 192 evV es := pa_fi g55 fx7 (by omega)
          have g57 : px_pa h9 277 53 192 evV es := pa_fi g56 fx11 (by omega)
          have g58 : px_pa h13 277 53 192 evV es := pa_fi g57 fx15 (by omega)
          have g59 : px_pa h21 277 53 192 evV es := pa_fi g58 fx25 (by omega)
          have g60 : px_pa h39 277 53 192 evV es := pa_fi g59 fx41 (by omega)
          have g61 : px_pa h50 277 53 192 evV es := pa_fi g60 fx52 (by omega)
          refine e_sastore_p (xs := es) (x := (s, nI (rdRow tx (p + 1)).2.2.1, (rdRow tx (p + 1)).2.2.2.1, nI (rdRow tx (p + 1)).2.2.2.2)) f_135_122 g61 (by omega) (by first | omega | (simp only [List.length_set]; omega)) (nw_s hft.2.1) rfl (fun h62 g63 fx64 => ?_)
          have fr65 : px_fj 269 1 275 4 h h62 := fj_tr fr53 fx64 (by omega)
          refine e_aload_n f_135_123 rfl rfl ?_
          have g66 : h62.2.2 269 = some (12, mB (nI tx.length, sn, cn) (nI ((rdRow tx (p + 1)).2.1), true, wr, rd27, nI rs, nI rc, nI tm, nI (rdRow tx (p + 1)).2.2.1, (rdRow tx (p + 1)).2.2.2.1, nI (rdRow tx (p + 1)).2.2.2.2) gq gh gw gu gv) := fi_at g54 fx64 (by omega)
          refine e_getf f_135_124 g66 rfl rfl ?_
          refine e_iload_n f_135_127 rfl rfl ?_
          refine e_aload_n f_135_128 rfl rfl ?_
          refine e_getf f_135_129 g66 rfl rfl ?_
          show px_to 135 132 [some (.ref (269)), some (.int (nI s)), some (.int (nI n)), some (.int (nI (24 * rc + n)))] [.int (nI (rdRow tx (p + 1)).2.2.2.2), .int (nI (24 * rc + n)), .ref (278)] h62 _
          refine e_i2s (z := nI (rdRow tx (p + 1)).2.2.2.2) f_135_132 (hft.2.2) rfl ?_
          have g67 : px_pa h1 278 53 192 evT es := pa_fi H5 fx3 (by omega)
          have g68 : px_pa h5 278 53 192 evT es := pa_fi g67 fx7 (by omega)
          have g69 : px_pa h9 278 53 192 evT es := pa_fi g68 fx11 (by omega)
          have g70 : px_pa h13 278 53 192 evT es := pa_fi g69 fx15 (by omega)
          have g71 : px_pa h21 278 53 192 evT es := pa_fi g70 fx25 (by omega)
          have g72 : px_pa h39 278 53 192 evT es := pa_fi g71 fx41 (by omega)
          have g73 : px_pa h50 278 53 192 evT es := pa_fi g72 fx52 (by omega)
          have g74 : px_pa h62 278 53 192 evT es := pa_fi g73 fx64 (by omega)
          refine e_sastore_p (xs := es) (x := (s, nI (rdRow tx (p + 1)).2.2.1, (rdRow tx (p + 1)).2.2.2.1, nI (rdRow tx (p + 1)).2.2.2.2)) f_135_133 g74 (by omega) (by first | omega | (simp only [List.length_set]; omega)) (nw_s hft.2.2) rfl (fun h75 g76 fx77 => ?_)
          have fr78 : px_fj 269 1 275 4 h h75 := fj_tr fr65 fx77 (by omega)
          refine e_iconst (v := nI 1) f_135_134 (by decide) rfl ?_
          refine e_iret f_135_135 rfl (rfl) ?_
          have g79 : px_pa h50 275 52 192 evS (es.set (24 * rc + n) (s, nI (rdRow tx (p + 1)).2.2.1, (rdRow tx (p + 1)).2.2.2.1, nI (rdRow tx (p + 1)).2.2.2.2)) := pa_fi g40 fx52 (by omega)
          have g80 : px_pa h62 275 52 192 evS (es.set (24 * rc + n) (s, nI (rdRow tx (p + 1)).2.2.1, (rdRow tx (p + 1)).2.2.2.1, nI (rdRow tx (p + 1)).2.2.2.2)) := pa_fi g79 fx64 (by omega)
          have g81 : px_pa h75 275 52 192 evS (es.set (24 * rc + n) (s, nI (rdRow tx (p + 1)).2.2.1, (rdRow tx (p + 1)).2.2.2.1, nI (rdRow tx (p + 1)).2.2.2.2)) := pa_fi g80 fx77 (by omega)
          have g82 : px_pa h62 276 54 192 evK (es.set (24 * rc + n) (s, nI (rdRow tx (p + 1)).2.2.1, (rdRow tx (p + 1)).2.2.2.1, nI (rdRow tx (p + 1)).2.2.2.2)) := pa_fi g51 fx64 (by omega)
          have g83 : px_pa h75 276 54 192 evK (es.set (24 * rc + n) (s, nI (rdRow tx (p + 1)).2.2.1, (rdRow tx (p + 1)).2.2.2.1, nI (rdRow tx (p + 1)).2.2.2.2)) := pa_fi g82 fx77 (by omega)
          have g84 : px_pa h75 277 53 192 evV (es.set (24 * rc + n) (s, nI (rdRow tx (p + 1)).2.2.1, (rdRow tx (p + 1)).2.2.2.1, nI (rdRow tx (p + 1)).2.2.2.2)) := pa_fi g63 fx77 (by omega)
          have g85 : h75.2.2 269 = some (12, mB (nI tx.length, sn, cn) (nI ((rdRow tx (p + 1)).2.1), true, wr, rd27, nI rs, nI rc, nI tm, nI (rdRow tx (p + 1)).2.2.1, (rdRow tx (p + 1)).2.2.2.1, nI (rdRow tx (p + 1)).2.2.2.2) gq gh gw gu gv) := fi_at g66 fx77 (by omega)
          rw [ev2]
          dsimp only
          rw [if_pos rfl]
          rw [if_pos rfl]
          exact ⟨rfl, ⟨_, _, _, _, g85, trivial⟩, g81, g83, g84, g76, fr78⟩
        · skip
          have c_57 : s = 72 := cv_nne (by omega) (by omega) c_57
          exfalso; omega
    · skip
      have c_43 : ((rdRow tx (p + 1)).1) = false := bI_f' c_43
      refine e_iconst (v := nI 0) f_135_46 (by decide) rfl ?_
      refine e_iret f_135_47 rfl (rfl) ?_
      have g86 : px_pa h1 275 52 192 evS es := pa_fi H2 fx3 (by omega)
      have g87 : px_pa h5 275 52 192 evS es := pa_fi g86 fx7 (by omega)
      have g88 : px_pa h9 275 52 192 evS es := pa_fi g87 fx11 (by omega)
      have g89 : px_pa h13 275 52 192 evS es := pa_fi g88 fx15 (by omega)
      have g90 : px_pa h21 275 52 192 evS es := pa_fi g89 fx25 (by omega)
      have g91 : px_pa h1 276 54 192 evK es := pa_fi H3 fx3 (by omega)
      have g92 : px_pa h5 276 54 192 evK es := pa_fi g91 fx7 (by omega)
      have g93 : px_pa h9 276 54 192 evK es := pa_fi g92 fx11 (by omega)
      have g94 : px_pa h13 276 54 192 evK es := pa_fi g93 fx15 (by omega)
      have g95 : px_pa h21 276 54 192 evK es := pa_fi g94 fx25 (by omega)
      have g96 : px_pa h1 277 53 192 evV es := pa_fi H4 fx3 (by omega)
      have g97 : px_pa h5 277 53 192 evV es := pa_fi g96 fx7 (by omega)
      have g98 : px_pa h9 277 53 192 evV es := pa_fi g97 fx11 (by omega)
      have g99 : px_pa h13 277 53 192 evV es := pa_fi g98 fx15 (by omega)
      have g100 : px_pa h21 277 53 192 evV es := pa_fi g99 fx25 (by omega)
      have g101 : px_pa h1 278 53 192 evT es := pa_fi H5 fx3 (by omega)
      have g102 : px_pa h5 278 53 192 evT es := pa_fi g101 fx7 (by omega)
      have g103 : px_pa h9 278 53 192 evT es := pa_fi g102 fx11 (by omega)
      have g104 : px_pa h13 278 53 192 evT es := pa_fi g103 fx15 (by omega)
      have g105 : px_pa h21 278 53 192 evT es := pa_fi g104 fx25 (by omega)
      obtain ⟨rd106, ky107, vl108, mo109, g110, hX111⟩ := id g24
      have g112 : h21.2.2 269 = some (12, mB (nI tx.length, sn, cn) (nI ((rdRow tx (p + 1)).2.1), true, nI (rdRow tx (p + 1)).2.1, rd106, nI rs, nI rc, nI tm, ky107, vl108, mo109) gq gh gw gu gv) := by have z := g110; rw [c_43, if_neg (by decide)] at z; exact z
      have ev2 : rdEv tx s (p + 1) = (false, (rdRow tx (p + 1)).2.1, (s, nI (rdRow tx (p + 1)).2.2.1, (rdRow tx (p + 1)).2.2.2.1, nI (rdRow tx (p + 1)).2.2.2.2)) := by unfold rdEv; rw [if_pos (show s = 114 ∨ s = 82 by omega), c_43]
      rw [ev2]
      dsimp only
      rw [if_neg (by decide)]
      rw [if_neg (by decide)]
      exact ⟨rfl, ⟨_, _, _, _, g112, trivial⟩, g90, g95, g100, g105, fr26⟩
  · skip
    have c_30 : s ≠ 114 := cv_ne c_30
    refine e_iload_n f_135_33 rfl rfl ?_
    refine e_bipush (v := nI 82) f_135_34 (by decide) rfl ?_
    refine e_icmp_ne f_135_36 rfl (fun c_36 => ?_) (fun c_36 => ?_)
    · skip
      have c_36 : s ≠ 82 := cv_ne c_36
      refine e_iload_n f_135_48 rfl rfl ?_
      refine e_bipush (v := nI 104) f_135_49 (by decide) rfl ?_
      refine e_icmp_eq f_135_51 rfl (fun c_51 => ?_) (fun c_51 => ?_)
      · skip
        have c_51 : s = 104 := cv_eq (by omega) (by omega) c_51
        refine e_aload_n f_135_60 rfl rfl ?_
        obtain ⟨hm114, fa115, fb116⟩ := fj_mid fr16
        have g113 : px_pa h13 270 52 500 vN tx := pa_fi (pa_fi H1 fa115 (by omega)) fb116 (by omega)
        refine e_callV (As := []) (rest := []) f_135_61 rfl rfl rfl (Nat.le_of_ble_eq_true rfl) (Nat.le_of_ble_eq_true rfl) g14 rfl (Nat.le_of_ble_eq_true rfl) (cc_Md_time (tx := tx) (sn := sn) (cn := cn) (p := p + 1) (kp := true) (wr := wr) (rd := rd) (rs := rs) (rc := rc) (tm := tm) (ky := (-3)) (vl := nI 0) (mo := (-3)) (gq := gq) (gh := gh) (gw := gw) (gu := gu) (gv := gv) g14 g113 (p0) (p1)) rfl (fun h117 r118 q119 => ?_)
        obtain ⟨rfl, g120, fx121⟩ := q119
        have fr122 : px_fj 269 1 275 4 h h117 := fj_tr fr16 fx121 (by omega)
        show px_to 135 64 [some (.ref (269)), some (.int (nI s)), some (.int (nI n)), none] [.int (bI ((rdT tx (p + 1)).1))] h117 _
        refine e_if_ne f_135_64 rfl (fun c_64 => ?_) (fun c_64 => ?_)
        · skip
          have c_64 : ((rdT tx (p + 1)).1) = true := bI_t c_64
          have g123 : h117.2.2 269 = some (12, mB (nI tx.length, sn, cn) (nI ((rdT tx (p + 1)).2.2), true, wr, nI (rdT tx (p + 1)).2.1, nI rs, nI rc, nI tm, (-3), nI 0, (-3)) gq gh gw gu gv) := by have z := g120; rw [c_64, if_pos rfl, if_pos rfl] at z; exact z
          refine e_aload_n f_135_69 rfl rfl ?_
          refine e_aload_n f_135_70 rfl rfl ?_
          refine e_getf f_135_71 g123 rfl rfl ?_
          show px_to 135 74 [some (.ref (269)), some (.int (nI s)), some (.int (nI n)), none] [.int (nI (rdT tx (p + 1)).2.1), .ref (269)] h117 _
          refine e_putp (vs' := mB (nI tx.length, sn, cn) (nI ((rdT tx (p + 1)).2.2), true, wr, nI (rdT tx (p + 1)).2.1, nI rs, nI rc, nI tm, (-3), nI 0, nI (rdT tx (p + 1)).2.1) gq gh gw gu gv) f_135_74 g123 (Nat.le_of_ble_eq_true rfl) (rfl) (rfl) rfl rfl (fun h124 g125 fx126 => ?_)
          have fr127 : px_fj 269 1 275 4 h h124 := fj_tr fr122 fx126 (by omega)
          have ev2 : rdEv tx s (p + 1) = (true, (rdT tx (p + 1)).2.2, (s, -3, nI 0, nI (rdT tx (p + 1)).2.1)) := by unfold rdEv; rw [if_neg (show ¬ (s = 114 ∨ s = 82) by omega), if_neg (show ¬ (s = 107 ∨ s = 120) by omega), c_64]
          have hft := rdEv_fit (tx := tx) (s := s) (p := p + 1)
          rw [ev2] at hft
          refine e_aload_n f_135_77 rfl rfl ?_
          refine e_getf f_135_78 g125 rfl rfl ?_
          show px_to 135 81 [some (.ref (269)), some (.int (nI s)), some (.int (nI n)), none] [.int (bI true)] h124 _
          refine e_if_eq_f f_135_81 (by decide) rfl ?_
          refine e_bipush (v := nI 24) f_135_84 (by decide) rfl ?_
          refine e_aload_n f_135_86 rfl rfl ?_
          refine e_getf f_135_87 g125 rfl rfl ?_
          show px_to 135 90 [some (.ref (269)), some (.int (nI s)), some (.int (nI n)), none] [.int (nI rc), .int (nI 24)] h124 _
          refine e_imul (z := nI (24 * rc)) f_135_90 (pk_mul _ _) rfl ?_
          refine e_iload_n f_135_91 rfl rfl ?_
          refine e_iadd (z := nI (24 * rc + n)) f_135_92 (nI_add _ _) rfl ?_
          refine e_istore_n (L' := [some (.ref (269)), some (.int (nI s)), some (.int (nI n)), some (.int (nI (24 * rc + n)))]) f_135_93 (Nat.le_of_ble_eq_true rfl) rfl rfl ?_
          refine e_aload_n f_135_94 rfl rfl ?_
          refine e_getf f_135_95 g125 rfl rfl ?_
          refine e_iload_n f_135_98 rfl rfl ?_
          refine e_iload_n f_135_99 rfl rfl ?_
          have g128 : px_pa h1 275 52 192 evS es := pa_fi H2 fx3 (by omega)
          have g129 : px_pa h5 275 52 192 evS es := pa_fi g128 fx7 (by omega)
          have g130 : px_pa h9 275 52 192 evS es := pa_fi g129 fx11 (by omega)
          have g131 : px_pa h13 275 52 192 evS es := pa_fi g130 fx15 (by omega)
          have g132 : px_pa h117 275 52 192 evS es := pa_fi g131 fx121 (by omega)
          have g133 : px_pa h124 275 52 192 evS es := pa_fi g132 fx126 (by omega)
          refine e_castore_p (xs := es) (x := (s, (-3), nI 0, nI (rdT tx (p + 1)).2.1)) f_135_100 g133 (by omega) (by first | omega | (simp only [List.length_set]; omega)) (nw_ch (by omega)) rfl (fun h134 g135 fx136 => ?_)
          have fr137 : px_fj 269 1 275 4 h h134 := fj_tr fr127 fx136 (by omega)
          refine e_aload_n f_135_101 rfl rfl ?_
          have g138 : h134.2.2 269 = some (12, mB (nI tx.length, sn, cn) (nI ((rdT tx (p + 1)).2.2), true, wr, nI (rdT tx (p + 1)).2.1, nI rs, nI rc, nI tm, (-3), nI 0, nI (rdT tx (p + 1)).2.1) gq gh gw gu gv) := fi_at g125 fx136 (by omega)
          refine e_getf f_135_102 g138 rfl rfl ?_
          refine e_iload_n f_135_105 rfl rfl ?_
          refine e_aload_n f_135_106 rfl rfl ?_
          refine e_getf f_135_107 g138 rfl rfl ?_
          show px_to 135 110 [some (.ref (269)), some (.int (nI s)), some (.int (nI n)), some (.int (nI (24 * rc + n)))] [.int ((-3)), .int (nI (24 * rc + n)), .ref (276)] h134 _
          refine e_i2b (z := (-3)) f_135_110 (hft.1) rfl ?_
          have g139 : px_pa h1 276 54 192 evK es := pa_fi H3 fx3 (by omega)
          have g140 : px_pa h5 276 54 192 evK es := pa_fi g139 fx7 (by omega)
          have g141 : px_pa h9 276 54 192 evK es := pa_fi g140 fx11 (by omega)
          have g142 : px_pa h13 276 54 192 evK es := pa_fi g141 fx15 (by omega)
          have g143 : px_pa h117 276 54 192 evK es := pa_fi g142 fx121 (by omega)
          have g144 : px_pa h124 276 54 192 evK es := pa_fi g143 fx126 (by omega)
          have g145 : px_pa h134 276 54 192 evK es := pa_fi g144 fx136 (by omega)
          refine e_bastore_p (xs := es) (x := (s, (-3), nI 0, nI (rdT tx (p + 1)).2.1)) f_135_111 g145 (by omega) (by first | omega | (simp only [List.length_set]; omega)) (nw_y hft.1) rfl (fun h146 g147 fx148 => ?_)
          have fr149 : px_fj 269 1 275 4 h h146 := fj_tr fr137 fx148 (by omega)
          refine e_aload_n f_135_112 rfl rfl ?_
          have g150 : h146.2.2 269 = some (12, mB (nI tx.length, sn, cn) (nI ((rdT tx (p + 1)).2.2), true, wr, nI (rdT tx (p + 1)).2.1, nI rs, nI rc, nI tm, (-3), nI 0, nI (rdT tx (p + 1)).2.1) gq gh gw gu gv) := fi_at g138 fx148 (by omega)
          refine e_getf f_135_113 g150 rfl rfl ?_
          refine e_iload_n f_135_116 rfl rfl ?_
          refine e_aload_n f_135_117 rfl rfl ?_
          refine e_getf f_135_118 g150 rfl rfl ?_
          show px_to 135 121 [some (.ref (269)), some (.int (nI s)), some (.int (nI n)), some (.int (nI (24 * rc + n)))] [.int (nI 0), .int (nI (24 * rc + n)), .ref (277)] h146 _
          refine e_i2s (z := nI 0) f_135_121 (hft.2.1) rfl ?_
          have g151 : px_pa h1 277 53 192 evV es := pa_fi H4 fx3 (by omega)
          have g152 : px_pa h5 277 53 192 evV es := pa_fi g151 fx7 (by omega)
          have g153 : px_pa h9 277 53 192 evV es := pa_fi g152 fx11 (by omega)
          have g154 : px_pa h13 277 53 192 evV es := pa_fi g153 fx15 (by omega)
          have g155 : px_pa h117 277 53 192 evV es := pa_fi g154 fx121 (by omega)
          have g156 : px_pa h124 277 53 192 evV es := pa_fi g155 fx126 (by omega)
          have g157 : px_pa h134 277 53 192 evV es := pa_fi g156 fx136 (by omega)
          have g158 : px_pa h146 277 53 192 evV es := pa_fi g157 fx148 (by omega)
          refine e_sastore_p (xs := es) (x := (s, (-3), nI 0, nI (rdT tx (p + 1)).2.1)) f_135_122 g158 (by omega) (by first | omega | (simp only [List.length_set]; omega)) (nw_s hft.2.1) rfl (fun h159 g160 fx161 => ?_)
          have fr162 : px_fj 269 1 275 4 h h159 := fj_tr fr149 fx161 (by omega)
          refine e_aload_n f_135_123 rfl rfl ?_
          have g163 : h159.2.2 269 = some (12, mB (nI tx.length, sn, cn) (nI ((rdT tx (p + 1)).2.2), true, wr, nI (rdT tx (p + 1)).2.1, nI rs, nI rc, nI tm, (-3), nI 0, nI (rdT tx (p + 1)).2.1) gq gh gw gu gv) := fi_at g150 fx161 (by omega)
          refine e_getf f_135_124 g163 rfl rfl ?_
          refine e_iload_n f_135_127 rfl rfl ?_
          refine e_aload_n f_135_128 rfl rfl ?_
          refine e_getf f_135_129 g163 rfl rfl ?_
          show px_to 135 132 [some (.ref (269)), some (.int (nI s)), some (.int (nI n)), some (.int (nI (24 * rc + n)))] [.int (nI (rdT tx (p + 1)).2.1), .int (nI (24 * rc + n)), .ref (278)] h159 _
          refine e_i2s (z := nI (rdT tx (p + 1)).2.1) f_135_132 (hft.2.2) rfl ?_
          have g164 : px_pa h1 278 53 192 evT es := pa_fi H5 fx3 (by omega)
          have g165 : px_pa h5 278 53 192 evT es := pa_fi g164 fx7 (by omega)
          have g166 : px_pa h9 278 53 192 evT es := pa_fi g165 fx11 (by omega)
          have g167 : px_pa h13 278 53 192 evT es := pa_fi g166 fx15 (by omega)
          have g168 : px_pa h117 278 53 192 evT es := pa_fi g167 fx121 (by omega)
          have g169 : px_pa h124 278 53 192 evT es := pa_fi g168 fx126 (by omega)
          have g170 : px_pa h134 278 53 192 evT es := pa_fi g169 fx136 (by omega)
          have g171 : px_pa h146 278 53 192 evT es := pa_fi g170 fx148 (by omega)
          have g172 : px_pa h159 278 53 192 evT es := pa_fi g171 fx161 (by omega)
          refine e_sastore_p (xs := es) (x := (s, (-3), nI 0, nI (rdT tx (p + 1)).2.1)) f_135_133 g172 (by omega) (by first | omega | (simp only [List.length_set]; omega)) (nw_s hft.2.2) rfl (fun h173 g174 fx175 => ?_)
          have fr176 : px_fj 269 1 275 4 h h173 := fj_tr fr162 fx175 (by omega)
          refine e_iconst (v := nI 1) f_135_134 (by decide) rfl ?_
          refine e_iret f_135_135 rfl (rfl) ?_
          have g177 : px_pa h146 275 52 192 evS (es.set (24 * rc + n) (s, (-3), nI 0, nI (rdT tx (p + 1)).2.1)) := pa_fi g135 fx148 (by omega)
          have g178 : px_pa h159 275 52 192 evS (es.set (24 * rc + n) (s, (-3), nI 0, nI (rdT tx (p + 1)).2.1)) := pa_fi g177 fx161 (by omega)
          have g179 : px_pa h173 275 52 192 evS (es.set (24 * rc + n) (s, (-3), nI 0, nI (rdT tx (p + 1)).2.1)) := pa_fi g178 fx175 (by omega)
          have g180 : px_pa h159 276 54 192 evK (es.set (24 * rc + n) (s, (-3), nI 0, nI (rdT tx (p + 1)).2.1)) := pa_fi g147 fx161 (by omega)
          have g181 : px_pa h173 276 54 192 evK (es.set (24 * rc + n) (s, (-3), nI 0, nI (rdT tx (p + 1)).2.1)) := pa_fi g180 fx175 (by omega)
          have g182 : px_pa h173 277 53 192 evV (es.set (24 * rc + n) (s, (-3), nI 0, nI (rdT tx (p + 1)).2.1)) := pa_fi g160 fx175 (by omega)
          have g183 : h173.2.2 269 = some (12, mB (nI tx.length, sn, cn) (nI ((rdT tx (p + 1)).2.2), true, wr, nI (rdT tx (p + 1)).2.1, nI rs, nI rc, nI tm, (-3), nI 0, nI (rdT tx (p + 1)).2.1) gq gh gw gu gv) := fi_at g163 fx175 (by omega)
          rw [ev2]
          dsimp only
          rw [if_pos rfl]
          rw [if_pos rfl]
          exact ⟨rfl, ⟨_, _, _, _, g183, trivial⟩, g179, g181, g182, g174, fr176⟩
        · skip
          have c_64 : ((rdT tx (p + 1)).1) = false := bI_f' c_64
          refine e_iconst (v := nI 0) f_135_67 (by decide) rfl ?_
          refine e_iret f_135_68 rfl (rfl) ?_
          have g184 : px_pa h1 275 52 192 evS es := pa_fi H2 fx3 (by omega)
          have g185 : px_pa h5 275 52 192 evS es := pa_fi g184 fx7 (by omega)
          have g186 : px_pa h9 275 52 192 evS es := pa_fi g185 fx11 (by omega)
          have g187 : px_pa h13 275 52 192 evS es := pa_fi g186 fx15 (by omega)
          have g188 : px_pa h117 275 52 192 evS es := pa_fi g187 fx121 (by omega)
          have g189 : px_pa h1 276 54 192 evK es := pa_fi H3 fx3 (by omega)
          have g190 : px_pa h5 276 54 192 evK es := pa_fi g189 fx7 (by omega)
          have g191 : px_pa h9 276 54 192 evK es := pa_fi g190 fx11 (by omega)
          have g192 : px_pa h13 276 54 192 evK es := pa_fi g191 fx15 (by omega)
          have g193 : px_pa h117 276 54 192 evK es := pa_fi g192 fx121 (by omega)
          have g194 : px_pa h1 277 53 192 evV es := pa_fi H4 fx3 (by omega)
          have g195 : px_pa h5 277 53 192 evV es := pa_fi g194 fx7 (by omega)
          have g196 : px_pa h9 277 53 192 evV es := pa_fi g195 fx11 (by omega)
          have g197 : px_pa h13 277 53 192 evV es := pa_fi g196 fx15 (by omega)
          have g198 : px_pa h117 277 53 192 evV es := pa_fi g197 fx121 (by omega)
          have g199 : px_pa h1 278 53 192 evT es := pa_fi H5 fx3 (by omega)
          have g200 : px_pa h5 278 53 192 evT es := pa_fi g199 fx7 (by omega)
          have g201 : px_pa h9 278 53 192 evT es := pa_fi g200 fx11 (by omega)
          have g202 : px_pa h13 278 53 192 evT es := pa_fi g201 fx15 (by omega)
          have g203 : px_pa h117 278 53 192 evT es := pa_fi g202 fx121 (by omega)
          have g204 : h117.2.2 269 = some (12, mB (nI tx.length, sn, cn) (nI ((rdT tx (p + 1)).2.2), true, nI (rdT tx (p + 1)).2.2, rd, nI rs, nI rc, nI tm, (-3), nI 0, (-3)) gq gh gw gu gv) := by have z := g120; rw [c_64, if_neg (by decide), if_neg (by decide)] at z; exact z
          have ev2 : rdEv tx s (p + 1) = (false, (rdT tx (p + 1)).2.2, (s, -3, nI 0, nI (rdT tx (p + 1)).2.1)) := by unfold rdEv; rw [if_neg (show ¬ (s = 114 ∨ s = 82) by omega), if_neg (show ¬ (s = 107 ∨ s = 120) by omega), c_64]
          rw [ev2]
          dsimp only
          rw [if_neg (by decide)]
          rw [if_neg (by decide)]
          exact ⟨rfl, ⟨_, _, _, _, g204, trivial⟩, g188, g193, g198, g203, fr122⟩
      · skip
        have c_51 : s ≠ 104 := cv_ne c_51
        refine e_iload_n f_135_54 rfl rfl ?_
        refine e_bipush (v := nI 72) f_135_55 (by decide) rfl ?_
        refine e_icmp_ne f_135_57 rfl (fun c_57 => ?_) (fun c_57 => ?_)
        · skip
          have c_57 : s ≠ 72 := cv_ne c_57
          have ev2 : rdEv tx s (p + 1) = (true, p + 1, (s, -3, nI 0, -3)) := by unfold rdEv; rw [if_neg (show ¬ (s = 114 ∨ s = 82) by omega), if_pos (show s = 107 ∨ s = 120 by omega)]
          have hft := rdEv_fit (tx := tx) (s := s) (p := p + 1)
          rw [ev2] at hft
          refine e_aload_n f_135_77 rfl rfl ?_
          refine e_getf f_135_78 g14 rfl rfl ?_
          show px_to 135 81 [some (.ref (269)), some (.int (nI s)), some (.int (nI n)), none] [.int (bI true)] h13 _
          refine e_if_eq_f f_135_81 (by decide) rfl ?_
          refine e_bipush (v := nI 24) f_135_84 (by decide) rfl ?_
          refine e_aload_n f_135_86 rfl rfl ?_
          refine e_getf f_135_87 g14 rfl rfl ?_
          show px_to 135 90 [some (.ref (269)), some (.int (nI s)), some (.int (nI n)), none] [.int (nI rc), .int (nI 24)] h13 _
          refine e_imul (z := nI (24 * rc)) f_135_90 (pk_mul _ _) rfl ?_
          refine e_iload_n f_135_91 rfl rfl ?_
          refine e_iadd (z := nI (24 * rc + n)) f_135_92 (nI_add _ _) rfl ?_
          refine e_istore_n (L' := [some (.ref (269)), some (.int (nI s)), some (.int (nI n)), some (.int (nI (24 * rc + n)))]) f_135_93 (Nat.le_of_ble_eq_true rfl) rfl rfl ?_
          refine e_aload_n f_135_94 rfl rfl ?_
          refine e_getf f_135_95 g14 rfl rfl ?_
          refine e_iload_n f_135_98 rfl rfl ?_
          refine e_iload_n f_135_99 rfl rfl ?_
          have g205 : px_pa h1 275 52 192 evS es := pa_fi H2 fx3 (by omega)
          have g206 : px_pa h5 275 52 192 evS es := pa_fi g205 fx7 (by omega)
          have g207 : px_pa h9 275 52 192 evS es := pa_fi g206 fx11 (by omega)
          have g208 : px_pa h13 275 52 192 evS es := pa_fi g207 fx15 (by omega)
          refine e_castore_p (xs := es) (x := (s, (-3), nI 0, (-3))) f_135_100 g208 (by omega) (by first | omega | (simp only [List.length_set]; omega)) (nw_ch (by omega)) rfl (fun h209 g210 fx211 => ?_)
          have fr212 : px_fj 269 1 275 4 h h209 := fj_tr fr16 fx211 (by omega)
          refine e_aload_n f_135_101 rfl rfl ?_
          have g213 : h209.2.2 269 = some (12, mB (nI tx.length, sn, cn) (nI (p + 1), true, wr, rd, nI rs, nI rc, nI tm, (-3), nI 0, (-3)) gq gh gw gu gv) := fi_at g14 fx211 (by omega)
          refine e_getf f_135_102 g213 rfl rfl ?_
          refine e_iload_n f_135_105 rfl rfl ?_
          refine e_aload_n f_135_106 rfl rfl ?_
          refine e_getf f_135_107 g213 rfl rfl ?_
          show px_to 135 110 [some (.ref (269)), some (.int (nI s)), some (.int (nI n)), some (.int (nI (24 * rc + n)))] [.int ((-3)), .int (nI (24 * rc + n)), .ref (276)] h209 _
          refine e_i2b (z := (-3)) f_135_110 (hft.1) rfl ?_
          have g214 : px_pa h1 276 54 192 evK es := pa_fi H3 fx3 (by omega)
          have g215 : px_pa h5 276 54 192 evK es := pa_fi g214 fx7 (by omega)
          have g216 : px_pa h9 276 54 192 evK es := pa_fi g215 fx11 (by omega)
          have g217 : px_pa h13 276 54 192 evK es := pa_fi g216 fx15 (by omega)
          have g218 : px_pa h209 276 54 192 evK es := pa_fi g217 fx211 (by omega)
          refine e_bastore_p (xs := es) (x := (s, (-3), nI 0, (-3))) f_135_111 g218 (by omega) (by first | omega | (simp only [List.length_set]; omega)) (nw_y hft.1) rfl (fun h219 g220 fx221 => ?_)
          have fr222 : px_fj 269 1 275 4 h h219 := fj_tr fr212 fx221 (by omega)
          refine e_aload_n f_135_112 rfl rfl ?_
          have g223 : h219.2.2 269 = some (12, mB (nI tx.length, sn, cn) (nI (p + 1), true, wr, rd, nI rs, nI rc, nI tm, (-3), nI 0, (-3)) gq gh gw gu gv) := fi_at g213 fx221 (by omega)
          refine e_getf f_135_113 g223 rfl rfl ?_
          refine e_iload_n f_135_116 rfl rfl ?_
          refine e_aload_n f_135_117 rfl rfl ?_
          refine e_getf f_135_118 g223 rfl rfl ?_
          show px_to 135 121 [some (.ref (269)), some (.int (nI s)), some (.int (nI n)), some (.int (nI (24 * rc + n)))] [.int (nI 0), .int (nI (24 * rc + n)), .ref (277)] h219 _
          refine e_i2s (z := nI 0) f_135_121 (hft.2.1) rfl ?_
          have g224 : px_pa h1 277 53 192 evV es := pa_fi H4 fx3 (by omega)
          have g225 : px_pa h5 277 53 192 evV es := pa_fi g224 fx7 (by omega)
          have g226 : px_pa h9 277 53 192 evV es := pa_fi g225 fx11 (by omega)
          have g227 : px_pa h13 277 53 192 evV es := pa_fi g226 fx15 (by omega)
          have g228 : px_pa h209 277 53 192 evV es := pa_fi g227 fx211 (by omega)
          have g229 : px_pa h219 277 53 192 evV es := pa_fi g228 fx221 (by omega)
          refine e_sastore_p (xs := es) (x := (s, (-3), nI 0, (-3))) f_135_122 g229 (by omega) (by first | omega | (simp only [List.length_set]; omega)) (nw_s hft.2.1) rfl (fun h230 g231 fx232 => ?_)
          have fr233 : px_fj 269 1 275 4 h h230 := fj_tr fr222 fx232 (by omega)
          refine e_aload_n f_135_123 rfl rfl ?_
          have g234 : h230.2.2 269 = some (12, mB (nI tx.length, sn, cn) (nI (p + 1), true, wr, rd, nI rs, nI rc, nI tm, (-3), nI 0, (-3)) gq gh gw gu gv) := fi_at g223 fx232 (by omega)
          refine e_getf f_135_124 g234 rfl rfl ?_
          refine e_iload_n f_135_127 rfl rfl ?_
          refine e_aload_n f_135_128 rfl rfl ?_
          refine e_getf f_135_129 g234 rfl rfl ?_
          show px_to 135 132 [some (.ref (269)), some (.int (nI s)), some (.int (nI n)), some (.int (nI (24 * rc + n)))] [.int ((-3)), .int (nI (24 * rc + n)), .ref (278)] h230 _
          refine e_i2s (z := (-3)) f_135_132 (hft.2.2) rfl ?_
          have g235 : px_pa h1 278 53 192 evT es := pa_fi H5 fx3 (by omega)
          have g236 : px_pa h5 278 53 192 evT es := pa_fi g235 fx7 (by omega)
          have g237 : px_pa h9 278 53 192 evT es := pa_fi g236 fx11 (by omega)
          have g238 : px_pa h13 278 53 192 evT es := pa_fi g237 fx15 (by omega)
          have g239 : px_pa h209 278 53 192 evT es := pa_fi g238 fx211 (by omega)
          have g240 : px_pa h219 278 53 192 evT es := pa_fi g239 fx221 (by omega)
          have g241 : px_pa h230 278 53 192 evT es := pa_fi g240 fx232 (by omega)
          refine e_sastore_p (xs := es) (x := (s, (-3), nI 0, (-3))) f_135_133 g241 (by omega) (by first | omega | (simp only [List.length_set]; omega)) (nw_s hft.2.2) rfl (fun h242 g243 fx244 => ?_)
          have fr245 : px_fj 269 1 275 4 h h242 := fj_tr fr233 fx244 (by omega)
          refine e_iconst (v := nI 1) f_135_134 (by decide) rfl ?_
          refine e_iret f_135_135 rfl (rfl) ?_
          have g246 : px_pa h219 275 52 192 evS (es.set (24 * rc + n) (s, (-3), nI 0, (-3))) := pa_fi g210 fx221 (by omega)
          have g247 : px_pa h230 275 52 192 evS (es.set (24 * rc + n) (s, (-3), nI 0, (-3))) := pa_fi g246 fx232 (by omega)
          have g248 : px_pa h242 275 52 192 evS (es.set (24 * rc + n) (s, (-3), nI 0, (-3))) := pa_fi g247 fx244 (by omega)
          have g249 : px_pa h230 276 54 192 evK (es.set (24 * rc + n) (s, (-3), nI 0, (-3))) := pa_fi g220 fx232 (by omega)
          have g250 : px_pa h242 276 54 192 evK (es.set (24 * rc + n) (s, (-3), nI 0, (-3))) := pa_fi g249 fx244 (by omega)
          have g251 : px_pa h242 277 53 192 evV (es.set (24 * rc + n) (s, (-3), nI 0, (-3))) := pa_fi g231 fx244 (by omega)
          have g252 : h242.2.2 269 = some (12, mB (nI tx.length, sn, cn) (nI (p + 1), true, wr, rd, nI rs, nI rc, nI tm, (-3), nI 0, (-3)) gq gh gw gu gv) := fi_at g234 fx244 (by omega)
          rw [ev2]
          dsimp only
          rw [if_pos rfl]
          rw [if_pos rfl]
          exact ⟨rfl, ⟨_, _, _, _, g252, trivial⟩, g248, g250, g251, g243, fr245⟩
        · skip
          have c_57 : s = 72 := cv_nne (by omega) (by omega) c_57
          refine e_aload_n f_135_60 rfl rfl ?_
          obtain ⟨hm254, fa255, fb256⟩ := fj_mid fr16
          have g253 : px_pa h13 270 52 500 vN tx := pa_fi (pa_fi H1 fa255 (by omega)) fb256 (by omega)
          refine e_callV (As := []) (rest := []) f_135_61 rfl rfl rfl (Nat.le_of_ble_eq_true rfl) (Nat.le_of_ble_eq_true rfl) g14 rfl (Nat.le_of_ble_eq_true rfl) (cc_Md_time (tx := tx) (sn := sn) (cn := cn) (p := p + 1) (kp := true) (wr := wr) (rd := rd) (rs := rs) (rc := rc) (tm := tm) (ky := (-3)) (vl := nI 0) (mo := (-3)) (gq := gq) (gh := gh) (gw := gw) (gu := gu) (gv := gv) g14 g253 (p0) (p1)) rfl (fun h257 r258 q259 => ?_)
          obtain ⟨rfl, g260, fx261⟩ := q259
          have fr262 : px_fj 269 1 275 4 h h257 := fj_tr fr16 fx261 (by omega)
          show px_to 135 64 [some (.ref (269)), some (.int (nI s)), some (.int (nI n)), none] [.int (bI ((rdT tx (p + 1)).1))] h257 _
          refine e_if_ne f_135_64 rfl (fun c_64 => ?_) (fun c_64 => ?_)
          · skip
            have c_64 : ((rdT tx (p + 1)).1) = true := bI_t c_64
            have g263 : h257.2.2 269 = some (12, mB (nI tx.length, sn, cn) (nI ((rdT tx (p + 1)).2.2), true, wr, nI (rdT tx (p + 1)).2.1, nI rs, nI rc, nI tm, (-3), nI 0, (-3)) gq gh gw gu gv) := by have z := g260; rw [c_64, if_pos rfl, if_pos rfl] at z; exact z
            refine e_aload_n f_135_69 rfl rfl ?_
            refine e_aload_n f_135_70 rfl rfl ?_
            refine e_getf f_135_71 g263 rfl rfl ?_
            show px_to 135 74 [some (.ref (269)), some (.int (nI s)), some (.int (nI n)), none] [.int (nI (rdT tx (p + 1)).2.1), .ref (269)] h257 _
            refine e_putp (vs' := mB (nI tx.length, sn, cn) (nI ((rdT tx (p + 1)).2.2), true, wr, nI (rdT tx (p + 1)).2.1, nI rs, nI rc, nI tm, (-3), nI 0, nI (rdT tx (p + 1)).2.1) gq gh gw gu gv) f_135_74 g263 (Nat.le_of_ble_eq_true rfl) (rfl) (rfl) rfl rfl (fun h264 g265 fx266 => ?_)
            have fr267 : px_fj 269 1 275 4 h h264 := fj_tr fr262 fx266 (by omega)
            have ev2 : rdEv tx s (p + 1) = (true, (rdT tx (p + 1)).2.2, (s, -3, nI 0, nI (rdT tx (p + 1)).2.1)) := by unfold rdEv; rw [if_neg (show ¬ (s = 114 ∨ s = 82) by omega), if_neg (show ¬ (s = 107 ∨ s = 120) by omega), c_64]
            have hft := rdEv_fit (tx := tx) (s := s) (p := p + 1)
            rw [ev2] at hft
            refine e_aload_n f_135_77 rfl rfl ?_
            refine e_getf f_135_78 g265 rfl rfl ?_
            show px_to 135 81 [some (.ref (269)), some (.int (nI s)), some (.int (nI n)), none] [.int (bI true)] h264 _
            refine e_if_eq_f f_135_81 (by decide) rfl ?_
            refine e_bipush (v := nI 24) f_135_84 (by decide) rfl ?_
            refine e_aload_n f_135_86 rfl rfl ?_
            refine e_getf f_135_87 g265 rfl rfl ?_
            show px_to 135 90 [some (.ref (269)), some (.int (nI s)), some (.int (nI n)), none] [.int (nI rc), .int (nI 24)] h264 _
            refine e_imul (z := nI (24 * rc)) f_135_90 (pk_mul _ _) rfl ?_
            refine e_iload_n f_135_91 rfl rfl ?_
            refine e_iadd (z := nI (24 * rc + n)) f_135_92 (nI_add _ _) rfl ?_
            refine e_istore_n (L' := [some (.ref (269)), some (.int (nI s)), some (.int (nI n)), some (.int (nI (24 * rc + n)))]) f_135_93 (Nat.le_of_ble_eq_true rfl) rfl rfl ?_
            refine e_aload_n f_135_94 rfl rfl ?_
            refine e_getf f_135_95 g265 rfl rfl ?_
            refine e_iload_n f_135_98 rfl rfl ?_
            refine e_iload_n f_135_99 rfl rfl ?_
            have g268 : px_pa h1 275 52 192 evS es := pa_fi H2 fx3 (by omega)
            have g269 : px_pa h5 275 52 192 evS es := pa_fi g268 fx7 (by omega)
            have g270 : px_pa h9 275 52 192 evS es := pa_fi g269 fx11 (by omega)
            have g271 : px_pa h13 275 52 192 evS es := pa_fi g270 fx15 (by omega)
            have g272 : px_pa h257 275 52 192 evS es := pa_fi g271 fx261 (by omega)
            have g273 : px_pa h264 275 52 192 evS es := pa_fi g272 fx266 (by omega)
            refine e_castore_p (xs := es) (x := (s, (-3), nI 0, nI (rdT tx (p + 1)).2.1)) f_135_100 g273 (by omega) (by first | omega | (simp only [List.length_set]; omega)) (nw_ch (by omega)) rfl (fun h274 g275 fx276 => ?_)
            have fr277 : px_fj 269 1 275 4 h h274 := fj_tr fr267 fx276 (by omega)
            refine e_aload_n f_135_101 rfl rfl ?_
            have g278 : h274.2.2 269 = some (12, mB (nI tx.length, sn, cn) (nI ((rdT tx (p + 1)).2.2), true, wr, nI (rdT tx (p + 1)).2.1, nI rs, nI rc, nI tm, (-3), nI 0, nI (rdT tx (p + 1)).2.1) gq gh gw gu gv) := fi_at g265 fx276 (by omega)
            refine e_getf f_135_102 g278 rfl rfl ?_
            refine e_iload_n f_135_105 rfl rfl ?_
            refine e_aload_n f_135_106 rfl rfl ?_
            refine e_getf f_135_107 g278 rfl rfl ?_
            show px_to 135 110 [some (.ref (269)), some (.int (nI s)), some (.int (nI n)), some (.int (nI (24 * rc + n)))] [.int ((-3)), .int (nI (24 * rc + n)), .ref (276)] h274 _
            refine e_i2b (z := (-3)) f_135_110 (hft.1) rfl ?_
            have g279 : px_pa h1 276 54 192 evK es := pa_fi H3 fx3 (by omega)
            have g280 : px_pa h5 276 54 192 evK es := pa_fi g279 fx7 (by omega)
            have g281 : px_pa h9 276 54 192 evK es := pa_fi g280 fx11 (by omega)
            have g282 : px_pa h13 276 54 192 evK es := pa_fi g281 fx15 (by omega)
            have g283 : px_pa h257 276 54 192 evK es := pa_fi g282 fx261 (by omega)
            have g284 : px_pa h264 276 54 192 evK es := pa_fi g283 fx266 (by omega)
            have g285 : px_pa h274 276 54 192 evK es := pa_fi g284 fx276 (by omega)
            refine e_bastore_p (xs := es) (x := (s, (-3), nI 0, nI (rdT tx (p + 1)).2.1)) f_135_111 g285 (by omega) (by first | omega | (simp only [List.length_set]; omega)) (nw_y hft.1) rfl (fun h286 g287 fx288 => ?_)
            have fr289 : px_fj 269 1 275 4 h h286 := fj_tr fr277 fx288 (by omega)
            refine e_aload_n f_135_112 rfl rfl ?_
            have g290 : h286.2.2 269 = some (12, mB (nI tx.length, sn, cn) (nI ((rdT tx (p + 1)).2.2), true, wr, nI (rdT tx (p + 1)).2.1, nI rs, nI rc, nI tm, (-3), nI 0, nI (rdT tx (p + 1)).2.1) gq gh gw gu gv) := fi_at g278 fx288 (by omega)
            refine e_getf f_135_113 g290 rfl rfl ?_
            refine e_iload_n f_135_116 rfl rfl ?_
            refine e_aload_n f_135_117 rfl rfl ?_
            refine e_getf f_135_118 g290 rfl rfl ?_
            show px_to 135 121 [some (.ref (269)), some (.int (nI s)), some (.int (nI n)), some (.int (nI (24 * rc + n)))] [.int (nI 0), .int (nI (24 * rc + n)), .ref (277)] h286 _
            refine e_i2s (z := nI 0) f_135_121 (hft.2.1) rfl ?_
            have g291 : px_pa h1 277 53 192 evV es := pa_fi H4 fx3 (by omega)
            have g292 : px_pa h5 277 53 192 evV es := pa_fi g291 fx7 (by omega)
            have g293 : px_pa h9 277 53 192 evV es := pa_fi g292 fx11 (by omega)
            have g294 : px_pa h13 277 53 192 evV es := pa_fi g293 fx15 (by omega)
            have g295 : px_pa h257 277 53 192 evV es := pa_fi g294 fx261 (by omega)
            have g296 : px_pa h264 277 53 192 evV es := pa_fi g295 fx266 (by omega)
            have g297 : px_pa h274 277 53 192 evV es := pa_fi g296 fx276 (by omega)
            have g298 : px_pa h286 277 53 192 evV es := pa_fi g297 fx288 (by omega)
            refine e_sastore_p (xs := es) (x := (s, (-3), nI 0, nI (rdT tx (p + 1)).2.1)) f_135_122 g298 (by omega) (by first | omega | (simp only [List.length_set]; omega)) (nw_s hft.2.1) rfl (fun h299 g300 fx301 => ?_)
            have fr302 : px_fj 269 1 275 4 h h299 := fj_tr fr289 fx301 (by omega)
            refine e_aload_n f_135_123 rfl rfl ?_
            have g303 : h299.2.2 269 = some (12, mB (nI tx.length, sn, cn) (nI ((rdT tx (p + 1)).2.2), true, wr, nI (rdT tx (p + 1)).2.1, nI rs, nI rc, nI tm, (-3), nI 0, nI (rdT tx (p + 1)).2.1) gq gh gw gu gv) := fi_at g290 fx301 (by omega)
            refine e_getf f_135_124 g303 rfl rfl ?_
            refine e_iload_n f_135_127 rfl rfl ?_
            refine e_aload_n f_135_128 rfl rfl ?_
            refine e_getf f_135_129 g303 rfl rfl ?_
            show px_to 135 132 [some (.ref (269)), some (.int (nI s)), some (.int (nI n)), some (.int (nI (24 * rc + n)))] [.int (nI (rdT tx (p + 1)).2.1), .int (nI (24 * rc + n)), .ref (278)] h299 _
            refine e_i2s (z := nI (rdT tx (p + 1)).2.1) f_135_132 (hft.2.2) rfl ?_
            have g304 : px_pa h1 278 53 192 evT es := pa_fi H5 fx3 (by omega)
            have g305 : px_pa h5 278 53 192 evT es := pa_fi g304 fx7 (by omega)
            have g306 : px_pa h9 278 53 192 evT es := pa_fi g305 fx11 (by omega)
            have g307 : px_pa h13 278 53 192 evT es := pa_fi g306 fx15 (by omega)
            have g308 : px_pa h257 278 53 192 evT es := pa_fi g307 fx261 (by omega)
            have g309 : px_pa h264 278 53 192 evT es := pa_fi g308 fx266 (by omega)
            have g310 : px_pa h274 278 53 192 evT es := pa_fi g309 fx276 (by omega)
            have g311 : px_pa h286 278 53 192 evT es := pa_fi g310 fx288 (by omega)
            have g312 : px_pa h299 278 53 192 evT es := pa_fi g311 fx301 (by omega)
            refine e_sastore_p (xs := es) (x := (s, (-3), nI 0, nI (rdT tx (p + 1)).2.1)) f_135_133 g312 (by omega) (by first | omega | (simp only [List.length_set]; omega)) (nw_s hft.2.2) rfl (fun h313 g314 fx315 => ?_)
            have fr316 : px_fj 269 1 275 4 h h313 := fj_tr fr302 fx315 (by omega)
            refine e_iconst (v := nI 1) f_135_134 (by decide) rfl ?_
            refine e_iret f_135_135 rfl (rfl) ?_
            have g317 : px_pa h286 275 52 192 evS (es.set (24 * rc + n) (s, (-3), nI 0, nI (rdT tx (p + 1)).2.1)) := pa_fi g275 fx288 (by omega)
            have g318 : px_pa h299 275 52 192 evS (es.set (24 * rc + n) (s, (-3), nI 0, nI (rdT tx (p + 1)).2.1)) := pa_fi g317 fx301 (by omega)
            have g319 : px_pa h313 275 52 192 evS (es.set (24 * rc + n) (s, (-3), nI 0, nI (rdT tx (p + 1)).2.1)) := pa_fi g318 fx315 (by omega)
            have g320 : px_pa h299 276 54 192 evK (es.set (24 * rc + n) (s, (-3), nI 0, nI (rdT tx (p + 1)).2.1)) := pa_fi g287 fx301 (by omega)
            have g321 : px_pa h313 276 54 192 evK (es.set (24 * rc + n) (s, (-3), nI 0, nI (rdT tx (p + 1)).2.1)) := pa_fi g320 fx315 (by omega)
            have g322 : px_pa h313 277 53 192 evV (es.set (24 * rc + n) (s, (-3), nI 0, nI (rdT tx (p + 1)).2.1)) := pa_fi g300 fx315 (by omega)
            have g323 : h313.2.2 269 = some (12, mB (nI tx.length, sn, cn) (nI ((rdT tx (p + 1)).2.2), true, wr, nI (rdT tx (p + 1)).2.1, nI rs, nI rc, nI tm, (-3), nI 0, nI (rdT tx (p + 1)).2.1) gq gh gw gu gv) := fi_at g303 fx315 (by omega)
            rw [ev2]
            dsimp only
            rw [if_pos rfl]
            rw [if_pos rfl]
            exact ⟨rfl, ⟨_, _, _, _, g323, trivial⟩, g319, g321, g322, g314, fr316⟩
          · skip
            have c_64 : ((rdT tx (p + 1)).1) = false := bI_f' c_64
            refine e_iconst (v := nI 0) f_135_67 (by decide) rfl ?_
            refine e_iret f_135_68 rfl (rfl) ?_
            have g324 : px_pa h1 275 52 192 evS es := pa_fi H2 fx3 (by omega)
            have g325 : px_pa h5 275 52 192 evS es := pa_fi g324 fx7 (by omega)
            have g326 : px_pa h9 275 52 192 evS es := pa_fi g325 fx11 (by omega)
            have g327 : px_pa h13 275 52 192 evS es := pa_fi g326 fx15 (by omega)
            have g328 : px_pa h257 275 52 192 evS es := pa_fi g327 fx261 (by omega)
            have g329 : px_pa h1 276 54 192 evK es := pa_fi H3 fx3 (by omega)
            have g330 : px_pa h5 276 54 192 evK es := pa_fi g329 fx7 (by omega)
            have g331 : px_pa h9 276 54 192 evK es := pa_fi g330 fx11 (by omega)
            have g332 : px_pa h13 276 54 192 evK es := pa_fi g331 fx15 (by omega)
            have g333 : px_pa h257 276 54 192 evK es := pa_fi g332 fx261 (by omega)
            have g334 : px_pa h1 277 53 192 evV es := pa_fi H4 fx3 (by omega)
            have g335 : px_pa h5 277 53 192 evV es := pa_fi g334 fx7 (by omega)
            have g336 : px_pa h9 277 53 192 evV es := pa_fi g335 fx11 (by omega)
            have g337 : px_pa h13 277 53 192 evV es := pa_fi g336 fx15 (by omega)
            have g338 : px_pa h257 277 53 192 evV es := pa_fi g337 fx261 (by omega)
            have g339 : px_pa h1 278 53 192 evT es := pa_fi H5 fx3 (by omega)
            have g340 : px_pa h5 278 53 192 evT es := pa_fi g339 fx7 (by omega)
            have g341 : px_pa h9 278 53 192 evT es := pa_fi g340 fx11 (by omega)
            have g342 : px_pa h13 278 53 192 evT es := pa_fi g341 fx15 (by omega)
            have g343 : px_pa h257 278 53 192 evT es := pa_fi g342 fx261 (by omega)
            have g344 : h257.2.2 269 = some (12, mB (nI tx.length, sn, cn) (nI ((rdT tx (p + 1)).2.2), true, nI (rdT tx (p + 1)).2.2, rd, nI rs, nI rc, nI tm, (-3), nI 0, (-3)) gq gh gw gu gv) := by have z := g260; rw [c_64, if_neg (by decide), if_neg (by decide)] at z; exact z
            have ev2 : rdEv tx s (p + 1) = (false, (rdT tx (p + 1)).2.2, (s, -3, nI 0, nI (rdT tx (p + 1)).2.1)) := by unfold rdEv; rw [if_neg (show ¬ (s = 114 ∨ s = 82) by omega), if_neg (show ¬ (s = 107 ∨ s = 120) by omega), c_64]
            rw [ev2]
            dsimp only
            rw [if_neg (by decide)]
            rw [if_neg (by decide)]
            exact ⟨rfl, ⟨_, _, _, _, g344, trivial⟩, g328, g333, g338, g343, fr262⟩
    · skip
      have c_36 : s = 82 := cv_nne (by omega) (by omega) c_36
      refine e_aload_n f_135_39 rfl rfl ?_
      obtain ⟨hm346, fa347, fb348⟩ := fj_mid fr16
      have g345 : px_pa h13 270 52 500 vN tx := pa_fi (pa_fi H1 fa347 (by omega)) fb348 (by omega)
      refine e_callV (As := []) (rest := []) f_135_40 rfl rfl rfl (Nat.le_of_ble_eq_true rfl) (Nat.le_of_ble_eq_true rfl) g14 rfl (Nat.le_of_ble_eq_true rfl) (cc_Md_row (tx := tx) (sn := sn) (cn := cn) (p := p + 1) (kp := true) (wr := wr) (rd := rd) (rs := rs) (rc := rc) (tm := tm) (ky := (-3)) (vl := nI 0) (mo := (-3)) (gq := gq) (gh := gh) (gw := gw) (gu := gu) (gv := gv) g14 g345 (p0) (p1)) rfl (fun h349 r350 q351 => ?_)
      obtain ⟨rfl, g352, fx353⟩ := q351
      have fr354 : px_fj 269 1 275 4 h h349 := fj_tr fr16 fx353 (by omega)
      show px_to 135 43 [some (.ref (269)), some (.int (nI s)), some (.int (nI n)), none] [.int (bI ((rdRow tx (p + 1)).1))] h349 _
      refine e_if_ne f_135_43 rfl (fun c_43 => ?_) (fun c_43 => ?_)
      · skip
        have c_43 : ((rdRow tx (p + 1)).1) = true := bI_t c_43
        obtain ⟨rd355, ky356, vl357, mo358, g359, hX360⟩ := id g352
        obtain ⟨hk1, hk2, hk3⟩ := hX360 c_43
        have g361 : h349.2.2 269 = some (12, mB (nI tx.length, sn, cn) (nI ((rdRow tx (p + 1)).2.1), true, wr, rd355, nI rs, nI rc, nI tm, nI (rdRow tx (p + 1)).2.2.1, (rdRow tx (p + 1)).2.2.2.1, nI (rdRow tx (p + 1)).2.2.2.2) gq gh gw gu gv) := by have z := g359; rw [hk1, hk2, hk3, c_43, if_pos rfl] at z; exact z
        have ev2 : rdEv tx s (p + 1) = (true, (rdRow tx (p + 1)).2.1, (s, nI (rdRow tx (p + 1)).2.2.1, (rdRow tx (p + 1)).2.2.2.1, nI (rdRow tx (p + 1)).2.2.2.2)) := by unfold rdEv; rw [if_pos (show s = 114 ∨ s = 82 by omega), c_43]
        refine e_iload_n f_135_48 rfl rfl ?_
        refine e_bipush (v := nI 104) f_135_49 (by decide) rfl ?_
        refine e_icmp_eq f_135_51 rfl (fun c_51 => ?_) (fun c_51 => ?_)
        · skip
          have c_51 : s = 104 := cv_eq (by omega) (by omega) c_51
          exfalso; omega
        · skip
          have c_51 : s ≠ 104 := cv_ne c_51
          refine e_iload_n f_135_54 rfl rfl ?_
          refine e_bipush (v := nI 72) f_135_55 (by decide) rfl ?_
          refine e_icmp_ne f_135_57 rfl (fun c_57 => ?_) (fun c_57 => ?_)
          · skip
            have c_57 : s ≠ 72 := cv_ne c_57
            have hft := rdEv_fit (tx := tx) (s := s) (p := p + 1)
            rw [ev2] at hft
            refine e_aload_n f_135_77 rfl rfl ?_
            refine e_getf f_135_78 g361 rfl rfl ?_
            show px_to 135 81 [some (.ref (269)), some (.int (nI s)), some (.int (nI n)), none] [.int (bI true)] h349 _
            refine e_if_eq_f f_135_81 (by decide) rfl ?_
            refine e_bipush (v := nI 24) f_135_84 (by decide) rfl ?_
            refine e_aload_n f_135_86 rfl rfl ?_
            refine e_getf f_135_87 g361 rfl rfl ?_
            show px_to 135 90 [some (.ref (269)), some (.int (nI s)), some (.int (nI n)), none] [.int (nI rc), .int (nI 24)] h349 _
            refine e_imul (z := nI (24 * rc)) f_135_90 (pk_mul _ _) rfl ?_
            refine e_iload_n f_135_91 rfl rfl ?_
            refine e_iadd (z := nI (24 * rc + n)) f_135_92 (nI_add _ _) rfl ?_
            refine e_istore_n (L' := [some (.ref (269)), some (.int (nI s)), some (.int (nI n)), some (.int (nI (24 * rc + n)))]) f_135_93 (Nat.le_of_ble_eq_true rfl) rfl rfl ?_
            refine e_aload_n f_135_94 rfl rfl ?_
            refine e_getf f_135_95 g361 rfl rfl ?_
            refine e_iload_n f_135_98 rfl rfl ?_
            refine e_iload_n f_135_99 rfl rfl ?_
            have g362 : px_pa h1 275 52 192 evS es := pa_fi H2 fx3 (by omega)
            have g363 : px_pa h5 275 52 192 evS es := pa_fi g362 fx7 (by omega)
            have g364 : px_pa h9 275 52 192 evS es := pa_fi g363 fx11 (by omega)
            have g365 : px_pa h13 275 52 192 evS es := pa_fi g364 fx15 (by omega)
            have g366 : px_pa h349 275 52 192 evS es := pa_fi g365 fx353 (by omega)
            refine e_castore_p (xs := es) (x := (s, nI (rdRow tx (p + 1)).2.2.1, (rdRow tx (p + 1)).2.2.2.1, nI (rdRow tx (p + 1)).2.2.2.2)) f_135_100 g366 (by omega) (by first | omega | (simp only [List.length_set]; omega)) (nw_ch (by omega)) rfl (fun h367 g368 fx369 => ?_)
            have fr370 : px_fj 269 1 275 4 h h367 := fj_tr fr354 fx369 (by omega)
            refine e_aload_n f_135_101 rfl rfl ?_
            have g371 : h367.2.2 269 = some (12, mB (nI tx.length, sn, cn) (nI ((rdRow tx (p + 1)).2.1), true, wr, rd355, nI rs, nI rc, nI tm, nI (rdRow tx (p + 1)).2.2.1, (rdRow tx (p + 1)).2.2.2.1, nI (rdRow tx (p + 1)).2.2.2.2) gq gh gw gu gv) := fi_at g361 fx369 (by omega)
            refine e_getf f_135_102 g371 rfl rfl ?_
            refine e_iload_n f_135_105 rfl rfl ?_
            refine e_aload_n f_135_106 rfl rfl ?_
            refine e_getf f_135_107 g371 rfl rfl ?_
            show px_to 135 110 [some (.ref (269)), some (.int (nI s)), some (.int (nI n)), some (.int (nI (24 * rc + n)))] [.int (nI (rdRow tx (p + 1)).2.2.1), .int (nI (24 * rc + n)), .ref (276)] h367 _
            refine e_i2b (z := nI (rdRow tx (p + 1)).2.2.1) f_135_110 (hft.1) rfl ?_
            have g372 : px_pa h1 276 54 192 evK es := pa_fi H3 fx3 (by omega)
            have g373 : px_pa h5 276 54 192 evK es := pa_fi g372 fx7 (by omega)
            have g374 : px_pa h9 276 54 192 evK es := pa_fi g373 fx11 (by omega)
            have g375 : px_pa h13 276 54 192 evK es := pa_fi g374 fx15 (by omega)
            have g376 : px_pa h349 276 54 192 evK es := pa_fi g375 fx353 (by omega)
            have g377 : px_pa h367 276 54 192 evK es := pa_fi g376 fx369 (by omega)
            refine e_bastore_p (xs := es) (x := (s, nI (rdRow tx (p + 1)).2.2.1, (rdRow tx (p + 1)).2.2.2.1, nI (rdRow tx (p + 1)).2.2.2.2)) f_135_111 g377 (by omega) (by first | omega | (simp only [List.length_set]; omega)) (nw_y hft.1) rfl (fun h378 g379 fx380 => ?_)
            have fr381 : px_fj 269 1 275 4 h h378 := fj_tr fr370 fx380 (by omega)
            refine e_aload_n f_135_112 rfl rfl ?_
            have g382 : h378.2.2 269 = some (12, mB (nI tx.length, sn, cn) (nI ((rdRow tx (p + 1)).2.1), true, wr, rd355, nI rs, nI rc, nI tm, nI (rdRow tx (p + 1)).2.2.1, (rdRow tx (p + 1)).2.2.2.1, nI (rdRow tx (p + 1)).2.2.2.2) gq gh gw gu gv) := fi_at g371 fx380 (by omega)
            refine e_getf f_135_113 g382 rfl rfl ?_
            refine e_iload_n f_135_116 rfl rfl ?_
            refine e_aload_n f_135_117 rfl rfl ?_
            refine e_getf f_135_118 g382 rfl rfl ?_
            show px_to 135 121 [some (.ref (269)), some (.int (nI s)), some (.int (nI n)), some (.int (nI (24 * rc + n)))] [.int ((rdRow tx (p + 1)).2.2.2.1), .int (nI (24 * rc + n)), .ref (277)] h378 _
            refine e_i2s (z := (rdRow tx (p + 1)).2.2.2.1) f_135_121 (hft.2.1) rfl ?_
            have g383 : px_pa h1 277 53 192 evV es := pa_fi H4 fx3 (by omega)
            have g384 : px_pa h5 277 53 192 evV es := pa_fi g383 fx7 (by omega)
            have g385 : px_pa h9 277 53 192 evV es := pa_fi g384 fx11 (by omega)
            have g386 : px_pa h13 277 53 192 evV es := pa_fi g385 fx15 (by omega)
            have g387 : px_pa h349 277 53 192 evV es := pa_fi g386 fx353 (by omega)
            have g388 : px_pa h367 277 53 192 evV es := pa_fi g387 fx369 (by omega)
            have g389 : px_pa h378 277 53 192 evV es := pa_fi g388 fx380 (by omega)
            refine e_sastore_p (xs := es) (x := (s, nI (rdRow tx (p + 1)).2.2.1, (rdRow tx (p + 1)).2.2.2.1, nI (rdRow tx (p + 1)).2.2.2.2)) f_135_122 g389 (by omega) (by first | omega | (simp only [List.length_set]; omega)) (nw_s hft.2.1) rfl (fun h390 g391 fx392 => ?_)
            have fr393 : px_fj 269 1 275 4 h h390 := fj_tr fr381 fx392 (by omega)
            refine e_aload_n f_135_123 rfl rfl ?_
            have g394 : h390.2.2 269 = some (12, mB (nI tx.length, sn, cn) (nI ((rdRow tx (p + 1)).2.1), true, wr, rd355, nI rs, nI rc, nI tm, nI (rdRow tx (p + 1)).2.2.1, (rdRow tx (p + 1)).2.2.2.1, nI (rdRow tx (p + 1)).2.2.2.2) gq gh gw gu gv) := fi_at g382 fx392 (by omega)
            refine e_getf f_135_124 g394 rfl rfl ?_
            refine e_iload_n f_135_127 rfl rfl ?_
            refine e_aload_n f_135_128 rfl rfl ?_
            refine e_getf f_135_129 g394 rfl rfl ?_
            show px_to 135 132 [some (.ref (269)), some (.int (nI s)), some (.int (nI n)), some (.int (nI (24 * rc + n)))] [.int (nI (rdRow tx (p + 1)).2.2.2.2), .int (nI (24 * rc + n)), .ref (278)] h390 _
            refine e_i2s (z := nI (rdRow tx (p + 1)).2.2.2.2) f_135_132 (hft.2.2) rfl ?_
            have g395 : px_pa h1 278 53 192 evT es := pa_fi H5 fx3 (by omega)
            have g396 : px_pa h5 278 53 192 evT es := pa_fi g395 fx7 (by omega)
            have g397 : px_pa h9 278 53 192 evT es := pa_fi g396 fx11 (by omega)
            have g398 : px_pa h13 278 53 192 evT es := pa_fi g397 fx15 (by omega)
            have g399 : px_pa h349 278 53 192 evT es := pa_fi g398 fx353 (by omega)
            have g400 : px_pa h367 278 53 192 evT es := pa_fi g399 fx369 (by omega)
            have g401 : px_pa h378 278 53 192 evT es := pa_fi g400 fx380 (by omega)
            have g402 : px_pa h390 278 53 192 evT es := pa_fi g401 fx392 (by omega)
            refine e_sastore_p (xs := es) (x := (s, nI (rdRow tx (p + 1)).2.2.1, (rdRow tx (p + 1)).2.2.2.1, nI (rdRow tx (p + 1)).2.2.2.2)) f_135_133 g402 (by omega) (by first | omega | (simp only [List.length_set]; omega)) (nw_s hft.2.2) rfl (fun h403 g404 fx405 => ?_)
            have fr406 : px_fj 269 1 275 4 h h403 := fj_tr fr393 fx405 (by omega)
            refine e_iconst (v := nI 1) f_135_134 (by decide) rfl ?_
            refine e_iret f_135_135 rfl (rfl) ?_
            have g407 : px_pa h378 275 52 192 evS (es.set (24 * rc + n) (s, nI (rdRow tx (p + 1)).2.2.1, (rdRow tx (p + 1)).2.2.2.1, nI (rdRow tx (p + 1)).2.2.2.2)) := pa_fi g368 fx380 (by omega)
            have g408 : px_pa h390 275 52 192 evS (es.set (24 * rc + n) (s, nI (rdRow tx (p + 1)).2.2.1, (rdRow tx (p + 1)).2.2.2.1, nI (rdRow tx (p + 1)).2.2.2.2)) := pa_fi g407 fx392 (by omega)
            have g409 : px_pa h403 275 52 192 evS (es.set (24 * rc + n) (s, nI (rdRow tx (p + 1)).2.2.1, (rdRow tx (p + 1)).2.2.2.1, nI (rdRow tx (p + 1)).2.2.2.2)) := pa_fi g408 fx405 (by omega)
            have g410 : px_pa h390 276 54 192 evK (es.set (24 * rc + n) (s, nI (rdRow tx (p + 1)).2.2.1, (rdRow tx (p + 1)).2.2.2.1, nI (rdRow tx (p + 1)).2.2.2.2)) := pa_fi g379 fx392 (by omega)
            have g411 : px_pa h403 276 54 192 evK (es.set (24 * rc + n) (s, nI (rdRow tx (p + 1)).2.2.1, (rdRow tx (p + 1)).2.2.2.1, nI (rdRow tx (p + 1)).2.2.2.2)) := pa_fi g410 fx405 (by omega)
            have g412 : px_pa h403 277 53 192 evV (es.set (24 * rc + n) (s, nI (rdRow tx (p + 1)).2.2.1, (rdRow tx (p + 1)).2.2.2.1, nI (rdRow tx (p + 1)).2.2.2.2)) := pa_fi g391 fx405 (by omega)
            have g413 : h403.2.2 269 = some (12, mB (nI tx.length, sn, cn) (nI ((rdRow tx (p + 1)).2.1), true, wr, rd355, nI rs, nI rc, nI tm, nI (rdRow tx (p + 1)).2.2.1, (rdRow tx (p + 1)).2.2.2.1, nI (rdRow tx (p + 1)).2.2.2.2) gq gh gw gu gv) := fi_at g394 fx405 (by omega)
            rw [ev2]
            dsimp only
            rw [if_pos rfl]
            rw [if_pos rfl]
            exact ⟨rfl, ⟨_, _, _, _, g413, trivial⟩, g409, g411, g412, g404, fr406⟩
          · skip
            have c_57 : s = 72 := cv_nne (by omega) (by omega) c_57
            exfalso; omega
      · skip
        have c_43 : ((rdRow tx (p + 1)).1) = false := bI_f' c_43
        refine e_iconst (v := nI 0) f_135_46 (by decide) rfl ?_
        refine e_iret f_135_47 rfl (rfl) ?_
        have g414 : px_pa h1 275 52 192 evS es := pa_fi H2 fx3 (by omega)
        have g415 : px_pa h5 275 52 192 evS es := pa_fi g414 fx7 (by omega)
        have g416 : px_pa h9 275 52 192 evS es := pa_fi g415 fx11 (by omega)
        have g417 : px_pa h13 275 52 192 evS es := pa_fi g416 fx15 (by omega)
        have g418 : px_pa h349 275 52 192 evS es := pa_fi g417 fx353 (by omega)
        have g419 : px_pa h1 276 54 192 evK es := pa_fi H3 fx3 (by omega)
        have g420 : px_pa h5 276 54 192 evK es := pa_fi g419 fx7 (by omega)
        have g421 : px_pa h9 276 54 192 evK es := pa_fi g420 fx11 (by omega)
        have g422 : px_pa h13 276 54 192 evK es := pa_fi g421 fx15 (by omega)
        have g423 : px_pa h349 276 54 192 evK es := pa_fi g422 fx353 (by omega)
        have g424 : px_pa h1 277 53 192 evV es := pa_fi H4 fx3 (by omega)
        have g425 : px_pa h5 277 53 192 evV es := pa_fi g424 fx7 (by omega)
        have g426 : px_pa h9 277 53 192 evV es := pa_fi g425 fx11 (by omega)
        have g427 : px_pa h13 277 53 192 evV es := pa_fi g426 fx15 (by omega)
        have g428 : px_pa h349 277 53 192 evV es := pa_fi g427 fx353 (by omega)
        have g429 : px_pa h1 278 53 192 evT es := pa_fi H5 fx3 (by omega)
        have g430 : px_pa h5 278 53 192 evT es := pa_fi g429 fx7 (by omega)
        have g431 : px_pa h9 278 53 192 evT es := pa_fi g430 fx11 (by omega)
        have g432 : px_pa h13 278 53 192 evT es := pa_fi g431 fx15 (by omega)
        have g433 : px_pa h349 278 53 192 evT es := pa_fi g432 fx353 (by omega)
        obtain ⟨rd434, ky435, vl436, mo437, g438, hX439⟩ := id g352
        have g440 : h349.2.2 269 = some (12, mB (nI tx.length, sn, cn) (nI ((rdRow tx (p + 1)).2.1), true, nI (rdRow tx (p + 1)).2.1, rd434, nI rs, nI rc, nI tm, ky435, vl436, mo437) gq gh gw gu gv) := by have z := g438; rw [c_43, if_neg (by decide)] at z; exact z
        have ev2 : rdEv tx s (p + 1) = (false, (rdRow tx (p + 1)).2.1, (s, nI (rdRow tx (p + 1)).2.2.1, (rdRow tx (p + 1)).2.2.2.1, nI (rdRow tx (p + 1)).2.2.2.2)) := by unfold rdEv; rw [if_pos (show s = 114 ∨ s = 82 by omega), c_43]
        rw [ev2]
        dsimp only
        rw [if_neg (by decide)]
        rw [if_neg (by decide)]
        exact ⟨rfl, ⟨_, _, _, _, g440, trivial⟩, g418, g423, g428, g433, fr354⟩
