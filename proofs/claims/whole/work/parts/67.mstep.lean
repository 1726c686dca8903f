set_option maxRecDepth 20000 in
set_option maxHeartbeats 4000000 in
theorem cc_Md_st0 {h : px_H} {s : Nat} {jl : List St} {tx : List Nat} {sn cn : Int32} {p rs rc tm : Nat} {kp : Bool} {wr rd ky vl mo : Int32} {gq : gQ} {gh : gH} {gw : gW} {gu : gU} {gv : gV} (H0 : h.2.2 269 = some (12, mB (nI tx.length, sn, cn) (nI p, false, wr, rd, nI rs, nI rc, nI tm, ky, vl, mo) gq gh gw gu gv)) (H1 : px_pa h 270 52 500 vN tx) (p0 : p + 1 ≤ tx.length) (p1 : okTx tx) (p2 : s ∈ stepSigns) (p3 : jl.length = rs) (p4 : rs < 6) (p5 : tm ≤ 2) : px_wp 130 [.ref (269), .int (nI s)] h (fun h1 r => r = some (.int (bI ((rdStep tx s (p + 1)).1))) ∧ pMS h1 tx sn cn ((rdStep tx s (p + 1)).2.1) false (if (rdStep tx s (p + 1)).1 = true then wr else nI (rdStep tx s (p + 1)).2.1) (if (rdStep tx s (p + 1)).1 = true then rs + 1 else rs) rc (if s = 116 then tm + 1 else tm) gq gh gw gu gv (fun _ _ _ => True) ∧ px_fi 269 1 h h1) := by
  have fr0 : px_fi 269 1 h h := fi_rf _ _ _
  have le := pa_len H1
  have hsl : sgn tx (p + 1) < 127 := tx_lt p1 _
  have hsk := skp_le p0
  have hs2 : s = 102 ∨ s = 109 ∨ s = 113 ∨ s = 100 ∨ s = 115 ∨ s = 119 ∨ s = 116 := by simpa [stepSigns] using p2
  have htb := rdT_b (tx := tx) (p := p + 1)
  show px_to 130 0 [some (.ref (269)), some (.int (nI s)), none, none] [] h _
  refine e_aload_n f_130_0 rfl rfl ?_
  refine e_dup f_130_1 rfl rfl ?_
  refine e_getf f_130_2 H0 rfl rfl ?_
  show px_to 130 5 [some (.ref (269)), some (.int (nI s)), none, none] [.int (nI p), .ref (269)] h _
  refine e_iconst (v := nI 1) f_130_5 (by decide) rfl ?_
  refine e_iadd (z := nI (p + 1)) f_130_6 (nI_add _ _) rfl ?_
  refine e_putp (vs' := mB (nI tx.length, sn, cn) (nI (p + 1), false, wr, rd, nI rs, nI rc, nI tm, ky, vl, mo) gq gh gw gu gv) f_130_7 H0 (Nat.le_of_ble_eq_true rfl) (rfl) (rfl) rfl rfl (fun h1 g2 fx3 => ?_)
  have fr4 : px_fi 269 1 h h1 := fi_tr fr0 fx3 (by omega)
  refine e_iload_n f_130_10 rfl rfl ?_
  by_cases c_11_102 : s = 102
  · skip
    refine e_sw_l f_130_11 (t := 60) (by rw [c_11_102]; rfl) ?_
    refine e_iload_n f_130_60 rfl rfl ?_
    refine e_bipush (v := nI 102) f_130_61 (by decide) rfl ?_
    refine e_icmp_ne f_130_63 rfl (fun c_63 => ?_) (fun c_63 => ?_)
    · skip
      have c_63 : s ≠ 102 := cv_ne c_63
      refine e_aload_n f_130_81 rfl rfl ?_
      refine e_bipush (v := nI 43) f_130_82 (by decide) rfl ?_
      refine e_bipush (v := nI 45) f_130_84 (by decide) rfl ?_
      refine e_bipush (v := nI 42) f_130_86 (by decide) rfl ?_
      refine e_bipush (v := nI 47) f_130_88 (by decide) rfl ?_
      have g5 : px_pa h1 270 52 500 vN tx := pa_fi H1 fr4 (by omega)
      refine e_callV (As := [.int (nI 43), .int (nI 45), .int (nI 42), .int (nI 47)]) (rest := []) f_130_90 rfl rfl rfl (Nat.le_of_ble_eq_true rfl) (Nat.le_of_ble_eq_true rfl) g2 rfl (Nat.le_of_ble_eq_true rfl) (cc_Md_one (a1 := 43) (a2 := 45) (a3 := 42) (a4 := 47) (tx := tx) (sn := sn) (cn := cn) (p := p + 1) (kp := false) (wr := wr) (rd := rd) (rs := rs) (rc := rc) (tm := tm) (ky := ky) (vl := vl) (mo := mo) (gq := gq) (gh := gh) (gw := gw) (gu := gu) (gv := gv) g2 g5 (by omega) (p1) (by decide)) rfl (fun h6 r7 q8 => ?_)
      obtain ⟨rfl, g9, fx10⟩ := q8
      have fr11 : px_fi 269 1 h h6 := fi_tr fr4 fx10 (by omega)
      show px_to 130 93 [some (.ref (269)), some (.int (nI s)), none, none] [.int (bI (decide (sgn tx (p + 1) ∈ [43, 45, 42, 47])))] h6 _
      refine e_istore_n (L' := [some (.ref (269)), some (.int (nI s)), some (.int (bI (decide (sgn tx (p + 1) ∈ [43, 45, 42, 47])))), none]) f_130_93 (Nat.le_of_ble_eq_true rfl) rfl rfl ?_
      refine e_aload_n f_130_94 rfl rfl ?_
      refine e_getf f_130_95 g9 rfl rfl ?_
      show px_to 130 98 [some (.ref (269)), some (.int (nI s)), some (.int (bI (decide (sgn tx (p + 1) ∈ [43, 45, 42, 47])))), none] [.int (if sgn tx (p + 1) ∈ [43, 45, 42, 47] then nI (sgn tx (p + 1)) else rd)] h6 _
      refine e_istore_n (L' := [some (.ref (269)), some (.int (nI s)), some (.int (bI (decide (sgn tx (p + 1) ∈ [43, 45, 42, 47])))), some (.int (if sgn tx (p + 1) ∈ [43, 45, 42, 47] then nI (sgn tx (p + 1)) else rd))]) f_130_98 (Nat.le_of_ble_eq_true rfl) rfl rfl ?_
      refine e_iload_n f_130_99 rfl rfl ?_
      refine e_if_eq f_130_100 rfl (fun c_100 => ?_) (fun c_100 => ?_)
      · skip
        have c_100 : (decide (sgn tx (p + 1) ∈ [43, 45, 42, 47])) = false := bI_f c_100
        have hacm : (sgn tx (p + 1) ∈ [43, 45, 42, 47]) ↔ (sgn tx (p + 1) ∈ actsOf s) := by unfold actsOf; rw [if_neg c_63]; try (simp only [List.mem_cons, List.not_mem_nil, or_false]; try omega)
        have hin : sgn tx (p + 1) ∉ actsOf s := fun z => of_decide_eq_false c_100 (hacm.mpr z)
        have hinl : sgn tx (p + 1) ∉ [43, 45, 42, 47] := of_decide_eq_false c_100
        refine e_iconst (v := nI 0) f_130_110 (by decide) rfl ?_
        refine e_iret f_130_111 rfl (rfl) ?_
        have g12 : h6.2.2 269 = some (12, mB (nI tx.length, sn, cn) (nI (skp tx (p + 1)), false, nI (skp tx (p + 1)), if sgn tx (p + 1) ∈ [43, 45, 42, 47] then nI (sgn tx (p + 1)) else rd, nI rs, nI rc, nI tm, ky, vl, mo) gq gh gw gu gv) := by have z := g9; rw [if_neg hinl, if_neg hinl] at z; exact z
        have er : rdStep tx s (p + 1) = (false, skp tx (p + 1), (s, 0, 0)) := by unfold rdStep; rw [if_pos (show s = 102 ∨ s = 109 by omega), if_neg hin]
        rw [er]
        dsimp only
        rw [if_neg (by decide), if_neg (by decide), if_neg (show ¬ s = 116 by omega)]
        exact ⟨rfl, ⟨_, _, _, _, g12, trivial⟩, fr11⟩
      · skip
        have c_100 : (decide (sgn tx (p + 1) ∈ [43, 45, 42, 47])) = true := bI_t' c_100
        have hacm : (sgn tx (p + 1) ∈ [43, 45, 42, 47]) ↔ (sgn tx (p + 1) ∈ actsOf s) := by unfold actsOf; rw [if_neg c_63]; try (simp only [List.mem_cons, List.not_mem_nil, or_false]; try omega)
        have hin : sgn tx (p + 1) ∈ actsOf s := hacm.mp (of_decide_eq_true c_100)
        have hinl : sgn tx (p + 1) ∈ [43, 45, 42, 47] := of_decide_eq_true c_100
        have hsl2 : skp tx (p + 1) + 1 ≤ tx.length := sgn_next hinl (by decide)
        rw [if_pos hinl]
        have g13 : h6.2.2 269 = some (12, mB (nI tx.length, sn, cn) (nI (skp tx (p + 1) + 1), false, wr, nI (sgn tx (p + 1)), nI rs, nI rc, nI tm, ky, vl, mo) gq gh gw gu gv) := by have z := g9; rw [if_pos hinl, if_pos hinl, if_pos hinl] at z; exact z
        refine e_aload_n f_130_103 rfl rfl ?_
        have g14 : px_pa h6 270 52 500 vN tx := pa_fi H1 fr11 (by omega)
        refine e_callV (As := []) (rest := []) f_130_104 rfl rfl rfl (Nat.le_of_ble_eq_true rfl) (Nat.le_of_ble_eq_true rfl) g13 rfl (Nat.le_of_ble_eq_true rfl) (cc_Md_whole (tx := tx) (sn := sn) (cn := cn) (p := skp tx (p + 1) + 1) (kp := false) (wr := wr) (rd := nI (sgn tx (p + 1))) (rs := rs) (rc := rc) (tm := tm) (ky := ky) (vl := vl) (mo := mo) (gq := gq) (gh := gh) (gw := gw) (gu := gu) (gv := gv) g13 g14 (hsl2) (p1)) rfl (fun h15 r16 q17 => ?_)
        obtain ⟨rfl, g18, fx19⟩ := q17
        have fr20 : px_fi 269 1 h h15 := fi_tr fr11 fx19 (by omega)
        show px_to 130 107 [some (.ref (269)), some (.int (nI s)), some (.int (bI (decide (sgn tx (p + 1) ∈ [43, 45, 42, 47])))), some (.int (nI (sgn tx (p + 1))))] [.int (bI ((rdI tx (skp tx (p + 1) + 1)).1))] h15 _
        refine e_if_ne f_130_107 rfl (fun c_107 => ?_) (fun c_107 => ?_)
        · skip
          have c_107 : ((rdI tx (skp tx (p + 1) + 1)).1) = true := bI_t c_107
          have g21 : h15.2.2 269 = some (12, mB (nI tx.length, sn, cn) (nI ((rdI tx (skp tx (p + 1) + 1)).2.2), false, wr, (rdI tx (skp tx (p + 1) + 1)).2.1, nI rs, nI rc, nI tm, ky, vl, mo) gq gh gw gu gv) := by have z := g18; rw [c_107, if_pos rfl, if_pos rfl] at z; exact z
          refine e_aload_n f_130_112 rfl rfl ?_
          refine e_iload_n f_130_113 rfl rfl ?_
          refine e_iload_n f_130_114 rfl rfl ?_
          refine e_aload_n f_130_115 rfl rfl ?_
          refine e_getf f_130_116 g21 rfl rfl ?_
          show px_to 130 119 [some (.ref (269)), some (.int (nI s)), some (.int (bI (decide (sgn tx (p + 1) ∈ [43, 45, 42, 47])))), some (.int (nI (sgn tx (p + 1))))] [.int ((rdI tx (skp tx (p + 1) + 1)).2.1), .int (nI (sgn tx (p + 1))), .int (nI s), .ref (269)] h15 _
          refine e_callV (As := [.int (nI s), .int (nI (sgn tx (p + 1))), .int ((rdI tx (skp tx (p + 1) + 1)).2.1)]) (rest := []) f_130_119 rfl rfl rfl (Nat.le_of_ble_eq_true rfl) (Nat.le_of_ble_eq_true rfl) g21 rfl (Nat.le_of_ble_eq_true rfl) (cc_Md_ks0 (s := s) (ac := sgn tx (p + 1)) (nu := (rdI tx (skp tx (p + 1) + 1)).2.1) (jl := jl) (tx := tx) (sn := sn) (cn := cn) (p := (rdI tx (skp tx (p + 1) + 1)).2.2) (kp := true) (wr := wr) (rd := (rdI tx (skp tx (p + 1) + 1)).2.1) (rs := rs) (rc := rc) (tm := tm) (ky := ky) (vl := vl) (mo := mo) (gq := gq) (gh := gh) (gw := gw) (gu := gu) (gv := gv) g21 (by omega) (by omega) (by omega) (by omega)) rfl (fun h22 r23 q24 => ?_)
          obtain ⟨rfl, g25, fx26⟩ := q24
          have fr27 : px_fi 269 1 h h22 := fi_tr fr20 fx26 (by omega)
          show px_to 130 122 [some (.ref (269)), some (.int (nI s)), some (.int (bI (decide (sgn tx (p + 1) ∈ [43, 45, 42, 47])))), some (.int (nI (sgn tx (p + 1))))] [] h22 _
          refine e_iconst (v := nI 1) f_130_122 (by decide) rfl ?_
          refine e_iret f_130_123 rfl (rfl) ?_
          have er : rdStep tx s (p + 1) = (true, (rdI tx (skp tx (p + 1) + 1)).2.2, (s, sgn tx (p + 1), (rdI tx (skp tx (p + 1) + 1)).2.1)) := by unfold rdStep; rw [if_pos (show s = 102 ∨ s = 109 by omega), if_pos hin, c_107]
          rw [er]
          dsimp only
          rw [if_pos rfl, if_pos rfl, if_neg (show ¬ s = 116 by omega)]
          exact ⟨rfl, ⟨_, _, _, _, g25, trivial⟩, fr27⟩
        · skip
          have c_107 : ((rdI tx (skp tx (p + 1) + 1)).1) = false := bI_f' c_107
          refine e_iconst (v := nI 0) f_130_110 (by decide) rfl ?_
          refine e_iret f_130_111 rfl (rfl) ?_
          have g28 : h15.2.2 269 = some (12, mB (nI tx.length, sn, cn) (nI ((rdI tx (skp tx (p + 1) + 1)).2.2), false, nI (rdI tx (skp tx (p + 1) + 1)).2.2, nI (sgn tx (p + 1)), nI rs, nI rc, nI tm, ky, vl, mo) gq gh gw gu gv) := by have z := g18; rw [c_107, if_neg (by decide), if_neg (by decide)] at z; exact z
          have er : rdStep tx s (p + 1) = (false, (rdI tx (skp tx (p + 1) + 1)).2.2, (s, sgn tx (p + 1), (rdI tx (skp tx (p + 1) + 1)).2.1)) := by unfold rdStep; rw [if_pos (show s = 102 ∨ s = 109 by omega), if_pos hin, c_107]
          rw [er]
          dsimp only
          rw [if_neg (by decide), if_neg (by decide), if_neg (show ¬ s = 116 by omega)]
          exact ⟨rfl, ⟨_, _, _, _, g28, trivial⟩, fr20⟩
    · skip
      have c_63 : s = 102 := cv_nne (by omega) (by omega) c_63
      refine e_aload_n f_130_66 rfl rfl ?_
      refine e_bipush (v := nI 60) f_130_67 (by decide) rfl ?_
      refine e_bipush (v := nI 61) f_130_69 (by decide) rfl ?_
      refine e_bipush (v := nI 62) f_130_71 (by decide) rfl ?_
      refine e_bipush (v := nI 62) f_130_73 (by decide) rfl ?_
      have g29 : px_pa h1 270 52 500 vN tx := pa_fi H1 fr4 (by omega)
      refine e_callV (As := [.int (nI 60), .int (nI 61), .int (nI 62), .int (nI 62)]) (rest := []) f_130_75 rfl rfl rfl (Nat.le_of_ble_eq_true rfl) (Nat.le_of_ble_eq_true rfl) g2 rfl (Nat.le_of_ble_eq_true rfl) (cc_Md_one (a1 := 60) (a2 := 61) (a3 := 62) (a4 := 62) (tx := tx) (sn := sn) (cn := cn) (p := p + 1) (kp := false) (wr := wr) (rd := rd) (rs := rs) (rc := rc) (tm := tm) (ky := ky) (vl := vl) (mo := mo) (gq := gq) (gh := gh) (gw := gw) (gu := gu) (gv := gv) g2 g29 (by omega) (p1) (by decide)) rfl (fun h30 r31 q32 => ?_)
      obtain ⟨rfl, g33, fx34⟩ := q32
      have fr35 : px_fi 269 1 h h30 := fi_tr fr4 fx34 (by omega)
      show px_to 130 78 [some (.ref (269)), some (.int (nI s)), none, none] [.int (bI (decide (sgn tx (p + 1) ∈ [60, 61, 62, 62])))] h30 _
      refine e_goto f_130_78 ?_
      refine e_istore_n (L' := [some (.ref (269)), some (.int (nI s)), some (.int (bI (decide (sgn tx (p + 1) ∈ [60, 61, 62, 62])))), none]) f_130_93 (Nat.le_of_ble_eq_true rfl) rfl rfl ?_
      refine e_aload_n f_130_94 rfl rfl ?_
      refine e_getf f_130_95 g33 rfl rfl ?_
      show px_to 130 98 [some (.ref (269)), some (.int (nI s)), some (.int (bI (decide (sgn tx (p + 1) ∈ [60, 61, 62, 62])))), none] [.int (if sgn tx (p + 1) ∈ [60, 61, 62, 62] then nI (sgn tx (p + 1)) else rd)] h30 _
      refine e_istore_n (L' := [some (.ref (269)), some (.int (nI s)), some (.int (bI (decide (sgn tx (p + 1) ∈ [60, 61, 62, 62])))), some (.int (if sgn tx (p + 1) ∈ [60, 61, 62, 62] then nI (sgn tx (p + 1)) else rd))]) f_130_98 (Nat.le_of_ble_eq_true rfl) rfl rfl ?_
      refine e_iload_n f_130_99 rfl rfl ?_
      refine e_if_eq f_130_100 rfl (fun c_100 => ?_) (fun c_100 => ?_)
      · skip
        have c_100 : (decide (sgn tx (p + 1) ∈ [60, 61, 62, 62])) = false := bI_f c_100
        have hacm : (sgn tx (p + 1) ∈ [60, 61, 62, 62]) ↔ (sgn tx (p + 1) ∈ actsOf s) := by unfold actsOf; rw [if_pos c_63]; try (simp only [List.mem_cons, List.not_mem_nil, or_false]; try omega)
        have hin : sgn tx (p + 1) ∉ actsOf s := fun z => of_decide_eq_false c_100 (hacm.mpr z)
        have hinl : sgn tx (p + 1) ∉ [60, 61, 62, 62] := of_decide_eq_false c_100
        refine e_iconst (v := nI 0) f_130_110 (by decide) rfl ?_
        refine e_iret f_130_111 rfl (rfl) ?_
        have g36 : h30.2.2 269 = some (12, mB (nI tx.length, sn, cn) (nI (skp tx (p + 1)), false, nI (skp tx (p + 1)), if sgn tx (p + 1) ∈ [60, 61, 62, 62] then nI (sgn tx (p + 1)) else rd, nI rs, nI rc, nI tm, ky, vl, mo) gq gh gw gu gv) := by have z := g33; rw [if_neg hinl, if_neg hinl] at z; exact z
        have er : rdStep tx s (p + 1) = (false, skp tx (p + 1), (s, 0, 0)) := by unfold rdStep; rw [if_pos (show s = 102 ∨ s = 109 by omega), if_neg hin]
        rw [er]
        dsimp only
        rw [if_neg (by decide), if_neg (by decide), if_neg (show ¬ s = 116 by omega)]
        exact ⟨rfl, ⟨_, _, _, _, g36, trivial⟩, fr35⟩
      · skip
        have c_100 : (decide (sgn tx (p + 1) ∈ [60, 61, 62, 62])) = true := bI_t' c_100
        have hacm : (sgn tx (p + 1) ∈ [60, 61, 62, 62]) ↔ (sgn tx (p + 1) ∈ actsOf s) := by unfold actsOf; rw [if_pos c_63]; try (simp only [List.mem_cons, List.not_mem_nil, or_false]; try omega)
        have hin : sgn tx (p + 1) ∈ actsOf s := hacm.mp (of_decide_eq_true c_100)
        have hinl : sgn tx (p + 1) ∈ [60, 61, 62, 62] := of_decide_eq_true c_100
        have hsl2 : skp tx (p + 1) + 1 ≤ tx.length := sgn_next hinl (by decide)
        rw [if_pos hinl]
        have g37 : h30.2.2 269 = some (12, mB (nI tx.length, sn, cn) (nI (skp tx (p + 1) + 1), false, wr, nI (sgn tx (p + 1)), nI rs, nI rc, nI tm, ky, vl, mo) gq gh gw gu gv) := by have z := g33; rw [if_pos hinl, if_pos hinl, if_pos hinl] at z; exact z
        refine e_aload_n f_130_103 rfl rfl ?_
        have g38 : px_pa h30 270 52 500 vN tx := pa_fi H1 fr35 (by omega)
        refine e_callV (As := []) (rest := []) f_130_104 rfl rfl rfl (Nat.le_of_ble_eq_true rfl) (Nat.le_of_ble_eq_true rfl) g37 rfl (Nat.le_of_ble_eq_true rfl) (cc_Md_whole (tx := tx) (sn := sn) (cn := cn) (p := skp tx (p + 1) + 1) (kp := false) (wr := wr) (rd := nI (sgn tx (p + 1))) (rs := rs) (rc := rc) (tm := tm) (ky := ky) (vl := vl) (mo := mo) (gq := gq) (gh := gh) (gw := gw) (gu := gu) (gv := gv) g37 g38 (hsl2) (p1)) rfl (fun h39 r40 q41 => ?_)
        obtain ⟨rfl, g42, fx43⟩ := q41
        have fr44 : px_fi 269 1 h h39 := fi_tr fr35 fx43 (by omega)
        show px_to 130 107 [some (.ref (269)), some (.int (nI s)), some (.int (bI (decide (sgn tx (p + 1) ∈ [60, 61, 62, 62])))), some (.int (nI (sgn tx (p + 1))))] [.int (bI ((rdI tx (skp tx (p + 1) + 1)).1))] h39 _
        refine e_if_ne f_130_107 rfl (fun c_107 => ?_) (fun c_107 => ?_)
        · skip
          have c_107 : ((rdI tx (skp tx (p + 1) + 1)).1) = true := bI_t c_107
          have g45 : h39.2.2 269 = some (12, mB (nI tx.length, sn, cn) (nI ((rdI tx (skp tx (p + 1) + 1)).2.2), false, wr, (rdI tx (skp tx (p + 1) + 1)).2.1, nI rs, nI rc, nI tm, ky, vl, mo) gq gh gw gu gv) := by have z := g42; rw [c_107, if_pos rfl, if_pos rfl] at z; exact z
          refine e_aload_n f_130_112 rfl rfl ?_
          refine e_iload_n f_130_113 rfl rfl ?_
          refine e_iload_n f_130_114 rfl rfl ?_
          refine e_aload_n f_130_115 rfl rfl ?_
          refine e_getf f_130_116 g45 rfl rfl ?_
          show px_to 130 119 [some (.ref (269)), some (.int (nI s)), some (.int (bI (decide (sgn tx (p + 1) ∈ [60, 61, 62, 62])))), some (.int (nI (sgn tx (p + 1))))] [.int ((rdI tx (skp tx (p + 1) + 1)).2.1), .int (nI (sgn tx (p + 1))), .int (nI s), .ref (269)] h39 _
          refine e_callV (As := [.int (nI s), .int (nI (sgn tx (p + 1))), .int ((rdI tx (skp tx (p + 1) + 1)).2.1)]) (rest := []) f_130_119 rfl rfl rfl (Nat.le_of_ble_eq_true rfl) (Nat.le_of_ble_eq_true rfl) g45 rfl (Nat.le_of_ble_eq_true rfl) (cc_Md_ks0 (s := s) (ac := sgn tx (p + 1)) (nu := (rdI tx (skp tx (p + 1) + 1)).2.1) (jl := jl) (tx := tx) (sn := sn) (cn := cn) (p := (rdI tx (skp tx (p + 1) + 1)).2.2) (kp := true) (wr := wr) (rd := (rdI tx (skp tx (p + 1) + 1)).2.1) (rs := rs) (rc := rc) (tm := tm) (ky := ky) (vl := vl) (mo := mo) (gq := gq) (gh := gh) (gw := gw) (gu := gu) (gv := gv) g45 (by omega) (by omega) (by omega) (by omega)) rfl (fun h46 r47 q48 => ?_)
          obtain ⟨rfl, g49, fx50⟩ := q48
          have fr51 : px_fi 269 1 h h46 := fi_tr fr44 fx50 (by omega)
          show px_to 130 122 [some (.ref (269)), some (.int (nI s)), some (.int (bI (decide (sgn tx (p + 1) ∈ [60, 61, 62, 62])))), some (.int (nI (sgn tx (p + 1))))] [] h46 _
          refine e_iconst (v := nI 1) f_130_122 (by decide) rfl ?_
          refine e_iret f_130_123 rfl (rfl) ?_
          have er : rdStep tx s (p + 1) = (true, (rdI tx (skp tx (p + 1) + 1)).2.2, (s, sgn tx (p + 1), (rdI tx (skp tx (p + 1) + 1)).2.1)) := by unfold rdStep; rw [if_pos (show s = 102 ∨ s = 109 by omega), if_pos hin, c_107]
          rw [er]
          dsimp only
          rw [if_pos rfl, if_pos rfl, if_neg (show ¬ s = 116 by omega)]
          exact ⟨rfl, ⟨_, _, _, _, g49, trivial⟩, fr51⟩
        · skip
          have c_107 : ((rdI tx (skp tx (p + 1) + 1)).1) = false := bI_f' c_107
          refine e_iconst (v := nI 0) f_130_110 (by decide) rfl ?_
          refine e_iret f_130_111 rfl (rfl) ?_
          have g52 : h39.2.2 269 = some (12, mB (nI tx.length, sn, cn) (nI ((rdI tx (skp tx (p + 1) + 1)).2.2), false, nI (rdI tx (skp tx (p + 1) + 1)).2.2, nI (sgn tx (p + 1)), nI rs, nI rc, nI tm, ky, vl, mo) gq gh gw gu gv) := by have z := g42; rw [c_107, if_neg (by decide), if_neg (by decide)] at z; exact z
          have er : rdStep tx s (p + 1) = (false, (rdI tx (skp tx (p + 1) + 1)).2.2, (s, sgn tx (p + 1), (rdI tx (skp tx (p + 1) + 1)).2.1)) := by unfold rdStep; rw [if_pos (show s = 102 ∨ s = 109 by omega), if_pos hin, c_107]
          rw [er]
          dsimp only
          rw [if_neg (by decide), if_neg (by decide), if_neg (show ¬ s = 116 by omega)]
          exact ⟨rfl, ⟨_, _, _, _, g52, trivial⟩, fr44⟩
  · skip
    by_cases c_11_109 : s = 109
    · skip
      refine e_sw_l f_130_11 (t := 60) (by rw [c_11_109]; rfl) ?_
      refine e_iload_n f_130_60 rfl rfl ?_
      refine e_bipush (v := nI 102) f_130_61 (by decide) rfl ?_
      refine e_icmp_ne f_130_63 rfl (fun c_63 => ?_) (fun c_63 => ?_)
      · skip
        have c_63 : s ≠ 102 := cv_ne c_63
        refine e_aload_n f_130_81 rfl rfl ?_
        refine e_bipush (v := nI 43) f_130_82 (by decide) rfl ?_
        refine e_bipush (v := nI 45) f_130_84 (by decide) rfl ?_
        refine e_bipush (v := nI 42) f_130_86 (by decide) rfl ?_
        refine e_bipush (v := nI 47) f_130_88 (by decide) rfl ?_
        have g53 : px_pa h1 270 52 500 vN tx := pa_fi H1 fr4 (by omega)
        refine e_callV (As := [.int (nI 43), .int (nI 45), .int (nI 42), .int (nI 47)]) (rest := []) f_130_90 rfl rfl rfl (Nat.le_of_ble_eq_true rfl) (Nat.le_of_ble_eq_true rfl) g2 rfl (Nat.le_of_ble_eq_true rfl) (cc_Md_one (a1 := 43) (a2 := 45) (a3 := 42) (a4 := 47) (tx := tx) (sn := sn) (cn := cn) (p := p + 1) (kp := false) (wr := wr) (rd := rd) (rs := rs) (rc := rc) (tm := tm) (ky := ky) (vl := vl) (mo := mo) (gq := gq) (gh := gh) (gw := gw) (gu := gu) (gv := gv) g2 g53 (by omega) (p1) (by decide)) rfl (fun h54 r55 q56 => ?_)
        obtain ⟨rfl, g57, fx58⟩ := q56
        have fr59 : px_fi 269 1 h h54 := fi_tr fr4 fx58 (by omega)
        show px_to 130 93 [some (.ref (269)), some (.int (nI s)), none, none] [.int (bI (decide (sgn tx (p + 1) ∈ [43, 45, 42, 47])))] h54 _
        refine e_istore_n (L' := [some (.ref (269)), some (.int (nI s)), some (.int (bI (decide (sgn tx (p + 1) ∈ [43, 45, 42, 47])))), none]) f_130_93 (Nat.le_of_ble_eq_true rfl) rfl rfl ?_
        refine e_aload_n f_130_94 rfl rfl ?_
        refine e_getf f_130_95 g57 rfl rfl ?_
        show px_to 130 98 [some (.ref (269)), some (.int (nI s)), some (.int (bI (decide (sgn tx (p + 1) ∈ [43, 45, 42, 47])))), none] [.int (if sgn tx (p + 1) ∈ [43, 45, 42, 47] then nI (sgn tx (p + 1)) else rd)] h54 _
        refine e_istore_n (L' := [some (.ref (269)), some (.int (nI s)), some (.int (bI (decide (sgn tx (p + 1) ∈ [43, 45, 42, 47])))), some (.int (if sgn tx (p + 1) ∈ [43, 45, 42, 47] then nI (sgn tx (p + 1)) else rd))]) f_130_98 (Nat.le_of_ble_eq_true rfl) rfl rfl ?_
        refine e_iload_n f_130_99 rfl rfl ?_
        refine e_if_eq f_130_100 rfl (fun c_100 => ?_) (fun c_100 => ?_)
        · skip
          have c_100 : (decide (sgn tx (p + 1) ∈ [43, 45, 42, 47])) = false := bI_f c_100
          have hacm : (sgn tx (p + 1) ∈ [43, 45, 42, 47]) ↔ (sgn tx (p + 1) ∈ actsOf s) := by unfold actsOf; rw [if_neg c_63]; try (simp only [List.mem_cons, List.not_mem_nil, or_false]; try omega)
          have hin : sgn tx (p + 1) ∉ actsOf s := fun z => of_decide_eq_false c_100 (hacm.mpr z)
          have hinl : sgn tx (p + 1) ∉ [43, 45, 42, 47] := of_decide_eq_false c_100
          refine e_iconst (v := nI 0) f_130_110 (by decide) rfl ?_
          refine e_iret f_130_111 rfl (rfl) ?_
          have g60 : h54.2.2 269 = some (12, mB (nI tx.length, sn, cn) (nI (skp tx (p + 1)), false, nI (skp tx (p + 1)), if sgn tx (p + 1) ∈ [43, 45, 42, 47] then nI (sgn tx (p + 1)) else rd, nI rs, nI rc, nI tm, ky, vl, mo) gq gh gw gu gv) := by have z := g57; rw [if_neg hinl, if_neg hinl] at z; exact z
          have er : rdStep tx s (p + 1) = (false, skp tx (p + 1), (s, 0, 0)) := by unfold rdStep; rw [if_pos (show s = 102 ∨ s = 109 by omega), if_neg hin]
          rw [er]
          dsimp only
          rw [if_neg (by decide), if_neg (by decide), if_neg (show ¬ s = 116 by omega)]
          exact ⟨rfl, ⟨_, _, _, _, g60, trivial⟩, fr59⟩
        · skip
          have c_100 : (decide (sgn tx (p + 1) ∈ [43, 45, 42, 47])) = true := bI_t' c_100
          have hacm : (sgn tx (p + 1) ∈ [43, 45, 42, 47]) ↔ (sgn tx (p + 1) ∈ actsOf s) := by unfold actsOf; rw [if_neg c_63]; try (simp only [List.mem_cons, List.not_mem_nil, or_false]; try omega)
          have hin : sgn tx (p + 1) ∈ actsOf s := hacm.mp (of_decide_eq_true c_100)
          have hinl : sgn tx (p + 1) ∈ [43, 45, 42, 47] := of_decide_eq_true c_100
          have hsl2 : skp tx (p + 1) + 1 ≤ tx.length := sgn_next hinl (by decide)
          rw [if_pos hinl]
          have g61 : h54.2.2 269 = some (12, mB (nI tx.length, sn, cn) (nI (skp tx (p + 1) + 1), false, wr, nI (sgn tx (p + 1)), nI rs, nI rc, nI tm, ky, vl, mo) gq gh gw gu gv) := by have z := g57; rw [if_pos hinl, if_pos hinl, if_pos hinl] at z; exact z
          refine e_aload_n f_130_103 rfl rfl ?_
          have g62 : px_pa h54 270 52 500 vN tx := pa_fi H1 fr59 (by omega)
          refine e_callV (As := []) (rest := []) f_130_104 rfl rfl rfl (Nat.le_of_ble_eq_true rfl) (Nat.le_of_ble_eq_true rfl) g61 rfl (Nat.le_of_ble_eq_true rfl) (cc_Md_whole (tx := tx) (sn := sn) (cn := cn) (p := skp tx (p + 1) + 1) (kp := false) (wr := wr) (rd := nI (sgn tx (p + 1))) (rs := rs) (rc := rc) (tm := tm) (ky := ky) (vl := vl) (mo := mo) (gq := gq) (gh := gh) (gw := gw) (gu := gu) (gv := gv) g61 g62 (hsl2) (p1)) rfl (fun h63 r64 q65 => ?_)
          obtain ⟨rfl, g66, fx67⟩ := q65
          have fr68 : px_fi 269 1 h h63 := fi_tr fr59 fx67 (by omega)
          show px_to 130 107 [some (.ref (269)), some (.int (nI s)), some (.int (bI (decide (sgn tx (p + 1) ∈ [43, 45, 42, 47])))), some (.int (nI (sgn tx (p + 1))))] [.int (bI ((rdI tx (skp tx (p + 1) + 1)).1))] h63 _
          refine e_if_ne f_130_107 rfl (fun c_107 => ?_) (fun c_107 => ?_)
          · skip
            have c_107 : ((rdI tx (skp tx (p + 1) + 1)).1) = true := bI_t c_107
            have g69 : h63.2.2 269 = some (12, mB (nI tx.length, sn, cn) (nI ((rdI tx (skp tx (p + 1) + 1)).2.2), false, wr, (rdI tx (skp tx (p + 1) + 1)).2.1, nI rs, nI rc, nI tm, ky, vl, mo) gq gh gw gu gv) := by have z := g66; rw [c_107, if_pos rfl, if_pos rfl] at z; exact z
            refine e_aload_n f_130_112 rfl rfl ?_
            refine e_iload_n f_130_113 rfl rfl ?_
            refine e_iload_n f_130_114 rfl rfl ?_
            refine e_aload_n f_130_115 rfl rfl ?_
            refine e_getf f_130_116 g69 rfl rfl ?_
            show px_to 130 119 [some (.ref (269)), some (.int (nI s)), some (.int (bI (decide (sgn tx (p + 1) ∈ [43, 45, 42, 47])))), some (.int (nI (sgn tx (p + 1))))] [.int ((rdI tx (skp tx (p + 1) + 1)).2.1), .int (nI (sgn tx (p + 1))), .int (nI s), .ref (269)] h63 _
            refine e_callV (As := [.int (nI s), .int (nI (sgn tx (p + 1))), .int ((rdI tx (skp tx (p + 1) + 1)).2.1)]) (rest := []) f_130_119 rfl rfl rfl (Nat.le_of_ble_eq_true rfl) (Nat.le_of_ble_eq_true rfl) g69 rfl (Nat.le_of_ble_eq_true rfl) (cc_Md_ks0 (s := s) (ac := sgn tx (p + 1)) (nu := (rdI tx (skp tx (p + 1) + 1)).2.1) (jl := jl) (tx := tx) (sn := sn) (cn := cn) (p := (rdI tx (skp tx (p + 1) + 1)).2.2) (kp := true) (wr := wr) (rd := (rdI tx (skp tx (p + 1) + 1)).2.1) (rs := rs) (rc := rc) (tm := tm) (ky := ky) (vl := vl) (mo := mo) (gq := gq) (gh := gh) (gw := gw) (gu := gu) (gv := gv) g69 (by omega) (by omega) (by omega) (by omega)) rfl (fun h70 r71 q72 => ?_)
            obtain ⟨rfl, g73, fx74⟩ := q72
            have fr75 : px_fi 269 1 h h70 := fi_tr fr68 fx74 (by omega)
            show px_to 130 122 [some (.ref (269)), some (.int (nI s)), some (.int (bI (decide (sgn tx (p + 1) ∈ [43, 45, 42, 47])))), some (.int (nI (sgn tx (p + 1))))] [] h70 _
            refine e_iconst (v := nI 1) f_130_122 (by decide) rfl ?_
            refine e_iret f_130_123 rfl (rfl) ?_
            have er : rdStep tx s (p + 1) = (true, (rdI tx (skp tx (p + 1) + 1)).2.2, (s, sgn tx (p + 1), (rdI tx (skp tx (p + 1) + 1)).2.1)) := by unfold rdStep; rw [if_pos (show s = 102 ∨ s = 109 by omega), if_pos hin, c_107]
            rw [er]
            dsimp only
            rw [if_pos rfl, if_pos rfl, if_neg (show ¬ s = 116 by omega)]
            exact ⟨rfl, ⟨_, _, _, _, g73, trivial⟩, fr75⟩
          · skip
            have c_107 : ((rdI tx (skp tx (p + 1) + 1)).1) = false := bI_f' c_107
            refine e_iconst (v := nI 0) f_130_110 (by decide) rfl ?_
            refine e_iret f_130_111 rfl (rfl) ?_
            have g76 : h63.2.2 269 = some (12, mB (nI tx.length, sn, cn) (nI ((rdI tx (skp tx (p + 1) + 1)).2.2), false, nI (rdI tx (skp tx (p + 1) + 1)).2.2, nI (sgn tx (p + 1)), nI rs, nI rc, nI tm, ky, vl, mo) gq gh gw gu gv) := by have z := g66; rw [c_107, if_neg (by decide), if_neg (by decide)] at z; exact z
            have er : rdStep tx s (p + 1) = (false, (rdI tx (skp tx (p + 1) + 1)).2.2, (s, sgn tx (p + 1), (rdI tx (skp tx (p + 1) + 1)).2.1)) := by unfold rdStep; rw [if_pos (show s = 102 ∨ s = 109 by omega), if_pos hin, c_107]
            rw [er]
            dsimp only
            rw [if_neg (by decide), if_neg (by decide), if_neg (show ¬ s = 116 by omega)]
            exact ⟨rfl, ⟨_, _, _, _, g76, trivial⟩, fr68⟩
      · skip
        have c_63 : s = 102 := cv_nne (by omega) (by omega) c_63
        refine e_aload_n f_130_66 rfl rfl ?_
        refine e_bipush (v := nI 60) f_130_67 (by decide) rfl ?_
        refine e_bipush (v := nI 61) f_130_69 (by decide) rfl ?_
        refine e_bipush (v := nI 62) f_130_71 (by decide) rfl ?_
        refine e_bipush (v := nI 62) f_130_73 (by decide) rfl ?_
        have g77 : px_pa h1 270 52 500 vN tx := pa_fi H1 fr4 (by omega)
        refine e_callV (As := [.int (nI 60), .int (nI 61), .int (nI 62), .int (nI 62)]) (rest := []) f_130_75 rfl rfl rfl (Nat.le_of_ble_eq_true rfl) (Nat.le_of_ble_eq_true rfl) g2 rfl (Nat.le_of_ble_eq_true rfl) (cc_Md_one (a1 := 60) (a2 := 61) (a3 := 62) (a4 := 62) (tx := tx) (sn := sn) (cn := cn) (p := p + 1) (kp := false) (wr := wr) (rd := rd) (rs := rs) (rc := rc) (tm := tm) (ky := ky) (vl := vl) (mo := mo) (gq := gq) (gh := gh) (gw := gw) (gu := gu) (gv := gv) g2 g77 (by omega) (p1) (by decide)) rfl (fun h78 r79 q80 => ?_)
        obtain ⟨rfl, g81, fx82⟩ := q80
        have fr83 : px_fi 269 1 h h78 := fi_tr fr4 fx82 (by omega)
        show px_to 130 78 [some (.ref (269)), some (.int (nI s)), none, none] [.int (bI (decide (sgn tx (p + 1) ∈ [60, 61, 62, 62])))] h78 _
        refine e_goto f_130_78 ?_
        refine e_istore_n (L' := [some (.ref (269)), some (.int (nI s)), some (.int (bI (decide (sgn tx (p + 1) ∈ [60, 61, 62, 62])))), none]) f_130_93 (Nat.le_of_ble_eq_true rfl) rfl rfl ?_
        refine e_aload_n f_130_94 rfl rfl ?_
        refine e_getf f_130_95 g81 rfl rfl ?_
        show px_to 130 98 [some (.ref (269)), some (.int (nI s)), some (.int (bI (decide (sgn tx (p + 1) ∈ [60, 61, 62, 62])))), none] [.int (if sgn tx (p + 1) ∈ [60, 61, 62, 62] then nI (sgn tx (p + 1)) else rd)] h78 _
        refine e_istore_n (L' := [some (.ref (269)), some (.int (nI s)), some (.int (bI (decide (sgn tx (p + 1) ∈ [60, 61, 62, 62])))), some (.int (if sgn tx (p + 1) ∈ [60, 61, 62, 62] then nI (sgn tx (p + 1)) else rd))]) f_130_98 (Nat.le_of_ble_eq_true rfl) rfl rfl ?_
        refine e_iload_n f_130_99 rfl rfl ?_
        refine e_if_eq f_130_100 rfl (fun c_100 => ?_) (fun c_100 => ?_)
        · skip
          have c_100 : (decide (sgn tx (p + 1) ∈ [60, 61, 62, 62])) = false := bI_f c_100
          have hacm : (sgn tx (p + 1) ∈ [60, 61, 62, 62]) ↔ (sgn tx (p + 1) ∈ actsOf s) := by unfold actsOf; rw [if_pos c_63]; try (simp only [List.mem_cons, List.not_mem_nil, or_false]; try omega)
          have hin : sgn tx (p + 1) ∉ actsOf s := fun z => of_decide_eq_false c_100 (hacm.mpr z)
          have hinl : sgn tx (p + 1) ∉ [60, 61, 62, 62] := of_decide_eq_false c_100
          refine e_iconst (v := nI 0) f_130_110 (by decide) rfl ?_
          refine e_iret f_130_111 rfl (rfl) ?_
          have g84 : h78.2.2 269 = some (12, mB (nI tx.length, sn, cn) (nI (skp tx (p + 1)), false, nI (skp tx (p + 1)), if sgn tx (p + 1) ∈ [60, 61, 62, 62] then nI (sgn tx (p + 1)) else rd, nI rs, nI rc, nI tm, ky, vl, mo) gq gh gw gu gv) := by have z := g81; rw [if_neg hinl, if_neg hinl] at z; exact z
          have er : rdStep tx s (p + 1) = (false, skp tx (p + 1), (s, 0, 0)) := by unfold rdStep; rw [if_pos (show s = 102 ∨ s = 109 by omega), if_neg hin]
          rw [er]
          dsimp only
          rw [if_neg (by decide), if_neg (by decide), if_neg (show ¬ s = 116 by omega)]
          exact ⟨rfl, ⟨_, _, _, _, g84, trivial⟩, fr83⟩
        · skip
          have c_100 : (decide (sgn tx (p + 1) ∈ [60, 61, 62, 62])) = true := bI_t' c_100
          have hacm : (sgn tx (p + 1) ∈ [60, 61, 62, 62]) ↔ (sgn tx (p + 1) ∈ actsOf s) := by unfold actsOf; rw [if_pos c_63]; try (simp only [List.mem_cons, List.not_mem_nil, or_false]; try omega)
          have hin : sgn tx (p + 1) ∈ actsOf s := hacm.mp (of_decide_eq_true c_100)
          have hinl : sgn tx (p + 1) ∈ [60, 61, 62, 62] := of_decide_eq_true c_100
          have hsl2 : skp tx (p + 1) + 1 ≤ tx.length := sgn_next hinl (by decide)
          rw [if_pos hinl]
          have g85 : h78.2.2 269 = some (12, mB (nI tx.length, sn, cn) (nI (skp tx (p + 1) + 1), false, wr, nI (sgn tx (p + 1)), nI rs, nI rc, nI tm, ky, vl, mo) gq gh gw gu gv) := by have z := g81; rw [if_pos hinl, if_pos hinl, if_pos hinl] at z; exact z
          refine e_aload_n f_130_103 rfl rfl ?_
          have g86 : px_pa h78 270 52 500 vN tx := pa_fi H1 fr83 (by omega)
          refine e_callV (As := []) (rest := []) f_130_104 rfl rfl rfl (Nat.le_of_ble_eq_true rfl) (Nat.le_of_ble_eq_true rfl) g85 rfl (Nat.le_of_ble_eq_true rfl) (cc_Md_whole (tx := tx) (sn := sn) (cn := cn) (p := skp tx (p + 1) + 1) (kp := false) (wr := wr) (rd := nI (sgn tx (p + 1))) (rs := rs) (rc := rc) (tm := tm) (ky := ky) (vl := vl) (mo := mo) (gq := gq) (gh := gh) (gw := gw) (gu := gu) (gv := gv) g85 g86 (hsl2) (p1)) rfl (fun h87 r88 q89 => ?_)
          obtain ⟨rfl, g90, fx91⟩ := q89
          have fr92 : px_fi 269 1 h h87 := fi_tr fr83 fx91 (by omega)
          show px_to 130 107 [some (.ref (269)), some (.int (nI s)), some (.int (bI (decide (sgn tx (p + 1) ∈ [60, 61, 62, 62])))), some (.int (nI (sgn tx (p + 1))))] [.int (bI ((rdI tx (skp tx (p + 1) + 1)).1))] h87 _
          refine e_if_ne f_130_107 rfl (fun c_107 => ?_) (fun c_107 => ?_)
          · skip
            have c_107 : ((rdI tx (skp tx (p + 1) + 1)).1) = true := bI_t c_107
            have g93 : h87.2.2 269 = some (12, mB (nI tx.length, sn, cn) (nI ((rdI tx (skp tx (p + 1) + 1)).2.2), false, wr, (rdI tx (skp tx (p + 1) + 1)).2.1, nI rs, nI rc, nI tm, ky, vl, mo) gq gh gw gu gv) := by have z := g90; rw [c_107, if_pos rfl, if_pos rfl] at z; exact z
            refine e_aload_n f_130_112 rfl rfl ?_
            refine e_iload_n f_130_113 rfl rfl ?_
            refine e_iload_n f_130_114 rfl rfl ?_
            refine e_aload_n f_130_115 rfl rfl ?_
            refine e_getf f_130_116 g93 rfl rfl ?_
            show px_to 130 119 [some (.ref (269)), some (.int (nI s)), some (.int (bI (decide (sgn tx (p + 1) ∈ [60, 61, 62, 62])))), some (.int (nI (sgn tx (p + 1))))] [.int ((rdI tx (skp tx (p + 1) + 1)).2.1), .int (nI (sgn tx (p + 1))), .int (nI s), .ref (269)] h87 _
            refine e_callV (As := [.int (nI s), .int (nI (sgn tx (p + 1))), .int ((rdI tx (skp tx (p + 1) + 1)).2.1)]) (rest := []) f_130_119 rfl rfl rfl (Nat.le_of_ble_eq_true rfl) (Nat.le_of_ble_eq_true rfl) g93 rfl (Nat.le_of_ble_eq_true rfl) (cc_Md_ks0 (s := s) (ac := sgn tx (p + 1)) (nu := (rdI tx (skp tx (p + 1) + 1)).2.1) (jl := jl) (tx := tx) (sn := sn) (cn := cn) (p := (rdI tx (skp tx (p + 1) + 1)).2.2) (kp := true) (wr := wr) (rd := (rdI tx (skp tx (p + 1) + 1)).2.1) (rs := rs) (rc := rc) (tm := tm) (ky := ky) (vl := vl) (mo := mo) (gq := gq) (gh := gh) (gw := gw) (gu := gu) (gv := gv) g93 (by omega) (by omega) (by omega) (by omega)) rfl (fun h94 r95 q96 => ?_)
            obtain ⟨rfl, g97, fx98⟩ := q96
            have fr99 : px_fi 269 1 h h94 := fi_tr fr92 fx98 (by omega)
            show px_to 130 122 [some (.ref (269)), some (.int (nI s)), some (.int (bI (decide (sgn tx (p + 1) ∈ [60, 61, 62, 62])))), some (.int (nI (sgn tx (p + 1))))] [] h94 _
            refine e_iconst (v := nI 1) f_130_122 (by decide) rfl ?_
            refine e_iret f_130_123 rfl (rfl) ?_
            have er : rdStep tx s (p + 1) = (true, (rdI tx (skp tx (p + 1) + 1)).2.2, (s, sgn tx (p + 1), (rdI tx (skp tx (p + 1) + 1)).2.1)) := by unfold rdStep; rw [if_pos (show s = 102 ∨ s = 109 by omega), if_pos hin, c_107]
            rw [er]
            dsimp only
            rw [if_pos rfl, if_pos rfl, if_neg (show ¬ s = 116 by omega)]
            exact ⟨rfl, ⟨_, _, _, _, g97, trivial⟩, fr99⟩
          · skip
            have c_107 : ((rdI tx (skp tx (p + 1) + 1)).1) = false := bI_f' c_107
            refine e_iconst (v := nI 0) f_130_110 (by decide) rfl ?_
            refine e_iret f_130_111 rfl (rfl) ?_
            have g100 : h87.2.2 269 = some (12, mB (nI tx.length, sn, cn) (nI ((rdI tx (skp tx (p + 1) + 1)).2.2), false, nI (rdI tx (skp tx (p + 1) + 1)).2.2, nI (sgn tx (p + 1)), nI rs, nI rc, nI tm, ky, vl, mo) gq gh gw gu gv) := by have z := g90; rw [c_107, if_neg (by decide), if_neg (by decide)] at z; exact z
            have er : rdStep tx s (p + 1) = (false, (rdI tx (skp tx (p + 1) + 1)).2.2, (s, sgn tx (p + 1), (rdI tx (skp tx (p + 1) + 1)).2.1)) := by unfold rdStep; rw [if_pos (show s = 102 ∨ s = 109 by omega), if_pos hin, c_107]
            rw [er]
            dsimp only
            rw [if_neg (by decide), if_neg (by decide), if_neg (show ¬ s = 116 by omega)]
            exact ⟨rfl, ⟨_, _, _, _, g100, trivial⟩, fr92⟩
    · skip
      by_cases c_11_113 : s = 113
      · skip
        refine e_sw_l f_130_11 (t := 124) (by rw [c_11_113]; rfl) ?_
        refine e_aload_n f_130_124 rfl rfl ?_
        have g101 : px_pa h1 270 52 500 vN tx := pa_fi H1 fr4 (by omega)
        refine e_callV (As := []) (rest := []) f_130_125 rfl rfl rfl (Nat.le_of_ble_eq_true rfl) (Nat.le_of_ble_eq_true rfl) g2 rfl (Nat.le_of_ble_eq_true rfl) (cc_Md_whole (tx := tx) (sn := sn) (cn := cn) (p := p + 1) (kp := false) (wr := wr) (rd := rd) (rs := rs) (rc := rc) (tm := tm) (ky := ky) (vl := vl) (mo := mo) (gq := gq) (gh := gh) (gw := gw) (gu := gu) (gv := gv) g2 g101 (by omega) (p1)) rfl (fun h102 r103 q104 => ?_)
        obtain ⟨rfl, g105, fx106⟩ := q104
        have fr107 : px_fi 269 1 h h102 := fi_tr fr4 fx106 (by omega)
        show px_to 130 128 [some (.ref (269)), some (.int (nI s)), none, none] [.int (bI ((rdI tx (p + 1)).1))] h102 _
        refine e_if_ne f_130_128 rfl (fun c_128 => ?_) (fun c_128 => ?_)
        · skip
          have c_128 : ((rdI tx (p + 1)).1) = true := bI_t c_128
          have g108 : h102.2.2 269 = some (12, mB (nI tx.length, sn, cn) (nI ((rdI tx (p + 1)).2.2), false, wr, (rdI tx (p + 1)).2.1, nI rs, nI rc, nI tm, ky, vl, mo) gq gh gw gu gv) := by have z := g105; rw [c_128, if_pos rfl, if_pos rfl] at z; exact z
          refine e_aload_n f_130_133 rfl rfl ?_
          refine e_iload_n f_130_134 rfl rfl ?_
          refine e_iconst (v := nI 0) f_130_135 (by decide) rfl ?_
          refine e_aload_n f_130_136 rfl rfl ?_
          refine e_getf f_130_137 g108 rfl rfl ?_
          show px_to 130 140 [some (.ref (269)), some (.int (nI s)), none, none] [.int ((rdI tx (p + 1)).2.1), .int (nI 0), .int (nI s), .ref (269)] h102 _
          refine e_callV (As := [.int (nI s), .int (nI 0), .int ((rdI tx (p + 1)).2.1)]) (rest := []) f_130_140 rfl rfl rfl (Nat.le_of_ble_eq_true rfl) (Nat.le_of_ble_eq_true rfl) g108 rfl (Nat.le_of_ble_eq_true rfl) (cc_Md_ks0 (s := s) (ac := 0) (nu := (rdI tx (p + 1)).2.1) (jl := jl) (tx := tx) (sn := sn) (cn := cn) (p := (rdI tx (p + 1)).2.2) (kp := true) (wr := wr) (rd := (rdI tx (p + 1)).2.1) (rs := rs) (rc := rc) (tm := tm) (ky := ky) (vl := vl) (mo := mo) (gq := gq) (gh := gh) (gw := gw) (gu := gu) (gv := gv) g108 (by omega) (by omega) (by omega) (by omega)) rfl (fun h109 r110 q111 => ?_)
          obtain ⟨rfl, g112, fx113⟩ := q111
          have fr114 : px_fi 269 1 h h109 := fi_tr fr107 fx113 (by omega)
          show px_to 130 143 [some (.ref (269)), some (.int (nI s)), none, none] [] h109 _
          refine e_iconst (v := nI 1) f_130_143 (by decide) rfl ?_
          refine e_iret f_130_144 rfl (rfl) ?_
          have er : rdStep tx s (p + 1) = (true, (rdI tx (p + 1)).2.2, (s, 0, (rdI tx (p + 1)).2.1)) := by unfold rdStep; rw [if_neg (show ¬ (s = 102 ∨ s = 109) by omega), if_neg (show ¬ (s = 119 ∨ s = 116) by omega), if_neg (show ¬ (s = 100 ∨ s = 115) by omega), c_128]
          rw [er]
          dsimp only
          rw [if_pos rfl, if_pos rfl, if_neg (show ¬ s = 116 by omega)]
          exact ⟨rfl, ⟨_, _, _, _, g112, trivial⟩, fr114⟩
        · skip
          have c_128 : ((rdI tx (p + 1)).1) = false := bI_f' c_128
          refine e_iconst (v := nI 0) f_130_131 (by decide) rfl ?_
          refine e_iret f_130_132 rfl (rfl) ?_
          have g115 : h102.2.2 269 = some (12, mB (nI tx.length, sn, cn) (nI ((rdI tx (p + 1)).2.2), false, nI (rdI tx (p + 1)).2.2, rd, nI rs, nI rc, nI tm, ky, vl, mo) gq gh gw gu gv) := by have z := g105; rw [c_128, if_neg (by decide), if_neg (by decide)] at z; exact z
          have er : rdStep tx s (p + 1) = (false, (rdI tx (p + 1)).2.2, (s, 0, (rdI tx (p + 1)).2.1)) := by unfold rdStep; rw [if_neg (show ¬ (s = 102 ∨ s = 109) by omega), if_neg (show ¬ (s = 119 ∨ s = 116) by omega), if_neg (show ¬ (s = 100 ∨ s = 115) by omega), c_128]
          rw [er]
          dsimp only
          rw [if_neg (by decide), if_neg (by decide), if_neg (show ¬ s = 116 by omega)]
          exact ⟨rfl, ⟨_, _, _, _, g115, trivial⟩, fr107⟩
      · skip
        by_cases c_11_116 : s = 116
        · skip
          refine e_sw_l f_130_11 (t := 145) (by rw [c_11_116]; rfl) ?_
          refine e_aload_n f_130_145 rfl rfl ?_
          refine e_iload_n f_130_146 rfl rfl ?_
          refine e_bipush (v := nI 116) f_130_147 (by decide) rfl ?_
          refine e_icmp_ne f_130_149 rfl (fun c_149 => ?_) (fun c_149 => ?_)
          · skip
            have c_149 : s ≠ 116 := cv_ne c_149
            refine e_aload_n f_130_161 rfl rfl ?_
            refine e_getf f_130_162 g2 rfl rfl ?_
            show px_to 130 165 [some (.ref (269)), some (.int (nI s)), none, none] [.int (nI tm), .ref (269)] h1 _
            refine e_putp (vs' := mB (nI tx.length, sn, cn) (nI (p + 1), false, wr, rd, nI rs, nI rc, nI tm, ky, vl, mo) gq gh gw gu gv) f_130_165 g2 (Nat.le_of_ble_eq_true rfl) (rfl) (rfl) rfl rfl (fun h116 g117 fx118 => ?_)
            have fr119 : px_fi 269 1 h h116 := fi_tr fr4 fx118 (by omega)
            refine e_aload_n f_130_168 rfl rfl ?_
            have g120 : px_pa h116 270 52 500 vN tx := pa_fi H1 fr119 (by omega)
            refine e_callV (As := []) (rest := []) f_130_169 rfl rfl rfl (Nat.le_of_ble_eq_true rfl) (Nat.le_of_ble_eq_true rfl) g117 rfl (Nat.le_of_ble_eq_true rfl) (cc_Md_nat (tx := tx) (sn := sn) (cn := cn) (p := p + 1) (kp := false) (wr := wr) (rd := rd) (rs := rs) (rc := rc) (tm := tm) (ky := ky) (vl := vl) (mo := mo) (gq := gq) (gh := gh) (gw := gw) (gu := gu) (gv := gv) g117 g120 (by omega) (p1)) rfl (fun h121 r122 q123 => ?_)
            obtain ⟨rfl, g124, fx125⟩ := q123
            have fr126 : px_fi 269 1 h h121 := fi_tr fr119 fx125 (by omega)
            show px_to 130 172 [some (.ref (269)), some (.int (nI s)), none, none] [.int (bI ((rdT tx (p + 1)).1 && decide (0 < (rdT tx (p + 1)).2.1)))] h121 _
            refine e_if_ne f_130_172 rfl (fun c_172 => ?_) (fun c_172 => ?_)
            · skip
              have c_172 : ((rdT tx (p + 1)).1 && decide (0 < (rdT tx (p + 1)).2.1)) = true := bI_t c_172
              have c172a : (rdT tx (p + 1)).1 = true := by have z := c_172; rw [Bool.and_eq_true] at z; exact z.1
              have g127 : h121.2.2 269 = some (12, mB (nI tx.length, sn, cn) (nI ((rdT tx (p + 1)).2.2), false, wr, nI (rdT tx (p + 1)).2.1, nI rs, nI rc, nI tm, ky, vl, mo) gq gh gw gu gv) := by have z := g124; rw [if_pos c_172, if_pos c172a] at z; exact z
              refine e_aload_n f_130_177 rfl rfl ?_
              refine e_iload_n f_130_178 rfl rfl ?_
              refine e_iconst (v := nI 0) f_130_179 (by decide) rfl ?_
              refine e_aload_n f_130_180 rfl rfl ?_
              refine e_getf f_130_181 g127 rfl rfl ?_
              show px_to 130 184 [some (.ref (269)), some (.int (nI s)), none, none] [.int (nI (rdT tx (p + 1)).2.1), .int (nI 0), .int (nI s), .ref (269)] h121 _
              refine e_callV (As := [.int (nI s), .int (nI 0), .int (nI (rdT tx (p + 1)).2.1)]) (rest := []) f_130_184 rfl rfl rfl (Nat.le_of_ble_eq_true rfl) (Nat.le_of_ble_eq_true rfl) g127 rfl (Nat.le_of_ble_eq_true rfl) (cc_Md_ks0 (s := s) (ac := 0) (nu := nI (rdT tx (p + 1)).2.1) (jl := jl) (tx := tx) (sn := sn) (cn := cn) (p := (rdT tx (p + 1)).2.2) (kp := true) (wr := wr) (rd := nI (rdT tx (p + 1)).2.1) (rs := rs) (rc := rc) (tm := tm) (ky := ky) (vl := vl) (mo := mo) (gq := gq) (gh := gh) (gw := gw) (gu := gu) (gv := gv) g127 (by omega) (by omega) (by omega) (by omega)) rfl (fun h128 r129 q130 => ?_)
              obtain ⟨rfl, g131, fx132⟩ := q130
              have fr133 : px_fi 269 1 h h128 := fi_tr fr126 fx132 (by omega)
              show px_to 130 187 [some (.ref (269)), some (.int (nI s)), none, none] [] h128 _
              refine e_iconst (v := nI 1) f_130_187 (by decide) rfl ?_
              refine e_iret f_130_188 rfl (rfl) ?_
              have er : rdStep tx s (p + 1) = (true, (rdT tx (p + 1)).2.2, (s, 0, nI (rdT tx (p + 1)).2.1)) := by unfold rdStep; rw [if_neg (show ¬ (s = 102 ∨ s = 109) by omega), if_pos (show s = 119 ∨ s = 116 by omega), c_172]
              rw [er]
              dsimp only
              rw [if_pos rfl, if_pos rfl, if_neg (show ¬ s = 116 by omega)]
              exact ⟨rfl, ⟨_, _, _, _, g131, trivial⟩, fr133⟩
            · skip
              have c_172 : ((rdT tx (p + 1)).1 && decide (0 < (rdT tx (p + 1)).2.1)) = false := bI_f' c_172
              refine e_iconst (v := nI 0) f_130_175 (by decide) rfl ?_
              refine e_iret f_130_176 rfl (rfl) ?_
              have g134 : h121.2.2 269 = some (12, mB (nI tx.length, sn, cn) (nI ((rdT tx (p + 1)).2.2), false, nI (rdT tx (p + 1)).2.2, if (rdT tx (p + 1)).1 = true then nI (rdT tx (p + 1)).2.1 else rd, nI rs, nI rc, nI tm, ky, vl, mo) gq gh gw gu gv) := by have z := g124; rw [if_neg (by rw [c_172]; decide)] at z; exact z
              have er : rdStep tx s (p + 1) = (false, (rdT tx (p + 1)).2.2, (s, 0, nI (rdT tx (p + 1)).2.1)) := by unfold rdStep; rw [if_neg (show ¬ (s = 102 ∨ s = 109) by omega), if_pos (show s = 119 ∨ s = 116 by omega), c_172]
              rw [er]
              dsimp only
              rw [if_neg (by decide), if_neg (by decide), if_neg (show ¬ s = 116 by omega)]
              exact ⟨rfl, ⟨_, _, _, _, g134, trivial⟩, fr126⟩
          · skip
            have c_149 : s = 116 := cv_nne (by omega) (by omega) c_149
            refine e_aload_n f_130_152 rfl rfl ?_
            refine e_getf f_130_153 g2 rfl rfl ?_
            show px_to 130 156 [some (.ref (269)), some (.int (nI s)), none, none] [.int (nI tm), .ref (269)] h1 _
            refine e_iconst (v := nI 1) f_130_156 (by decide) rfl ?_
            refine e_iadd (z := nI (tm + 1)) f_130_157 (nI_add _ _) rfl ?_
            refine e_goto f_130_158 ?_
            refine e_putp (vs' := mB (nI tx.length, sn, cn) (nI (p + 1), false, wr, rd, nI rs, nI rc, nI (tm + 1), ky, vl, mo) gq gh gw gu gv) f_130_165 g2 (Nat.le_of_ble_eq_true rfl) (rfl) (rfl) rfl rfl (fun h135 g136 fx137 => ?_)
            have fr138 : px_fi 269 1 h h135 := fi_tr fr4 fx137 (by omega)
            refine e_aload_n f_130_168 rfl rfl ?_
            have g139 : px_pa h135 270 52 500 vN tx := pa_fi H1 fr138 (by omega)
            refine e_callV (As := []) (rest := []) f_130_169 rfl rfl rfl (Nat.le_of_ble_eq_true rfl) (Nat.le_of_ble_eq_true rfl) g136 rfl (Nat.le_of_ble_eq_true rfl) (cc_Md_nat (tx := tx) (sn := sn) (cn := cn) (p := p + 1) (kp := false) (wr := wr) (rd := rd) (rs := rs) (rc := rc) (tm := tm + 1) (ky := ky) (vl := vl) (mo := mo) (gq := gq) (gh := gh) (gw := gw) (gu := gu) (gv := gv) g136 g139 (by omega) (p1)) rfl (fun h140 r141 q142 => ?_)
            obtain ⟨rfl, g143, fx144⟩ := q142
            have fr145 : px_fi 269 1 h h140 := fi_tr fr138 fx144 (by omega)
            show px_to 130 172 [some (.ref (269)), some (.int (nI s)), none, none] [.int (bI ((rdT tx (p + 1)).1 && decide (0 < (rdT tx (p + 1)).2.1)))] h140 _
            refine e_if_ne f_130_172 rfl (fun c_172 => ?_) (fun c_172 => ?_)
            · skip
              have c_172 : ((rdT tx (p + 1)).1 && decide (0 < (rdT tx (p + 1)).2.1)) = true := bI_t c_172
              have c172a : (rdT tx (p + 1)).1 = true := by have z := c_172; rw [Bool.and_eq_true] at z; exact z.1
              have g146 : h140.2.2 269 = some (12, mB (nI tx.length, sn, cn) (nI ((rdT tx (p + 1)).2.2), false, wr, nI (rdT tx (p + 1)).2.1, nI rs, nI rc, nI (tm + 1), ky, vl, mo) gq gh gw gu gv) := by have z := g143; rw [if_pos c_172, if_pos c172a] at z; exact z
              refine e_aload_n f_130_177 rfl rfl ?_
              refine e_iload_n f_130_178 rfl rfl ?_
              refine e_iconst (v := nI 0) f_130_179 (by decide) rfl ?_
              refine e_aload_n f_130_180 rfl rfl ?_
              refine e_getf f_130_181 g146 rfl rfl ?_
              show px_to 130 184 [some (.ref (269)), some (.int (nI s)), none, none] [.int (nI (rdT tx (p + 1)).2.1), .int (nI 0), .int (nI s), .ref (269)] h140 _
              refine e_callV (As := [.int (nI s), .int (nI 0), .int (nI (rdT tx (p + 1)).2.1)]) (rest := []) f_130_184 rfl rfl rfl (Nat.le_of_ble_eq_true rfl) (Nat.le_of_ble_eq_true rfl) g146 rfl (Nat.le_of_ble_eq_true rfl) (cc_Md_ks0 (s := s) (ac := 0) (nu := nI (rdT tx (p + 1)).2.1) (jl := jl) (tx := tx) (sn := sn) (cn := cn) (p := (rdT tx (p + 1)).2.2) (kp := true) (wr := wr) (rd := nI (rdT tx (p + 1)).2.1) (rs := rs) (rc := rc) (tm := tm + 1) (ky := ky) (vl := vl) (mo := mo) (gq := gq) (gh := gh) (gw := gw) (gu := gu) (gv := gv) g146 (by omega) (by omega) (by omega) (by omega)) rfl (fun h147 r148 q149 => ?_)
              obtain ⟨rfl, g150, fx151⟩ := q149
              have fr152 : px_fi 269 1 h h147 := fi_tr fr145 fx151 (by omega)
              show px_to 130 187 [some (.ref (269)), some (.int (nI s)), none, none] [] h147 _
              refine e_iconst (v := nI 1) f_130_187 (by decide) rfl ?_
              refine e_iret f_130_188 rfl (rfl) ?_
              have er : rdStep tx s (p + 1) = (true, (rdT tx (p + 1)).2.2, (s, 0, nI (rdT tx (p + 1)).2.1)) := by unfold rdStep; rw [if_neg (show ¬ (s = 102 ∨ s = 109) by omega), if_pos (show s = 119 ∨ s = 116 by omega), c_172]
              rw [er]
              dsimp only
              rw [if_pos rfl, if_pos rfl, if_pos (show s = 116 by omega)]
              exact ⟨rfl, ⟨_, _, _, _, g150, trivial⟩, fr152⟩
            · skip
              have c_172 : ((rdT tx (p + 1)).1 && decide (0 < (rdT tx (p + 1)).2.1)) = false := bI_f' c_172
              refine e_iconst (v := nI 0) f_130_175 (by decide) rfl ?_
              refine e_iret f_130_176 rfl (rfl) ?_
              have g153 : h140.2.2 269 = some (12, mB (nI tx.length, sn, cn) (nI ((rdT tx (p + 1)).2.2), false, nI (rdT tx (p + 1)).2.2, if (rdT tx (p + 1)).1 = true then nI (rdT tx (p + 1)).2.1 else rd, nI rs, nI rc, nI (tm + 1), ky, vl, mo) gq gh gw gu gv) := by have z := g143; rw [if_neg (by rw [c_172]; decide)] at z; exact z
              have er : rdStep tx s (p + 1) = (false, (rdT tx (p + 1)).2.2, (s, 0, nI (rdT tx (p + 1)).2.1)) := by unfold rdStep; rw [if_neg (show ¬ (s = 102 ∨ s = 109) by omega), if_pos (show s = 119 ∨ s = 116 by omega), c_172]
              rw [er]
              dsimp only
              rw [if_neg (by decide), if_neg (by decide), if_pos (show s = 116 by omega)]
              exact ⟨rfl, ⟨_, _, _, _, g153, trivial⟩, fr145⟩
        · skip
          by_cases c_11_119 : s = 119
          · skip
            refine e_sw_l f_130_11 (t := 145) (by rw [c_11_119]; rfl) ?_
            refine e_aload_n f_130_145 rfl rfl ?_
            refine e_iload_n f_130_146 rfl rfl ?_
            refine e_bipush (v := nI 116) f_130_147 (by decide) rfl ?_
            refine e_icmp_ne f_130_149 rfl (fun c_149 => ?_) (fun c_149 => ?_)
            · skip
              have c_149 : s ≠ 116 := cv_ne c_149
              refine e_aload_n f_130_161 rfl rfl ?_
              refine e_getf f_130_162 g2 rfl rfl ?_
              show px_to 130 165 [some (.ref (269)), some (.int (nI s)), none, none] [.int (nI tm), .ref (269)] h1 _
              refine e_putp (vs' := mB (nI tx.length, sn, cn) (nI (p + 1), false, wr, rd, nI rs, nI rc, nI tm, ky, vl, mo) gq gh gw gu gv) f_130_165 g2 (Nat.le_of_ble_eq_true rfl) (rfl) (rfl) rfl rfl (fun h154 g155 fx156 => ?_)
              have fr157 : px_fi 269 1 h h154 := fi_tr fr4 fx156 (by omega)
              refine e_aload_n f_130_168 rfl rfl ?_
              have g158 : px_pa h154 270 52 500 vN tx := pa_fi H1 fr157 (by omega)
              refine e_callV (As := []) (rest := []) f_130_169 rfl rfl rfl (Nat.le_of_ble_eq_true rfl) (Nat.le_of_ble_eq_true rfl) g155 rfl (Nat.le_of_ble_eq_true rfl) (cc_Md_nat (tx := tx) (sn := sn) (cn := cn) (p := p + 1) (kp := false) (wr := wr) (rd := rd) (rs := rs) (rc := rc) (tm := tm) (ky := ky) (vl := vl) (mo := mo) (gq := gq) (gh := gh) (gw := gw) (gu := gu) (gv := gv) g155 g158 (by omega) (p1)) rfl (fun h159 r160 q161 => ?_)
              obtain ⟨rfl, g162, fx163⟩ := q161
              have fr164 : px_fi 269 1 h h159 := fi_tr fr157 fx163 (by omega)
              show px_to 130 172 [some (.ref (269)), some (.int (nI s)), none, none] [.int (bI ((rdT tx (p + 1)).1 && decide (0 < (rdT tx (p + 1)).2.1)))] h159 _
              refine e_if_ne f_130_172 rfl (fun c_172 => ?_) (fun c_172 => ?_)
              · skip
                have c_172 : ((rdT tx (p + 1)).1 && decide (0 < (rdT tx (p + 1)).2.1)) = true := bI_t c_172
                have c172a : (rdT tx (p + 1)).1 = true := by have z := c_172; rw [Bool.and_eq_true] at z; exact z.1
                have g165 : h159.2.2 269 = some (12, mB (nI tx.length, sn, cn) (nI ((rdT tx (p + 1)).2.2), false, wr, nI (rdT tx (p + 1)).2.1, nI rs, nI rc, nI tm, ky, vl, mo) gq gh gw gu gv) := by have z := g162; rw [if_pos c_172, if_pos c172a] at z; exact z
                refine e_aload_n f_130_177 rfl rfl ?_
                refine e_iload_n f_130_178 rfl rfl ?_
                refine e_iconst (v := nI 0) f_130_179 (by decide) rfl ?_
                refine e_aload_n f_130_180 rfl rfl ?_
                refine e_getf f_130_181 g165 rfl rfl ?_
                show px_to 130 184 [some (.ref (269)), some (.int (nI s)), none, none] [.int (nI (rdT tx (p + 1)).2.1), .int (nI 0), .int (nI s), .ref (269)] h159 _
                refine e_callV (As := [.int (nI s), .int (nI 0), .int (nI (rdT tx (p + 1)).2.1)]) (rest := []) f_130_184 rfl rfl rfl (Nat.le_of_ble_eq_true rfl) (Nat.le_of_ble_eq_true rfl) g165 rfl (Nat.le_of_ble_eq_true rfl) (cc_Md_ks0 (s := s) (ac := 0) (nu := nI (rdT tx (p + 1)).2.1) (jl := jl) (tx := tx) (sn := sn) (cn := cn) (p := (rdT tx (p + 1)).2.2) (kp := true) (wr := wr) (rd := nI (rdT tx (p + 1)).2.1) (rs := rs) (rc := rc) (tm := tm) (ky := ky) (vl := vl) (mo := mo) (gq := gq) (gh := gh) (gw := gw) (gu := gu) (gv := gv) g165 (by omega) (by omega) (by omega) (by omega)) rfl (fun h166 r167 q168 => ?_)
                obtain ⟨rfl, g169, fx170⟩ := q168
                have fr171 : px_fi 269 1 h h166 := fi_tr fr164 fx170 (by omega)
                show px_to 130 187 [some (.ref (269)), some (.int (nI s)), none, none] [] h166 _
                refine e_iconst (v := nI 1) f_130_187 (by decide) rfl ?_
                refine e_iret f_130_188 rfl (rfl) ?_
                have er : rdStep tx s (p + 1) = (true, (rdT tx (p + 1)).2.2, (s, 0, nI (rdT tx (p + 1)).2.1)) := by unfold rdStep; rw [if_neg (show ¬ (s = 102 ∨ s = 109) by omega), if_pos (show s = 119 ∨ s = 116 by omega), c_172]
                rw [er]
                dsimp only
                rw [if_pos rfl, if_pos rfl, if_neg (show ¬ s = 116 by omega)]
                exact ⟨rfl, ⟨_, _, _, _, g169, trivial⟩, fr171⟩
              · skip
                have c_172 : ((rdT tx (p + 1)).1 && decide (0 < (rdT tx (p + 1)).2.1)) = false := bI_f' c_172
                refine e_iconst (v := nI 0) f_130_175 (by decide) rfl ?_
                refine e_iret f_130_176 rfl (rfl) ?_
                have g172 : h159.2.2 269 = some (12, mB (nI tx.length, sn, cn) (nI ((rdT tx (p + 1)).2.2), false, nI (rdT tx (p + 1)).2.2, if (rdT tx (p + 1)).1 = true then nI (rdT tx (p + 1)).2.1 else rd, nI rs, nI rc, nI tm, ky, vl, mo) gq gh gw gu gv) := by have z := g162; rw [if_neg (by rw [c_172]; decide)] at z; exact z
                have er : rdStep tx s (p + 1) = (false, (rdT tx (p + 1)).2.2, (s, 0, nI (rdT tx (p + 1)).2.1)) := by unfold rdStep; rw [if_neg (show ¬ (s = 102 ∨ s = 109) by omega), if_pos (show s = 119 ∨ s = 116 by omega), c_172]
                rw [er]
                dsimp only
                rw [if_neg (by decide), if_neg (by decide), if_neg (show ¬ s = 116 by omega)]
                exact ⟨rfl, ⟨_, _, _, _, g172, trivial⟩, fr164⟩
            · skip
              have c_149 : s = 116 := cv_nne (by omega) (by omega) c_149
              refine e_aload_n f_130_152 rfl rfl ?_
              refine e_getf f_130_153 g2 rfl rfl ?_
              show px_to 130 156 [some (.ref (269)), some (.int (nI s)), none, none] [.int (nI tm), .ref (269)] h1 _
              refine e_iconst (v := nI 1) f_130_156 (by decide) rfl ?_
              refine e_iadd (z := nI (tm + 1)) f_130_157 (nI_add _ _) rfl ?_
              refine e_goto f_130_158 ?_
              refine e_putp (vs' := mB (nI tx.length, sn, cn) (nI (p + 1), false, wr, rd, nI rs, nI rc, nI (tm + 1), ky, vl, mo) gq gh gw gu gv) f_130_165 g2 (Nat.le_of_ble_eq_true rfl) (rfl) (rfl) rfl rfl (fun h173 g174 fx175 => ?_)
              have fr176 : px_fi 269 1 h h173 := fi_tr fr4 fx175 (by omega)
              refine e_aload_n f_130_168 rfl rfl ?_
              have g177 : px_pa h173 270 52 500 vN tx := pa_fi H1 fr176 (by omega)
              refine e_callV (As := []) (rest := []) f_130_169 rfl rfl rfl (Nat.le_of_ble_eq_true rfl) (Nat.le_of_ble_eq_true rfl) g174 rfl (Nat.le_of_ble_eq_true rfl) (cc_Md_nat (tx := tx) (sn := sn) (cn := cn) (p := p + 1) (kp := false) (wr := wr) (rd := rd) (rs := rs) (rc := rc) (tm := tm + 1) (ky := ky) (vl := vl) (mo := mo) (gq := gq) (gh := gh) (gw := gw) (gu := gu) (gv := gv) g174 g177 (by omega) (p1)) rfl (fun h178 r179 q180 => ?_)
              obtain ⟨rfl, g181, fx182⟩ := q180
              have fr183 : px_fi 269 1 h h178 := fi_tr fr176 fx182 (by omega)
              show px_to 130 172 [some (.ref (269)), some (.int (nI s)), none, none] [.int (bI ((rdT tx (p + 1)).1 && decide (0 < (rdT tx (p + 1)).2.1)))] h178 _
              refine e_if_ne f_130_172 rfl (fun c_172 => ?_) (fun c_172 => ?_)
              · skip
                have c_172 : ((rdT tx (p + 1)).1 && decide (0 < (rdT tx (p + 1)).2.1)) = true := bI_t c_172
                have c172a : (rdT tx (p + 1)).1 = true := by have z := c_172; rw [Bool.and_eq_true] at z; exact z.1
                have g184 : h178.2.2 269 = some (12, mB (nI tx.length, sn, cn) (nI ((rdT tx (p + 1)).2.2), false, wr, nI (rdT tx (p + 1)).2.1, nI rs, nI rc, nI (tm + 1), ky, vl, mo) gq gh gw gu gv) := by have z := g181; rw [if_pos c_172, if_pos c172a] at z; exact z
                refine e_aload_n f_130_177 rfl rfl ?_
                refine e_iload_n f_130_178 rfl rfl ?_
                refine e_iconst (v := nI 0) f_130_179 (by decide) rfl ?_
                refine e_aload_n f_130_180 rfl rfl ?_
                refine e_getf f_130_181 g184 rfl rfl ?_
                show px_to 130 184 [some (.ref (269)), some (.int (nI s)), none, none] [.int (nI (rdT tx (p + 1)).2.1), .int (nI 0), .int (nI s), .ref (269)] h178 _
                refine e_callV (As := [.int (nI s), .int (nI 0), .int (nI (rdT tx (p + 1)).2.1)]) (rest := []) f_130_184 rfl rfl rfl (Nat.le_of_ble_eq_true rfl) (Nat.le_of_ble_eq_true rfl) g184 rfl (Nat.le_of_ble_eq_true rfl) (cc_Md_ks0 (s := s) (ac := 0) (nu := nI (rdT tx (p + 1)).2.1) (jl := jl) (tx := tx) (sn := sn) (cn := cn) (p := (rdT tx (p + 1)).2.2) (kp := true) (wr := wr) (rd := nI (rdT tx (p + 1)).2.1) (rs := rs) (rc := rc) (tm := tm + 1) (ky := ky) (vl := vl) (mo := mo) (gq := gq) (gh := gh) (gw := gw) (gu := gu) (gv := gv) g184 (by omega) (by omega) (by omega) (by omega)) rfl (fun h185 r186 q187 => ?_)
                obtain ⟨rfl, g188, fx189⟩ := q187
                have fr190 : px_fi 269 1 h h185 := fi_tr fr183 fx189 (by omega)
                show px_to 130 187 [some (.ref (269)), some (.int (nI s)), none, none] [] h185 _
                refine e_iconst (v := nI 1) f_130_187 (by decide) rfl ?_
                refine e_iret f_130_188 rfl (rfl) ?_
                have er : rdStep tx s (p + 1) = (true, (rdT tx (p + 1)).2.2, (s, 0, nI (rdT tx (p + 1)).2.1)) := by unfold rdStep; rw [if_neg (show ¬ (s = 102 ∨ s = 109) by omega), if_pos (show s = 119 ∨ s = 116 by omega), c_172]
                rw [er]
                dsimp only
                rw [if_pos rfl, if_pos rfl, if_pos (show s = 116 by omega)]
                exact ⟨rfl, ⟨_, _, _, _, g188, trivial⟩, fr190⟩
              · skip
                have c_172 : ((rdT tx (p + 1)).1 && decide (0 < (rdT tx (p + 1)).2.1)) = false := bI_f' c_172
                refine e_iconst (v := nI 0) f_130_175 (by decide) rfl ?_
                refine e_iret f_130_176 rfl (rfl) ?_
                have g191 : h178.2.2 269 = some (12, mB (nI tx.length, sn, cn) (nI ((rdT tx (p + 1)).2.2), false, nI (rdT tx (p + 1)).2.2, if (rdT tx (p + 1)).1 = true then nI (rdT tx (p + 1)).2.1 else rd, nI rs, nI rc, nI (tm + 1), ky, vl, mo) gq gh gw gu gv) := by have z := g181; rw [if_neg (by rw [c_172]; decide)] at z; exact z
                have er : rdStep tx s (p + 1) = (false, (rdT tx (p + 1)).2.2, (s, 0, nI (rdT tx (p + 1)).2.1)) := by unfold rdStep; rw [if_neg (show ¬ (s = 102 ∨ s = 109) by omega), if_pos (show s = 119 ∨ s = 116 by omega), c_172]
                rw [er]
                dsimp only
                rw [if_neg (by decide), if_neg (by decide), if_pos (show s = 116 by omega)]
                exact ⟨rfl, ⟨_, _, _, _, g191, trivial⟩, fr183⟩
          · skip
            refine e_sw_l f_130_11 (t := 189) (lsw_df (List.forall_mem_cons.mpr ⟨lsw_neN (by omega) c_11_102, List.forall_mem_cons.mpr ⟨lsw_neN (by omega) c_11_109, List.forall_mem_cons.mpr ⟨lsw_neN (by omega) c_11_113, List.forall_mem_cons.mpr ⟨lsw_neN (by omega) c_11_116, List.forall_mem_cons.mpr ⟨lsw_neN (by omega) c_11_119, by simp⟩⟩⟩⟩⟩) rfl) ?_
            refine e_aload_n f_130_189 rfl rfl ?_
            refine e_iload_n f_130_190 rfl rfl ?_
            refine e_iconst (v := nI 0) f_130_191 (by decide) rfl ?_
            refine e_iconst (v := nI 0) f_130_192 (by decide) rfl ?_
            refine e_callV (As := [.int (nI s), .int (nI 0), .int (nI 0)]) (rest := []) f_130_193 rfl rfl rfl (Nat.le_of_ble_eq_true rfl) (Nat.le_of_ble_eq_true rfl) g2 rfl (Nat.le_of_ble_eq_true rfl) (cc_Md_ks0 (s := s) (ac := 0) (nu := nI 0) (jl := jl) (tx := tx) (sn := sn) (cn := cn) (p := p + 1) (kp := true) (wr := wr) (rd := rd) (rs := rs) (rc := rc) (tm := tm) (ky := ky) (vl := vl) (mo := mo) (gq := gq) (gh := gh) (gw := gw) (gu := gu) (gv := gv) g2 (by omega) (by omega) (by omega) (by omega)) rfl (fun h192 r193 q194 => ?_)
            obtain ⟨rfl, g195, fx196⟩ := q194
            have fr197 : px_fi 269 1 h h192 := fi_tr fr4 fx196 (by omega)
            show px_to 130 196 [some (.ref (269)), some (.int (nI s)), none, none] [] h192 _
            refine e_iconst (v := nI 1) f_130_196 (by decide) rfl ?_
            refine e_iret f_130_197 rfl (rfl) ?_
            have er : rdStep tx s (p + 1) = (true, p + 1, (s, 0, nI 0)) := by unfold rdStep; rw [if_neg (show ¬ (s = 102 ∨ s = 109) by omega), if_neg (show ¬ (s = 119 ∨ s = 116) by omega), if_pos (show s = 100 ∨ s = 115 by omega)]
            rw [er]
            dsimp only
            rw [if_pos rfl, if_pos rfl, if_neg (show ¬ s = 116 by omega)]
            exact ⟨rfl, ⟨_, _, _, _, g195, trivial⟩, fr197⟩

set_option maxRecDepth 20000 in
set_option maxHeartbeats 4000000 in
theorem cc_Md_st1 {h : px_H} {s : Nat} {jl : List St} {tx : List Nat} {sn cn : Int32} {p rs rc tm : Nat} {kp : Bool} {wr rd ky vl mo : Int32} {gq : gQ} {gh : gH} {gw : gW} {gu : gU} {gv : gV} (H0 : h.2.2 269 = some (12, mB (nI tx.length, sn, cn) (nI p, true, wr, rd, nI rs, nI rc, nI tm, ky, vl, mo) gq gh gw gu gv)) (H1 : px_pa h 270 52 500 vN tx) (H2 : px_pa h 271 52 6 stS jl) (H3 : px_pa h 272 52 6 stA jl) (H4 : px_pa h 273 50 6 stN jl) (p0 : p + 1 ≤ tx.length) (p1 : okTx tx) (p2 : s ∈ stepSigns) (p3 : jl.length = rs) (p4 : rs < 6) (p5 : tm ≤ 2) : px_wp 130 [.ref (269), .int (nI s)] h (fun h1 r => r = some (.int (bI ((rdStep tx s (p + 1)).1))) ∧ pMS h1 tx sn cn ((rdStep tx s (p + 1)).2.1) true (if (rdStep tx s (p + 1)).1 = true then wr else nI (rdStep tx s (p + 1)).2.1) (if (rdStep tx s (p + 1)).1 = true then rs + 1 else rs) rc (if s = 116 then tm + 1 else tm) gq gh gw gu gv (fun _ _ _ => True) ∧ px_pa h1 271 52 6 stS (if (rdStep tx s (p + 1)).1 = true then jl ++ [(rdStep tx s (p + 1)).2.2] else jl) ∧ px_pa h1 272 52 6 stA (if (rdStep tx s (p + 1)).1 = true then jl ++ [(rdStep tx s (p + 1)).2.2] else jl) ∧ px_pa h1 273 50 6 stN (if (rdStep tx s (p + 1)).1 = true then jl ++ [(rdStep tx s (p + 1)).2.2] else jl) ∧ px_fj 269 1 271 3 h h1) := by
  have fr0 : px_fj 269 1 271 3 h h := fj_rf _ _ _ _ _
  have le := pa_len H1
  have hsl : sgn tx (p + 1) < 127 := tx_lt p1 _
  have hsk := skp_le p0
  have hs2 : s = 102 ∨ s = 109 ∨ s = 113 ∨ s = 100 ∨ s = 115 ∨ s = 119 ∨ s = 116 := by simpa [stepSigns] using p2
  have htb := rdT_b (tx := tx) (p := p + 1)
  show px_to 130 0 [some (.ref (269)), some (.int (nI s)), none, none] [] h _
  refine e_aload_n f_130_0 rfl rfl ?_
  refine e_dup f_130_1 rfl rfl ?_
  refine e_getf f_130_2 H0 rfl rfl ?_
  show px_to 130 5 [some (.ref (269)), some (.int (nI s)), none, none] [.int (nI p), .ref (269)] h _
  refine e_iconst (v := nI 1) f_130_5 (by decide) rfl ?_
  refine e_iadd (z := nI (p + 1)) f_130_6 (nI_add _ _) rfl ?_
  refine e_putp (vs' := mB (nI tx.length, sn, cn) (nI (p + 1), true, wr, rd, nI rs, nI rc, nI tm, ky, vl, mo) gq gh gw gu gv) f_130_7 H0 (Nat.le_of_ble_eq_true rfl) (rfl) (rfl) rfl rfl (fun h1 g2 fx3 => ?_)
  have fr4 : px_fj 269 1 271 3 h h1 := fj_tr fr0 fx3 (by omega)
  refine e_iload_n f_130_10 rfl rfl ?_
  by_cases c_11_102 : s = 102
  · skip
    refine e_sw_l f_130_11 (t := 60) (by rw [c_11_102]; rfl) ?_
    refine e_iload_n f_130_60 rfl rfl ?_
    refine e_bipush (v := nI 102) f_130_61 (by decide) rfl ?_
    refine e_icmp_ne f_130_63 rfl (fun c_63 => ?_) (fun c_63 => ?_)
    · skip
      have c_63 : s ≠ 102 := cv_ne c_63
      refine e_aload_n f_130_81 rfl rfl ?_
      refine e_bipush (v := nI 43) f_130_82 (by decide) rfl ?_
      refine e_bipush (v := nI 45) f_130_84 (by decide) rfl ?_
      refine e_bipush (v := nI 42) f_130_86 (by decide) rfl ?_
      refine e_bipush (v := nI 47) f_130_88 (by decide) rfl ?_
      obtain ⟨hm6, fa7, fb8⟩ := fj_mid fr4
      have g5 : px_pa h1 270 52 500 vN tx := pa_fi (pa_fi H1 fa7 (by omega)) fb8 (by omega)
      refine e_callV (As := [.int (nI 43), .int (nI 45), .int (nI 42), .int (nI 47)]) (rest := []) f_130_90 rfl rfl rfl (Nat.le_of_ble_eq_true rfl) (Nat.le_of_ble_eq_true rfl) g2 rfl (Nat.le_of_ble_eq_true rfl) (cc_Md_one (a1 := 43) (a2 := 45) (a3 := 42) (a4 := 47) (tx := tx) (sn := sn) (cn := cn) (p := p + 1) (kp := true) (wr := wr) (rd := rd) (rs := rs) (rc := rc) (tm := tm) (ky := ky) (vl := vl) (mo := mo) (gq := gq) (gh := gh) (gw := gw) (gu := gu) (gv := gv) g2 g5 (by omega) (p1) (by decide)) rfl (fun h9 r10 q11 => ?_)
      obtain ⟨rfl, g12, fx13⟩ := q11
      have fr14 : px_fj 269 1 271 3 h h9 := fj_tr fr4 fx13 (by omega)
      show px_to 130 93 [some (.ref (269)), some (.int (nI s)), none, none] [.int (bI (decide (sgn tx (p + 1) ∈ [43, 45, 42, 47])))] h9 _
      refine e_istore_n (L' := [some (.ref (269)), some (.int (nI s)), some (.int (bI (decide (sgn tx (p + 1) ∈ [43, 45, 42, 47])))), none]) f_130_93 (Nat.le_of_ble_eq_true rfl) rfl rfl ?_
      refine e_aload_n f_130_94 rfl rfl ?_
      refine e_getf f_130_95 g12 rfl rfl ?_
      show px_to 130 98 [some (.ref (269)), some (.int (nI s)), some (.int (bI (decide (sgn tx (p + 1) ∈ [43, 45, 42, 47])))), none] [.int (if sgn tx (p + 1) ∈ [43, 45, 42, 47] then nI (sgn tx (p + 1)) else rd)] h9 _
      refine e_istore_n (L' := [some (.ref (269)), some (.int (nI s)), some (.int (bI (decide (sgn tx (p + 1) ∈ [43, 45, 42, 47])))), some (.int (if sgn tx (p + 1) ∈ [43, 45, 42, 47] then nI (sgn tx (p + 1)) else rd))]) f_130_98 (Nat.le_of_ble_eq_true rfl) rfl rfl ?_
      refine e_iload_n f_130_99 rfl rfl ?_
      refine e_if_eq f_130_100 rfl (fun c_100 => ?_) (fun c_100 => ?_)
      · skip
        have c_100 : (decide (sgn tx (p + 1) ∈ [43, 45, 42, 47])) = false := bI_f c_100
        have hacm : (sgn tx (p + 1) ∈ [43, 45, 42, 47]) ↔ (sgn tx (p + 1) ∈ actsOf s) := by unfold actsOf; rw [if_neg c_63]; try (simp only [List.mem_cons, List.not_mem_nil, or_false]; try omega)
        have hin : sgn tx (p + 1) ∉ actsOf s := fun z => of_decide_eq_false c_100 (hacm.mpr z)
        have hinl : sgn tx (p + 1) ∉ [43, 45, 42, 47] := of_decide_eq_false c_100
        refine e_iconst (v := nI 0) f_130_110 (by decide) rfl ?_
        refine e_iret f_130_111 rfl (rfl) ?_
        have g15 : h9.2.2 269 = some (12, mB (nI tx.length, sn, cn) (nI (skp tx (p + 1)), true, nI (skp tx (p + 1)), if sgn tx (p + 1) ∈ [43, 45, 42, 47] then nI (sgn tx (p + 1)) else rd, nI rs, nI rc, nI tm, ky, vl, mo) gq gh gw gu gv) := by have z := g12; rw [if_neg hinl, if_neg hinl] at z; exact z
        have er : rdStep tx s (p + 1) = (false, skp tx (p + 1), (s, 0, 0)) := by unfold rdStep; rw [if_pos (show s = 102 ∨ s = 109 by omega), if_neg hin]
        rw [er]
        dsimp only
        have g16 : px_pa h1 271 52 6 stS jl := pa_fi H2 fx3 (by omega)
        have g17 : px_pa h9 271 52 6 stS jl := pa_fi g16 fx13 (by omega)
        have g18 : px_pa h1 272 52 6 stA jl := pa_fi H3 fx3 (by omega)
        have g19 : px_pa h9 272 52 6 stA jl := pa_fi g18 fx13 (by omega)
        have g20 : px_pa h1 273 50 6 stN jl := pa_fi H4 fx3 (by omega)
        have g21 : px_pa h9 273 50 6 stN jl := pa_fi g20 fx13 (by omega)
        rw [if_neg (by decide), if_neg (by decide), if_neg (show ¬ s = 116 by omega)]
        rw [if_neg (by decide)]
        exact ⟨rfl, ⟨_, _, _, _, g15, trivial⟩, g17, g19, g21, fr14⟩
      · skip
        have c_100 : (decide (sgn tx (p + 1) ∈ [43, 45, 42, 47])) = true := bI_t' c_100
        have hacm : (sgn tx (p + 1) ∈ [43, 45, 42, 47]) ↔ (sgn tx (p + 1) ∈ actsOf s) := by unfold actsOf; rw [if_neg c_63]; try (simp only [List.mem_cons, List.not_mem_nil, or_false]; try omega)
        have hin : sgn tx (p + 1) ∈ actsOf s := hacm.mp (of_decide_eq_true c_100)
        have hinl : sgn tx (p + 1) ∈ [43, 45, 42, 47] := of_decide_eq_true c_100
        have hsl2 : skp tx (p + 1) + 1 ≤ tx.length := sgn_next hinl (by decide)
        rw [if_pos hinl]
        have g22 : h9.2.2 269 = some (12, mB (nI tx.length, sn, cn) (nI (skp tx (p + 1) + 1), true, wr, nI (sgn tx (p + 1)), nI rs, nI rc, nI tm, ky, vl, mo) gq gh gw gu gv) := by have z := g12; rw [if_pos hinl, if_pos hinl, if_pos hinl] at z; exact z
        refine e_aload_n f_130_103 rfl rfl ?_
        obtain ⟨hm24, fa25, fb26⟩ := fj_mid fr14
        have g23 : px_pa h9 270 52 500 vN tx := pa_fi (pa_fi H1 fa25 (by omega)) fb26 (by omega)
        refine e_callV (As := []) (rest := []) f_130_104 rfl rfl rfl (Nat.le_of_ble_eq_true rfl) (Nat.le_of_ble_eq_true rfl) g22 rfl (Nat.le_of_ble_eq_true rfl) (cc_Md_whole (tx := tx) (sn := sn) (cn := cn) (p := skp tx (p + 1) + 1) (kp := true) (wr := wr) (rd := nI (sgn tx (p + 1))) (rs := rs) (rc := rc) (tm := tm) (ky := ky) (vl := vl) (mo := mo) (gq := gq) (gh := gh) (gw := gw) (gu := gu) (gv := gv) g22 g23 (hsl2) (p1)) rfl (fun h27 r28 q29 => ?_)
        obtain ⟨rfl, g30, fx31⟩ := q29
        have fr32 : px_fj 269 1 271 3 h h27 := fj_tr fr14 fx31 (by omega)
        show px_to 130 107 [some (.ref (269)), some (.int (nI s)), some (.int (bI (decide (sgn tx (p + 1) ∈ [43, 45, 42, 47])))), some (.int (nI (sgn tx (p + 1))))] [.int (bI ((rdI tx (skp tx (p + 1) + 1)).1))] h27 _
        refine e_if_ne f_130_107 rfl (fun c_107 => ?_) (fun c_107 => ?_)
        · skip
          have c_107 : ((rdI tx (skp tx (p + 1) + 1)).1) = true := bI_t c_107
          have g33 : h27.2.2 269 = some (12, mB (nI tx.length, sn, cn) (nI ((rdI tx (skp tx (p + 1) + 1)).2.2), true, wr, (rdI tx (skp tx (p + 1) + 1)).2.1, nI rs, nI rc, nI tm, ky, vl, mo) gq gh gw gu gv) := by have z := g30; rw [c_107, if_pos rfl, if_pos rfl] at z; exact z
          refine e_aload_n f_130_112 rfl rfl ?_
          refine e_iload_n f_130_113 rfl rfl ?_
          refine e_iload_n f_130_114 rfl rfl ?_
          refine e_aload_n f_130_115 rfl rfl ?_
          refine e_getf f_130_116 g33 rfl rfl ?_
          show px_to 130 119 [some (.ref (269)), some (.int (nI s)), some (.int (bI (decide (sgn tx (p + 1) ∈ [43, 45, 42, 47])))), some (.int (nI (sgn tx (p + 1))))] [.int ((rdI tx (skp tx (p + 1) + 1)).2.1), .int (nI (sgn tx (p + 1))), .int (nI s), .ref (269)] h27 _
          have g34 : px_pa h1 271 52 6 stS jl := pa_fi H2 fx3 (by omega)
          have g35 : px_pa h9 271 52 6 stS jl := pa_fi g34 fx13 (by omega)
          have g36 : px_pa h27 271 52 6 stS jl := pa_fi g35 fx31 (by omega)
          have g37 : px_pa h1 272 52 6 stA jl := pa_fi H3 fx3 (by omega)
          have g38 : px_pa h9 272 52 6 stA jl := pa_fi g37 fx13 (by omega)
          have g39 : px_pa h27 272 52 6 stA jl := pa_fi g38 fx31 (by omega)
          have g40 : px_pa h1 273 50 6 stN jl := pa_fi H4 fx3 (by omega)
          have g41 : px_pa h9 273 50 6 stN jl := pa_fi g40 fx13 (by omega)
          have g42 : px_pa h27 273 50 6 stN jl := pa_fi g41 fx31 (by omega)
          refine e_callV (As := [.int (nI s), .int (nI (sgn tx (p + 1))), .int ((rdI tx (skp tx (p + 1) + 1)).2.1)]) (rest := []) f_130_119 rfl rfl rfl (Nat.le_of_ble_eq_true rfl) (Nat.le_of_ble_eq_true rfl) g33 rfl (Nat.le_of_ble_eq_true rfl) (cc_Md_ks1 (s := s) (ac := sgn tx (p + 1)) (nu := (rdI tx (skp tx (p + 1) + 1)).2.1) (jl := jl) (tx := tx) (sn := sn) (cn := cn) (p := (rdI tx (skp tx (p + 1) + 1)).2.2) (kp := true) (wr := wr) (rd := (rdI tx (skp tx (p + 1) + 1)).2.1) (rs := rs) (rc := rc) (tm := tm) (ky := ky) (vl := vl) (mo := mo) (gq := gq) (gh := gh) (gw := gw) (gu := gu) (gv := gv) g33 g36 g39 g42 (by omega) (by omega) (by omega) (by omega)) rfl (fun h43 r44 q45 => ?_)
          obtain ⟨rfl, g46, g47, g48, g49, fx50⟩ := q45
          obtain ⟨hm51, fa52, fb53⟩ := fj_mid fx50
          have fr54 : px_fj 269 1 271 3 h hm51 := fj_tr fr32 fa52 (by omega)
          have fr55 : px_fj 269 1 271 3 h h43 := fj_tr fr54 fb53 (by omega)
          show px_to 130 122 [some (.ref (269)), some (.int (nI s)), some (.int (bI (decide (sgn tx (p + 1) ∈ [43, 45, 42, 47])))), some (.int (nI (sgn tx (p + 1))))] [] h43 _
          refine e_iconst (v := nI 1) f_130_122 (by decide) rfl ?_
          refine e_iret f_130_123 rfl (rfl) ?_
          have er : rdStep tx s (p + 1) = (true, (rdI tx (skp tx (p + 1) + 1)).2.2, (s, sgn tx (p + 1), (rdI tx (skp tx (p + 1) + 1)).2.1)) := by unfold rdStep; rw [if_pos (show s = 102 ∨ s = 109 by omega), if_pos hin, c_107]
          rw [er]
          dsimp only
          rw [if_pos rfl, if_pos rfl, if_neg (show ¬ s = 116 by omega)]
          rw [if_pos rfl]
          exact ⟨rfl, ⟨_, _, _, _, g46, trivial⟩, g47, g48, g49, fr55⟩
        · skip
          have c_107 : ((rdI tx (skp tx (p + 1) + 1)).1) = false := bI_f' c_107
          refine e_iconst (v := nI 0) f_130_110 (by decide) rfl ?_
          refine e_iret f_130_111 rfl (rfl) ?_
          have g56 : h27.2.2 269 = some (12, mB (nI tx.length, sn, cn) (nI ((rdI tx (skp tx (p + 1) + 1)).2.2), true, nI (rdI tx (skp tx (p + 1) + 1)).2.2, nI (sgn tx (p + 1)), nI rs, nI rc, nI tm, ky, vl, mo) gq gh gw gu gv) := by have z := g30; rw [c_107, if_neg (by decide), if_neg (by decide)] at z; exact z
          have er : rdStep tx s (p + 1) = (false, (rdI tx (skp tx (p + 1) + 1)).2.2, (s, sgn tx (p + 1), (rdI tx (skp tx (p + 1) + 1)).2.1)) := by unfold rdStep; rw [if_pos (show s = 102 ∨ s = 109 by omega), if_pos hin, c_107]
          rw [er]
          dsimp only
          have g57 : px_pa h1 271 52 6 stS jl := pa_fi H2 fx3 (by omega)
          have g58 : px_pa h9 271 52 6 stS jl := pa_fi g57 fx13 (by omega)
          have g59 : px_pa h27 271 52 6 stS jl := pa_fi g58 fx31 (by omega)
          have g60 : px_pa h1 272 52 6 stA jl := pa_fi H3 fx3 (by omega)
          have g61 : px_pa h9 272 52 6 stA jl := pa_fi g60 fx13 (by omega)
          have g62 : px_pa h27 272 52 6 stA jl := pa_fi g61 fx31 (by omega)
          have g63 : px_pa h1 273 50 6 stN jl := pa_fi H4 fx3 (by omega)
          have g64 : px_pa h9 273 50 6 stN jl := pa_fi g63 fx13 (by omega)
          have g65 : px_pa h27 273 50 6 stN jl := pa_fi g64 fx31 (by omega)
          rw [if_neg (by decide), if_neg (by decide), if_neg (show ¬ s = 116 by omega)]
          rw [if_neg (by decide)]
          exact ⟨rfl, ⟨_, _, _, _, g56, trivial⟩, g59, g62, g65, fr32⟩
    · skip
      have c_63 : s = 102 := cv_nne (by omega) (by omega) c_63
      refine e_aload_n f_130_66 rfl rfl ?_
      refine e_bipush (v := nI 60) f_130_67 (by decide) rfl ?_
      refine e_bipush (v := nI 61) f_130_69 (by decide) rfl ?_
      refine e_bipush (v := nI 62) f_130_71 (by decide) rfl ?_
      refine e_bipush (v := nI 62) f_130_73 (by decide) rfl ?_
      obtain ⟨hm67, fa68, fb69⟩ := fj_mid fr4
      have g66 : px_pa h1 270 52 500 vN tx := pa_fi (pa_fi H1 fa68 (by omega)) fb69 (by omega)
      refine e_callV (As := [.int (nI 60), .int (nI 61), .int (nI 62), .int (nI 62)]) (rest := []) f_130_75 rfl rfl rfl (Nat.le_of_ble_eq_true rfl) (Nat.le_of_ble_eq_true rfl) g2 rfl (Nat.le_of_ble_eq_true rfl) (cc_Md_one (a1 := 60) (a2 := 61) (a3 := 62) (a4 := 62) (tx := tx) (sn := sn) (cn := cn) (p := p + 1) (kp := true) (wr := wr) (rd := rd) (rs := rs) (rc := rc) (tm := tm) (ky := ky) (vl := vl) (mo := mo) (gq := gq) (gh := gh) (gw := gw) (gu := gu) (gv := gv) g2 g66 (by omega) (p1) (by decide)) rfl (fun h70 r71 q72 => ?_)
      obtain ⟨rfl, g73, fx74⟩ := q72
      have fr75 : px_fj 269 1 271 3 h h70 := fj_tr fr4 fx74 (by omega)
      show px_to 130 78 [some (.ref (269)), some (.int (nI s)), none, none] [.int (bI (decide (sgn tx (p + 1) ∈ [60, 61, 62, 62])))] h70 _
      refine e_goto f_130_78 ?_
      refine e_istore_n (L' := [some (.ref (269)), some (.int (nI s)), some (.int (bI (decide (sgn tx (p + 1) ∈ [60, 61, 62, 62])))), none]) f_130_93 (Nat.le_of_ble_eq_true rfl) rfl rfl ?_
      refine e_aload_n f_130_94 rfl rfl ?_
      refine e_getf f_130_95 g73 rfl rfl ?_
      show px_to 130 98 [some (.ref (269)), some (.int (nI s)), some (.int (bI (decide (sgn tx (p + 1) ∈ [60, 61, 62, 62])))), none] [.int (if sgn tx (p + 1) ∈ [60, 61, 62, 62] then nI (sgn tx (p + 1)) else rd)] h70 _
      refine e_istore_n (L' := [some (.ref (269)), some (.int (nI s)), some (.int (bI (decide (sgn tx (p + 1) ∈ [60, 61, 62, 62])))), some (.int (if sgn tx (p + 1) ∈ [60, 61, 62, 62] then nI (sgn tx (p + 1)) else rd))]) f_130_98 (Nat.le_of_ble_eq_true rfl) rfl rfl ?_
      refine e_iload_n f_130_99 rfl rfl ?_
      refine e_if_eq f_130_100 rfl (fun c_100 => ?_) (fun c_100 => ?_)
      · skip
        have c_100 : (decide (sgn tx (p + 1) ∈ [60, 61, 62, 62])) = false := bI_f c_100
        have hacm : (sgn tx (p + 1) ∈ [60, 61, 62, 62]) ↔ (sgn tx (p + 1) ∈ actsOf s) := by unfold actsOf; rw [if_pos c_63]; try (simp only [List.mem_cons, List.not_mem_nil, or_false]; try omega)
        have hin : sgn tx (p + 1) ∉ actsOf s := fun z => of_decide_eq_false c_100 (hacm.mpr z)
        have hinl : sgn tx (p + 1) ∉ [60, 61, 62, 62] := of_decide_eq_false c_100
        refine e_iconst (v := nI 0) f_130_110 (by decide) rfl ?_
        refine e_iret f_130_111 rfl (rfl) ?_
        have g76 : h70.2.2 269 = some (12, mB (nI tx.length, sn, cn) (nI (skp tx (p + 1)), true, nI (skp tx (p + 1)), if sgn tx (p + 1) ∈ [60, 61, 62, 62] then nI (sgn tx (p + 1)) else rd, nI rs, nI rc, nI tm, ky, vl, mo) gq gh gw gu gv) := by have z := g73; rw [if_neg hinl, if_neg hinl] at z; exact z
        have er : rdStep tx s (p + 1) = (false, skp tx (p + 1), (s, 0, 0)) := by unfold rdStep; rw [if_pos (show s = 102 ∨ s = 109 by omega), if_neg hin]
        rw [er]
        dsimp only
        have g77 : px_pa h1 271 52 6 stS jl := pa_fi H2 fx3 (by omega)
        have g78 : px_pa h70 271 52 6 stS jl := pa_fi g77 fx74 (by omega)
        have g79 : px_pa h1 272 52 6 stA jl := pa_fi H3 fx3 (by omega)
        have g80 : px_pa h70 272 52 6 stA jl := pa_fi g79 fx74 (by omega)
        have g81 : px_pa h1 273 50 6 stN jl := pa_fi H4 fx3 (by omega)
        have g82 : px_pa h70 273 50 6 stN jl := pa_fi g81 fx74 (by omega)
        rw [if_neg (by decide), if_neg (by decide), if_neg (show ¬ s = 116 by omega)]
        rw [if_neg (by decide)]
        exact ⟨rfl, ⟨_, _, _, _, g76, trivial⟩, g78, g80, g82, fr75⟩
      · skip
        have c_100 : (decide (sgn tx (p + 1) ∈ [60, 61, 62, 62])) = true := bI_t' c_100
        have hacm : (sgn tx (p + 1) ∈ [60, 61, 62, 62]) ↔ (sgn tx (p + 1) ∈ actsOf s) := by unfold actsOf; rw [if_pos c_63]; try (simp only [List.mem_cons, List.not_mem_nil, or_false]; try omega)
        have hin : sgn tx (p + 1) ∈ actsOf s := hacm.mp (of_decide_eq_true c_100)
        have hinl : sgn tx (p + 1) ∈ [60, 61, 62, 62] := of_decide_eq_true c_100
        have hsl2 : skp tx (p + 1) + 1 ≤ tx.length := sgn_next hinl (by decide)
        rw [if_pos hinl]
        have g83 : h70.2.2 269 = some (12, mB (nI tx.length, sn, cn) (nI (skp tx (p + 1) + 1), true, wr, nI (sgn tx (p + 1)), nI rs, nI rc, nI tm, ky, vl, mo) gq gh gw gu gv) := by have z := g73; rw [if_pos hinl, if_pos hinl, if_pos hinl] at z; exact z
        refine e_aload_n f_130_103 rfl rfl ?_
        obtain ⟨hm85, fa86, fb87⟩ := fj_mid fr75
        have g84 : px_pa h70 270 52 500 vN tx := pa_fi (pa_fi H1 fa86 (by omega)) fb87 (by omega)
        refine e_callV (As := []) (rest := []) f_130_104 rfl rfl rfl (Nat.le_of_ble_eq_true rfl) (Nat.le_of_ble_eq_true rfl) g83 rfl (Nat.le_of_ble_eq_true rfl) (cc_Md_whole (tx := tx) (sn := sn) (cn := cn) (p := skp tx (p + 1) + 1) (kp := true) (wr := wr) (rd := nI (sgn tx (p + 1))) (rs := rs) (rc := rc) (tm := tm) (ky := ky) (vl := vl) (mo := mo) (gq := gq) (gh := gh) (gw := gw) (gu := gu) (gv := gv) g83 g84 (hsl2) (p1)) rfl (fun h88 r89 q90 => ?_)
        obtain ⟨rfl, g91, fx92⟩ := q90
        have fr93 : px_fj 269 1 271 3 h h88 := fj_tr fr75 fx92 (by omega)
        show px_to 130 107 [some (.ref (269)), some (.int (nI s)), some (.int (bI (decide (sgn tx (p + 1) ∈ [60, 61, 62, 62])))), some (.int (nI (sgn tx (p + 1))))] [.int (bI ((rdI tx (skp tx (p + 1) + 1)).1))] h88 _
        refine e_if_ne f_130_107 rfl (fun c_107 => ?_) (fun c_107 => ?_)
        · skip
          have c_107 : ((rdI tx (skp tx (p + 1) + 1)).1) = true := bI_t c_107
          have g94 : h88.2.2 269 = some (12, mB (nI tx.length, sn, cn) (nI ((rdI tx (skp tx (p + 1) + 1)).2.2), true, wr, (rdI tx (skp tx (p + 1) + 1)).2.1, nI rs, nI rc, nI tm, ky, vl, mo) gq gh gw gu gv) := by have z := g91; rw [c_107, if_pos rfl, if_pos rfl] at z; exact z
          refine e_aload_n f_130_112 rfl rfl ?_
          refine e_iload_n f_130_113 rfl rfl ?_
          refine e_iload_n f_130_114 rfl rfl ?_
          refine e_aload_n f_130_115 rfl rfl ?_
          refine e_getf f_130_116 g94 rfl rfl ?_
          show px_to 130 119 [some (.ref (269)), some (.int (nI s)), some (.int (bI (decide (sgn tx (p + 1) ∈ [60, 61, 62, 62])))), some (.int (nI (sgn tx (p + 1))))] [.int ((rdI tx (skp tx (p + 1) + 1)).2.1), .int (nI (sgn tx (p + 1))), .int (nI s), .ref (269)] h88 _
          have g95 : px_pa h1 271 52 6 stS jl := pa_fi H2 fx3 (by omega)
          have g96 : px_pa h70 271 52 6 stS jl := pa_fi g95 fx74 (by omega)
          have g97 : px_pa h88 271 52 6 stS jl := pa_fi g96 fx92 (by omega)
          have g98 : px_pa h1 272 52 6 stA jl := pa_fi H3 fx3 (by omega)
          have g99 : px_pa h70 272 52 6 stA jl := pa_fi g98 fx74 (by omega)
          have g100 : px_pa h88 272 52 6 stA jl := pa_fi g99 fx92 (by omega)
          have g101 : px_pa h1 273 50 6 stN jl := pa_fi H4 fx3 (by omega)
          have g102 : px_pa h70 273 50 6 stN jl := pa_fi g101 fx74 (by omega)
          have g103 : px_pa h88 273 50 6 stN jl := pa_fi g102 fx92 (by omega)
          refine e_callV (As := [.int (nI s), .int (nI (sgn tx (p + 1))), .int ((rdI tx (skp tx (p + 1) + 1)).2.1)]) (rest := []) f_130_119 rfl rfl rfl (Nat.le_of_ble_eq_true rfl) (Nat.le_of_ble_eq_true rfl) g94 rfl (Nat.le_of_ble_eq_true rfl) (cc_Md_ks1 (s := s) (ac := sgn tx (p + 1)) (nu := (rdI tx (skp tx (p + 1) + 1)).2.1) (jl := jl) (tx := tx) (sn := sn) (cn := cn) (p := (rdI tx (skp tx (p + 1) + 1)).2.2) (kp := true) (wr := wr) (rd := (rdI tx (skp tx (p + 1) + 1)).2.1) (rs := rs) (rc := rc) (tm := tm) (ky := ky) (vl := vl) (mo := mo) (gq := gq) (gh := gh) (gw := gw) (gu := gu) (gv := gv) g94 g97 g100 g103 (by omega) (by omega) (by omega) (by omega)) rfl (fun h104 r105 q106 => ?_)
          obtain ⟨rfl, g107, g108, g109, g110, fx111⟩ := q106
          obtain ⟨hm112, fa113, fb114⟩ := fj_mid fx111
          have fr115 : px_fj 269 1 271 3 h hm112 := fj_tr fr93 fa113 (by omega)
          have fr116 : px_fj 269 1 271 3 h h104 := fj_tr fr115 fb114 (by omega)
          show px_to 130 122 [some (.ref (269)), some (.int (nI s)), some (.int (bI (decide (sgn tx (p + 1) ∈ [60, 61, 62, 62])))), some (.int (nI (sgn tx (p + 1))))] [] h104 _
          refine e_iconst (v := nI 1) f_130_122 (by decide) rfl ?_
          refine e_iret f_130_123 rfl (rfl) ?_
          have er : rdStep tx s (p + 1) = (true, (rdI tx (skp tx (p + 1) + 1)).2.2, (s, sgn tx (p + 1), (rdI tx (skp tx (p + 1) + 1)).2.1)) := by unfold rdStep; rw [if_pos (show s = 102 ∨ s = 109 by omega), if_pos hin, c_107]
          rw [er]
          dsimp only
          rw [if_pos rfl, if_pos rfl, if_neg (show ¬ s = 116 by omega)]
          rw [if_pos rfl]
          exact ⟨rfl, ⟨_, _, _, _, g107, trivial⟩, g108, g109, g110, fr116⟩
        · skip
          have c_107 : ((rdI tx (skp tx (p + 1) + 1)).1) = false := bI_f' c_107
          refine e_iconst (v := nI 0) f_130_110 (by decide) rfl ?_
          refine e_iret f_130_111 rfl (rfl) ?_
          have g117 : h88.2.2 269 = some (12, mB (nI tx.length, sn, cn) (nI ((rdI tx (skp tx (p + 1) + 1)).2.2), true, nI (rdI tx (skp tx (p + 1) + 1)).2.2, nI (sgn tx (p + 1)), nI rs, nI rc, nI tm, ky, vl, mo) gq gh gw gu gv) := by have z := g91; rw [c_107, if_neg (by decide), if_neg (by decide)] at z; exact z
          have er : rdStep tx s (p + 1) = (false, (rdI tx (skp tx (p + 1) + 1)).2.2, (s, sgn tx (p + 1), (rdI tx (skp tx (p + 1) + 1)).2.1)) := by unfold rdStep; rw [if_pos (show s = 102 ∨ s = 109 by omega), if_pos hin, c_107]
          rw [er]
          dsimp only
          have g118 : px_pa h1 271 52 6 stS jl := pa_fi H2 fx3 (by omega)
          have g119 : px_pa h70 271 52 6 stS jl := pa_fi g118 fx74 (by omega)
          have g120 : px_pa h88 271 52 6 stS jl := pa_fi g119 fx92 (by omega)
          have g121 : px_pa h1 272 52 6 stA jl := pa_fi H3 fx3 (by omega)
          have g122 : px_pa h70 272 52 6 stA jl := pa_fi g121 fx74 (by omega)
          have g123 : px_pa h88 272 52 6 stA jl := pa_fi g122 fx92 (by omega)
          have g124 : px_pa h1 273 50 6 stN jl := pa_fi H4 fx3 (by omega)
          have g125 : px_pa h70 273 50 6 stN jl := pa_fi g124 fx74 (by omega)
          have g126 : px_pa h88 273 50 6 stN jl := pa_fi g125 fx92 (by omega)
          rw [if_neg (by decide), if_neg (by decide), if_neg (show ¬ s = 116 by omega)]
          rw [if_neg (by decide)]
          exact ⟨rfl, ⟨_, _, _, _, g117, trivial⟩, g120, g123, g126, fr93⟩
  · skip
    by_cases c_11_109 : s = 109
    · skip
      refine e_sw_l f_130_11 (t := 60) (by rw [c_11_109]; rfl) ?_
      refine e_iload_n f_130_60 rfl rfl ?_
      refine e_bipush (v := nI 102) f_130_61 (by decide) rfl ?_
      refine e_icmp_ne f_130_63 rfl (fun c_63 => ?_) (fun c_63 => ?_)
      · skip
        have c_63 : s ≠ 102 := cv_ne c_63
        refine e_aload_n f_130_81 rfl rfl ?_
        refine e_bipush (v := nI 43) f_130_82 (by decide) rfl ?_
        refine e_bipush (v := nI 45) f_130_84 (by decide) rfl ?_
        refine e_bipush (v := nI 42) f_130_86 (by decide) rfl ?_
        refine e_bipush (v := nI 47) f_130_88 (by decide) rfl ?_
        obtain ⟨hm128, fa129, fb130⟩ := fj_mid fr4
        have g127 : px_pa h1 270 52 500 vN tx := pa_fi (pa_fi H1 fa129 (by omega)) fb130 (by omega)
        refine e_callV (As := [.int (nI 43), .int (nI 45), .int (nI 42), .int (nI 47)]) (rest := []) f_130_90 rfl rfl rfl (Nat.le_of_ble_eq_true rfl) (Nat.le_of_ble_eq_true rfl) g2 rfl (Nat.le_of_ble_eq_true rfl) (cc_Md_one (a1 := 43) (a2 := 45) (a3 := 42) (a4 := 47) (tx := tx) (sn := sn) (cn := cn) (p := p + 1) (kp := true) (wr := wr) (rd := rd) (rs := rs) (rc := rc) (tm := tm) (ky := ky) (vl := vl) (mo := mo) (gq := gq) (gh := gh) (gw := gw) (gu := gu) (gv := gv) g2 g127 (by omega) (p1) (by decide)) rfl (fun h131 r132 q133 => ?_)
        obtain ⟨rfl, g134, fx135⟩ := q133
        have fr136 : px_fj 269 1 271 3 h h131 := fj_tr fr4 fx135 (by omega)
        show px_to 130 93 [some (.ref (269)), some (.int (nI s)), none, none] [.int (bI (decide (sgn tx (p + 1) ∈ [43, 45, 42, 47])))] h131 _
        refine e_istore_n (L' := [some (.ref (269)), some (.int (nI s)), some (.int (bI (decide (sgn tx (p + 1) ∈ [43, 45, 42, 47])))), none]) f_130_93 (Nat.le_of_ble_eq_true rfl) rfl rfl ?_
        refine e_aload_n f_130_94 rfl rfl ?_
        refine e_getf f_130_95 g134 rfl rfl ?_
        show px_to 130 98 [some (.ref (269)), some (.int (nI s)), some (.int (bI (decide (sgn tx (p + 1) ∈ [43, 45, 42, 47])))), none] [.int (if sgn tx (p + 1) ∈ [43, 45, 42, 47] then nI (sgn tx (p + 1)) else rd)] h131 _
        refine e_istore_n (L' := [some (.ref (269)), some (.int (nI s)), some (.int (bI (decide (sgn tx (p + 1) ∈ [43, 45, 42, 47])))), some (.int (if sgn tx (p + 1) ∈ [43, 45, 42, 47] then nI (sgn tx (p + 1)) else rd))]) f_130_98 (Nat.le_of_ble_eq_true rfl) rfl rfl ?_
        refine e_iload_n f_130_99 rfl rfl ?_
        refine e_if_eq f_130_100 rfl (fun c_100 => ?_) (fun c_100 => ?_)
        · skip
          have c_100 : (decide (sgn tx (p + 1) ∈ [43, 45, 42, 47])) = false := bI_f c_100
          have hacm : (sgn tx (p + 1) ∈ [43, 45, 42, 47]) ↔ (sgn tx (p + 1) ∈ actsOf s) := by unfold actsOf; rw [if_neg c_63]; try (simp only [List.mem_cons, List.not_mem_nil, or_false]; try omega)
          have hin : sgn tx (p + 1) ∉ actsOf s := fun z => of_decide_eq_false c_100 (hacm.mpr z)
          have hinl : sgn tx (p + 1) ∉ [43, 45, 42, 47] := of_decide_eq_false c_100
          refine e_iconst (v := nI 0) f_130_110 (by decide) rfl ?_
          refine e_iret f_130_111 rfl (rfl) ?_
          have g137 : h131.2.2 269 = some (12, mB (nI tx.length, sn, cn) (nI (skp tx (p + 1)), true, nI (skp tx (p + 1)), if sgn tx (p + 1) ∈ [43, 45, 42, 47] then nI (sgn tx (p + 1)) else rd, nI rs, nI rc, nI tm, ky, vl, mo) gq gh gw gu gv) := by have z := g134; rw [if_neg hinl, if_neg hinl] at z; exact z
          have er : rdStep tx s (p + 1) = (false, skp tx (p + 1), (s, 0, 0)) := by unfold rdStep; rw [if_pos (show s = 102 ∨ s = 109 by omega), if_neg hin]
          rw [er]
          dsimp only
          have g138 : px_pa h1 271 52 6 stS jl := pa_fi H2 fx3 (by omega)
          have g139 : px_pa h131 271 52 6 stS jl := pa_fi g138 fx135 (by omega)
          have g140 : px_pa h1 272 52 6 stA jl := pa_fi H3 fx3 (by omega)
          have g141 : px_pa h131 272 52 6 stA jl := pa_fi g140 fx135 (by omega)
          have g142 : px_pa h1 273 50 6 stN jl := pa_fi H4 fx3 (by omega)
          have g143 : px_pa h131 273 50 6 stN jl := pa_fi g142 fx135 (by omega)
          rw [if_neg (by decide), if_neg (by decide), if_neg (show ¬ s = 116 by omega)]
          rw [if_neg (by decide)]
          exact ⟨rfl, ⟨_, _, _, _, g137, trivial⟩, g139, g141, g143, fr136⟩
        · skip
          have c_100 : (decide (sgn tx (p + 1) ∈ [43, 45, 42, 47])) = true := bI_t' c_100
          have hacm : (sgn tx (p + 1) ∈ [43, 45, 42, 47]) ↔ (sgn tx (p + 1) ∈ actsOf s) := by unfold actsOf; rw [if_neg c_63]; try (simp only [List.mem_cons, List.not_mem_nil, or_false]; try omega)
          have hin : sgn tx (p + 1) ∈ actsOf s := hacm.mp (of_decide_eq_true c_100)
          have hinl : sgn tx (p + 1) ∈ [43, 45, 42, 47] := of_decide_eq_true c_100
          have hsl2 : skp tx (p + 1) + 1 ≤ tx.length := sgn_next hinl (by decide)
          rw [if_pos hinl]
          have g144 : h131.2.2 269 = some (12, mB (nI tx.length, sn, cn) (nI (skp tx (p + 1) + 1), true, wr, nI (sgn tx (p + 1)), nI rs, nI rc, nI tm, ky, vl, mo) gq gh gw gu gv) := by have z := g134; rw [if_pos hinl, if_pos hinl, if_pos hinl] at z; exact z
          refine e_aload_n f_130_103 rfl rfl ?_
          obtain ⟨hm146, fa147, fb148⟩ := fj_mid fr136
          have g145 : px_pa h131 270 52 500 vN tx := pa_fi (pa_fi H1 fa147 (by omega)) fb148 (by omega)
          refine e_callV (As := []) (rest := []) f_130_104 rfl rfl rfl (Nat.le_of_ble_eq_true rfl) (Nat.le_of_ble_eq_true rfl) g144 rfl (Nat.le_of_ble_eq_true rfl) (cc_Md_whole (tx := tx) (sn := sn) (cn := cn) (p := skp tx (p + 1) + 1) (kp := true) (wr := wr) (rd := nI (sgn tx (p + 1))) (rs := rs) (rc := rc) (tm := tm) (ky := ky) (vl := vl) (mo := mo) (gq := gq) (gh := gh) (gw := gw) (gu := gu) (gv := gv) g144 g145 (hsl2) (p1)) rfl (fun h149 r150 q151 => ?_)
          obtain ⟨rfl, g152, fx153⟩ := q151
          have fr154 : px_fj 269 1 271 3 h h149 := fj_tr fr136 fx153 (by omega)
          show px_to 130 107 [some (.ref (269)), some (.int (nI s)), some (.int (bI (decide (sgn tx (p + 1) ∈ [43, 45, 42, 47])))), some (.int (nI (sgn tx (p + 1))))] [.int (bI ((rdI tx (skp tx (p + 1) + 1)).1))] h149 _
          refine e_if_ne f_130_107 rfl (fun c_107 => ?_) (fun c_107 => ?_)
          · skip
            have c_107 : ((rdI tx (skp tx (p + 1) + 1)).1) = true := bI_t c_107
            have g155 : h149.2.2 269 = some (12, mB (nI tx.length, sn, cn) (nI ((rdI tx (skp tx (p + 1) + 1)).2.2), true, wr, (rdI tx (skp tx (p + 1) + 1)).2.1, nI rs, nI rc, nI tm, ky, vl, mo) gq gh gw gu gv) := by have z := g152; rw [c_107, if_pos rfl, if_pos rfl] at z; exact z
            refine e_aload_n f_130_112 rfl rfl ?_
            refine e_iload_n f_130_113 rfl rfl ?_
            refine e_iload_n f_130_114 rfl rfl ?_
            refine e_aload_n f_130_115 rfl rfl ?_
            refine e_getf f_130_116 g155 rfl rfl ?_
            show px_to 130 119 [some (.ref (269)), some (.int (nI s)), some (.int (bI (decide (sgn tx (p + 1) ∈ [43, 45, 42, 47])))), some (.int (nI (sgn tx (p + 1))))] [.int ((rdI tx (skp tx (p + 1) + 1)).2.1), .int (nI (sgn tx (p + 1))), .int (nI s), .ref (269)] h149 _
            have g156 : px_pa h1 271 52 6 stS jl := pa_fi H2 fx3 (by omega)
            have g157 : px_pa h131 271 52 6 stS jl := pa_fi g156 fx135 (by omega)
            have g158 : px_pa h149 271 52 6 stS jl := pa_fi g157 fx153 (by omega)
            have g159 : px_pa h1 272 52 6 stA jl := pa_fi H3 fx3 (by omega)
            have g160 : px_pa h131 272 52 6 stA jl := pa_fi g159 fx135 (by omega)
            have g161 : px_pa h149 272 52 6 stA jl := pa_fi g160 fx153 (by omega)
            have g162 : px_pa h1 273 50 6 stN jl := pa_fi H4 fx3 (by omega)
            have g163 : px_pa h131 273 50 6 stN jl := pa_fi g162 fx135 (by omega)
            have g164 : px_pa h149 273 50 6 stN jl := pa_fi g163 fx153 (by omega)
            refine e_callV (As := [.int (nI s), .int (nI (sgn tx (p + 1))), .int ((rdI tx (skp tx (p + 1) + 1)).2.1)]) (rest := []) f_130_119 rfl rfl rfl (Nat.le_of_ble_eq_true rfl) (Nat.le_of_ble_eq_true rfl) g155 rfl (Nat.le_of_ble_eq_true rfl) (cc_Md_ks1 (s := s) (ac := sgn tx (p + 1)) (nu := (rdI tx (skp tx (p + 1) + 1)).2.1) (jl := jl) (tx := tx) (sn := sn) (cn := cn) (p := (rdI tx (skp tx (p + 1) + 1)).2.2) (kp := true) (wr := wr) (rd := (rdI tx (skp tx (p + 1) + 1)).2.1) (rs := rs) (rc := rc) (tm := tm) (ky := ky) (vl := vl) (mo := mo) (gq := gq) (gh := gh) (gw := gw) (gu := gu) (gv := gv) g155 g158 g161 g164 (by omega) (by omega) (by omega) (by omega)) rfl (fun h165 r166 q167 => ?_)
            obtain ⟨rfl, g168, g169, g170, g171, fx172⟩ := q167
            obtain ⟨hm173, fa174, fb175⟩ := fj_mid fx172
            have fr176 : px_fj 269 1 271 3 h hm173 := fj_tr fr154 fa174 (by omega)
            have fr177 : px_fj 269 1 271 3 h h165 := fj_tr fr176 fb175 (by omega)
            show px_to 130 122 [some (.ref (269)), some (.int (nI s)), some (.int (bI (decide (sgn tx (p + 1) ∈ [43, 45, 42, 47])))), some (.int (nI (sgn tx (p + 1))))] [] h165 _
            refine e_iconst (v := nI 1) f_130_122 (by decide) rfl ?_
            refine e_iret f_130_123 rfl (rfl) ?_
            have er : rdStep tx s (p + 1) = (true, (rdI tx (skp tx (p + 1) + 1)).2.2, (s, sgn tx (p + 1), (rdI tx (skp tx (p + 1) + 1)).2.1)) := by unfold rdStep; rw [if_pos (show s = 102 ∨ s = 109 by omega), if_pos hin, c_107]
            rw [er]
            dsimp only
            rw [if_pos rfl, if_pos rfl, if_neg (show ¬ s = 116 by omega)]
            rw [if_pos rfl]
            exact ⟨rfl, ⟨_, _, _, _, g168, trivial⟩, g169, g170, g171, fr177⟩
          · skip
            have c_107 : ((rdI tx (skp tx (p + 1) + 1)).1) = false := bI_f' c_107
            refine e_iconst (v := nI 0) f_130_110 (by decide) rfl ?_
            refine e_iret f_130_111 rfl (rfl) ?_
            have g178 : h149.2.2 269 = some (12, mB (nI tx.length, sn, cn) (nI ((rdI tx (skp tx (p + 1) + 1)).2.2), true, nI (rdI tx (skp tx (p + 1) + 1)).2.2, nI (sgn tx (p + 1)), nI rs, nI rc, nI tm, ky, vl, mo) gq gh gw gu gv) := by have z := g152; rw [c_107, if_neg (by decide), if_neg (by decide)] at z; exact z
            have er : rdStep tx s (p + 1) = (false, (rdI tx (skp tx (p + 1) + 1)).2.2, (s, sgn tx (p + 1), (rdI tx (skp tx (p + 1) + 1)).2.1)) := by unfold rdStep; rw [if_pos (show s = 102 ∨ s = 109 by omega), if_pos hin, c_107]
            rw [er]
            dsimp only
            have g179 : px_pa h1 271 52 6 stS jl := pa_fi H2 fx3 (by omega)
            have g180 : px_pa h131 271 52 6 stS jl := pa_fi g179 fx135 (by omega)
            have g181 : px_pa h149 271 52 6 stS jl := pa_fi g180 fx153 (by omega)
            have g182 : px_pa h1 272 52 6 stA jl := pa_fi H3 fx3 (by omega)
            have g183 : px_pa h131 272 52 6 stA jl := pa_fi g182 fx135 (by omega)
            have g184 : px_pa h149 272 52 6 stA jl := pa_fi g183 fx153 (by omega)
            have g185 : px_pa h1 273 50 6 stN jl := pa_fi H4 fx3 (by omega)
            have g186 : px_pa h131 273 50 6 stN jl := pa_fi g185 fx135 (by omega)
            have g187 : px_pa h149 273 50 6 stN jl := pa_fi g186 fx153 (by omega)
            rw [if_neg (by decide), if_neg (by decide), if_neg (show ¬ s = 116 by omega)]
            rw [if_neg (by decide)]
            exact ⟨rfl, ⟨_, _, _, _, g178, trivial⟩, g181, g184, g187, fr154⟩
      · skip
        have c_63 : s = 102 := cv_nne (by omega) (by omega) c_63
        refine e_aload_n f_130_66 rfl rfl ?_
        refine e_bipush (v := nI 60) f_130_67 (by decide) rfl ?_
        refine e_bipush (v := nI 61) f_130_69 (by decide) rfl ?_
        refine e_bipush (v := nI 62) f_130_71 (by decide) rfl ?_
        refine e_bipush (v := nI 62) f_130_73 (by decide) rfl ?_
        obtain ⟨hm189, fa190, fb191⟩ := fj_mid fr4
        have g188 : px_pa h1 270 52 500 vN tx := pa_fi (pa_fi H1 fa190 (by omega)) fb191 (by omega)
        refine e_callV (As := [.int (nI 60), .int (nI 61), .int (nI 62), .int (nI 62)]) (rest := []) f_130_75 rfl rfl rfl (Nat.le_of_ble_eq_true rfl) (Nat.le_of_ble_eq_true rfl) g2 rfl (Nat.le_of_ble_eq_true rfl) (cc_Md_one (a1 := 60) (a2 := 61) (a3 := 62) (a4 := 62) (tx := tx) (sn := sn) (cn := cn) (p := p + 1) (kp := true) (wr := wr) (rd := rd) (rs := rs) (rc := rc) (tm := tm) (ky := ky) (vl := vl) (mo := mo) (gq := gq) (gh := gh) (gw := gw) (gu := gu) (gv := gv) g2 g188 (by omega) (p1) (by decide)) rfl (fun h192 r193 q194 => ?_)
        obtain ⟨rfl, g195, fx196⟩ := q194
        have fr197 : px_fj 269 1 271 3 h h192 := fj_tr fr4 fx196 (by omega)
        show px_to 130 78 [some (.ref (269)), some (.int (nI s)), none, none] [.int (bI (decide (sgn tx (p + 1) ∈ [60, 61, 62, 62])))] h192 _
        refine e_goto f_130_78 ?_
        refine e_istore_n (L' := [some (.ref (269)), some (.int (nI s)), some (.int (bI (decide (sgn tx (p + 1) ∈ [60, 61, 62, 62])))), none]) f_130_93 (Nat.le_of_ble_eq_true rfl) rfl rfl ?_
        refine e_aload_n f_130_94 rfl rfl ?_
        refine e_getf f_130_95 g195 rfl rfl ?_
        show px_to 130 98 [some (.ref (269)), some (.int (nI s)), some (.int (bI (decide (sgn tx (p + 1) ∈ [60, 61, 62, 62])))), none] [.int (if sgn tx (p + 1) ∈ [60, 61, 62, 62] then nI (sgn tx (p + 1)) else rd)] h192 _
        refine e_istore_n (L' := [some (.ref (269)), some (.int (nI s)), some (.int (bI (decide (sgn tx (p + 1) ∈ [60, 61, 62, 62])))), some (.int (if sgn tx (p + 1) ∈ [60, 61, 62, 62] then nI (sgn tx (p + 1)) else rd))]) f_130_98 (Nat.le_of_ble_eq_true rfl) rfl rfl ?_
        refine e_iload_n f_130_99 rfl rfl ?_
        refine e_if_eq f_130_100 rfl (fun c_100 => ?_) (fun c_100 => ?_)
        · skip
          have c_100 : (decide (sgn tx (p + 1) ∈ [60, 61, 62, 62])) = false := bI_f c_100
          have hacm : (sgn tx (p + 1) ∈ [60, 61, 62, 62]) ↔ (sgn tx (p + 1) ∈ actsOf s) := by unfold actsOf; rw [if_pos c_63]; try (simp only [List.mem_cons, List.not_mem_nil, or_false]; try omega)
          have hin : sgn tx (p + 1) ∉ actsOf s := fun z => of_decide_eq_false c_100 (hacm.mpr z)
          have hinl : sgn tx (p + 1) ∉ [60, 61, 62, 62] := of_decide_eq_false c_100
          refine e_iconst (v := nI 0) f_130_110 (by decide) rfl ?_
          refine e_iret f_130_111 rfl (rfl) ?_
          have g198 : h192.2.2 269 = some (12, mB (nI tx.length, sn, cn) (nI (skp tx (p + 1)), true, nI (skp tx (p + 1)), if sgn tx (p + 1) ∈ [60, 61, 62, 62] then nI (sgn tx (p + 1)) else rd, nI rs, nI rc, nI tm, ky, vl, mo) gq gh gw gu gv) := by have z := g195; rw [if_neg hinl, if_neg hinl] at z; exact z
          have er : rdStep tx s (p + 1) = (false, skp tx (p + 1), (s, 0, 0)) := by unfold rdStep; rw [if_pos (show s = 102 ∨ s = 109 by omega), if_neg hin]
          rw [er]
          dsimp only
          have g199 : px_pa h1 271 52 6 stS jl := pa_fi H2 fx3 (by omega)
          have g200 : px_pa h192 271 52 6 stS jl := pa_fi g199 fx196 (by omega)
          have g201 : px_pa h1 272 52 6 stA jl := pa_fi H3 fx3 (by omega)
          have g202 : px_pa h192 272 52 6 stA jl := pa_fi g201 fx196 (by omega)
          have g203 : px_pa h1 273 50 6 stN jl := pa_fi H4 fx3 (by omega)
          have g204 : px_pa h192 273 50 6 stN jl := pa_fi g203 fx196 (by omega)
          rw [if_neg (by decide), if_neg (by decide), if_neg (show ¬ s = 116 by omega)]
          rw [if_neg (by decide)]
          exact ⟨rfl, ⟨_, _, _, _, g198, trivial⟩, g200, g202, g204, fr197⟩
        · skip
          have c_100 : (decide (sgn tx (p + 1) ∈ [60, 61, 62, 62])) = true := bI_t' c_100
          have hacm : (sgn tx (p + 1) ∈ [60, 61, 62, 62]) ↔ (sgn tx (p + 1) ∈ actsOf s) := by unfold actsOf; rw [if_pos c_63]; try (simp only [List.mem_cons, List.not_mem_nil, or_false]; try omega)
          have hin : sgn tx (p + 1) ∈ actsOf s := hacm.mp (of_decide_eq_true c_100)
          have hinl : sgn tx (p + 1) ∈ [60, 61, 62, 62] := of_decide_eq_true c_100
          have hsl2 : skp tx (p + 1) + 1 ≤ tx.length := sgn_next hinl (by decide)
          rw [if_pos hinl]
          have g205 : h192.2.2 269 = some (12, mB (nI tx.length, sn, cn) (nI (skp tx (p + 1) + 1), true, wr, nI (sgn tx (p + 1)), nI rs, nI rc, nI tm, ky, vl, mo) gq gh gw gu gv) := by have z := g195; rw [if_pos hinl, if_pos hinl, if_pos hinl] at z; exact z
          refine e_aload_n f_130_103 rfl rfl ?_
          obtain ⟨hm207, fa208, fb209⟩ := fj_mid fr197
          have g206 : px_pa h192 270 52 500 vN tx := pa_fi (pa_fi H1 fa208 (by omega)) fb209 (by omega)
          refine e_callV (As := []) (rest := []) f_130_104 rfl rfl rfl (Nat.le_of_ble_eq_true rfl) (Nat.le_of_ble_eq_true rfl) g205 rfl (Nat.le_of_ble_eq_true rfl) (cc_Md_whole (tx := tx) (sn := sn) (cn := cn) (p := skp tx (p + 1) + 1) (kp := true) (wr := wr) (rd := nI (sgn tx (p + 1))) (rs := rs) (rc := rc) (tm := tm) (ky := ky) (vl := vl) (mo := mo) (gq := gq) (gh := gh) (gw := gw) (gu := gu) (gv := gv) g205 g206 (hsl2) (p1)) rfl (fun h210 r211 q212 => ?_)
          obtain ⟨rfl, g213, fx214⟩ := q212
          have fr215 : px_fj 269 1 271 3 h h210 := fj_tr fr197 fx214 (by omega)
          show px_to 130 107 [some (.ref (269)), some (.int (nI s)), some (.int (bI (decide (sgn tx (p + 1) ∈ [60, 61, 62, 62])))), some (.int (nI (sgn tx (p + 1))))] [.int (bI ((rdI tx (skp tx (p + 1) + 1)).1))] h210 _
          refine e_if_ne f_130_107 rfl (fun c_107 => ?_) (fun c_107 => ?_)
          · skip
            have c_107 : ((rdI tx (skp tx (p + 1) + 1)).1) = true := bI_t c_107
            have g216 : h210.2.2 269 = some (12, mB (nI tx.length, sn, cn) (nI ((rdI tx (skp tx (p + 1) + 1)).2.2), true, wr, (rdI tx (skp tx (p + 1) + 1)).2.1, nI rs, nI rc, nI tm, ky, vl, mo) gq gh gw gu gv) := by have z := g213; rw [c_107, if_pos rfl, if_pos rfl] at z; exact z
            refine e_aload_n f_130_112 rfl rfl ?_
            refine e_iload_n f_130_113 rfl rfl ?_
            refine e_iload_n f_130_114 rfl rfl ?_
            refine e_aload_n f_130_115 rfl rfl ?_
            refine e_getf f_130_116 g216 rfl rfl ?_
            show px_to 130 119 [some (.ref (269)), some (.int (nI s)), some (.int (bI (decide (sgn tx (p + 1) ∈ [60, 61, 62, 62])))), some (.int (nI (sgn tx (p + 1))))] [.int ((rdI tx (skp tx (p + 1) + 1)).2.1), .int (nI (sgn tx (p + 1))), .int (nI s), .ref (269)] h210 _
            have g217 : px_pa h1 271 52 6 stS jl := pa_fi H2 fx3 (by omega)
            have g218 : px_pa h192 271 52 6 stS jl := pa_fi g217 fx196 (by omega)
            have g219 : px_pa h210 271 52 6 stS jl := pa_fi g218 fx214 (by omega)
            have g220 : px_pa h1 272 52 6 stA jl := pa_fi H3 fx3 (by omega)
            have g221 : px_pa h192 272 52 6 stA jl := pa_fi g220 fx196 (by omega)
            have g222 : px_pa h210 272 52 6 stA jl := pa_fi g221 fx214 (by omega)
            have g223 : px_pa h1 273 50 6 stN jl := pa_fi H4 fx3 (by omega)
            have g224 : px_pa h192 273 50 6 stN jl := pa_fi g223 fx196 (by omega)
            have g225 : px_pa h210 273 50 6 stN jl := pa_fi g224 fx214 (by omega)
            refine e_callV (As := [.int (nI s), .int (nI (sgn tx (p + 1))), .int ((rdI tx (skp tx (p + 1) + 1)).2.1)]) (rest := []) f_130_119 rfl rfl rfl (Nat.le_of_ble_eq_true rfl) (Nat.le_of_ble_eq_true rfl) g216 rfl (Nat.le_of_ble_eq_true rfl) (cc_Md_ks1 (s := s) (ac := sgn tx (p + 1)) (nu := (rdI tx (skp tx (p + 1) + 1)).2.1) (jl := jl) (tx := tx) (sn := sn) (cn := cn) (p := (rdI tx (skp tx (p + 1) + 1)).2.2) (kp := true) (wr := wr) (rd := (rdI tx (skp tx (p + 1) + 1)).2.1) (rs := rs) (rc := rc) (tm := tm) (ky := ky) (vl := vl) (mo := mo) (gq := gq) (gh := gh) (gw := gw) (gu := gu) (gv := gv) g216 g219 g222 g225 (by omega) (by omega) (by omega) (by omega)) rfl (fun h226 r227 q228 => ?_)
            obtain ⟨rfl, g229, g230, g231, g232, fx233⟩ := q228
            obtain ⟨hm234, fa235, fb236⟩ := fj_mid fx233
            have fr237 : px_fj 269 1 271 3 h hm234 := fj_tr fr215 fa235 (by omega)
            have fr238 : px_fj 269 1 271 3 h h226 := fj_tr fr237 fb236 (by omega)
            show px_to 130 122 [some (.ref (269)), some (.int (nI s)), some (.int (bI (decide (sgn tx (p + 1) ∈ [60, 61, 62, 62])))), some (.int (nI (sgn tx (p + 1))))] [] h226 _
            refine e_iconst (v := nI 1) f_130_122 (by decide) rfl ?_
            refine e_iret f_130_123 rfl (rfl) ?_
            have er : rdStep tx s (p + 1) = (true, (rdI tx (skp tx (p + 1) + 1)).2.2, (s, sgn tx (p + 1), (rdI tx (skp tx (p + 1) + 1)).2.1)) := by unfold rdStep; rw [if_pos (show s = 102 ∨ s = 109 by omega), if_pos hin, c_107]
            rw [er]
            dsimp only
            rw [if_pos rfl, if_pos rfl, if_neg (show ¬ s = 116 by omega)]
            rw [if_pos rfl]
            exact ⟨rfl, ⟨_, _, _, _, g229, trivial⟩, g230, g231, g232, fr238⟩
          · skip
            have c_107 : ((rdI tx (skp tx (p + 1) + 1)).1) = false := bI_f' c_107
            refine e_iconst (v := nI 0) f_130_110 (by decide) rfl ?_
            refine e_iret f_130_111 rfl (rfl) ?_
            have g239 : h210.2.2 269 = some (12, mB (nI tx.length, sn, cn) (nI ((rdI tx (skp tx (p + 1) + 1)).2.2), true, nI (rdI tx (skp tx (p + 1) + 1)).2.2, nI (sgn tx (p + 1)), nI rs, nI rc, nI tm, ky, vl, mo) gq gh gw gu gv) := by have z := g213; rw [c_107, if_neg (by decide), if_neg (by decide)] at z; exact z
            have er : rdStep tx s (p + 1) = (false, (rdI tx (skp tx (p + 1) + 1)).2.2, (s, sgn tx (p + 1), (rdI tx (skp tx (p + 1) + 1)).2.1)) := by unfold rdStep; rw [if_pos (show s = 102 ∨ s = 109 by omega), if_pos hin, c_107]
            rw [er]
            dsimp only
            have g240 : px_pa h1 271 52 6 stS jl := pa_fi H2 fx3 (by omega)
            have g241 : px_pa h192 271 52 6 stS jl := pa_fi g240 fx196 (by omega)
            have g242 : px_pa h210 271 52 6 stS jl := pa_fi g241 fx214 (by omega)
            have g243 : px_pa h1 272 52 6 stA jl := pa_fi H3 fx3 (by omega)
            have g244 : px_pa h192 272 52 6 stA jl := pa_fi g243 fx196 (by omega)
            have g245 : px_pa h210 272 52 6 stA jl := pa_fi g244 fx214 (by omega)
            have g246 : px_pa h1 273 50 6 stN jl := pa_fi H4 fx3 (by omega)
            have g247 : px_pa h192 273 50 6 stN jl := pa_fi g246 fx196 (by omega)
            have g248 : px_pa h210 273 50 6 stN jl := pa_fi g247 fx214 (by omega)
            rw [if_neg (by decide), if_neg (by decide), if_neg (show ¬ s = 116 by omega)]
            rw [if_neg (by decide)]
            exact ⟨rfl, ⟨_, _, _, _, g239, trivial⟩, g242, g245, g248, fr215⟩
    · skip
      by_cases c_11_113 : s = 113
      · skip
        refine e_sw_l f_130_11 (t := 124) (by rw [c_11_113]; rfl) ?_
        refine e_aload_n f_130_124 rfl rfl ?_
        obtain ⟨hm250, fa251, fb252⟩ := fj_mid fr4
        have g249 : px_pa h1 270 52 500 vN tx := pa_fi (pa_fi H1 fa251 (by omega)) fb252 (by omega)
        refine e_callV (As := []) (rest := []) f_130_125 rfl rfl rfl (Nat.le_of_ble_eq_true rfl) (Nat.le_of_ble_eq_true rfl) g2 rfl (Nat.le_of_ble_eq_true rfl) (cc_Md_whole (tx := tx) (sn := sn) (cn := cn) (p := p + 1) (kp := true) (wr := wr) (rd := rd) (rs := rs) (rc := rc) (tm := tm) (ky := ky) (vl := vl) (mo := mo) (gq := gq) (gh := gh) (gw := gw) (gu := gu) (gv := gv) g2 g249 (by omega) (p1)) rfl (fun h253 r254 q255 => ?_)
        obtain ⟨rfl, g256, fx257⟩ := q255
        have fr258 : px_fj 269 1 271 3 h h253 := fj_tr fr4 fx257 (by omega)
        show px_to 130 128 [some (.ref (269)), some (.int (nI s)), none, none] [.int (bI ((rdI tx (p + 1)).1))] h253 _
        refine e_if_ne f_130_128 rfl (fun c_128 => ?_) (fun c_128 => ?_)
        · skip
          have c_128 : ((rdI tx (p + 1)).1) = true := bI_t c_128
          have g259 : h253.2.2 269 = some (12, mB (nI tx.length, sn, cn) (nI ((rdI tx (p + 1)).2.2), true, wr, (rdI tx (p + 1)).2.1, nI rs, nI rc, nI tm, ky, vl, mo) gq gh gw gu gv) := by have z := g256; rw [c_128, if_pos rfl, if_pos rfl] at z; exact z
          refine e_aload_n f_130_133 rfl rfl ?_
          refine e_iload_n f_130_134 rfl rfl ?_
          refine e_iconst (v := nI 0) f_130_135 (by decide) rfl ?_
          refine e_aload_n f_130_136 rfl rfl ?_
          refine e_getf f_130_137 g259 rfl rfl ?_
          show px_to 130 140 [some (.ref (269)), some (.int (nI s)), none, none] [.int ((rdI tx (p + 1)).2.1), .int (nI 0), .int (nI s), .ref (269)] h253 _
          have g260 : px_pa h1 271 52 6 stS jl := pa_fi H2 fx3 (by omega)
          have g261 : px_pa h253 271 52 6 stS jl := pa_fi g260 fx257 (by omega)
          have g262 : px_pa h1 272 52 6 stA jl := pa_fi H3 fx3 (by omega)
          have g263 : px_pa h253 272 52 6 stA jl := pa_fi g262 fx257 (by omega)
          have g264 : px_pa h1 273 50 6 stN jl := pa_fi H4 fx3 (by omega)
          have g265 : px_pa h253 273 50 6 stN jl := pa_fi g264 fx257 (by omega)
          refine e_callV (As := [.int (nI s), .int (nI 0), .int ((rdI tx (p + 1)).2.1)]) (rest := []) f_130_140 rfl rfl rfl (Nat.le_of_ble_eq_true rfl) (Nat.le_of_ble_eq_true rfl) g259 rfl (Nat.le_of_ble_eq_true rfl) (cc_Md_ks1 (s := s) (ac := 0) (nu := (rdI tx (p + 1)).2.1) (jl := jl) (tx := tx) (sn := sn) (cn := cn) (p := (rdI tx (p + 1)).2.2) (kp := true) (wr := wr) (rd := (rdI tx (p + 1)).2.1) (rs := rs) (rc := rc) (tm := tm) (ky := ky) (vl := vl) (mo := mo) (gq := gq) (gh := gh) (gw := gw) (gu := gu) (gv := gv) g259 g261 g263 g265 (by omega) (by omega) (by omega) (by omega)) rfl (fun h266 r267 q268 => ?_)
          obtain ⟨rfl, g269, g270, g271, g272, fx273⟩ := q268
          obtain ⟨hm274, fa275, fb276⟩ := fj_mid fx273
          have fr277 : px_fj 269 1 271 3 h hm274 := fj_tr fr258 fa275 (by omega)
          have fr278 : px_fj 269 1 271 3 h h266 := fj_tr fr277 fb276 (by omega)
          show px_to 130 143 [some (.ref (269)), some (.int (nI s)), none, none] [] h266 _
          refine e_iconst (v := nI 1) f_130_143 (by decide) rfl ?_
          refine e_iret f_130_144 rfl (rfl) ?_
          have er : rdStep tx s (p + 1) = (true, (rdI tx (p + 1)).2.2, (s, 0, (rdI tx (p + 1)).2.1)) := by unfold rdStep; rw [if_neg (show ¬ (s = 102 ∨ s = 109) by omega), if_neg (show ¬ (s = 119 ∨ s = 116) by omega), if_neg (show ¬ (s = 100 ∨ s = 115) by omega), c_128]
          rw [er]
          dsimp only
          rw [if_pos rfl, if_pos rfl, if_neg (show ¬ s = 116 by omega)]
          rw [if_pos rfl]
          exact ⟨rfl, ⟨_, _, _, _, g269, trivial⟩, g270, g271, g272, fr278⟩
        · skip
          have c_128 : ((rdI tx (p + 1)).1) = false := bI_f' c_128
          refine e_iconst (v := nI 0) f_130_131 (by decide) rfl ?_
          refine e_iret f_130_132 rfl (rfl) ?_
          have g279 : h253.2.2 269 = some (12, mB (nI tx.length, sn, cn) (nI ((rdI tx (p + 1)).2.2), true, nI (rdI tx (p + 1)).2.2, rd, nI rs, nI rc, nI tm, ky, vl, mo) gq gh gw gu gv) := by have z := g256; rw [c_128, if_neg (by decide), if_neg (by decide)] at z; exact z
          have er : rdStep tx s (p + 1) = (false, (rdI tx (p + 1)).2.2, (s, 0, (rdI tx (p + 1)).2.1)) := by unfold rdStep; rw [if_neg (show ¬ (s = 102 ∨ s = 109) by omega), if_neg (show ¬ (s = 119 ∨ s = 116) by omega), if_neg (show ¬ (s = 100 ∨ s = 115) by omega), c_128]
          rw [er]
          dsimp only
          have g280 : px_pa h1 271 52 6 stS jl := pa_fi H2 fx3 (by omega)
          have g281 : px_pa h253 271 52 6 stS jl := pa_fi g280 fx257 (by omega)
          have g282 : px_pa h1 272 52 6 stA jl := pa_fi H3 fx3 (by omega)
          have g283 : px_pa h253 272 52 6 stA jl := pa_fi g282 fx257 (by omega)
          have g284 : px_pa h1 273 50 6 stN jl := pa_fi H4 fx3 (by omega)
          have g285 : px_pa h253 273 50 6 stN jl := pa_fi g284 fx257 (by omega)
          rw [if_neg (by decide), if_neg (by decide), if_neg (show ¬ s = 116 by omega)]
          rw [if_neg (by decide)]
          exact ⟨rfl, ⟨_, _, _, _, g279, trivial⟩, g281, g283, g285, fr258⟩
      · skip
        by_cases c_11_116 : s = 116
        · skip
          refine e_sw_l f_130_11 (t := 145) (by rw [c_11_116]; rfl) ?_
          refine e_aload_n f_130_145 rfl rfl ?_
          refine e_iload_n f_130_146 rfl rfl ?_
          refine e_bipush (v := nI 116) f_130_147 (by decide) rfl ?_
          refine e_icmp_ne f_130_149 rfl (fun c_149 => ?_) (fun c_149 => ?_)
          · skip
            have c_149 : s ≠ 116 := cv_ne c_149
            refine e_aload_n f_130_161 rfl rfl ?_
            refine e_getf f_130_162 g2 rfl rfl ?_
            show px_to 130 165 [some (.ref (269)), some (.int (nI s)), none, none] [.int (nI tm), .ref (269)] h1 _
            refine e_putp (vs' := mB (nI tx.length, sn, cn) (nI (p + 1), true, wr, rd, nI rs, nI rc, nI tm, ky, vl, mo) gq gh gw gu gv) f_130_165 g2 (Nat.le_of_ble_eq_true rfl) (rfl) (rfl) rfl rfl (fun h286 g287 fx288 => ?_)
            have fr289 : px_fj 269 1 271 3 h h286 := fj_tr fr4 fx288 (by omega)
            refine e_aload_n f_130_168 rfl rfl ?_
            obtain ⟨hm291, fa292, fb293⟩ := fj_mid fr289
            have g290 : px_pa h286 270 52 500 vN tx := pa_fi (pa_fi H1 fa292 (by omega)) fb293 (by omega)
            refine e_callV (As := []) (rest := []) f_130_169 rfl rfl rfl (Nat.le_of_ble_eq_true rfl) (Nat.le_of_ble_eq_true rfl) g287 rfl (Nat.le_of_ble_eq_true rfl) (cc_Md_nat (tx := tx) (sn := sn) (cn := cn) (p := p + 1) (kp := true) (wr := wr) (rd := rd) (rs := rs) (rc := rc) (tm := tm) (ky := ky) (vl := vl) (mo := mo) (gq := gq) (gh := gh) (gw := gw) (gu := gu) (gv := gv) g287 g290 (by omega) (p1)) rfl (fun h294 r295 q296 => ?_)
            obtain ⟨rfl, g297, fx298⟩ := q296
            have fr299 : px_fj 269 1 271 3 h h294 := fj_tr fr289 fx298 (by omega)
            show px_to 130 172 [some (.ref (269)), some (.int (nI s)), none, none] [.int (bI ((rdT tx (p + 1)).1 && decide (0 < (rdT tx (p + 1)).2.1)))] h294 _
            refine e_if_ne f_130_172 rfl (fun c_172 => ?_) (fun c_172 => ?_)
            · skip
              have c_172 : ((rdT tx (p + 1)).1 && decide (0 < (rdT tx (p + 1)).2.1)) = true := bI_t c_172
              have c172a : (rdT tx (p + 1)).1 = true := by have z := c_172; rw [Bool.and_eq_true] at z; exact z.1
              have g300 : h294.2.2 269 = some (12, mB (nI tx.length, sn, cn) (nI ((rdT tx (p + 1)).2.2), true, wr, nI (rdT tx (p + 1)).2.1, nI rs, nI rc, nI tm, ky, vl, mo) gq gh gw gu gv) := by have z := g297; rw [if_pos c_172, if_pos c172a] at z; exact z
              refine e_aload_n f_130_177 rfl rfl ?_
              refine e_iload_n f_130_178 rfl rfl ?_
              refine e_iconst (v := nI 0) f_130_179 (by decide) rfl ?_
              refine e_aload_n f_130_180 rfl rfl ?_
              refine e_getf f_130_181 g300 rfl rfl ?_
              show px_to 130 184 [some (.ref (269)), some (.int (nI s)), none, none] [.int (nI (rdT tx (p + 1)).2.1), .int (nI 0), .int (nI s), .ref (269)] h294 _
              have g301 : px_pa h1 271 52 6 stS jl := pa_fi H2 fx3 (by omega)
              have g302 : px_pa h286 271 52 6 stS jl := pa_fi g301 fx288 (by omega)
              have g303 : px_pa h294 271 52 6 stS jl := pa_fi g302 fx298 (by omega)
              have g304 : px_pa h1 272 52 6 stA jl := pa_fi H3 fx3 (by omega)
              have g305 : px_pa h286 272 52 6 stA jl := pa_fi g304 fx288 (by omega)
              have g306 : px_pa h294 272 52 6 stA jl := pa_fi g305 fx298 (by omega)
              have g307 : px_pa h1 273 50 6 stN jl := pa_fi H4 fx3 (by omega)
              have g308 : px_pa h286 273 50 6 stN jl := pa_fi g307 fx288 (by omega)
              have g309 : px_pa h294 273 50 6 stN jl := pa_fi g308 fx298 (by omega)
              refine e_callV (As := [.int (nI s), .int (nI 0), .int (nI (rdT tx (p + 1)).2.1)]) (rest := []) f_130_184 rfl rfl rfl (Nat.le_of_ble_eq_true rfl) (Nat.le_of_ble_eq_true rfl) g300 rfl (Nat.le_of_ble_eq_true rfl) (cc_Md_ks1 (s := s) (ac := 0) (nu := nI (rdT tx (p + 1)).2.1) (jl := jl) (tx := tx) (sn := sn) (cn := cn) (p := (rdT tx (p + 1)).2.2) (kp := true) (wr := wr) (rd := nI (rdT tx (p + 1)).2.1) (rs := rs) (rc := rc) (tm := tm) (ky := ky) (vl := vl) (mo := mo) (gq := gq) (gh := gh) (gw := gw) (gu := gu) (gv := gv) g300 g303 g306 g309 (by omega) (by omega) (by omega) (by omega)) rfl (fun h310 r311 q312 => ?_)
              obtain ⟨rfl, g313, g314, g315, g316, fx317⟩ := q312
              obtain ⟨hm318, fa319, fb320⟩ := fj_mid fx317
              have fr321 : px_fj 269 1 271 3 h hm318 := fj_tr fr299 fa319 (by omega)
              have fr322 : px_fj 269 1 271 3 h h310 := fj_tr fr321 fb320 (by omega)
              show px_to 130 187 [some (.ref (269)), some (.int (nI s)), none, none] [] h310 _
              refine e_iconst (v := nI 1) f_130_187 (by decide) rfl ?_
              refine e_iret f_130_188 rfl (rfl) ?_
              have er : rdStep tx s (p + 1) = (true, (rdT tx (p + 1)).2.2, (s, 0, nI (rdT tx (p + 1)).2.1)) := by unfold rdStep; rw [if_neg (show ¬ (s = 102 ∨ s = 109) by omega), if_pos (show s = 119 ∨ s = 116 by omega), c_172]
              rw [er]
              dsimp only
              rw [if_pos rfl, if_pos rfl, if_neg (show ¬ s = 116 by omega)]
              rw [if_pos rfl]
              exact ⟨rfl, ⟨_, _, _, _, g313, trivial⟩, g314, g315, g316, fr322⟩
            · skip
              have c_172 : ((rdT tx (p + 1)).1 && decide (0 < (rdT tx (p + 1)).2.1)) = false := bI_f' c_172
              refine e_iconst (v := nI 0) f_130_175 (by decide) rfl ?_
              refine e_iret f_130_176 rfl (rfl) ?_
              have g323 : h294.2.2 269 = some (12, mB (nI tx.length, sn, cn) (nI ((rdT tx (p + 1)).2.2), true, nI (rdT tx (p + 1)).2.2, if (rdT tx (p + 1)).1 = true then nI (rdT tx (p + 1)).2.1 else rd, nI rs, nI rc, nI tm, ky, vl, mo) gq gh gw gu gv) := by have z := g297; rw [if_neg (by rw [c_172]; decide)] at z; exact z
              have er : rdStep tx s (p + 1) = (false, (rdT tx (p + 1)).2.2, (s, 0, nI (rdT tx (p + 1)).2.1)) := by unfold rdStep; rw [if_neg (show ¬ (s = 102 ∨ s = 109) by omega), if_pos (show s = 119 ∨ s = 116 by omega), c_172]
              rw [er]
              dsimp only
              have g324 : px_pa h1 271 52 6 stS jl := pa_fi H2 fx3 (by omega)
              have g325 : px_pa h286 271 52 6 stS jl := pa_fi g324 fx288 (by omega)
              have g326 : px_pa h294 271 52 6 stS jl := pa_fi g325 fx298 (by omega)
              have g327 : px_pa h1 272 52 6 stA jl := pa_fi H3 fx3 (by omega)
              have g328 : px_pa h286 272 52 6 stA jl := pa_fi g327 fx288 (by omega)
              have g329 : px_pa h294 272 52 6 stA jl := pa_fi g328 fx298 (by omega)
              have g330 : px_pa h1 273 50 6 stN jl := pa_fi H4 fx3 (by omega)
              have g331 : px_pa h286 273 50 6 stN jl := pa_fi g330 fx288 (by omega)
              have g332 : px_pa h294 273 50 6 stN jl := pa_fi g331 fx298 (by omega)
              rw [if_neg (by decide), if_neg (by decide), if_neg (show ¬ s = 116 by omega)]
              rw [if_neg (by decide)]
              exact ⟨rfl, ⟨_, _, _, _, g323, trivial⟩, g326, g329, g332, fr299⟩
          · skip
            have c_149 : s = 116 := cv_nne (by omega) (by omega) c_149
            refine e_aload_n f_130_152 rfl rfl ?_
            refine e_getf f_130_153 g2 rfl rfl ?_
            show px_to 130 156 [some (.ref (269)), some (.int (nI s)), none, none] [.int (nI tm), .ref (269)] h1 _
            refine e_iconst (v := nI 1) f_130_156 (by decide) rfl ?_
            refine e_iadd (z := nI (tm + 1)) f_130_157 (nI_add _ _) rfl ?_
            refine e_goto f_130_158 ?_
            refine e_putp (vs' := mB (nI tx.length, sn, cn) (nI (p + 1), true, wr, rd, nI rs, nI rc, nI (tm + 1), ky, vl, mo) gq gh gw gu gv) f_130_165 g2 (Nat.le_of_ble_eq_true rfl) (rfl) (rfl) rfl rfl (fun h333 g334 fx335 => ?_)
            have fr336 : px_fj 269 1 271 3 h h333 := fj_tr fr4 fx335 (by omega)
            refine e_aload_n f_130_168 rfl rfl ?_
            obtain ⟨hm338, fa339, fb340⟩ := fj_mid fr336
            have g337 : px_pa h333 270 52 500 vN tx := pa_fi (pa_fi H1 fa339 (by omega)) fb340 (by omega)
            refine e_callV (As := []) (rest := []) f_130_169 rfl rfl rfl (Nat.le_of_ble_eq_true rfl) (Nat.le_of_ble_eq_true rfl) g334 rfl (Nat.le_of_ble_eq_true rfl) (cc_Md_nat (tx := tx) (sn := sn) (cn := cn) (p := p + 1) (kp := true) (wr := wr) (rd := rd) (rs := rs) (rc := rc) (tm := tm + 1) (ky := ky) (vl := vl) (mo := mo) (gq := gq) (gh := gh) (gw := gw) (gu := gu) (gv := gv) g334 g337 (by omega) (p1)) rfl (fun h341 r342 q343 => ?_)
            obtain ⟨rfl, g344, fx345⟩ := q343
            have fr346 : px_fj 269 1 271 3 h h341 := fj_tr fr336 fx345 (by omega)
            show px_to 130 172 [some (.ref (269)), some (.int (nI s)), none, none] [.int (bI ((rdT tx (p + 1)).1 && decide (0 < (rdT tx (p + 1)).2.1)))] h341 _
            refine e_if_ne f_130_172 rfl (fun c_172 => ?_) (fun c_172 => ?_)
            · skip
              have c_172 : ((rdT tx (p + 1)).1 && decide (0 < (rdT tx (p + 1)).2.1)) = true := bI_t c_172
              have c172a : (rdT tx (p + 1)).1 = true := by have z := c_172; rw [Bool.and_eq_true] at z; exact z.1
              have g347 : h341.2.2 269 = some (12, mB (nI tx.length, sn, cn) (nI ((rdT tx (p + 1)).2.2), true, wr, nI (rdT tx (p + 1)).2.1, nI rs, nI rc, nI (tm + 1), ky, vl, mo) gq gh gw gu gv) := by have z := g344; rw [if_pos c_172, if_pos c172a] at z; exact z
              refine e_aload_n f_130_177 rfl rfl ?_
              refine e_iload_n f_130_178 rfl rfl ?_
              refine e_iconst (v := nI 0) f_130_179 (by decide) rfl ?_
              refine e_aload_n f_130_180 rfl rfl ?_
              refine e_getf f_130_181 g347 rfl rfl ?_
              show px_to 130 184 [some (.ref (269)), some (.int (nI s)), none, none] [.int (nI (rdT tx (p + 1)).2.1), .int (nI 0), .int (nI s), .ref (269)] h341 _
              have g348 : px_pa h1 271 52 6 stS jl := pa_fi H2 fx3 (by omega)
              have g349 : px_pa h333 271 52 6 stS jl := pa_fi g348 fx335 (by omega)
              have g350 : px_pa h341 271 52 6 stS jl := pa_fi g349 fx345 (by omega)
              have g351 : px_pa h1 272 52 6 stA jl := pa_fi H3 fx3 (by omega)
              have g352 : px_pa h333 272 52 6 stA jl := pa_fi g351 fx335 (by omega)
              have g353 : px_pa h341 272 52 6 stA jl := pa_fi g352 fx345 (by omega)
              have g354 : px_pa h1 273 50 6 stN jl := pa_fi H4 fx3 (by omega)
              have g355 : px_pa h333 273 50 6 stN jl := pa_fi g354 fx335 (by omega)
              have g356 : px_pa h341 273 50 6 stN jl := pa_fi g355 fx345 (by omega)
              refine e_callV (As := [.int (nI s), .int (nI 0), .int (nI (rdT tx (p + 1)).2.1)]) (rest := []) f_130_184 rfl rfl rfl (Nat.le_of_ble_eq_true rfl) (Nat.le_of_ble_eq_true rfl) g347 rfl (Nat.le_of_ble_eq_true rfl) (cc_Md_ks1 (s := s) (ac := 0) (nu := nI (rdT tx (p + 1)).2.1) (jl := jl) (tx := tx) (sn := sn) (cn := cn) (p := (rdT tx (p + 1)).2.2) (kp := true) (wr := wr) (rd := nI (rdT tx (p + 1)).2.1) (rs := rs) (rc := rc) (tm := tm + 1) (ky := ky) (vl := vl) (mo := mo) (gq := gq) (gh := gh) (gw := gw) (gu := gu) (gv := gv) g347 g350 g353 g356 (by omega) (by omega) (by omega) (by omega)) rfl (fun h357 r358 q359 => ?_)
              obtain ⟨rfl, g360, g361, g362, g363, fx364⟩ := q359
              obtain ⟨hm365, fa366, fb367⟩ := fj_mid fx364
              have fr368 : px_fj 269 1 271 3 h hm365 := fj_tr fr346 fa366 (by omega)
              have fr369 : px_fj 269 1 271 3 h h357 := fj_tr fr368 fb367 (by omega)
              show px_to 130 187 [some (.ref (269)), some (.int (nI s)), none, none] [] h357 _
              refine e_iconst (v := nI 1) f_130_187 (by decide) rfl ?_
              refine e_iret f_130_188 rfl (rfl) ?_
              have er : rdStep tx s (p + 1) = (true, (rdT tx (p + 1)).2.2, (s, 0, nI (rdT tx (p + 1)).2.1)) := by unfold rdStep; rw [if_neg (show ¬ (s = 102 ∨ s = 109) by omega), if_pos (show s = 119 ∨ s = 116 by omega), c_172]
              rw [er]
              dsimp only
              rw [if_pos rfl, if_pos rfl, if_pos (show s = 116 by omega)]
              rw [if_pos rfl]
              exact ⟨rfl, ⟨_, _, _, _, g360, trivial⟩, g361, g362, g363, fr369⟩
            · skip
              have c_172 : ((rdT tx (p + 1)).1 && decide (0 < (rdT tx (p + 1)).2.1)) = false := bI_f' c_172
              refine e_iconst (v := nI 0) f_130_175 (by decide) rfl ?_
              refine e_iret f_130_176 rfl (rfl) ?_
              have g370 : h341.2.2 269 = some (12, mB (nI tx.length, sn, cn) (nI ((rdT tx (p + 1)).2.2), true, nI (rdT tx (p + 1)).2.2, if (rdT tx (p + 1)).1 = true then nI (rdT tx (p + 1)).2.1 else rd, nI rs, nI rc, nI (tm + 1), ky, vl, mo) gq gh gw gu gv) := by have z := g344; rw [if_neg (by rw [c_172]; decide)] at z; exact z
              have er : rdStep tx s (p + 1) = (false, (rdT tx (p + 1)).2.2, (s, 0, nI (rdT tx (p + 1)).2.1)) := by unfold rdStep; rw [if_neg (show ¬ (s = 102 ∨ s = 109) by omega), if_pos (show s = 119 ∨ s = 116 by omega), c_172]
              rw [er]
              dsimp only
              have g371 : px_pa h1 271 52 6 stS jl := pa_fi H2 fx3 (by omega)
              have g372 : px_pa h333 271 52 6 stS jl := pa_fi g371 fx335 (by omega)
              have g373 : px_pa h341 271 52 6 stS jl := pa_fi g372 fx345 (by omega)
              have g374 : px_pa h1 272 52 6 stA jl := pa_fi H3 fx3 (by omega)
              have g375 : px_pa h333 272 52 6 stA jl := pa_fi g374 fx335 (by omega)
              have g376 : px_pa h341 272 52 6 stA jl := pa_fi g375 fx345 (by omega)
              have g377 : px_pa h1 273 50 6 stN jl := pa_fi H4 fx3 (by omega)
              have g378 : px_pa h333 273 50 6 stN jl := pa_fi g377 fx335 (by omega)
              have g379 : px_pa h341 273 50 6 stN jl := pa_fi g378 fx345 (by omega)
              rw [if_neg (by decide), if_neg (by decide), if_pos (show s = 116 by omega)]
              rw [if_neg (by decide)]
              exact ⟨rfl, ⟨_, _, _, _, g370, trivial⟩, g373, g376, g379, fr346⟩
        · skip
          by_cases c_11_119 : s = 119
          · skip
            refine e_sw_l f_130_11 (t := 145) (by rw [c_11_119]; rfl) ?_
            refine e_aload_n f_130_145 rfl rfl ?_
            refine e_iload_n f_130_146 rfl rfl ?_
            refine e_bipush (v := nI 116) f_130_147 (by decide) rfl ?_
            refine e_icmp_ne f_130_149 rfl (fun c_149 => ?_) (fun c_149 => ?_)
            · skip
              have c_149 : s ≠ 116 := cv_ne c_149
              refine e_aload_n f_130_161 rfl rfl ?_
              refine e_getf f_130_162 g2 rfl rfl ?_
              show px_to 130 165 [some (.ref (269)), some (.int (nI s)), none, none] [.int (nI tm), .ref (269)] h1 _
              refine e_putp (vs' := mB (nI tx.length, sn, cn) (nI (p + 1), true, wr, rd, nI rs, nI rc, nI tm, ky, vl, mo) gq gh gw gu gv) f_130_165 g2 (Nat.le_of_ble_eq_true rfl) (rfl) (rfl) rfl rfl (fun h380 g381 fx382 => ?_)
              have fr383 : px_fj 269 1 271 3 h h380 := fj_tr fr4 fx382 (by omega)
              refine e_aload_n f_130_168 rfl rfl ?_
              obtain ⟨hm385, fa386, fb387⟩ := fj_mid fr383
              have g384 : px_pa h380 270 52 500 vN tx := pa_fi (pa_fi H1 fa386 (by omega)) fb387 (by omega)
              refine e_callV (As := []) (rest := []) f_130_169 rfl rfl rfl (Nat.le_of_ble_eq_true rfl) (Nat.le_of_ble_eq_true rfl) g381 rfl (Nat.le_of_ble_eq_true rfl) (cc_Md_nat (tx := tx) (sn := sn) (cn := cn) (p := p + 1) (kp := true) (wr := wr) (rd := rd) (rs := rs) (rc := rc) (tm := tm) (ky := ky) (vl := vl) (mo := mo) (gq := gq) (gh := gh) (gw := gw) (gu := gu) (gv := gv) g381 g384 (by omega) (p1)) rfl (fun h388 r389 q390 => ?_)
              obtain ⟨rfl, g391, fx392⟩ := q390
              have fr393 : px_fj 269 1 271 3 h h388 := fj_tr fr383 fx392 (by omega)
              show px_to 130 172 [some (.ref (269)), some (.int (nI s)), none, none] [.int (bI ((rdT tx (p + 1)).1 && decide (0 < (rdT tx (p + 1)).2.1)))] h388 _
              refine e_if_ne f_130_172 rfl (fun c_172 => ?_) (fun c_172 => ?_)
              · skip
                have c_172 : ((rdT tx (p + 1)).1 && decide (0 < (rdT tx (p + 1)).2.1)) = true := bI_t c_172
                have c172a : (rdT tx (p + 1)).1 = true := by have z := c_172; rw [Bool.and_eq_true] at z; exact z.1
                have g394 : h388.2.2 269 = some (12, mB (nI tx.length, sn, cn) (nI ((rdT tx (p + 1)).2.2), true, wr, nI (rdT tx (p + 1)).2.1, nI rs, nI rc, nI tm, ky, vl, mo) gq gh gw gu gv) := by have z := g391; rw [if_pos c_172, if_pos c172a] at z; exact z
                refine e_aload_n f_130_177 rfl rfl ?_
                refine e_iload_n f_130_178 rfl rfl ?_
                refine e_iconst (v := nI 0) f_130_179 (by decide) rfl ?_
                refine e_aload_n f_130_180 rfl rfl ?_
                refine e_getf f_130_181 g394 rfl rfl ?_
                show px_to 130 184 [some (.ref (269)), some (.int (nI s)), none, none] [.int (nI (rdT tx (p + 1)).2.1), .int (nI 0), .int (nI s), .ref (269)] h388 _
                have g395 : px_pa h1 271 52 6 stS jl := pa_fi H2 fx3 (by omega)
                have g396 : px_pa h380 271 52 6 stS jl := pa_fi g395 fx382 (by omega)
                have g397 : px_pa h388 271 52 6 stS jl := pa_fi g396 fx392 (by omega)
                have g398 : px_pa h1 272 52 6 stA jl := pa_fi H3 fx3 (by omega)
                have g399 : px_pa h380 272 52 6 stA jl := pa_fi g398 fx382 (by omega)
                have g400 : px_pa h388 272 52 6 stA jl := pa_fi g399 fx392 (by omega)
                have g401 : px_pa h1 273 50 6 stN jl := pa_fi H4 fx3 (by omega)
                have g402 : px_pa h380 273 50 6 stN jl := pa_fi g401 fx382 (by omega)
                have g403 : px_pa h388 273 50 6 stN jl := pa_fi g402 fx392 (by omega)
                refine e_callV (As := [.int (nI s), .int (nI 0), .int (nI (rdT tx (p + 1)).2.1)]) (rest := []) f_130_184 rfl rfl rfl (Nat.le_of_ble_eq_true rfl) (Nat.le_of_ble_eq_true rfl) g394 rfl (Nat.le_of_ble_eq_true rfl) (cc_Md_ks1 (s := s) (ac := 0) (nu := nI (rdT tx (p + 1)).2.1) (jl := jl) (tx := tx) (sn := sn) (cn := cn) (p := (rdT tx (p + 1)).2.2) (kp := true) (wr := wr) (rd := nI (rdT tx (p + 1)).2.1) (rs := rs) (rc := rc) (tm := tm) (ky := ky) (vl := vl) (mo := mo) (gq := gq) (gh := gh) (gw := gw) (gu := gu) (gv := gv) g394 g397 g400 g403 (by omega) (by omega) (by omega) (by omega)) rfl (fun h404 r405 q406 => ?_)
                obtain ⟨rfl, g407, g408, g409, g410, fx411⟩ := q406
                obtain ⟨hm412, fa413, fb414⟩ := fj_mid fx411
                have fr415 : px_fj 269 1 271 3 h hm412 := fj_tr fr393 fa413 (by omega)
                have fr416 : px_fj 269 1 271 3 h h404 := fj_tr fr415 fb414 (by omega)
                show px_to 130 187 [some (.ref (269)), some (.int (nI s)), none, none] [] h404 _
                refine e_iconst (v := nI 1) f_130_187 (by decide) rfl ?_
                refine e_iret f_130_188 rfl (rfl) ?_
                have er : rdStep tx s (p + 1) = (true, (rdT tx (p + 1)).2.2, (s, 0, nI (rdT tx (p + 1)).2.1)) := by unfold rdStep; rw [if_neg (show ¬ (s = 102 ∨ s = 109) by omega), if_pos (show s = 119 ∨ s = 116 by omega), c_172]
                rw [er]
                dsimp only
                rw [if_pos rfl, if_pos rfl, if_neg (show ¬ s = 116 by omega)]
                rw [if_pos rfl]
                exact ⟨rfl, ⟨_, _, _, _, g407, trivial⟩, g408, g409, g410, fr416⟩
              · skip
                have c_172 : ((rdT tx (p + 1)).1 && decide (0 < (rdT tx (p + 1)).2.1)) = false := bI_f' c_172
                refine e_iconst (v := nI 0) f_130_175 (by decide) rfl ?_
                refine e_iret f_130_176 rfl (rfl) ?_
                have g417 : h388.2.2 269 = some (12, mB (nI tx.length, sn, cn) (nI ((rdT tx (p + 1)).2.2), true, nI (rdT tx (p + 1)).2.2, if (rdT tx (p + 1)).1 = true then nI (rdT tx (p + 1)).2.1 else rd, nI rs, nI rc, nI tm, ky, vl, mo) gq gh gw gu gv) := by have z := g391; rw [if_neg (by rw [c_172]; decide)] at z; exact z
                have er : rdStep tx s (p + 1) = (false, (rdT tx (p + 1)).2.2, (s, 0, nI (rdT tx (p + 1)).2.1)) := by unfold rdStep; rw [if_neg (show ¬ (s = 102 ∨ s = 109) by omega), if_pos (show s = 119 ∨ s = 116 by omega), c_172]
                rw [er]
                dsimp only
                have g418 : px_pa h1 271 52 6 stS jl := pa_fi H2 fx3 (by omega)
                have g419 : px_pa h380 271 52 6 stS jl := pa_fi g418 fx382 (by omega)
                have g420 : px_pa h388 271 52 6 stS jl := pa_fi g419 fx392 (by omega)
                have g421 : px_pa h1 272 52 6 stA jl := pa_fi H3 fx3 (by omega)
                have g422 : px_pa h380 272 52 6 stA jl := pa_fi g421 fx382 (by omega)
                have g423 : px_pa h388 272 52 6 stA jl := pa_fi g422 fx392 (by omega)
                have g424 : px_pa h1 273 50 6 stN jl := pa_fi H4 fx3 (by omega)
                have g425 : px_pa h380 273 50 6 stN jl := pa_fi g424 fx382 (by omega)
                have g426 : px_pa h388 273 50 6 stN jl := pa_fi g425 fx392 (by omega)
                rw [if_neg (by decide), if_neg (by decide), if_neg (show ¬ s = 116 by omega)]
                rw [if_neg (by decide)]
                exact ⟨rfl, ⟨_, _, _, _, g417, trivial⟩, g420, g423, g426, fr393⟩
            · skip
              have c_149 : s = 116 := cv_nne (by omega) (by omega) c_149
              refine e_aload_n f_130_152 rfl rfl ?_
              refine e_getf f_130_153 g2 rfl rfl ?_
              show px_to 130 156 [some (.ref (269)), some (.int (nI s)), none, none] [.int (nI tm), .ref (269)] h1 _
              refine e_iconst (v := nI 1) f_130_156 (by decide) rfl ?_
              refine e_iadd (z := nI (tm + 1)) f_130_157 (nI_add _ _) rfl ?_
              refine e_goto f_130_158 ?_
              refine e_putp (vs' := mB (nI tx.length, sn, cn) (nI (p + 1), true, wr, rd, nI rs, nI rc, nI (tm + 1), ky, vl, mo) gq gh gw gu gv) f_130_165 g2 (Nat.le_of_ble_eq_true rfl) (rfl) (rfl) rfl rfl (fun h427 g428 fx429 => ?_)
              have fr430 : px_fj 269 1 271 3 h h427 := fj_tr fr4 fx429 (by omega)
              refine e_aload_n f_130_168 rfl rfl ?_
              obtain ⟨hm432, fa433, fb434⟩ := fj_mid fr430
              have g431 : px_pa h427 270 52 500 vN tx := pa_fi (pa_fi H1 fa433 (by omega)) fb434 (by omega)
              refine e_callV (As := []) (rest := []) f_130_169 rfl rfl rfl (Nat.le_of_ble_eq_true rfl) (Nat.le_of_ble_eq_true rfl) g428 rfl (Nat.le_of_ble_eq_true rfl) (cc_Md_nat (tx := tx) (sn := sn) (cn := cn) (p := p + 1) (kp := true) (wr := wr) (rd := rd) (rs := rs) (rc := rc) (tm := tm + 1) (ky := ky) (vl := vl) (mo := mo) (gq := gq) (gh := gh) (gw := gw) (gu := gu) (gv := gv) g428 g431 (by omega) (p1)) rfl (fun h435 r436 q437 => ?_)
              obtain ⟨rfl, g438, fx439⟩ := q437
              have fr440 : px_fj 269 1 271 3 h h435 := fj_tr fr430 fx439 (by omega)
              show px_to 130 172 [some (.ref (269)), some (.int (nI s)), none, none] [.int (bI ((rdT tx (p + 1)).1 && decide (0 < (rdT tx (p + 1)).2.1)))] h435 _
              refine e_if_ne f_130_172 rfl (fun c_172 => ?_) (fun c_172 => ?_)
              · skip
                have c_172 : ((rdT tx (p + 1)).1 && decide (0 < (rdT tx (p + 1)).2.1)) = true := bI_t c_172
                have c172a : (rdT tx (p + 1)).1 = true := by have z := c_172; rw [Bool.and_eq_true] at z; exact z.1
                have g441 : h435.2.2 269 = some (12, mB (nI tx.length, sn, cn) (nI ((rdT tx (p + 1)).2.2), true, wr, nI (rdT tx (p + 1)).2.1, nI rs, nI rc, nI (tm + 1), ky, vl, mo) gq gh gw gu gv) := by have z := g438; rw [if_pos c_172, if_pos c172a] at z; exact z
                refine e_aload_n f_130_177 rfl rfl ?_
                refine e_iload_n f_130_178 rfl rfl ?_
                refine e_iconst (v := nI 0) f_130_179 (by decide) rfl ?_
                refine e_aload_n f_130_180 rfl rfl ?_
                refine e_getf f_130_181 g441 rfl rfl ?_
                show px_to 130 184 [some (.ref (269)), some (.int (nI s)), none, none] [.int (nI (rdT tx (p + 1)).2.1), .int (nI 0), .int (nI s), .ref (269)] h435 _
                have g442 : px_pa h1 271 52 6 stS jl := pa_fi H2 fx3 (by omega)
                have g443 : px_pa h427 271 52 6 stS jl := pa_fi g442 fx429 (by omega)
                have g444 : px_pa h435 271 52 6 stS jl := pa_fi g443 fx439 (by omega)
                have g445 : px_pa h1 272 52 6 stA jl := pa_fi H3 fx3 (by omega)
                have g446 : px_pa h427 272 52 6 stA jl := pa_fi g445 fx429 (by omega)
                have g447 : px_pa h435 272 52 6 stA jl := pa_fi g446 fx439 (by omega)
                have g448 : px_pa h1 273 50 6 stN jl := pa_fi H4 fx3 (by omega)
                have g449 : px_pa h427 273 50 6 stN jl := pa_fi g448 fx429 (by omega)
                have g450 : px_pa h435 273 50 6 stN jl := pa_fi g449 fx439 (by omega)
                refine e_callV (As := [.int (nI s), .int (nI 0), .int (nI (rdT tx (p + 1)).2.1)]) (rest := []) f_130_184 rfl rfl rfl (Nat.le_of_ble_eq_true rfl) (Nat.le_of_ble_eq_true rfl) g441 rfl (Nat.le_of_ble_eq_true rfl) (cc_Md_ks1 (s := s) (ac := 0) (nu := nI (rdT tx (p + 1)).2.1) (jl := jl) (tx := tx) (sn := sn) (cn := cn) (p := (rdT tx (p + 1)).2.2) (kp := true) (wr := wr) (rd := nI (rdT tx (p + 1)).2.1) (rs := rs) (rc := rc) (tm := tm + 1) (ky := ky) (vl := vl) (mo := mo) (gq := gq) (gh := gh) (gw := gw) (gu := gu) (gv := gv) g441 g444 g447 g450 (by omega) (by omega) (by omega) (by omega)) rfl (fun h451 r452 q453 => ?_)
                obtain ⟨rfl, g454, g455, g456, g457, fx458⟩ := q453
                obtain ⟨hm459, fa460, fb461⟩ := fj_mid fx458
                have fr462 : px_fj 269 1 271 3 h hm459 := fj_tr fr440 fa460 (by omega)
                have fr463 : px_fj 269 1 271 3 h h451 := fj_tr fr462 fb461 (by omega)
                show px_to 130 187 [some (.ref (269)), some (.int (nI s)), none, none] [] h451 _
                refine e_iconst (v := nI 1) f_130_187 (by decide) rfl ?_
                refine e_iret f_130_188 rfl (rfl) ?_
                have er : rdStep tx s (p + 1) = (true, (rdT tx (p + 1)).2.2, (s, 0, nI (rdT tx (p + 1)).2.1)) := by unfold rdStep; rw [if_neg (show ¬ (s = 102 ∨ s = 109) by omega), if_pos (show s = 119 ∨ s = 116 by omega), c_172]
                rw [er]
                dsimp only
                rw [if_pos rfl, if_pos rfl, if_pos (show s = 116 by omega)]
                rw [if_pos rfl]
                exact ⟨rfl, ⟨_, _, _, _, g454, trivial⟩, g455, g456, g457, fr463⟩
              · skip
                have c_172 : ((rdT tx (p + 1)).1 && decide (0 < (rdT tx (p + 1)).2.1)) = false := bI_f' c_172
                refine e_iconst (v := nI 0) f_130_175 (by decide) rfl ?_
                refine e_iret f_130_176 rfl (rfl) ?_
                have g464 : h435.2.2 269 = some (12, mB (nI tx.length, sn, cn) (nI ((rdT tx (p + 1)).2.2), true, nI (rdT tx (p + 1)).2.2, if (rdT tx (p + 1)).1 = true then nI (rdT tx (p + 1)).2.1 else rd, nI rs, nI rc, nI (tm + 1), ky, vl, mo) gq gh gw gu gv) := by have z := g438; rw [if_neg (by rw [c_172]; decide)] at z; exact z
                have er : rdStep tx s (p + 1) = (false, (rdT tx (p + 1)).2.2, (s, 0, nI (rdT tx (p + 1)).2.1)) := by unfold rdStep; rw [if_neg (show ¬ (s = 102 ∨ s = 109) by omega), if_pos (show s = 119 ∨ s = 116 by omega), c_172]
                rw [er]
                dsimp only
                have g465 : px_pa h1 271 52 6 stS jl := pa_fi H2 fx3 (by omega)
                have g466 : px_pa h427 271 52 6 stS jl := pa_fi g465 fx429 (by omega)
                have g467 : px_pa h435 271 52 6 stS jl := pa_fi g466 fx439 (by omega)
                have g468 : px_pa h1 272 52 6 stA jl := pa_fi H3 fx3 (by omega)
                have g469 : px_pa h427 272 52 6 stA jl := pa_fi g468 fx429 (by omega)
                have g470 : px_pa h435 272 52 6 stA jl := pa_fi g469 fx439 (by omega)
                have g471 : px_pa h1 273 50 6 stN jl := pa_fi H4 fx3 (by omega)
                have g472 : px_pa h427 273 50 6 stN jl := pa_fi g471 fx429 (by omega)
                have g473 : px_pa h435 273 50 6 stN jl := pa_fi g472 fx439 (by omega)
                rw [if_neg (by decide), if_neg (by decide), if_pos (show s = 116 by omega)]
                rw [if_neg (by decide)]
                exact ⟨rfl, ⟨_, _, _, _, g464, trivial⟩, g467, g470, g473, fr440⟩
          · skip
            refine e_sw_l f_130_11 (t := 189) (lsw_df (List.forall_mem_cons.mpr ⟨lsw_neN (by omega) c_11_102, List.forall_mem_cons.mpr ⟨lsw_neN (by omega) c_11_109, List.forall_mem_cons.mpr ⟨lsw_neN (by omega) c_11_113, List.forall_mem_cons.mpr ⟨lsw_neN (by omega) c_11_116, List.forall_mem_cons.mpr ⟨lsw_neN (by omega) c_11_119, by simp⟩⟩⟩⟩⟩) rfl) ?_
            refine e_aload_n f_130_189 rfl rfl ?_
            refine e_iload_n f_130_190 rfl rfl ?_
            refine e_iconst (v := nI 0) f_130_191 (by decide) rfl ?_
            refine e_iconst (v := nI 0) f_130_192 (by decide) rfl ?_
            have g474 : px_pa h1 271 52 6 stS jl := pa_fi H2 fx3 (by omega)
            have g475 : px_pa h1 272 52 6 stA jl := pa_fi H3 fx3 (by omega)
            have g476 : px_pa h1 273 50 6 stN jl := pa_fi H4 fx3 (by omega)
            refine e_callV (As := [.int (nI s), .int (nI 0), .int (nI 0)]) (rest := []) f_130_193 rfl rfl rfl (Nat.le_of_ble_eq_true rfl) (Nat.le_of_ble_eq_true rfl) g2 rfl (Nat.le_of_ble_eq_true rfl) (cc_Md_ks1 (s := s) (ac := 0) (nu := nI 0) (jl := jl) (tx := tx) (sn := sn) (cn := cn) (p := p + 1) (kp := true) (wr := wr) (rd := rd) (rs := rs) (rc := rc) (tm := tm) (ky := ky) (vl := vl) (mo := mo) (gq := gq) (gh := gh) (gw := gw) (gu := gu) (gv := gv) g2 g474 g475 g476 (by omega) (by omega) (by omega) (by omega)) rfl (fun h477 r478 q479 => ?_)
            obtain ⟨rfl, g480, g481, g482, g483, fx484⟩ := q479
            obtain ⟨hm485, fa486, fb487⟩ := fj_mid fx484
            have fr488 : px_fj 269 1 271 3 h hm485 := fj_tr fr4 fa486 (by omega)
            have fr489 : px_fj 269 1 271 3 h h477 := fj_tr fr488 fb487 (by omega)
            show px_to 130 196 [some (.ref (269)), some (.int (nI s)), none, none] [] h477 _
            refine e_iconst (v := nI 1) f_130_196 (by decide) rfl ?_
            refine e_iret f_130_197 rfl (rfl) ?_
            have er : rdStep tx s (p + 1) = (true, p + 1, (s, 0, nI 0)) := by unfold rdStep; rw [if_neg (show ¬ (s = 102 ∨ s = 109) by omega), if_neg (show ¬ (s = 119 ∨ s = 116) by omega), if_pos (show s = 100 ∨ s = 115 by omega)]
            rw [er]
            dsimp only
            rw [if_pos rfl, if_pos rfl, if_neg (show ¬ s = 116 by omega)]
            rw [if_pos rfl]
            exact ⟨rfl, ⟨_, _, _, _, g480, trivial⟩, g481, g482, g483, fr489⟩
