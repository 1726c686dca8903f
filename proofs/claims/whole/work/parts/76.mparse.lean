theorem rdAll_ok2 {tx : List Nat} (h : (rdAll tx).1 = true) : (jobR tx).1 = true ∧ (rdAll tx).2.2.1 = (aJ tx).2.2 ∧ (rdAll tx).2.2.2 = (aC tx).2.2 := by
  cases hj : (jobR tx).1 with
  | false => rw [(rdAll_f hj).1] at h; exact absurd h Bool.false_ne_true
  | true =>
    rw [rdAll_t hj]
    split
    · exact ⟨rfl, rfl, rfl⟩
    · exact ⟨rfl, rfl, rfl⟩

set_option maxRecDepth 20000 in
set_option maxHeartbeats 4000000 in
theorem cc_MD_parse {h : px_H} {tx : List Nat} {j : List St} {xs : List CS3}  (H0 : pMD h tx j xs)  : px_wp 139 [.ref (269)] h (fun h1 r => r = some (.int (aParse tx)) ∧ pMD h1 ([] : List Nat) (if (rdAll tx).1 = true then (rdAll tx).2.2.1 else j) (if (rdAll tx).1 = true then (rdAll tx).2.2.2 else xs) ∧ px_fi 269 35 h h1) := by
  have fr0 : px_fi 269 35 h h := fi_rf _ _ _
  show px_to 139 0 [some (.ref (269)), none] [] h _
  obtain ⟨gp, gq, gh, gw, gu, gv, jn, sl, sl2, lh, lg, lo, lt, cv, pl, ke, g1, g2, g3, g4, g5, g6, g7, g8, g9, g10, g11, g12, g13, g14, g15, g16, g17, g18, g19, g20, g21, g22, g23, g24, g25, g26, ok⟩ := id H0
  have h8 : xs.length ≤ 8 := ok.2.2.1.1
  have hj6 : j.length ≤ 6 := ok.2.1.1.1
  have htl : tx.length ≤ 500 := pa_len g2
  refine e_aload_n f_139_0 rfl rfl ?_
  refine e_iconst (v := nI 0) f_139_1 (by decide) rfl ?_
  refine e_callV (As := [.int (nI 0)]) (rest := []) f_139_2 rfl rfl rfl (Nat.le_of_ble_eq_true rfl) (Nat.le_of_ble_eq_true rfl) g1 rfl (Nat.le_of_ble_eq_true rfl) (cc_Md_goes0 (jl := []) (xs0 := []) (tx := tx) (sn := nI j.length) (cn := nI xs.length) (gp := gp) (gq := gq) (gh := gh) (gw := gw) (gu := gu) (gv := gv) g1 g2 (ok.1)) rfl (fun h27 r28 q29 => ?_)
  obtain ⟨rfl, g30, fx31⟩ := q29
  have fr32 : px_fi 269 35 h h27 := fi_tr fr0 fx31 (by omega)
  show px_to 139 5 [some (.ref (269)), none] [.int (bI ((rdAll tx).1))] h27 _
  obtain ⟨p33, rs34, rc35, tm36, g37, hG38⟩ := id g30
  obtain ⟨rd39, ky40, vl41, mo42, g43, hX44⟩ := id g37
  refine e_istore_n (L' := [some (.ref (269)), some (.int (bI ((rdAll tx).1)))]) f_139_5 (Nat.le_of_ble_eq_true rfl) rfl rfl ?_
  refine e_iload_n f_139_6 rfl rfl ?_
  refine e_if_eq f_139_7 rfl (fun c_7 => ?_) (fun c_7 => ?_)
  · skip
    have c_7 : ((rdAll tx).1) = false := bI_f c_7
    refine e_aload_n f_139_32 rfl rfl ?_
    refine e_iconst (v := nI 0) f_139_33 (by decide) rfl ?_
    refine e_putp (vs' := mB (nI 0, nI j.length, nI xs.length) (nI p33, false, if (rdAll tx).1 = true then gp.2.2.1 else nI (rdAll tx).2.1, rd39, nI rs34, nI rc35, nI tm36, ky40, vl41, mo42) gq gh gw gu gv) f_139_34 g43 (Nat.le_of_ble_eq_true rfl) (rfl) (rfl) rfl rfl (fun h45 g46 fx47 => ?_)
    have fr48 : px_fi 269 35 h h45 := fi_tr fr32 fx47 (by omega)
    refine e_iload_n f_139_37 rfl rfl ?_
    refine e_if_eq f_139_38 rfl (fun c_38 => ?_) (fun c_38 => ?_)
    · skip
      have c_38 : ((rdAll tx).1) = false := bI_f c_38
      refine e_bipush (v := (-10)) f_139_48 (by decide) rfl ?_
      refine e_aload_n f_139_50 rfl rfl ?_
      refine e_getf f_139_51 g46 rfl rfl ?_
      show px_to 139 54 [some (.ref (269)), some (.int (bI ((rdAll tx).1)))] [.int (if (rdAll tx).1 = true then gp.2.2.1 else nI (rdAll tx).2.1), .int ((-10))] h45 _
      refine e_isub (z := -10 - (if (rdAll tx).1 = true then gp.2.2.1 else nI (rdAll tx).2.1)) f_139_54 (rfl) rfl ?_
      refine e_iret f_139_55 rfl (rfl) ?_
      have g49 : px_pa h27 270 52 500 vN tx := pa_fi g2 fx31 (by omega)
      have g50 : px_pa h45 270 52 500 vN tx := pa_fi g49 fx47 (by omega)
      have g51 : px_pa h45 270 52 500 vN ([] : List Nat) := pa_nil g50
      have hra := rdAll_ok (tx := tx) ok.1
      rw [c_7]
      simp only [Bool.false_eq_true, if_false]
      have g52 : px_pa h27 271 52 6 stS j := pa_fi g3 fx31 (by omega)
      have g53 : px_pa h45 271 52 6 stS j := pa_fi g52 fx47 (by omega)
      have g54 : px_pa h27 272 52 6 stA j := pa_fi g4 fx31 (by omega)
      have g55 : px_pa h45 272 52 6 stA j := pa_fi g54 fx47 (by omega)
      have g56 : px_pa h27 273 50 6 stN j := pa_fi g5 fx31 (by omega)
      have g57 : px_pa h45 273 50 6 stN j := pa_fi g56 fx47 (by omega)
      have g58 : pMA h27 xs := pMA_fi g6 fx31 (by omega)
      have g59 : pMA h45 xs := pMA_fi g58 fx47 (by omega)
      have g60 : px_pa h27 284 52 6 stS jn := pa_fi g7 fx31 (by omega)
      have g61 : px_pa h45 284 52 6 stS jn := pa_fi g60 fx47 (by omega)
      have g62 : px_pa h27 285 52 6 stA jn := pa_fi g8 fx31 (by omega)
      have g63 : px_pa h45 285 52 6 stA jn := pa_fi g62 fx47 (by omega)
      have g64 : px_pa h27 286 50 6 stN jn := pa_fi g9 fx31 (by omega)
      have g65 : px_pa h45 286 50 6 stN jn := pa_fi g64 fx47 (by omega)
      have g66 : px_pa h27 287 50 3070 Value.int sl := pa_fi g10 fx31 (by omega)
      have g67 : px_pa h45 287 50 3070 Value.int sl := pa_fi g66 fx47 (by omega)
      have g68 : px_pa h27 288 50 3070 Value.int sl2 := pa_fi g11 fx31 (by omega)
      have g69 : px_pa h45 288 50 3070 Value.int sl2 := pa_fi g68 fx47 (by omega)
      have g70 : px_pa h27 289 54 100 rK lh := pa_fi g12 fx31 (by omega)
      have g71 : px_pa h45 289 54 100 rK lh := pa_fi g70 fx47 (by omega)
      have g72 : px_pa h27 290 50 100 rV lh := pa_fi g13 fx31 (by omega)
      have g73 : px_pa h45 290 50 100 rV lh := pa_fi g72 fx47 (by omega)
      have g74 : px_pa h27 291 50 100 rT lh := pa_fi g14 fx31 (by omega)
      have g75 : px_pa h45 291 50 100 rT lh := pa_fi g74 fx47 (by omega)
      have g76 : px_pa h27 292 54 100 rK lg := pa_fi g15 fx31 (by omega)
      have g77 : px_pa h45 292 54 100 rK lg := pa_fi g76 fx47 (by omega)
      have g78 : px_pa h27 293 50 100 rV lg := pa_fi g16 fx31 (by omega)
      have g79 : px_pa h45 293 50 100 rV lg := pa_fi g78 fx47 (by omega)
      have g80 : px_pa h27 294 50 100 rT lg := pa_fi g17 fx31 (by omega)
      have g81 : px_pa h45 294 50 100 rT lg := pa_fi g80 fx47 (by omega)
      have g82 : px_pa h27 295 50 30 Value.int cv := pa_fi g18 fx31 (by omega)
      have g83 : px_pa h45 295 50 30 Value.int cv := pa_fi g82 fx47 (by omega)
      have g84 : px_pa h27 296 50 24 vN pl := pa_fi g19 fx31 (by omega)
      have g85 : px_pa h45 296 50 24 vN pl := pa_fi g84 fx47 (by omega)
      have g86 : px_pa h27 297 54 100 rK lo := pa_fi g20 fx31 (by omega)
      have g87 : px_pa h45 297 54 100 rK lo := pa_fi g86 fx47 (by omega)
      have g88 : px_pa h27 298 50 100 rV lo := pa_fi g21 fx31 (by omega)
      have g89 : px_pa h45 298 50 100 rV lo := pa_fi g88 fx47 (by omega)
      have g90 : px_pa h27 299 50 100 rT lo := pa_fi g22 fx31 (by omega)
      have g91 : px_pa h45 299 50 100 rT lo := pa_fi g90 fx47 (by omega)
      have g92 : px_pa h27 300 54 100 rK lt := pa_fi g23 fx31 (by omega)
      have g93 : px_pa h45 300 54 100 rK lt := pa_fi g92 fx47 (by omega)
      have g94 : px_pa h27 301 50 100 rV lt := pa_fi g24 fx31 (by omega)
      have g95 : px_pa h45 301 50 100 rV lt := pa_fi g94 fx47 (by omega)
      have g96 : px_pa h27 302 50 100 rT lt := pa_fi g25 fx31 (by omega)
      have g97 : px_pa h45 302 50 100 rT lt := pa_fi g96 fx47 (by omega)
      have g98 : px_pa h27 303 50 24 vN ke := pa_fi g26 fx31 (by omega)
      have g99 : px_pa h45 303 50 24 vN ke := pa_fi g98 fx47 (by omega)
      have g100 : pMD h45 ([] : List Nat) j xs := ⟨(nI p33, false, if (rdAll tx).1 = true then gp.2.2.1 else nI (rdAll tx).2.1, rd39, nI rs34, nI rc35, nI tm36, ky40, vl41, mo42), gq, gh, gw, gu, gv, jn, sl, sl2, lh, lg, lo, lt, cv, pl, ke, g46, g51, g53, g55, g57, g59, g61, g63, g65, g67, g69, g71, g73, g75, g77, g79, g81, g83, g85, g87, g89, g91, g93, g95, g97, g99, ⟨fun c hc => absurd hc (by simp), ok.2⟩⟩
      exact ⟨congrArg (fun z => some (Value.int z)) (show -10 - nI (rdAll tx).2.1 = aParse tx by unfold aParse; rw [if_neg (by rw [c_7]; decide)]), g100, fr48⟩
    · skip
      have c_38 : ((rdAll tx).1) = true := bI_t' c_38
      refine e_aload_n f_139_41 rfl rfl ?_
      refine e_getf f_139_42 g46 rfl rfl ?_
      show px_to 139 45 [some (.ref (269)), some (.int (bI ((rdAll tx).1)))] [.int (nI xs.length)] h45 _
      refine e_goto f_139_45 ?_
      refine e_iret f_139_55 rfl (rfl) ?_
      exact absurd (c_7.symm.trans c_38) (by decide)
  · skip
    have c_7 : ((rdAll tx).1) = true := bI_t' c_7
    refine e_aload_n f_139_10 rfl rfl ?_
    refine e_iconst (v := nI 1) f_139_11 (by decide) rfl ?_
    have g101 : px_pa h27 270 52 500 vN tx := pa_fi g2 fx31 (by omega)
    have g102 : px_pa h27 271 52 6 stS j := pa_fi g3 fx31 (by omega)
    have g103 : px_pa h27 272 52 6 stA j := pa_fi g4 fx31 (by omega)
    have g104 : px_pa h27 273 50 6 stN j := pa_fi g5 fx31 (by omega)
    have g105 : pMA h27 xs := pMA_fi g6 fx31 (by omega)
    refine e_callV (As := [.int (nI 1)]) (rest := []) f_139_12 rfl rfl rfl (Nat.le_of_ble_eq_true rfl) (Nat.le_of_ble_eq_true rfl) g43 rfl (Nat.le_of_ble_eq_true rfl) (cc_Md_goes1 (jl := j) (xs0 := xs) (tx := tx) (sn := nI j.length) (cn := nI xs.length) (gp := (nI p33, false, if (rdAll tx).1 = true then gp.2.2.1 else nI (rdAll tx).2.1, rd39, nI rs34, nI rc35, nI tm36, ky40, vl41, mo42)) (gq := gq) (gh := gh) (gw := gw) (gu := gu) (gv := gv) g43 g101 g102 g103 g104 g105 (ok.1)) rfl (fun h106 r107 q108 => ?_)
    obtain ⟨rfl, g109, g110, g111, fx112⟩ := q108
    obtain ⟨hm113, fa114, fb115⟩ := fl_mid fx112
    have fr116 : px_fi 269 35 h hm113 := fi_tr fr32 fa114 (by omega)
    obtain ⟨hm117, fa118, fb119⟩ := fl_mid fb115
    have fr120 : px_fi 269 35 h hm117 := fi_tr fr116 fa118 (by omega)
    have fb121 := fl_one fb119
    have fr122 : px_fi 269 35 h h106 := fi_tr fr120 fb121 (by omega)
    show px_to 139 15 [some (.ref (269)), some (.int (bI ((rdAll tx).1)))] [.int (bI ((rdAll tx).1))] h106 _
    obtain ⟨p123, rs124, rc125, tm126, g127, hG128⟩ := id g109
    obtain ⟨rd129, ky130, vl131, mo132, g133, hX134⟩ := id g127
    refine e_istore_n (L' := [some (.ref (269)), some (.int (bI ((rdAll tx).1)))]) f_139_15 (Nat.le_of_ble_eq_true rfl) rfl rfl ?_
    refine e_aload_n f_139_16 rfl rfl ?_
    refine e_aload_n f_139_17 rfl rfl ?_
    refine e_getf f_139_18 g133 rfl rfl ?_
    show px_to 139 21 [some (.ref (269)), some (.int (bI ((rdAll tx).1)))] [.int (nI rs124), .ref (269)] h106 _
    refine e_putp (vs' := mB (nI tx.length, nI rs124, nI xs.length) (nI p123, true, if (rdAll tx).1 = true then (nI p33, false, if (rdAll tx).1 = true then gp.2.2.1 else nI (rdAll tx).2.1, rd39, nI rs34, nI rc35, nI tm36, ky40, vl41, mo42).2.2.1 else nI (rdAll tx).2.1, rd129, nI rs124, nI rc125, nI tm126, ky130, vl131, mo132) gq gh gw gu gv) f_139_21 g133 (Nat.le_of_ble_eq_true rfl) (rfl) (rfl) rfl rfl (fun h135 g136 fx137 => ?_)
    have fr138 : px_fi 269 35 h h135 := fi_tr fr122 fx137 (by omega)
    refine e_aload_n f_139_24 rfl rfl ?_
    refine e_aload_n f_139_25 rfl rfl ?_
    refine e_getf f_139_26 g136 rfl rfl ?_
    show px_to 139 29 [some (.ref (269)), some (.int (bI ((rdAll tx).1)))] [.int (nI rc125), .ref (269)] h135 _
    refine e_putp (vs' := mB (nI tx.length, nI rs124, nI rc125) (nI p123, true, if (rdAll tx).1 = true then (nI p33, false, if (rdAll tx).1 = true then gp.2.2.1 else nI (rdAll tx).2.1, rd39, nI rs34, nI rc35, nI tm36, ky40, vl41, mo42).2.2.1 else nI (rdAll tx).2.1, rd129, nI rs124, nI rc125, nI tm126, ky130, vl131, mo132) gq gh gw gu gv) f_139_29 g136 (Nat.le_of_ble_eq_true rfl) (rfl) (rfl) rfl rfl (fun h139 g140 fx141 => ?_)
    have fr142 : px_fi 269 35 h h139 := fi_tr fr138 fx141 (by omega)
    refine e_aload_n f_139_32 rfl rfl ?_
    refine e_iconst (v := nI 0) f_139_33 (by decide) rfl ?_
    refine e_putp (vs' := mB (nI 0, nI rs124, nI rc125) (nI p123, true, if (rdAll tx).1 = true then (nI p33, false, if (rdAll tx).1 = true then gp.2.2.1 else nI (rdAll tx).2.1, rd39, nI rs34, nI rc35, nI tm36, ky40, vl41, mo42).2.2.1 else nI (rdAll tx).2.1, rd129, nI rs124, nI rc125, nI tm126, ky130, vl131, mo132) gq gh gw gu gv) f_139_34 g140 (Nat.le_of_ble_eq_true rfl) (rfl) (rfl) rfl rfl (fun h143 g144 fx145 => ?_)
    have fr146 : px_fi 269 35 h h143 := fi_tr fr142 fx145 (by omega)
    refine e_iload_n f_139_37 rfl rfl ?_
    refine e_if_eq f_139_38 rfl (fun c_38 => ?_) (fun c_38 => ?_)
    · skip
      have c_38 : ((rdAll tx).1) = false := bI_f c_38
      refine e_bipush (v := (-10)) f_139_48 (by decide) rfl ?_
      refine e_aload_n f_139_50 rfl rfl ?_
      refine e_getf f_139_51 g144 rfl rfl ?_
      show px_to 139 54 [some (.ref (269)), some (.int (bI ((rdAll tx).1)))] [.int (if (rdAll tx).1 = true then (nI p33, false, if (rdAll tx).1 = true then gp.2.2.1 else nI (rdAll tx).2.1, rd39, nI rs34, nI rc35, nI tm36, ky40, vl41, mo42).2.2.1 else nI (rdAll tx).2.1), .int ((-10))] h143 _
      refine e_isub (z := -10 - (if (rdAll tx).1 = true then (nI p33, false, if (rdAll tx).1 = true then gp.2.2.1 else nI (rdAll tx).2.1, rd39, nI rs34, nI rc35, nI tm36, ky40, vl41, mo42).2.2.1 else nI (rdAll tx).2.1)) f_139_54 (rfl) rfl ?_
      refine e_iret f_139_55 rfl (rfl) ?_
      exact absurd (c_38.symm.trans c_7) (by decide)
    · skip
      have c_38 : ((rdAll tx).1) = true := bI_t' c_38
      refine e_aload_n f_139_41 rfl rfl ?_
      refine e_getf f_139_42 g144 rfl rfl ?_
      show px_to 139 45 [some (.ref (269)), some (.int (bI ((rdAll tx).1)))] [.int (nI rc125)] h143 _
      refine e_goto f_139_45 ?_
      refine e_iret f_139_55 rfl (rfl) ?_
      have g147 : px_pa hm113 270 52 500 vN tx := pa_fi g101 fa114 (by omega)
      have g148 : px_pa hm117 270 52 500 vN tx := pa_fi g147 fa118 (by omega)
      have g149 : px_pa h106 270 52 500 vN tx := pa_fi g148 fb121 (by omega)
      have g150 : px_pa h135 270 52 500 vN tx := pa_fi g149 fx137 (by omega)
      have g151 : px_pa h139 270 52 500 vN tx := pa_fi g150 fx141 (by omega)
      have g152 : px_pa h143 270 52 500 vN tx := pa_fi g151 fx145 (by omega)
      have g153 : px_pa h143 270 52 500 vN ([] : List Nat) := pa_nil g152
      have hra := rdAll_ok (tx := tx) ok.1
      rw [if_pos c_7, if_pos c_7]
      obtain ⟨_, ej, ex⟩ := rdAll_ok2 c_7
      have g155 : pMk h135 tx ((rdAll tx).1) := pMk_fi g110 fx137 (by omega)
      have g156 : pMk h139 tx ((rdAll tx).1) := pMk_fi g155 fx141 (by omega)
      have g157 : pMk h143 tx ((rdAll tx).1) := pMk_fi g156 fx145 (by omega)
      obtain ⟨jl154, g158, g159, g160, hjl161⟩ := id g157
      have g163 : pMX h135 tx ((rdAll tx).1) := pMX_fi g111 fx137 (by omega)
      have g164 : pMX h139 tx ((rdAll tx).1) := pMX_fi g163 fx141 (by omega)
      have g165 : pMX h143 tx ((rdAll tx).1) := pMX_fi g164 fx145 (by omega)
      obtain ⟨xs162, g166, hxs167⟩ := id g165
      have hjl := hjl161 c_7
      have hxs := hxs167 c_7
      have g168 : px_pa h143 271 52 6 stS ((rdAll tx).2.2.1) := pa_eq g158 (hjl.trans ej.symm)
      have g169 : px_pa h143 272 52 6 stA ((rdAll tx).2.2.1) := pa_eq g159 (hjl.trans ej.symm)
      have g170 : px_pa h143 273 50 6 stN ((rdAll tx).2.2.1) := pa_eq g160 (hjl.trans ej.symm)
      have g171 : pMA h143 ((rdAll tx).2.2.2) := by rw [ex, ← hxs]; exact g166
      have g172 : h143.2.2 269 = some (12, mB (nI (([] : List Nat).length), nI ((rdAll tx).2.2.1.length), nI ((rdAll tx).2.2.2.length)) (nI p123, true, if (rdAll tx).1 = true then (nI p33, false, if (rdAll tx).1 = true then gp.2.2.1 else nI (rdAll tx).2.1, rd39, nI rs34, nI rc35, nI tm36, ky40, vl41, mo42).2.2.1 else nI (rdAll tx).2.1, rd129, nI rs124, nI rc125, nI tm126, ky130, vl131, mo132) gq gh gw gu gv) := by rw [ej, ex, ← (hG128 c_7).1, ← (hG128 c_7).2]; exact g144
      have g173 : px_pa h27 284 52 6 stS jn := pa_fi g7 fx31 (by omega)
      have g174 : px_pa hm113 284 52 6 stS jn := pa_fi g173 fa114 (by omega)
      have g175 : px_pa hm117 284 52 6 stS jn := pa_fi g174 fa118 (by omega)
      have g176 : px_pa h106 284 52 6 stS jn := pa_fi g175 fb121 (by omega)
      have g177 : px_pa h135 284 52 6 stS jn := pa_fi g176 fx137 (by omega)
      have g178 : px_pa h139 284 52 6 stS jn := pa_fi g177 fx141 (by omega)
      have g179 : px_pa h143 284 52 6 stS jn := pa_fi g178 fx145 (by omega)
      have g180 : px_pa h27 285 52 6 stA jn := pa_fi g8 fx31 (by omega)
      have g181 : px_pa hm113 285 52 6 stA jn := pa_fi g180 fa114 (by omega)
      have g182 : px_pa hm117 285 52 6 stA jn := pa_fi g181 fa118 (by omega)
      have g183 : px_pa h106 285 52 6 stA jn := pa_fi g182 fb121 (by omega)
      have g184 : px_pa h135 285 52 6 stA jn := pa_fi g183 fx137 (by omega)
      have g185 : px_pa h139 285 52 6 stA jn := pa_fi g184 fx141 (by omega)
      have g186 : px_pa h143 285 52 6 stA jn := pa_fi g185 fx145 (by omega)
      have g187 : px_pa h27 286 50 6 stN jn := pa_fi g9 fx31 (by omega)
      have g188 : px_pa hm113 286 50 6 stN jn := pa_fi g187 fa114 (by omega)
      have g189 : px_pa hm117 286 50 6 stN jn := pa_fi g188 fa118 (by omega)
      have g190 : px_pa h106 286 50 6 stN jn := pa_fi g189 fb121 (by omega)
      have g191 : px_pa h135 286 50 6 stN jn := pa_fi g190 fx137 (by omega)
      have g192 : px_pa h139 286 50 6 stN jn := pa_fi g191 fx141 (by omega)
      have g193 : px_pa h143 286 50 6 stN jn := pa_fi g192 fx145 (by omega)
      have g194 : px_pa h27 287 50 3070 Value.int sl := pa_fi g10 fx31 (by omega)
      have g195 : px_pa hm113 287 50 3070 Value.int sl := pa_fi g194 fa114 (by omega)
      have g196 : px_pa hm117 287 50 3070 Value.int sl := pa_fi g195 fa118 (by omega)
      have g197 : px_pa h106 287 50 3070 Value.int sl := pa_fi g196 fb121 (by omega)
      have g198 : px_pa h135 287 50 3070 Value.int sl := pa_fi g197 fx137 (by omega)
      have g199 : px_pa h139 287 50 3070 Value.int sl := pa_fi g198 fx141 (by omega)
      have g200 : px_pa h143 287 50 3070 Value.int sl := pa_fi g199 fx145 (by omega)
      have g201 : px_pa h27 288 50 3070 Value.int sl2 := pa_fi g11 fx31 (by omega)
      have g202 : px_pa hm113 288 50 3070 Value.int sl2 := pa_fi g201 fa114 (by omega)
      have g203 : px_pa hm117 288 50 3070 Value.int sl2 := pa_fi g202 fa118 (by omega)
      have g204 : px_pa h106 288 50 3070 Value.int sl2 := pa_fi g203 fb121 (by omega)
      have g205 : px_pa h135 288 50 3070 Value.int sl2 := pa_fi g204 fx137 (by omega)
      have g206 : px_pa h139 288 50 3070 Value.int sl2 := pa_fi g205 fx141 (by omega)
      have g207 : px_pa h143 288 50 3070 Value.int sl2 := pa_fi g206 fx145 (by omega)
      have g208 : px_pa h27 289 54 100 rK lh := pa_fi g12 fx31 (by omega)
      have g209 : px_pa hm113 289 54 100 rK lh := pa_fi g208 fa114 (by omega)
      have g210 : px_pa hm117 289 54 100 rK lh := pa_fi g209 fa118 (by omega)
      have g211 : px_pa h106 289 54 100 rK lh := pa_fi g210 fb121 (by omega)
      have g212 : px_pa h135 289 54 100 rK lh := pa_fi g211 fx137 (by omega)
      have g213 : px_pa h139 289 54 100 rK lh := pa_fi g212 fx141 (by omega)
      have g214 : px_pa h143 289 54 100 rK lh := pa_fi g213 fx145 (by omega)
      have g215 : px_pa h27 290 50 100 rV lh := pa_fi g13 fx31 (by omega)
      have g216 : px_pa hm113 290 50 100 rV lh := pa_fi g215 fa114 (by omega)
      have g217 : px_pa hm117 290 50 100 rV lh := pa_fi g216 fa118 (by omega)
      have g218 : px_pa h106 290 50 100 rV lh := pa_fi g217 fb121 (by omega)
      have g219 : px_pa h135 290 50 100 rV lh := pa_fi g218 fx137 (by omega)
      have g220 : px_pa h139 290 50 100 rV lh := pa_fi g219 fx141 (by omega)
      have g221 : px_pa h143 290 50 100 rV lh := pa_fi g220 fx145 (by omega)
      have g222 : px_pa h27 291 50 100 rT lh := pa_fi g14 fx31 (by omega)
      have g223 : px_pa hm113 291 50 100 rT lh := pa_fi g222 fa114 (by omega)
      have g224 : px_pa hm117 291 50 100 rT lh := pa_fi g223 fa118 (by omega)
      have g225 : px_pa h106 291 50 100 rT lh := pa_fi g224 fb121 (by omega)
      have g226 : px_pa h135 291 50 100 rT lh := pa_fi g225 fx137 (by omega)
      have g227 : px_pa h139 291 50 100 rT lh := pa_fi g226 fx141 (by omega)
      have g228 : px_pa h143 291 50 100 rT lh := pa_fi g227 fx145 (by omega)
      have g229 : px_pa h27 292 54 100 rK lg := pa_fi g15 fx31 (by omega)
      have g230 : px_pa hm113 292 54 100 rK lg := pa_fi g229 fa114 (by omega)
      have g231 : px_pa hm117 292 54 100 rK lg := pa_fi g230 fa118 (by omega)
      have g232 : px_pa h106 292 54 100 rK lg := pa_fi g231 fb121 (by omega)
      have g233 : px_pa h135 292 54 100 rK lg := pa_fi g232 fx137 (by omega)
      have g234 : px_pa h139 292 54 100 rK lg := pa_fi g233 fx141 (by omega)
      have g235 : px_pa h143 292 54 100 rK lg := pa_fi g234 fx145 (by omega)
      have g236 : px_pa h27 293 50 100 rV lg := pa_fi g16 fx31 (by omega)
      have g237 : px_pa hm113 293 50 100 rV lg := pa_fi g236 fa114 (by omega)
      have g238 : px_pa hm117 293 50 100 rV lg := pa_fi g237 fa118 (by omega)
      have g239 : px_pa h106 293 50 100 rV lg := pa_fi g238 fb121 (by omega)
      have g240 : px_pa h135 293 50 100 rV lg := pa_fi g239 fx137 (by omega)
      have g241 : px_pa h139 293 50 100 rV lg := pa_fi g240 fx141 (by omega)
      have g242 : px_pa h143 293 50 100 rV lg := pa_fi g241 fx145 (by omega)
      have g243 : px_pa h27 294 50 100 rT lg := pa_fi g17 fx31 (by omega)
      have g244 : px_pa hm113 294 50 100 rT lg := pa_fi g243 fa114 (by omega)
      have g245 : px_pa hm117 294 50 100 rT lg := pa_fi g244 fa118 (by omega)
      have g246 : px_pa h106 294 50 100 rT lg := pa_fi g245 fb121 (by omega)
      have g247 : px_pa h135 294 50 100 rT lg := pa_fi g246 fx137 (by omega)
      have g248 : px_pa h139 294 50 100 rT lg := pa_fi g247 fx141 (by omega)
      have g249 : px_pa h143 294 50 100 rT lg := pa_fi g248 fx145 (by omega)
      have g250 : px_pa h27 295 50 30 Value.int cv := pa_fi g18 fx31 (by omega)
      have g251 : px_pa hm113 295 50 30 Value.int cv := pa_fi g250 fa114 (by omega)
      have g252 : px_pa hm117 295 50 30 Value.int cv := pa_fi g251 fa118 (by omega)
      have g253 : px_pa h106 295 50 30 Value.int cv := pa_fi g252 fb121 (by omega)
      have g254 : px_pa h135 295 50 30 Value.int cv := pa_fi g253 fx137 (by omega)
      have g255 : px_pa h139 295 50 30 Value.int cv := pa_fi g254 fx141 (by omega)
      have g256 : px_pa h143 295 50 30 Value.int cv := pa_fi g255 fx145 (by omega)
      have g257 : px_pa h27 296 50 24 vN pl := pa_fi g19 fx31 (by omega)
      have g258 : px_pa hm113 296 50 24 vN pl := pa_fi g257 fa114 (by omega)
      have g259 : px_pa hm117 296 50 24 vN pl := pa_fi g258 fa118 (by omega)
      have g260 : px_pa h106 296 50 24 vN pl := pa_fi g259 fb121 (by omega)
      have g261 : px_pa h135 296 50 24 vN pl := pa_fi g260 fx137 (by omega)
      have g262 : px_pa h139 296 50 24 vN pl := pa_fi g261 fx141 (by omega)
      have g263 : px_pa h143 296 50 24 vN pl := pa_fi g262 fx145 (by omega)
      have g264 : px_pa h27 297 54 100 rK lo := pa_fi g20 fx31 (by omega)
      have g265 : px_pa hm113 297 54 100 rK lo := pa_fi g264 fa114 (by omega)
      have g266 : px_pa hm117 297 54 100 rK lo := pa_fi g265 fa118 (by omega)
      have g267 : px_pa h106 297 54 100 rK lo := pa_fi g266 fb121 (by omega)
      have g268 : px_pa h135 297 54 100 rK lo := pa_fi g267 fx137 (by omega)
      have g269 : px_pa h139 297 54 100 rK lo := pa_fi g268 fx141 (by omega)
      have g270 : px_pa h143 297 54 100 rK lo := pa_fi g269 fx145 (by omega)
      have g271 : px_pa h27 298 50 100 rV lo := pa_fi g21 fx31 (by omega)
      have g272 : px_pa hm113 298 50 100 rV lo := pa_fi g271 fa114 (by omega)
      have g273 : px_pa hm117 298 50 100 rV lo := pa_fi g272 fa118 (by omega)
      have g274 : px_pa h106 298 50 100 rV lo := pa_fi g273 fb121 (by omega)
      have g275 : px_pa h135 298 50 100 rV lo := pa_fi g274 fx137 (by omega)
      have g276 : px_pa h139 298 50 100 rV lo := pa_fi g275 fx141 (by omega)
      have g277 : px_pa h143 298 50 100 rV lo := pa_fi g276 fx145 (by omega)
      have g278 : px_pa h27 299 50 100 rT lo := pa_fi g22 fx31 (by omega)
      have g279 : px_pa hm113 299 50 100 rT lo := pa_fi g278 fa114 (by omega)
      have g280 : px_pa hm117 299 50 100 rT lo := pa_fi g279 fa118 (by omega)
      have g281 : px_pa h106 299 50 100 rT lo := pa_fi g280 fb121 (by omega)
      have g282 : px_pa h135 299 50 100 rT lo := pa_fi g281 fx137 (by omega)
      have g283 : px_pa h139 299 50 100 rT lo := pa_fi g282 fx141 (by omega)
      have g284 : px_pa h143 299 50 100 rT lo := pa_fi g283 fx145 (by omega)
      have g285 : px_pa h27 300 54 100 rK lt := pa_fi g23 fx31 (by omega)
      have g286 : px_pa hm113 300 54 100 rK lt := pa_fi g285 fa114 (by omega)
      have g287 : px_pa hm117 300 54 100 rK lt := pa_fi g286 fa118 (by omega)
      have g288 : px_pa h106 300 54 100 rK lt := pa_fi g287 fb121 (by omega)
      have g289 : px_pa h135 300 54 100 rK lt := pa_fi g288 fx137 (by omega)
      have g290 : px_pa h139 300 54 100 rK lt := pa_fi g289 fx141 (by omega)
      have g291 : px_pa h143 300 54 100 rK lt := pa_fi g290 fx145 (by omega)
      have g292 : px_pa h27 301 50 100 rV lt := pa_fi g24 fx31 (by omega)
      have g293 : px_pa hm113 301 50 100 rV lt := pa_fi g292 fa114 (by omega)
      have g294 : px_pa hm117 301 50 100 rV lt := pa_fi g293 fa118 (by omega)
      have g295 : px_pa h106 301 50 100 rV lt := pa_fi g294 fb121 (by omega)
      have g296 : px_pa h135 301 50 100 rV lt := pa_fi g295 fx137 (by omega)
      have g297 : px_pa h139 301 50 100 rV lt := pa_fi g296 fx141 (by omega)
      have g298 : px_pa h143 301 50 100 rV lt := pa_fi g297 fx145 (by omega)
      have g299 : px_pa h27 302 50 100 rT lt := pa_fi g25 fx31 (by omega)
      have g300 : px_pa hm113 302 50 100 rT lt := pa_fi g299 fa114 (by omega)
      have g301 : px_pa hm117 302 50 100 rT lt := pa_fi g300 fa118 (by omega)
      have g302 : px_pa h106 302 50 100 rT lt := pa_fi g301 fb121 (by omega)
      have g303 : px_pa h135 302 50 100 rT lt := pa_fi g302 fx137 (by omega)
      have g304 : px_pa h139 302 50 100 rT lt := pa_fi g303 fx141 (by omega)
      have g305 : px_pa h143 302 50 100 rT lt := pa_fi g304 fx145 (by omega)
      have g306 : px_pa h27 303 50 24 vN ke := pa_fi g26 fx31 (by omega)
      have g307 : px_pa hm113 303 50 24 vN ke := pa_fi g306 fa114 (by omega)
      have g308 : px_pa hm117 303 50 24 vN ke := pa_fi g307 fa118 (by omega)
      have g309 : px_pa h106 303 50 24 vN ke := pa_fi g308 fb121 (by omega)
      have g310 : px_pa h135 303 50 24 vN ke := pa_fi g309 fx137 (by omega)
      have g311 : px_pa h139 303 50 24 vN ke := pa_fi g310 fx141 (by omega)
      have g312 : px_pa h143 303 50 24 vN ke := pa_fi g311 fx145 (by omega)
      have g313 : pMD h143 ([] : List Nat) ((rdAll tx).2.2.1) ((rdAll tx).2.2.2) := ⟨(nI p123, true, if (rdAll tx).1 = true then (nI p33, false, if (rdAll tx).1 = true then gp.2.2.1 else nI (rdAll tx).2.1, rd39, nI rs34, nI rc35, nI tm36, ky40, vl41, mo42).2.2.1 else nI (rdAll tx).2.1, rd129, nI rs124, nI rc125, nI tm126, ky130, vl131, mo132), gq, gh, gw, gu, gv, jn, sl, sl2, lh, lg, lo, lt, cv, pl, ke, g172, g153, g168, g169, g170, g171, g179, g186, g193, g200, g207, g214, g221, g228, g235, g242, g249, g256, g263, g270, g277, g284, g291, g298, g305, g312, ⟨fun c hc => absurd hc (by simp), rdAll_okB ok.1, hra.2, ok.2.2.2⟩⟩
      exact ⟨congrArg (fun z => some (Value.int z)) (show nI rc125 = _ from by unfold aParse; rw [if_pos c_7, ex, ← (hG128 c_7).2]), g313, fr146⟩
