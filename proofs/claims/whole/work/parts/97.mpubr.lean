theorem okB_okZ {j : List St} (h : okB j) (ht : tN j ≤ 2) : okZ j := ⟨h.1, fun s hs h1 => by
  have h2 := (h.2 s hs).2.1 (Or.inr h1)
  rw [h1] at h2
  have h3 : s.2.1 ∈ [43, 45, 42, 47] := h2
  simp only [List.mem_cons, List.not_mem_nil, or_false] at h3
  exact h3, ht⟩
theorem runO_rw {j : List St} {x : CS3} (hj : okJ j) (hx : okC3 x) : ∀ r ∈ (runO j x.1).2.1, rwOk r := (runO_ok hj hx.2.1).1

set_option maxRecDepth 20000 in
set_option maxHeartbeats 4000000 in
theorem cc_MD_run {h : px_H} {tx : List Nat} {j : List St} {xs : List CS3} {c : Int32} (H0 : pMD h tx j xs) (p0 : tN j ≤ 2) : px_wp 168 [.ref (269), .int (c)] h (fun h1 r => r = some (.int (aRun j xs c)) ∧ pMD h1 tx j xs ∧ px_fi 269 35 h h1) := by
  have fr0 : px_fi 269 35 h h := fi_rf _ _ _
  show px_to 168 0 [some (.ref (269)), some (.int (c))] [] h _
  obtain ⟨gp, gq, gh, gw, gu, gv, jn, sl, sl2, lh, lg, lo, lt, cv, pl, ke, g1, g2, g3, g4, g5, g6, g7, g8, g9, g10, g11, g12, g13, g14, g15, g16, g17, g18, g19, g20, g21, g22, g23, g24, g25, g26, ok⟩ := id H0
  have h8 : xs.length ≤ 8 := ok.2.2.1.1
  have hj6 : j.length ≤ 6 := ok.2.1.1.1
  have htl : tx.length ≤ 500 := pa_len g2
  refine e_aload_n f_168_0 rfl rfl ?_
  refine e_iload_n f_168_1 rfl rfl ?_
  refine e_callV (As := [.int (c)]) (rest := []) f_168_2 rfl rfl rfl (Nat.le_of_ble_eq_true rfl) (Nat.le_of_ble_eq_true rfl) g1 rfl (Nat.le_of_ble_eq_true rfl) (cc_Md_isCase (c := c) (L := nI tx.length) (sn := nI j.length) (xs := xs) (gp := gp) (gq := gq) (gh := gh) (gw := gw) (gu := gu) (gv := gv) g1 (by omega)) rfl (fun h27 r28 q29 => ?_)
  obtain ⟨rfl, qe⟩ := q29
  have qe := qe.symm
  subst qe
  show px_to 168 5 [some (.ref (269)), some (.int (c))] [.int (bI (hasC c xs.length))] h _
  refine e_if_ne f_168_5 rfl (fun c_5 => ?_) (fun c_5 => ?_)
  · skip
    have c_5 : (hasC c xs.length) = true := bI_t c_5
    obtain ⟨k, hk, hkc⟩ := hasC_t (by omega) c_5
    subst hkc
    have hcx : okC3 (xs.getD k c30) := ok.2.2.1.2 _ (getD_mem _ hk)
    obtain ⟨em30, es31, om32, ro33, wn34, g35, g36, g37, g38, g39, g40, g41, g42, g43, g44, hA45⟩ := id g6
    obtain ⟨hA1, hA2, hA3, hA4, hA5⟩ := hA45.2 k hk
    have hAl := hA45.1
    have hel := hcx.1
    have hoe : ∀ e ∈ (xs.getD k c30).1, e.1 < 65536 := fun e he => by have := (hcx.2.1 e he).1; omega
    refine e_aload_n f_168_10 rfl rfl ?_
    refine e_iload_n f_168_11 rfl rfl ?_
    refine e_callV (As := [.int (nI k)]) (rest := []) f_168_12 rfl rfl rfl (Nat.le_of_ble_eq_true rfl) (Nat.le_of_ble_eq_true rfl) g1 rfl (Nat.le_of_ble_eq_true rfl) (cc_Md_pla (c := k) (ev := (xs.getD k c30).1) (em := em30) (es := es31) (pl := pl) (L := nI tx.length) (cn := nI xs.length) (j := j) (jn := jn) (cb := gq.2.2.2.2.2.2) (sl := sl) (sl2 := sl2) (lh := lh) (lg := lg) (cv := cv) (tl := cv) (gp := gp) (gq := gq) (gh := gh) (gw := gw) (gu := gu) (gv := gv) g1 g3 g4 g5 g7 g8 g9 g10 g11 g12 g13 g14 g15 g16 g17 g18 g19 g35 g36 g37 g38 g39 (okB_okZ ok.2.1 p0) (ok.2.2.2.1) (by omega) (⟨hAl.1, hAl.2.1⟩) (hA2) (hcx.1) (hcx.2.1) (hA1) (⟨ok.2.2.2.1.2.2, fun _ => rfl⟩)) rfl (fun h46 r47 q48 => ?_)
    obtain ⟨rfl, g49, g50, g51, g52, g53, fx54⟩ := q48
    obtain ⟨hm55, fa56, fb57⟩ := fj_mid fx54
    have fr58 : px_fi 269 35 h hm55 := fi_tr fr0 fa56 (by omega)
    have fr59 : px_fi 269 35 h h46 := fi_tr fr58 fb57 (by omega)
    show px_to 168 15 [some (.ref (269)), some (.int (nI k))] [] h46 _
    obtain ⟨la60, lb61, gw62, sl63, sl264, lh65, cv66, g67, g68, g69, g70, g71, g72, g73, g74, g75, g76, hO77⟩ := id g53
    have hO := hO77
    have hOl := hO.1
    have hrok := runO_rw ok.2.1.1 hcx
    have hrl := (runO_ok ok.2.1.1 hcx.2.1).2.1
    refine e_aload_n f_168_15 rfl rfl ?_
    refine e_iload_n f_168_16 rfl rfl ?_
    have g78 : px_pa hm55 297 54 100 rK lo := pa_fi g20 fa56 (by omega)
    have g79 : px_pa h46 297 54 100 rK lo := pa_fi g78 fb57 (by omega)
    have g80 : px_pa hm55 298 50 100 rV lo := pa_fi g21 fa56 (by omega)
    have g81 : px_pa h46 298 50 100 rV lo := pa_fi g80 fb57 (by omega)
    have g82 : px_pa hm55 299 50 100 rT lo := pa_fi g22 fa56 (by omega)
    have g83 : px_pa h46 299 50 100 rT lo := pa_fi g82 fb57 (by omega)
    have g84 : px_pa hm55 279 50 8 vN om32 := pa_fi g40 fa56 (by omega)
    have g85 : px_pa h46 279 50 8 vN om32 := pa_fi g84 fb57 (by omega)
    have g86 : px_pa hm55 280 54 128 rK ro33 := pa_fi g41 fa56 (by omega)
    have g87 : px_pa h46 280 54 128 rK ro33 := pa_fi g86 fb57 (by omega)
    have g88 : px_pa hm55 281 53 128 rV ro33 := pa_fi g42 fa56 (by omega)
    have g89 : px_pa h46 281 53 128 rV ro33 := pa_fi g88 fb57 (by omega)
    have g90 : px_pa hm55 282 53 128 rT ro33 := pa_fi g43 fa56 (by omega)
    have g91 : px_pa h46 282 53 128 rT ro33 := pa_fi g90 fb57 (by omega)
    have g92 : px_pa hm55 300 54 100 rK lt := pa_fi g23 fa56 (by omega)
    have g93 : px_pa h46 300 54 100 rK lt := pa_fi g92 fb57 (by omega)
    have g94 : px_pa hm55 301 50 100 rV lt := pa_fi g24 fa56 (by omega)
    have g95 : px_pa h46 301 50 100 rV lt := pa_fi g94 fb57 (by omega)
    have g96 : px_pa hm55 302 50 100 rT lt := pa_fi g25 fa56 (by omega)
    have g97 : px_pa h46 302 50 100 rT lt := pa_fi g96 fb57 (by omega)
    have g98 : px_pa hm55 283 52 8 vN wn34 := pa_fi g44 fa56 (by omega)
    have g99 : px_pa h46 283 52 8 vN wn34 := pa_fi g98 fb57 (by omega)
    refine e_callV (As := [.int (nI k)]) (rest := []) f_168_17 rfl rfl rfl (Nat.le_of_ble_eq_true rfl) (Nat.le_of_ble_eq_true rfl) g67 rfl (Nat.le_of_ble_eq_true rfl) (cc_Md_vd (zz := (runO j ((xs.getD k c30).1)).2.2.1.isSome) (c := k) (os := (xs.getD k c30).2.2) (lg := (runO j ((xs.getD k c30).1)).2.1) (td := (xs.getD k c30).2.1) (lo := lo) (lt := lt) (om := om32) (ro := ro33) (wn := wn34) (ga := (nI tx.length, nI j.length, nI xs.length)) (gp := gp) (gq := (nI j.length, (runO j ((xs.getD k c30).1)).2.2.1.isSome, oI (runO j ((xs.getD k c30).1)).2.2.1, (runO j ((xs.getD k c30).1)).2.2.2, la60, lb61, gq.2.2.2.2.2.2)) (gh := (nI 0, nI ((runO j ((xs.getD k c30).1)).2.1.length))) (gw := gw62) (gu := (nI ((xs.getD k c30).1).length, gu.2.1, gu.2.2)) (gv := gv) g67 g73 g74 g75 g79 g81 g83 g85 g87 g89 g91 g93 g95 g97 g99 (by omega) (⟨hAl.2.2.1, hAl.2.2.2.1⟩) (hA3) (hA4) (hcx.2.2.1) (hcx.2.2.2.1) (hrok) (⟨hAl.2.2.2.2, hA5⟩) (by have := hcx.2.2.2.2; omega)) rfl (fun h100 r101 q102 => ?_)
    obtain ⟨rfl, g103, g104, g105, g106, g107, g108, g109, fx110⟩ := q102
    obtain ⟨hm111, fa112, fb113⟩ := fj_mid fx110
    have fr114 : px_fi 269 35 h hm111 := fi_tr fr59 fa112 (by omega)
    have fr115 : px_fi 269 35 h h100 := fi_tr fr114 fb113 (by omega)
    show px_to 168 20 [some (.ref (269)), some (.int (nI k))] [.int (nI (vdB ((xs.getD k c30).2.2) ((runO j ((xs.getD k c30).1)).2.2.1.isSome) ((runO j ((xs.getD k c30).1)).2.1) ((xs.getD k c30).2.1)))] h100 _
    refine e_iret f_168_20 rfl (rfl) ?_
    have g116 : px_pa hm55 274 50 8 vN em30 := pa_fi g35 fa56 (by omega)
    have g117 : px_pa h46 274 50 8 vN em30 := pa_fi g116 fb57 (by omega)
    have g118 : px_pa hm111 274 50 8 vN em30 := pa_fi g117 fa112 (by omega)
    have g119 : px_pa h100 274 50 8 vN em30 := pa_fi g118 fb113 (by omega)
    have g120 : px_pa hm55 275 52 192 evS es31 := pa_fi g36 fa56 (by omega)
    have g121 : px_pa h46 275 52 192 evS es31 := pa_fi g120 fb57 (by omega)
    have g122 : px_pa hm111 275 52 192 evS es31 := pa_fi g121 fa112 (by omega)
    have g123 : px_pa h100 275 52 192 evS es31 := pa_fi g122 fb113 (by omega)
    have g124 : px_pa hm55 276 54 192 evK es31 := pa_fi g37 fa56 (by omega)
    have g125 : px_pa h46 276 54 192 evK es31 := pa_fi g124 fb57 (by omega)
    have g126 : px_pa hm111 276 54 192 evK es31 := pa_fi g125 fa112 (by omega)
    have g127 : px_pa h100 276 54 192 evK es31 := pa_fi g126 fb113 (by omega)
    have g128 : px_pa hm55 277 53 192 evV es31 := pa_fi g38 fa56 (by omega)
    have g129 : px_pa h46 277 53 192 evV es31 := pa_fi g128 fb57 (by omega)
    have g130 : px_pa hm111 277 53 192 evV es31 := pa_fi g129 fa112 (by omega)
    have g131 : px_pa h100 277 53 192 evV es31 := pa_fi g130 fb113 (by omega)
    have g132 : px_pa hm55 278 53 192 evT es31 := pa_fi g39 fa56 (by omega)
    have g133 : px_pa h46 278 53 192 evT es31 := pa_fi g132 fb57 (by omega)
    have g134 : px_pa hm111 278 53 192 evT es31 := pa_fi g133 fa112 (by omega)
    have g135 : px_pa h100 278 53 192 evT es31 := pa_fi g134 fb113 (by omega)
    have g136 : px_pa hm111 279 50 8 vN om32 := pa_fi g85 fa112 (by omega)
    have g137 : px_pa h100 279 50 8 vN om32 := pa_fi g136 fb113 (by omega)
    have g138 : px_pa hm111 280 54 128 rK ro33 := pa_fi g87 fa112 (by omega)
    have g139 : px_pa h100 280 54 128 rK ro33 := pa_fi g138 fb113 (by omega)
    have g140 : px_pa hm111 281 53 128 rV ro33 := pa_fi g89 fa112 (by omega)
    have g141 : px_pa h100 281 53 128 rV ro33 := pa_fi g140 fb113 (by omega)
    have g142 : px_pa hm111 282 53 128 rT ro33 := pa_fi g91 fa112 (by omega)
    have g143 : px_pa h100 282 53 128 rT ro33 := pa_fi g142 fb113 (by omega)
    have g144 : px_pa hm111 283 52 8 vN wn34 := pa_fi g99 fa112 (by omega)
    have g145 : px_pa h100 283 52 8 vN wn34 := pa_fi g144 fb113 (by omega)
    have g146 : pMA h100 xs := ⟨_, _, _, _, _, g119, g123, g127, g131, g135, g137, g139, g141, g143, g145, hA45⟩
    have g147 : px_pa hm55 270 52 500 vN tx := pa_fi g2 fa56 (by omega)
    have g148 : px_pa h46 270 52 500 vN tx := pa_fi g147 fb57 (by omega)
    have g149 : px_pa hm111 270 52 500 vN tx := pa_fi g148 fa112 (by omega)
    have g150 : px_pa h100 270 52 500 vN tx := pa_fi g149 fb113 (by omega)
    have g151 : px_pa hm55 271 52 6 stS j := pa_fi g3 fa56 (by omega)
    have g152 : px_pa h46 271 52 6 stS j := pa_fi g151 fb57 (by omega)
    have g153 : px_pa hm111 271 52 6 stS j := pa_fi g152 fa112 (by omega)
    have g154 : px_pa h100 271 52 6 stS j := pa_fi g153 fb113 (by omega)
    have g155 : px_pa hm55 272 52 6 stA j := pa_fi g4 fa56 (by omega)
    have g156 : px_pa h46 272 52 6 stA j := pa_fi g155 fb57 (by omega)
    have g157 : px_pa hm111 272 52 6 stA j := pa_fi g156 fa112 (by omega)
    have g158 : px_pa h100 272 52 6 stA j := pa_fi g157 fb113 (by omega)
    have g159 : px_pa hm55 273 50 6 stN j := pa_fi g5 fa56 (by omega)
    have g160 : px_pa h46 273 50 6 stN j := pa_fi g159 fb57 (by omega)
    have g161 : px_pa hm111 273 50 6 stN j := pa_fi g160 fa112 (by omega)
    have g162 : px_pa h100 273 50 6 stN j := pa_fi g161 fb113 (by omega)
    have g163 : px_pa hm111 284 52 6 stS j := pa_fi g49 fa112 (by omega)
    have g164 : px_pa h100 284 52 6 stS j := pa_fi g163 fb113 (by omega)
    have g165 : px_pa hm111 285 52 6 stA j := pa_fi g50 fa112 (by omega)
    have g166 : px_pa h100 285 52 6 stA j := pa_fi g165 fb113 (by omega)
    have g167 : px_pa hm111 286 50 6 stN j := pa_fi g51 fa112 (by omega)
    have g168 : px_pa h100 286 50 6 stN j := pa_fi g167 fb113 (by omega)
    have g169 : px_pa hm111 287 50 3070 Value.int sl63 := pa_fi g68 fa112 (by omega)
    have g170 : px_pa h100 287 50 3070 Value.int sl63 := pa_fi g169 fb113 (by omega)
    have g171 : px_pa hm111 288 50 3070 Value.int sl264 := pa_fi g69 fa112 (by omega)
    have g172 : px_pa h100 288 50 3070 Value.int sl264 := pa_fi g171 fb113 (by omega)
    have g173 : px_pa hm111 289 54 100 rK lh65 := pa_fi g70 fa112 (by omega)
    have g174 : px_pa h100 289 54 100 rK lh65 := pa_fi g173 fb113 (by omega)
    have g175 : px_pa hm111 290 50 100 rV lh65 := pa_fi g71 fa112 (by omega)
    have g176 : px_pa h100 290 50 100 rV lh65 := pa_fi g175 fb113 (by omega)
    have g177 : px_pa hm111 291 50 100 rT lh65 := pa_fi g72 fa112 (by omega)
    have g178 : px_pa h100 291 50 100 rT lh65 := pa_fi g177 fb113 (by omega)
    have g179 : px_pa hm111 292 54 100 rK ((runO j ((xs.getD k c30).1)).2.1) := pa_fi g73 fa112 (by omega)
    have g180 : px_pa h100 292 54 100 rK ((runO j ((xs.getD k c30).1)).2.1) := pa_fi g179 fb113 (by omega)
    have g181 : px_pa hm111 293 50 100 rV ((runO j ((xs.getD k c30).1)).2.1) := pa_fi g74 fa112 (by omega)
    have g182 : px_pa h100 293 50 100 rV ((runO j ((xs.getD k c30).1)).2.1) := pa_fi g181 fb113 (by omega)
    have g183 : px_pa hm111 294 50 100 rT ((runO j ((xs.getD k c30).1)).2.1) := pa_fi g75 fa112 (by omega)
    have g184 : px_pa h100 294 50 100 rT ((runO j ((xs.getD k c30).1)).2.1) := pa_fi g183 fb113 (by omega)
    have g185 : px_pa hm111 295 50 30 Value.int cv66 := pa_fi g76 fa112 (by omega)
    have g186 : px_pa h100 295 50 30 Value.int cv66 := pa_fi g185 fb113 (by omega)
    have g187 : px_pa hm111 296 50 24 vN (List.range ((xs.getD k c30).1).length) := pa_fi g52 fa112 (by omega)
    have g188 : px_pa h100 296 50 24 vN (List.range ((xs.getD k c30).1).length) := pa_fi g187 fb113 (by omega)
    have g189 : px_pa hm55 303 50 24 vN ke := pa_fi g26 fa56 (by omega)
    have g190 : px_pa h46 303 50 24 vN ke := pa_fi g189 fb57 (by omega)
    have g191 : px_pa hm111 303 50 24 vN ke := pa_fi g190 fa112 (by omega)
    have g192 : px_pa h100 303 50 24 vN ke := pa_fi g191 fb113 (by omega)
    have g193 : pMD h100 tx j xs := ⟨gp, (nI j.length, (runO j ((xs.getD k c30).1)).2.2.1.isSome, oI (runO j ((xs.getD k c30).1)).2.2.1, (runO j ((xs.getD k c30).1)).2.2.2, la60, lb61, gq.2.2.2.2.2.2), (nI 0, nI (((runO j ((xs.getD k c30).1)).2.1).length)), gw62, (nI ((xs.getD k c30).1).length, nI (((runO j ((xs.getD k c30).1)).2.1).length), nI (((xs.getD k c30).2.1).length)), gv, j, sl63, sl264, lh65, (runO j ((xs.getD k c30).1)).2.1, srt ((xs.getD k c30).2.2) ((runO j ((xs.getD k c30).1)).2.1), srt ((xs.getD k c30).2.2) ((xs.getD k c30).2.1), cv66, List.range ((xs.getD k c30).1).length, ke, g103, g150, g154, g158, g162, g146, g164, g166, g168, g170, g172, g174, g176, g178, g180, g182, g184, g186, g188, g104, g105, g106, g107, g108, g109, g192, ⟨ok.1, ok.2.1, ok.2.2.1, ⟨hO.1, hO.2.1, hO.2.2.1⟩, ok.2.2.2.2⟩⟩
    exact ⟨congrArg (fun z => some (Value.int z)) (show nI (vdB ((xs.getD k c30).2.2) ((runO j ((xs.getD k c30).1)).2.2.1.isSome) ((runO j ((xs.getD k c30).1)).2.1) ((xs.getD k c30).2.1)) = _ from by unfold aRun; rw [onC_k h8 hk]; unfold vdE; rw [vdB_vd]), g193, fr115⟩
  · skip
    have c_5 : (hasC c xs.length) = false := bI_f' c_5
    refine e_iconst (v := (-1)) f_168_8 (by decide) rfl ?_
    refine e_iret f_168_9 rfl (rfl) ?_
    have g194 : pMD h tx j xs := ⟨gp, gq, gh, gw, gu, gv, jn, sl, sl2, lh, lg, lo, lt, cv, pl, ke, g1, g2, g3, g4, g5, g6, g7, g8, g9, g10, g11, g12, g13, g14, g15, g16, g17, g18, g19, g20, g21, g22, g23, g24, g25, g26, ok⟩
    exact ⟨congrArg (fun z => some (Value.int z)) (show (-1) = _ from (onC_no c_5).symm), g194, fr0⟩

set_option maxRecDepth 20000 in
set_option maxHeartbeats 4000000 in
theorem cc_MD_diff {h : px_H} {tx : List Nat} {j : List St} {xs : List CS3} {c : Int32} (H0 : pMD h tx j xs) (p0 : tN j ≤ 2) : px_wp 171 [.ref (269), .int (c)] h (fun h1 r => r = some (.int (aDiff j xs c)) ∧ pMD h1 tx j xs ∧ px_fi 269 35 h h1) := by
  have fr0 : px_fi 269 35 h h := fi_rf _ _ _
  show px_to 171 0 [some (.ref (269)), some (.int (c))] [] h _
  obtain ⟨gp, gq, gh, gw, gu, gv, jn, sl, sl2, lh, lg, lo, lt, cv, pl, ke, g1, g2, g3, g4, g5, g6, g7, g8, g9, g10, g11, g12, g13, g14, g15, g16, g17, g18, g19, g20, g21, g22, g23, g24, g25, g26, ok⟩ := id H0
  have h8 : xs.length ≤ 8 := ok.2.2.1.1
  have hj6 : j.length ≤ 6 := ok.2.1.1.1
  have htl : tx.length ≤ 500 := pa_len g2
  refine e_aload_n f_171_0 rfl rfl ?_
  refine e_iload_n f_171_1 rfl rfl ?_
  refine e_callV (As := [.int (c)]) (rest := []) f_171_2 rfl rfl rfl (Nat.le_of_ble_eq_true rfl) (Nat.le_of_ble_eq_true rfl) g1 rfl (Nat.le_of_ble_eq_true rfl) (cc_Md_isCase (c := c) (L := nI tx.length) (sn := nI j.length) (xs := xs) (gp := gp) (gq := gq) (gh := gh) (gw := gw) (gu := gu) (gv := gv) g1 (by omega)) rfl (fun h27 r28 q29 => ?_)
  obtain ⟨rfl, qe⟩ := q29
  have qe := qe.symm
  subst qe
  show px_to 171 5 [some (.ref (269)), some (.int (c))] [.int (bI (hasC c xs.length))] h _
  refine e_if_ne f_171_5 rfl (fun c_5 => ?_) (fun c_5 => ?_)
  · skip
    have c_5 : (hasC c xs.length) = true := bI_t c_5
    obtain ⟨k, hk, hkc⟩ := hasC_t (by omega) c_5
    subst hkc
    have hcx : okC3 (xs.getD k c30) := ok.2.2.1.2 _ (getD_mem _ hk)
    obtain ⟨em30, es31, om32, ro33, wn34, g35, g36, g37, g38, g39, g40, g41, g42, g43, g44, hA45⟩ := id g6
    obtain ⟨hA1, hA2, hA3, hA4, hA5⟩ := hA45.2 k hk
    have hAl := hA45.1
    have hel := hcx.1
    have hoe : ∀ e ∈ (xs.getD k c30).1, e.1 < 65536 := fun e he => by have := (hcx.2.1 e he).1; omega
    refine e_aload_n f_171_10 rfl rfl ?_
    refine e_iload_n f_171_11 rfl rfl ?_
    refine e_callV (As := [.int (nI k)]) (rest := []) f_171_12 rfl rfl rfl (Nat.le_of_ble_eq_true rfl) (Nat.le_of_ble_eq_true rfl) g1 rfl (Nat.le_of_ble_eq_true rfl) (cc_Md_pla (c := k) (ev := (xs.getD k c30).1) (em := em30) (es := es31) (pl := pl) (L := nI tx.length) (cn := nI xs.length) (j := j) (jn := jn) (cb := gq.2.2.2.2.2.2) (sl := sl) (sl2 := sl2) (lh := lh) (lg := lg) (cv := cv) (tl := cv) (gp := gp) (gq := gq) (gh := gh) (gw := gw) (gu := gu) (gv := gv) g1 g3 g4 g5 g7 g8 g9 g10 g11 g12 g13 g14 g15 g16 g17 g18 g19 g35 g36 g37 g38 g39 (okB_okZ ok.2.1 p0) (ok.2.2.2.1) (by omega) (⟨hAl.1, hAl.2.1⟩) (hA2) (hcx.1) (hcx.2.1) (hA1) (⟨ok.2.2.2.1.2.2, fun _ => rfl⟩)) rfl (fun h46 r47 q48 => ?_)
    obtain ⟨rfl, g49, g50, g51, g52, g53, fx54⟩ := q48
    obtain ⟨hm55, fa56, fb57⟩ := fj_mid fx54
    have fr58 : px_fi 269 35 h hm55 := fi_tr fr0 fa56 (by omega)
    have fr59 : px_fi 269 35 h h46 := fi_tr fr58 fb57 (by omega)
    show px_to 171 15 [some (.ref (269)), some (.int (nI k))] [] h46 _
    obtain ⟨la60, lb61, gw62, sl63, sl264, lh65, cv66, g67, g68, g69, g70, g71, g72, g73, g74, g75, g76, hO77⟩ := id g53
    have hO := hO77
    have hOl := hO.1
    have hrok := runO_rw ok.2.1.1 hcx
    have hrl := (runO_ok ok.2.1.1 hcx.2.1).2.1
    refine e_aload_n f_171_15 rfl rfl ?_
    refine e_iload_n f_171_16 rfl rfl ?_
    have g78 : px_pa hm55 297 54 100 rK lo := pa_fi g20 fa56 (by omega)
    have g79 : px_pa h46 297 54 100 rK lo := pa_fi g78 fb57 (by omega)
    have g80 : px_pa hm55 298 50 100 rV lo := pa_fi g21 fa56 (by omega)
    have g81 : px_pa h46 298 50 100 rV lo := pa_fi g80 fb57 (by omega)
    have g82 : px_pa hm55 299 50 100 rT lo := pa_fi g22 fa56 (by omega)
    have g83 : px_pa h46 299 50 100 rT lo := pa_fi g82 fb57 (by omega)
    have g84 : px_pa hm55 279 50 8 vN om32 := pa_fi g40 fa56 (by omega)
    have g85 : px_pa h46 279 50 8 vN om32 := pa_fi g84 fb57 (by omega)
    have g86 : px_pa hm55 280 54 128 rK ro33 := pa_fi g41 fa56 (by omega)
    have g87 : px_pa h46 280 54 128 rK ro33 := pa_fi g86 fb57 (by omega)
    have g88 : px_pa hm55 281 53 128 rV ro33 := pa_fi g42 fa56 (by omega)
    have g89 : px_pa h46 281 53 128 rV ro33 := pa_fi g88 fb57 (by omega)
    have g90 : px_pa hm55 282 53 128 rT ro33 := pa_fi g43 fa56 (by omega)
    have g91 : px_pa h46 282 53 128 rT ro33 := pa_fi g90 fb57 (by omega)
    have g92 : px_pa hm55 300 54 100 rK lt := pa_fi g23 fa56 (by omega)
    have g93 : px_pa h46 300 54 100 rK lt := pa_fi g92 fb57 (by omega)
    have g94 : px_pa hm55 301 50 100 rV lt := pa_fi g24 fa56 (by omega)
    have g95 : px_pa h46 301 50 100 rV lt := pa_fi g94 fb57 (by omega)
    have g96 : px_pa hm55 302 50 100 rT lt := pa_fi g25 fa56 (by omega)
    have g97 : px_pa h46 302 50 100 rT lt := pa_fi g96 fb57 (by omega)
    have g98 : px_pa hm55 283 52 8 vN wn34 := pa_fi g44 fa56 (by omega)
    have g99 : px_pa h46 283 52 8 vN wn34 := pa_fi g98 fb57 (by omega)
    refine e_callV (As := [.int (nI k)]) (rest := []) f_171_17 rfl rfl rfl (Nat.le_of_ble_eq_true rfl) (Nat.le_of_ble_eq_true rfl) g67 rfl (Nat.le_of_ble_eq_true rfl) (cc_Md_dif (c := k) (os := (xs.getD k c30).2.2) (lg := (runO j ((xs.getD k c30).1)).2.1) (td := (xs.getD k c30).2.1) (lo := lo) (lt := lt) (om := om32) (ro := ro33) (wn := wn34) (ga := (nI tx.length, nI j.length, nI xs.length)) (gp := gp) (gq := (nI j.length, (runO j ((xs.getD k c30).1)).2.2.1.isSome, oI (runO j ((xs.getD k c30).1)).2.2.1, (runO j ((xs.getD k c30).1)).2.2.2, la60, lb61, gq.2.2.2.2.2.2)) (gh := (nI 0, nI ((runO j ((xs.getD k c30).1)).2.1.length))) (gw := gw62) (gu := (nI ((xs.getD k c30).1).length, gu.2.1, gu.2.2)) (gv := gv) g67 g73 g74 g75 g79 g81 g83 g85 g87 g89 g91 g93 g95 g97 g99 (by omega) (⟨hAl.2.2.1, hAl.2.2.2.1⟩) (hA3) (hA4) (hcx.2.2.1) (hcx.2.2.2.1) (hrok) (⟨hAl.2.2.2.2, hA5⟩) (by have := hcx.2.2.2.2; omega)) rfl (fun h100 r101 q102 => ?_)
    obtain ⟨rfl, g103, g104, g105, g106, g107, g108, g109, fx110⟩ := q102
    obtain ⟨hm111, fa112, fb113⟩ := fj_mid fx110
    have fr114 : px_fi 269 35 h hm111 := fi_tr fr59 fa112 (by omega)
    have fr115 : px_fi 269 35 h h100 := fi_tr fr114 fb113 (by omega)
    show px_to 171 20 [some (.ref (269)), some (.int (nI k))] [.int (fdiff ((xs.getD k c30).2.2) ((runO j ((xs.getD k c30).1)).2.1) ((xs.getD k c30).2.1))] h100 _
    refine e_iret f_171_20 rfl (rfl) ?_
    have g116 : px_pa hm55 274 50 8 vN em30 := pa_fi g35 fa56 (by omega)
    have g117 : px_pa h46 274 50 8 vN em30 := pa_fi g116 fb57 (by omega)
    have g118 : px_pa hm111 274 50 8 vN em30 := pa_fi g117 fa112 (by omega)
    have g119 : px_pa h100 274 50 8 vN em30 := pa_fi g118 fb113 (by omega)
    have g120 : px_pa hm55 275 52 192 evS es31 := pa_fi g36 fa56 (by omega)
    have g121 : px_pa h46 275 52 192 evS es31 := pa_fi g120 fb57 (by omega)
    have g122 : px_pa hm111 275 52 192 evS es31 := pa_fi g121 fa112 (by omega)
    have g123 : px_pa h100 275 52 192 evS es31 := pa_fi g122 fb113 (by omega)
    have g124 : px_pa hm55 276 54 192 evK es31 := pa_fi g37 fa56 (by omega)
    have g125 : px_pa h46 276 54 192 evK es31 := pa_fi g124 fb57 (by omega)
    have g126 : px_pa hm111 276 54 192 evK es31 := pa_fi g125 fa112 (by omega)
    have g127 : px_pa h100 276 54 192 evK es31 := pa_fi g126 fb113 (by omega)
    have g128 : px_pa hm55 277 53 192 evV es31 := pa_fi g38 fa56 (by omega)
    have g129 : px_pa h46 277 53 192 evV es31 := pa_fi g128 fb57 (by omega)
    have g130 : px_pa hm111 277 53 192 evV es31 := pa_fi g129 fa112 (by omega)
    have g131 : px_pa h100 277 53 192 evV es31 := pa_fi g130 fb113 (by omega)
    have g132 : px_pa hm55 278 53 192 evT es31 := pa_fi g39 fa56 (by omega)
    have g133 : px_pa h46 278 53 192 evT es31 := pa_fi g132 fb57 (by omega)
    have g134 : px_pa hm111 278 53 192 evT es31 := pa_fi g133 fa112 (by omega)
    have g135 : px_pa h100 278 53 192 evT es31 := pa_fi g134 fb113 (by omega)
    have g136 : px_pa hm111 279 50 8 vN om32 := pa_fi g85 fa112 (by omega)
    have g137 : px_pa h100 279 50 8 vN om32 := pa_fi g136 fb113 (by omega)
    have g138 : px_pa hm111 280 54 128 rK ro33 := pa_fi g87 fa112 (by omega)
    have g139 : px_pa h100 280 54 128 rK ro33 := pa_fi g138 fb113 (by omega)
    have g140 : px_pa hm111 281 53 128 rV ro33 := pa_fi g89 fa112 (by omega)
    have g141 : px_pa h100 281 53 128 rV ro33 := pa_fi g140 fb113 (by omega)
    have g142 : px_pa hm111 282 53 128 rT ro33 := pa_fi g91 fa112 (by omega)
    have g143 : px_pa h100 282 53 128 rT ro33 := pa_fi g142 fb113 (by omega)
    have g144 : px_pa hm111 283 52 8 vN wn34 := pa_fi g99 fa112 (by omega)
    have g145 : px_pa h100 283 52 8 vN wn34 := pa_fi g144 fb113 (by omega)
    have g146 : pMA h100 xs := ⟨_, _, _, _, _, g119, g123, g127, g131, g135, g137, g139, g141, g143, g145, hA45⟩
    have g147 : px_pa hm55 270 52 500 vN tx := pa_fi g2 fa56 (by omega)
    have g148 : px_pa h46 270 52 500 vN tx := pa_fi g147 fb57 (by omega)
    have g149 : px_pa hm111 270 52 500 vN tx := pa_fi g148 fa112 (by omega)
    have g150 : px_pa h100 270 52 500 vN tx := pa_fi g149 fb113 (by omega)
    have g151 : px_pa hm55 271 52 6 stS j := pa_fi g3 fa56 (by omega)
    have g152 : px_pa h46 271 52 6 stS j := pa_fi g151 fb57 (by omega)
    have g153 : px_pa hm111 271 52 6 stS j := pa_fi g152 fa112 (by omega)
    have g154 : px_pa h100 271 52 6 stS j := pa_fi g153 fb113 (by omega)
    have g155 : px_pa hm55 272 52 6 stA j := pa_fi g4 fa56 (by omega)
    have g156 : px_pa h46 272 52 6 stA j := pa_fi g155 fb57 (by omega)
    have g157 : px_pa hm111 272 52 6 stA j := pa_fi g156 fa112 (by omega)
    have g158 : px_pa h100 272 52 6 stA j := pa_fi g157 fb113 (by omega)
    have g159 : px_pa hm55 273 50 6 stN j := pa_fi g5 fa56 (by omega)
    have g160 : px_pa h46 273 50 6 stN j := pa_fi g159 fb57 (by omega)
    have g161 : px_pa hm111 273 50 6 stN j := pa_fi g160 fa112 (by omega)
    have g162 : px_pa h100 273 50 6 stN j := pa_fi g161 fb113 (by omega)
    have g163 : px_pa hm111 284 52 6 stS j := pa_fi g49 fa112 (by omega)
    have g164 : px_pa h100 284 52 6 stS j := pa_fi g163 fb113 (by omega)
    have g165 : px_pa hm111 285 52 6 stA j := pa_fi g50 fa112 (by omega)
    have g166 : px_pa h100 285 52 6 stA j := pa_fi g165 fb113 (by omega)
    have g167 : px_pa hm111 286 50 6 stN j := pa_fi g51 fa112 (by omega)
    have g168 : px_pa h100 286 50 6 stN j := pa_fi g167 fb113 (by omega)
    have g169 : px_pa hm111 287 50 3070 Value.int sl63 := pa_fi g68 fa112 (by omega)
    have g170 : px_pa h100 287 50 3070 Value.int sl63 := pa_fi g169 fb113 (by omega)
    have g171 : px_pa hm111 288 50 3070 Value.int sl264 := pa_fi g69 fa112 (by omega)
    have g172 : px_pa h100 288 50 3070 Value.int sl264 := pa_fi g171 fb113 (by omega)
    have g173 : px_pa hm111 289 54 100 rK lh65 := pa_fi g70 fa112 (by omega)
    have g174 : px_pa h100 289 54 100 rK lh65 := pa_fi g173 fb113 (by omega)
    have g175 : px_pa hm111 290 50 100 rV lh65 := pa_fi g71 fa112 (by omega)
    have g176 : px_pa h100 290 50 100 rV lh65 := pa_fi g175 fb113 (by omega)
    have g177 : px_pa hm111 291 50 100 rT lh65 := pa_fi g72 fa112 (by omega)
    have g178 : px_pa h100 291 50 100 rT lh65 := pa_fi g177 fb113 (by omega)
    have g179 : px_pa hm111 292 54 100 rK ((runO j ((xs.getD k c30).1)).2.1) := pa_fi g73 fa112 (by omega)
    have g180 : px_pa h100 292 54 100 rK ((runO j ((xs.getD k c30).1)).2.1) := pa_fi g179 fb113 (by omega)
    have g181 : px_pa hm111 293 50 100 rV ((runO j ((xs.getD k c30).1)).2.1) := pa_fi g74 fa112 (by omega)
    have g182 : px_pa h100 293 50 100 rV ((runO j ((xs.getD k c30).1)).2.1) := pa_fi g181 fb113 (by omega)
    have g183 : px_pa hm111 294 50 100 rT ((runO j ((xs.getD k c30).1)).2.1) := pa_fi g75 fa112 (by omega)
    have g184 : px_pa h100 294 50 100 rT ((runO j ((xs.getD k c30).1)).2.1) := pa_fi g183 fb113 (by omega)
    have g185 : px_pa hm111 295 50 30 Value.int cv66 := pa_fi g76 fa112 (by omega)
    have g186 : px_pa h100 295 50 30 Value.int cv66 := pa_fi g185 fb113 (by omega)
    have g187 : px_pa hm111 296 50 24 vN (List.range ((xs.getD k c30).1).length) := pa_fi g52 fa112 (by omega)
    have g188 : px_pa h100 296 50 24 vN (List.range ((xs.getD k c30).1).length) := pa_fi g187 fb113 (by omega)
    have g189 : px_pa hm55 303 50 24 vN ke := pa_fi g26 fa56 (by omega)
    have g190 : px_pa h46 303 50 24 vN ke := pa_fi g189 fb57 (by omega)
    have g191 : px_pa hm111 303 50 24 vN ke := pa_fi g190 fa112 (by omega)
    have g192 : px_pa h100 303 50 24 vN ke := pa_fi g191 fb113 (by omega)
    have g193 : pMD h100 tx j xs := ⟨gp, (nI j.length, (runO j ((xs.getD k c30).1)).2.2.1.isSome, oI (runO j ((xs.getD k c30).1)).2.2.1, (runO j ((xs.getD k c30).1)).2.2.2, la60, lb61, gq.2.2.2.2.2.2), (nI 0, nI (((runO j ((xs.getD k c30).1)).2.1).length)), gw62, (nI ((xs.getD k c30).1).length, nI (((runO j ((xs.getD k c30).1)).2.1).length), nI (((xs.getD k c30).2.1).length)), gv, j, sl63, sl264, lh65, (runO j ((xs.getD k c30).1)).2.1, srt ((xs.getD k c30).2.2) ((runO j ((xs.getD k c30).1)).2.1), srt ((xs.getD k c30).2.2) ((xs.getD k c30).2.1), cv66, List.range ((xs.getD k c30).1).length, ke, g103, g150, g154, g158, g162, g146, g164, g166, g168, g170, g172, g174, g176, g178, g180, g182, g184, g186, g188, g104, g105, g106, g107, g108, g109, g192, ⟨ok.1, ok.2.1, ok.2.2.1, ⟨hO.1, hO.2.1, hO.2.2.1⟩, ok.2.2.2.2⟩⟩
    exact ⟨congrArg (fun z => some (Value.int z)) (show fdiff ((xs.getD k c30).2.2) ((runO j ((xs.getD k c30).1)).2.1) ((xs.getD k c30).2.1) = _ from by unfold aDiff; rw [onC_k h8 hk]), g193, fr115⟩
  · skip
    have c_5 : (hasC c xs.length) = false := bI_f' c_5
    refine e_iconst (v := (-1)) f_171_8 (by decide) rfl ?_
    refine e_iret f_171_9 rfl (rfl) ?_
    have g194 : pMD h tx j xs := ⟨gp, gq, gh, gw, gu, gv, jn, sl, sl2, lh, lg, lo, lt, cv, pl, ke, g1, g2, g3, g4, g5, g6, g7, g8, g9, g10, g11, g12, g13, g14, g15, g16, g17, g18, g19, g20, g21, g22, g23, g24, g25, g26, ok⟩
    exact ⟨congrArg (fun z => some (Value.int z)) (show (-1) = _ from (onC_no c_5).symm), g194, fr0⟩

set_option maxRecDepth 20000 in
set_option maxHeartbeats 4000000 in
theorem cc_MD_ran {h : px_H} {tx : List Nat} {j : List St} {xs : List CS3} {c : Int32} {w : Int32} (H0 : pMD h tx j xs) (p0 : tN j ≤ 2) : px_wp 169 [.ref (269), .int (c), .int (w)] h (fun h1 r => r = some (.int (aRan j xs c w)) ∧ pMD h1 tx j xs ∧ px_fi 269 35 h h1) := by
  have fr0 : px_fi 269 35 h h := fi_rf _ _ _
  show px_to 169 0 [some (.ref (269)), some (.int (c)), some (.int (w))] [] h _
  obtain ⟨gp, gq, gh, gw, gu, gv, jn, sl, sl2, lh, lg, lo, lt, cv, pl, ke, g1, g2, g3, g4, g5, g6, g7, g8, g9, g10, g11, g12, g13, g14, g15, g16, g17, g18, g19, g20, g21, g22, g23, g24, g25, g26, ok⟩ := id H0
  have h8 : xs.length ≤ 8 := ok.2.2.1.1
  have hj6 : j.length ≤ 6 := ok.2.1.1.1
  have htl : tx.length ≤ 500 := pa_len g2
  refine e_aload_n f_169_0 rfl rfl ?_
  refine e_iload_n f_169_1 rfl rfl ?_
  refine e_callV (As := [.int (c)]) (rest := []) f_169_2 rfl rfl rfl (Nat.le_of_ble_eq_true rfl) (Nat.le_of_ble_eq_true rfl) g1 rfl (Nat.le_of_ble_eq_true rfl) (cc_Md_isCase (c := c) (L := nI tx.length) (sn := nI j.length) (xs := xs) (gp := gp) (gq := gq) (gh := gh) (gw := gw) (gu := gu) (gv := gv) g1 (by omega)) rfl (fun h27 r28 q29 => ?_)
  obtain ⟨rfl, qe⟩ := q29
  have qe := qe.symm
  subst qe
  show px_to 169 5 [some (.ref (269)), some (.int (c)), some (.int (w))] [.int (bI (hasC c xs.length))] h _
  refine e_if_eq f_169_5 rfl (fun c_5 => ?_) (fun c_5 => ?_)
  · skip
    have c_5 : (hasC c xs.length) = false := bI_f c_5
    refine e_iconst (v := (-1)) f_169_17 (by decide) rfl ?_
    refine e_iret f_169_18 rfl (rfl) ?_
    have g30 : pMD h tx j xs := ⟨gp, gq, gh, gw, gu, gv, jn, sl, sl2, lh, lg, lo, lt, cv, pl, ke, g1, g2, g3, g4, g5, g6, g7, g8, g9, g10, g11, g12, g13, g14, g15, g16, g17, g18, g19, g20, g21, g22, g23, g24, g25, g26, ok⟩
    exact ⟨congrArg (fun z => some (Value.int z)) (show (-1) = _ from by unfold aRan; rw [show onC xs c _ = -1 from onC_no c_5, ite_self]), g30, fr0⟩
  · skip
    have c_5 : (hasC c xs.length) = true := bI_t' c_5
    obtain ⟨k, hk, hkc⟩ := hasC_t (by omega) c_5
    subst hkc
    have hcx : okC3 (xs.getD k c30) := ok.2.2.1.2 _ (getD_mem _ hk)
    refine e_iload_n f_169_8 rfl rfl ?_
    refine e_iconst (v := nI 0) f_169_9 (by decide) rfl ?_
    refine e_iconst (v := nI 4) f_169_10 (by decide) rfl ?_
    refine e_callS (As := [.int (w), .int (nI 0), .int (nI 4)]) (rest := []) f_169_11 rfl rfl rfl (Nat.le_of_ble_eq_true rfl) (Nat.le_of_ble_eq_true rfl) (cc_Md_in (v := w) (lo := nI 0) (hi := nI 4)  ) rfl (fun h31 r32 q33 => ?_)
    obtain ⟨rfl, qe⟩ := q33
    have qe := qe.symm
    subst qe
    show px_to 169 14 [some (.ref (269)), some (.int (nI k)), some (.int (w))] [.int (bI (decide (nI 0 ≤ w ∧ w ≤ nI 4)))] h _
    refine e_if_ne f_169_14 rfl (fun c_14 => ?_) (fun c_14 => ?_)
    · skip
      have c_14 : (decide (nI 0 ≤ w ∧ w ≤ nI 4)) = true := bI_t c_14
      have cw : hasC w 5 = true := by rw [← in4]; exact c_14
      obtain ⟨kw, hkw, hkwc⟩ := hasC_t (by omega) cw
      subst hkwc
      obtain ⟨em34, es35, om36, ro37, wn38, g39, g40, g41, g42, g43, g44, g45, g46, g47, g48, hA49⟩ := id g6
      obtain ⟨hA1, hA2, hA3, hA4, hA5⟩ := hA49.2 k hk
      have hAl := hA49.1
      have hel := hcx.1
      have hoe : ∀ e ∈ (xs.getD k c30).1, e.1 < 65536 := fun e he => by have := (hcx.2.1 e he).1; omega
      refine e_aload_n f_169_19 rfl rfl ?_
      refine e_iload_n f_169_20 rfl rfl ?_
      refine e_callV (As := [.int (nI k)]) (rest := []) f_169_21 rfl rfl rfl (Nat.le_of_ble_eq_true rfl) (Nat.le_of_ble_eq_true rfl) g1 rfl (Nat.le_of_ble_eq_true rfl) (cc_Md_pla (c := k) (ev := (xs.getD k c30).1) (em := em34) (es := es35) (pl := pl) (L := nI tx.length) (cn := nI xs.length) (j := j) (jn := jn) (cb := gq.2.2.2.2.2.2) (sl := sl) (sl2 := sl2) (lh := lh) (lg := lg) (cv := cv) (tl := cv) (gp := gp) (gq := gq) (gh := gh) (gw := gw) (gu := gu) (gv := gv) g1 g3 g4 g5 g7 g8 g9 g10 g11 g12 g13 g14 g15 g16 g17 g18 g19 g39 g40 g41 g42 g43 (okB_okZ ok.2.1 p0) (ok.2.2.2.1) (by omega) (⟨hAl.1, hAl.2.1⟩) (hA2) (hcx.1) (hcx.2.1) (hA1) (⟨ok.2.2.2.1.2.2, fun _ => rfl⟩)) rfl (fun h50 r51 q52 => ?_)
      obtain ⟨rfl, g53, g54, g55, g56, g57, fx58⟩ := q52
      obtain ⟨hm59, fa60, fb61⟩ := fj_mid fx58
      have fr62 : px_fi 269 35 h hm59 := fi_tr fr0 fa60 (by omega)
      have fr63 : px_fi 269 35 h h50 := fi_tr fr62 fb61 (by omega)
      show px_to 169 24 [some (.ref (269)), some (.int (nI k)), some (.int (nI kw))] [] h50 _
      obtain ⟨la64, lb65, gw66, sl67, sl268, lh69, cv70, g71, g72, g73, g74, g75, g76, g77, g78, g79, g80, hO81⟩ := id g57
      have hO := hO81
      have hOl := hO.1
      have hrok := runO_rw ok.2.1.1 hcx
      have hrl := (runO_ok ok.2.1.1 hcx.2.1).2.1
      refine e_iload_n f_169_24 rfl rfl ?_
      refine e_if_ne f_169_25 rfl (fun c_25 => ?_) (fun c_25 => ?_)
      · skip
        rw [← nI_0] at c_25
        have c_25 : kw ≠ 0 := cv_ne c_25
        refine e_iload_n f_169_35 rfl rfl ?_
        refine e_iconst (v := nI 1) f_169_36 (by decide) rfl ?_
        refine e_icmp_ne f_169_37 rfl (fun c_37 => ?_) (fun c_37 => ?_)
        · skip
          have c_37 : kw ≠ 1 := cv_ne c_37
          refine e_iload_n f_169_49 rfl rfl ?_
          refine e_iconst (v := nI 2) f_169_50 (by decide) rfl ?_
          refine e_icmp_ne f_169_51 rfl (fun c_51 => ?_) (fun c_51 => ?_)
          · skip
            have c_51 : kw ≠ 2 := cv_ne c_51
            refine e_iload_n f_169_69 rfl rfl ?_
            refine e_iconst (v := nI 3) f_169_70 (by decide) rfl ?_
            refine e_icmp_ne f_169_71 rfl (fun c_71 => ?_) (fun c_71 => ?_)
            · skip
              have c_71 : kw ≠ 3 := cv_ne c_71
              refine e_aload_n f_169_81 rfl rfl ?_
              refine e_getf f_169_82 g71 rfl rfl ?_
              show px_to 169 85 [some (.ref (269)), some (.int (nI k)), some (.int (nI kw))] [.int ((runO j ((xs.getD k c30).1)).2.2.2)] h50 _
              refine e_iret f_169_85 rfl (rfl) ?_
              have g82 : px_pa hm59 274 50 8 vN em34 := pa_fi g39 fa60 (by omega)
              have g83 : px_pa h50 274 50 8 vN em34 := pa_fi g82 fb61 (by omega)
              have g84 : px_pa hm59 275 52 192 evS es35 := pa_fi g40 fa60 (by omega)
              have g85 : px_pa h50 275 52 192 evS es35 := pa_fi g84 fb61 (by omega)
              have g86 : px_pa hm59 276 54 192 evK es35 := pa_fi g41 fa60 (by omega)
              have g87 : px_pa h50 276 54 192 evK es35 := pa_fi g86 fb61 (by omega)
              have g88 : px_pa hm59 277 53 192 evV es35 := pa_fi g42 fa60 (by omega)
              have g89 : px_pa h50 277 53 192 evV es35 := pa_fi g88 fb61 (by omega)
              have g90 : px_pa hm59 278 53 192 evT es35 := pa_fi g43 fa60 (by omega)
              have g91 : px_pa h50 278 53 192 evT es35 := pa_fi g90 fb61 (by omega)
              have g92 : px_pa hm59 279 50 8 vN om36 := pa_fi g44 fa60 (by omega)
              have g93 : px_pa h50 279 50 8 vN om36 := pa_fi g92 fb61 (by omega)
              have g94 : px_pa hm59 280 54 128 rK ro37 := pa_fi g45 fa60 (by omega)
              have g95 : px_pa h50 280 54 128 rK ro37 := pa_fi g94 fb61 (by omega)
              have g96 : px_pa hm59 281 53 128 rV ro37 := pa_fi g46 fa60 (by omega)
              have g97 : px_pa h50 281 53 128 rV ro37 := pa_fi g96 fb61 (by omega)
              have g98 : px_pa hm59 282 53 128 rT ro37 := pa_fi g47 fa60 (by omega)
              have g99 : px_pa h50 282 53 128 rT ro37 := pa_fi g98 fb61 (by omega)
              have g100 : px_pa hm59 283 52 8 vN wn38 := pa_fi g48 fa60 (by omega)
              have g101 : px_pa h50 283 52 8 vN wn38 := pa_fi g100 fb61 (by omega)
              have g102 : pMA h50 xs := ⟨_, _, _, _, _, g83, g85, g87, g89, g91, g93, g95, g97, g99, g101, hA49⟩
              have g103 : px_pa hm59 270 52 500 vN tx := pa_fi g2 fa60 (by omega)
              have g104 : px_pa h50 270 52 500 vN tx := pa_fi g103 fb61 (by omega)
              have g105 : px_pa hm59 271 52 6 stS j := pa_fi g3 fa60 (by omega)
              have g106 : px_pa h50 271 52 6 stS j := pa_fi g105 fb61 (by omega)
              have g107 : px_pa hm59 272 52 6 stA j := pa_fi g4 fa60 (by omega)
              have g108 : px_pa h50 272 52 6 stA j := pa_fi g107 fb61 (by omega)
              have g109 : px_pa hm59 273 50 6 stN j := pa_fi g5 fa60 (by omega)
              have g110 : px_pa h50 273 50 6 stN j := pa_fi g109 fb61 (by omega)
              have g111 : px_pa hm59 297 54 100 rK lo := pa_fi g20 fa60 (by omega)
              have g112 : px_pa h50 297 54 100 rK lo := pa_fi g111 fb61 (by omega)
              have g113 : px_pa hm59 298 50 100 rV lo := pa_fi g21 fa60 (by omega)
              have g114 : px_pa h50 298 50 100 rV lo := pa_fi g113 fb61 (by omega)
              have g115 : px_pa hm59 299 50 100 rT lo := pa_fi g22 fa60 (by omega)
              have g116 : px_pa h50 299 50 100 rT lo := pa_fi g115 fb61 (by omega)
              have g117 : px_pa hm59 300 54 100 rK lt := pa_fi g23 fa60 (by omega)
              have g118 : px_pa h50 300 54 100 rK lt := pa_fi g117 fb61 (by omega)
              have g119 : px_pa hm59 301 50 100 rV lt := pa_fi g24 fa60 (by omega)
              have g120 : px_pa h50 301 50 100 rV lt := pa_fi g119 fb61 (by omega)
              have g121 : px_pa hm59 302 50 100 rT lt := pa_fi g25 fa60 (by omega)
              have g122 : px_pa h50 302 50 100 rT lt := pa_fi g121 fb61 (by omega)
              have g123 : px_pa hm59 303 50 24 vN ke := pa_fi g26 fa60 (by omega)
              have g124 : px_pa h50 303 50 24 vN ke := pa_fi g123 fb61 (by omega)
              have g125 : pMD h50 tx j xs := ⟨gp, (nI j.length, (runO j ((xs.getD k c30).1)).2.2.1.isSome, oI (runO j ((xs.getD k c30).1)).2.2.1, (runO j ((xs.getD k c30).1)).2.2.2, la64, lb65, gq.2.2.2.2.2.2), (nI 0, nI ((runO j ((xs.getD k c30).1)).2.1.length)), gw66, (nI ((xs.getD k c30).1).length, gu.2.1, gu.2.2), gv, j, sl67, sl268, lh69, (runO j ((xs.getD k c30).1)).2.1, lo, lt, cv70, List.range ((xs.getD k c30).1).length, ke, g71, g104, g106, g108, g110, g102, g53, g54, g55, g72, g73, g74, g75, g76, g77, g78, g79, g80, g56, g112, g114, g116, g118, g120, g122, g124, ⟨ok.1, ok.2.1, ok.2.2.1, ⟨hO.1, hO.2.1, hO.2.2.1⟩, ok.2.2.2.2⟩⟩
              exact ⟨congrArg (fun z => some (Value.int z)) (show (runO j ((xs.getD k c30).1)).2.2.2 = _ from by unfold aRan; rw [if_pos (hasC_nI (by omega) hkw), onC_k h8 hk, nN_nI (by omega)]; unfold ranO; rw [if_neg c_25, if_neg c_37, if_neg c_51, if_neg c_71]), g125, fr63⟩
            · skip
              have c_71 : kw = 3 := cv_nne (by omega) (by omega) c_71
              refine e_aload_n f_169_74 rfl rfl ?_
              refine e_getf f_169_75 g71 rfl rfl ?_
              show px_to 169 78 [some (.ref (269)), some (.int (nI k)), some (.int (nI kw))] [.int (oI (runO j ((xs.getD k c30).1)).2.2.1)] h50 _
              refine e_goto f_169_78 ?_
              refine e_iret f_169_85 rfl (rfl) ?_
              have g126 : px_pa hm59 274 50 8 vN em34 := pa_fi g39 fa60 (by omega)
              have g127 : px_pa h50 274 50 8 vN em34 := pa_fi g126 fb61 (by omega)
              have g128 : px_pa hm59 275 52 192 evS es35 := pa_fi g40 fa60 (by omega)
              have g129 : px_pa h50 275 52 192 evS es35 := pa_fi g128 fb61 (by omega)
              have g130 : px_pa hm59 276 54 192 evK es35 := pa_fi g41 fa60 (by omega)
              have g131 : px_pa h50 276 54 192 evK es35 := pa_fi g130 fb61 (by omega)
              have g132 : px_pa hm59 277 53 192 evV es35 := pa_fi g42 fa60 (by omega)
              have g133 : px_pa h50 277 53 192 evV es35 := pa_fi g132 fb61 (by omega)
              have g134 : px_pa hm59 278 53 192 evT es35 := pa_fi g43 fa60 (by omega)
              have g135 : px_pa h50 278 53 192 evT es35 := pa_fi g134 fb61 (by omega)
              have g136 : px_pa hm59 279 50 8 vN om36 := pa_fi g44 fa60 (by omega)
              have g137 : px_pa h50 279 50 8 vN om36 := pa_fi g136 fb61 (by omega)
              have g138 : px_pa hm59 280 54 128 rK ro37 := pa_fi g45 fa60 (by omega)
              have g139 : px_pa h50 280 54 128 rK ro37 := pa_fi g138 fb61 (by omega)
              have g140 : px_pa hm59 281 53 128 rV ro37 := pa_fi g46 fa60 (by omega)
              have g141 : px_pa h50 281 53 128 rV ro37 := pa_fi g140 fb61 (by omega)
              have g142 : px_pa hm59 282 53 128 rT ro37 := pa_fi g47 fa60 (by omega)
              have g143 : px_pa h50 282 53 128 rT ro37 := pa_fi g142 fb61 (by omega)
              have g144 : px_pa hm59 283 52 8 vN wn38 := pa_fi g48 fa60 (by omega)
              have g145 : px_pa h50 283 52 8 vN wn38 := pa_fi g144 fb61 (by omega)
              have g146 : pMA h50 xs := ⟨_, _, _, _, _, g127, g129, g131, g133, g135, g137, g139, g141, g143, g145, hA49⟩
              have g147 : px_pa hm59 270 52 500 vN tx := pa_fi g2 fa60 (by omega)
              have g148 : px_pa h50 270 52 500 vN tx := pa_fi g147 fb61 (by omega)
              have g149 : px_pa hm59 271 52 6 stS j := pa_fi g3 fa60 (by omega)
              have g150 : px_pa h50 271 52 6 stS j := pa_fi g149 fb61 (by omega)
              have g151 : px_pa hm59 272 52 6 stA j := pa_fi g4 fa60 (by omega)
              have g152 : px_pa h50 272 52 6 stA j := pa_fi g151 fb61 (by omega)
              have g153 : px_pa hm59 273 50 6 stN j := pa_fi g5 fa60 (by omega)
              have g154 : px_pa h50 273 50 6 stN j := pa_fi g153 fb61 (by omega)
              have g155 : px_pa hm59 297 54 100 rK lo := pa_fi g20 fa60 (by omega)
              have g156 : px_pa h50 297 54 100 rK lo := pa_fi g155 fb61 (by omega)
              have g157 : px_pa hm59 298 50 100 rV lo := pa_fi g21 fa60 (by omega)
              have g158 : px_pa h50 298 50 100 rV lo := pa_fi g157 fb61 (by omega)
              have g159 : px_pa hm59 299 50 100 rT lo := pa_fi g22 fa60 (by omega)
              have g160 : px_pa h50 299 50 100 rT lo := pa_fi g159 fb61 (by omega)
              have g161 : px_pa hm59 300 54 100 rK lt := pa_fi g23 fa60 (by omega)
              have g162 : px_pa h50 300 54 100 rK lt := pa_fi g161 fb61 (by omega)
              have g163 : px_pa hm59 301 50 100 rV lt := pa_fi g24 fa60 (by omega)
              have g164 : px_pa h50 301 50 100 rV lt := pa_fi g163 fb61 (by omega)
              have g165 : px_pa hm59 302 50 100 rT lt := pa_fi g25 fa60 (by omega)
              have g166 : px_pa h50 302 50 100 rT lt := pa_fi g165 fb61 (by omega)
              have g167 : px_pa hm59 303 50 24 vN ke := pa_fi g26 fa60 (by omega)
              have g168 : px_pa h50 303 50 24 vN ke := pa_fi g167 fb61 (by omega)
              have g169 : pMD h50 tx j xs := ⟨gp, (nI j.length, (runO j ((xs.getD k c30).1)).2.2.1.isSome, oI (runO j ((xs.getD k c30).1)).2.2.1, (runO j ((xs.getD k c30).1)).2.2.2, la64, lb65, gq.2.2.2.2.2.2), (nI 0, nI ((runO j ((xs.getD k c30).1)).2.1.length)), gw66, (nI ((xs.getD k c30).1).length, gu.2.1, gu.2.2), gv, j, sl67, sl268, lh69, (runO j ((xs.getD k c30).1)).2.1, lo, lt, cv70, List.range ((xs.getD k c30).1).length, ke, g71, g148, g150, g152, g154, g146, g53, g54, g55, g72, g73, g74, g75, g76, g77, g78, g79, g80, g56, g156, g158, g160, g162, g164, g166, g168, ⟨ok.1, ok.2.1, ok.2.2.1, ⟨hO.1, hO.2.1, hO.2.2.1⟩, ok.2.2.2.2⟩⟩
              exact ⟨congrArg (fun z => some (Value.int z)) (show oI (runO j ((xs.getD k c30).1)).2.2.1 = _ from by unfold aRan; rw [if_pos (hasC_nI (by omega) hkw), onC_k h8 hk, nN_nI (by omega)]; unfold ranO; rw [if_neg c_25, if_neg c_37, if_neg c_51, if_pos c_71]), g169, fr63⟩
          · skip
            have c_51 : kw = 2 := cv_nne (by omega) (by omega) c_51
            refine e_aload_n f_169_54 rfl rfl ?_
            refine e_getf f_169_55 g71 rfl rfl ?_
            show px_to 169 58 [some (.ref (269)), some (.int (nI k)), some (.int (nI kw))] [.int (bI ((runO j ((xs.getD k c30).1)).2.2.1.isSome))] h50 _
            refine e_if_eq f_169_58 rfl (fun c_58 => ?_) (fun c_58 => ?_)
            · skip
              have c_58 : ((runO j ((xs.getD k c30).1)).2.2.1.isSome) = false := bI_f c_58
              refine e_iconst (v := nI 0) f_169_65 (by decide) rfl ?_
              refine e_goto f_169_66 ?_
              refine e_iret f_169_85 rfl (rfl) ?_
              have g170 : px_pa hm59 274 50 8 vN em34 := pa_fi g39 fa60 (by omega)
              have g171 : px_pa h50 274 50 8 vN em34 := pa_fi g170 fb61 (by omega)
              have g172 : px_pa hm59 275 52 192 evS es35 := pa_fi g40 fa60 (by omega)
              have g173 : px_pa h50 275 52 192 evS es35 := pa_fi g172 fb61 (by omega)
              have g174 : px_pa hm59 276 54 192 evK es35 := pa_fi g41 fa60 (by omega)
              have g175 : px_pa h50 276 54 192 evK es35 := pa_fi g174 fb61 (by omega)
              have g176 : px_pa hm59 277 53 192 evV es35 := pa_fi g42 fa60 (by omega)
              have g177 : px_pa h50 277 53 192 evV es35 := pa_fi g176 fb61 (by omega)
              have g178 : px_pa hm59 278 53 192 evT es35 := pa_fi g43 fa60 (by omega)
              have g179 : px_pa h50 278 53 192 evT es35 := pa_fi g178 fb61 (by omega)
              have g180 : px_pa hm59 279 50 8 vN om36 := pa_fi g44 fa60 (by omega)
              have g181 : px_pa h50 279 50 8 vN om36 := pa_fi g180 fb61 (by omega)
              have g182 : px_pa hm59 280 54 128 rK ro37 := pa_fi g45 fa60 (by omega)
              have g183 : px_pa h50 280 54 128 rK ro37 := pa_fi g182 fb61 (by omega)
              have g184 : px_pa hm59 281 53 128 rV ro37 := pa_fi g46 fa60 (by omega)
              have g185 : px_pa h50 281 53 128 rV ro37 := pa_fi g184 fb61 (by omega)
              have g186 : px_pa hm59 282 53 128 rT ro37 := pa_fi g47 fa60 (by omega)
              have g187 : px_pa h50 282 53 128 rT ro37 := pa_fi g186 fb61 (by omega)
              have g188 : px_pa hm59 283 52 8 vN wn38 := pa_fi g48 fa60 (by omega)
              have g189 : px_pa h50 283 52 8 vN wn38 := pa_fi g188 fb61 (by omega)
              have g190 : pMA h50 xs := ⟨_, _, _, _, _, g171, g173, g175, g177, g179, g181, g183, g185, g187, g189, hA49⟩
              have g191 : px_pa hm59 270 52 500 vN tx := pa_fi g2 fa60 (by omega)
              have g192 : px_pa h50 270 52 500 vN tx := pa_fi g191 fb61 (by omega)
              have g193 : px_pa hm59 271 52 6 stS j := pa_fi g3 fa60 (by omega)
              have g194 : px_pa h50 271 52 6 stS j := pa_fi g193 fb61 (by omega)
              have g195 : px_pa hm59 272 52 6 stA j := pa_fi g4 fa60 (by omega)
              have g196 : px_pa h50 272 52 6 stA j := pa_fi g195 fb61 (by omega)
              have g197 : px_pa hm59 273 50 6 stN j := pa_fi g5 fa60 (by omega)
              have g198 : px_pa h50 273 50 6 stN j := pa_fi g197 fb61 (by omega)
              have g199 : px_pa hm59 297 54 100 rK lo := pa_fi g20 fa60 (by omega)
              have g200 : px_pa h50 297 54 100 rK lo := pa_fi g199 fb61 (by omega)
              have g201 : px_pa hm59 298 50 100 rV lo := pa_fi g21 fa60 (by omega)
              have g202 : px_pa h50 298 50 100 rV lo := pa_fi g201 fb61 (by omega)
              have g203 : px_pa hm59 299 50 100 rT lo := pa_fi g22 fa60 (by omega)
              have g204 : px_pa h50 299 50 100 rT lo := pa_fi g203 fb61 (by omega)
              have g205 : px_pa hm59 300 54 100 rK lt := pa_fi g23 fa60 (by omega)
              have g206 : px_pa h50 300 54 100 rK lt := pa_fi g205 fb61 (by omega)
              have g207 : px_pa hm59 301 50 100 rV lt := pa_fi g24 fa60 (by omega)
              have g208 : px_pa h50 301 50 100 rV lt := pa_fi g207 fb61 (by omega)
              have g209 : px_pa hm59 302 50 100 rT lt := pa_fi g25 fa60 (by omega)
              have g210 : px_pa h50 302 50 100 rT lt := pa_fi g209 fb61 (by omega)
              have g211 : px_pa hm59 303 50 24 vN ke := pa_fi g26 fa60 (by omega)
              have g212 : px_pa h50 303 50 24 vN ke := pa_fi g211 fb61 (by omega)
              have g213 : pMD h50 tx j xs := ⟨gp, (nI j.length, (runO j ((xs.getD k c30).1)).2.2.1.isSome, oI (runO j ((xs.getD k c30).1)).2.2.1, (runO j ((xs.getD k c30).1)).2.2.2, la64, lb65, gq.2.2.2.2.2.2), (nI 0, nI ((runO j ((xs.getD k c30).1)).2.1.length)), gw66, (nI ((xs.getD k c30).1).length, gu.2.1, gu.2.2), gv, j, sl67, sl268, lh69, (runO j ((xs.getD k c30).1)).2.1, lo, lt, cv70, List.range ((xs.getD k c30).1).length, ke, g71, g192, g194, g196, g198, g190, g53, g54, g55, g72, g73, g74, g75, g76, g77, g78, g79, g80, g56, g200, g202, g204, g206, g208, g210, g212, ⟨ok.1, ok.2.1, ok.2.2.1, ⟨hO.1, hO.2.1, hO.2.2.1⟩, ok.2.2.2.2⟩⟩
              exact ⟨congrArg (fun z => some (Value.int z)) (show nI 0 = _ from by unfold aRan; rw [if_pos (hasC_nI (by omega) hkw), onC_k h8 hk, nN_nI (by omega)]; unfold ranO; rw [if_neg c_25, if_neg c_37, if_pos c_51, if_pos (some_f c_58)]), g213, fr63⟩
            · skip
              have c_58 : ((runO j ((xs.getD k c30).1)).2.2.1.isSome) = true := bI_t' c_58
              refine e_iconst (v := nI 1) f_169_61 (by decide) rfl ?_
              refine e_goto f_169_62 ?_
              refine e_iret f_169_85 rfl (rfl) ?_
              have g214 : px_pa hm59 274 50 8 vN em34 := pa_fi g39 fa60 (by omega)
              have g215 : px_pa h50 274 50 8 vN em34 := pa_fi g214 fb61 (by omega)
              have g216 : px_pa hm59 275 52 192 evS es35 := pa_fi g40 fa60 (by omega)
              have g217 : px_pa h50 275 52 192 evS es35 := pa_fi g216 fb61 (by omega)
              have g218 : px_pa hm59 276 54 192 evK es35 := pa_fi g41 fa60 (by omega)
              have g219 : px_pa h50 276 54 192 evK es35 := pa_fi g218 fb61 (by omega)
              have g220 : px_pa hm59 277 53 192 evV es35 := pa_fi g42 fa60 (by omega)
              have g221 : px_pa h50 277 53 192 evV es35 := pa_fi g220 fb61 (by omega)
              have g222 : px_pa hm59 278 53 192 evT es35 := pa_fi g43 fa60 (by omega)
              have g223 : px_pa h50 278 53 192 evT es35 := pa_fi g222 fb61 (by omega)
              have g224 : px_pa hm59 279 50 8 vN om36 := pa_fi g44 fa60 (by omega)
              have g225 : px_pa h50 279 50 8 vN om36 := pa_fi g224 fb61 (by omega)
              have g226 : px_pa hm59 280 54 128 rK ro37 := pa_fi g45 fa60 (by omega)
              have g227 : px_pa h50 280 54 128 rK ro37 := pa_fi g226 fb61 (by omega)
              have g228 : px_pa hm59 281 53 128 rV ro37 := pa_fi g46 fa60 (by omega)
              have g229 : px_pa h50 281 53 128 rV ro37 := pa_fi g228 fb61 (by omega)
              have g230 : px_pa hm59 282 53 128 rT ro37 := pa_fi g47 fa60 (by omega)
              have g231 : px_pa h50 282 53 128 rT ro37 := pa_fi g230 fb61 (by omega)
              have g232 : px_pa hm59 283 52 8 vN wn38 := pa_fi g48 fa60 (by omega)
              have g233 : px_pa h50 283 52 8 vN wn38 := pa_fi g232 fb61 (by omega)
              have g234 : pMA h50 xs := ⟨_, _, _, _, _, g215, g217, g219, g221, g223, g225, g227, g229, g231, g233, hA49⟩
              have g235 : px_pa hm59 270 52 500 vN tx := pa_fi g2 fa60 (by omega)
              have g236 : px_pa h50 270 52 500 vN tx := pa_fi g235 fb61 (by omega)
              have g237 : px_pa hm59 271 52 6 stS j := pa_fi g3 fa60 (by omega)
              have g238 : px_pa h50 271 52 6 stS j := pa_fi g237 fb61 (by omega)
              have g239 : px_pa hm59 272 52 6 stA j := pa_fi g4 fa60 (by omega)
              have g240 : px_pa h50 272 52 6 stA j := pa_fi g239 fb61 (by omega)
              have g241 : px_pa hm59 273 50 6 stN j := pa_fi g5 fa60 (by omega)
              have g242 : px_pa h50 273 50 6 stN j := pa_fi g241 fb61 (by omega)
              have g243 : px_pa hm59 297 54 100 rK lo := pa_fi g20 fa60 (by omega)
              have g244 : px_pa h50 297 54 100 rK lo := pa_fi g243 fb61 (by omega)
              have g245 : px_pa hm59 298 50 100 rV lo := pa_fi g21 fa60 (by omega)
              have g246 : px_pa h50 298 50 100 rV lo := pa_fi g245 fb61 (by omega)
              have g247 : px_pa hm59 299 50 100 rT lo := pa_fi g22 fa60 (by omega)
              have g248 : px_pa h50 299 50 100 rT lo := pa_fi g247 fb61 (by omega)
              have g249 : px_pa hm59 300 54 100 rK lt := pa_fi g23 fa60 (by omega)
              have g250 : px_pa h50 300 54 100 rK lt := pa_fi g249 fb61 (by omega)
              have g251 : px_pa hm59 301 50 100 rV lt := pa_fi g24 fa60 (by omega)
              have g252 : px_pa h50 301 50 100 rV lt := pa_fi g251 fb61 (by omega)
              have g253 : px_pa hm59 302 50 100 rT lt := pa_fi g25 fa60 (by omega)
              have g254 : px_pa h50 302 50 100 rT lt := pa_fi g253 fb61 (by omega)
              have g255 : px_pa hm59 303 50 24 vN ke := pa_fi g26 fa60 (by omega)
              have g256 : px_pa h50 303 50 24 vN ke := pa_fi g255 fb61 (by omega)
              have g257 : pMD h50 tx j xs := ⟨gp, (nI j.length, (runO j ((xs.getD k c30).1)).2.2.1.isSome, oI (runO j ((xs.getD k c30).1)).2.2.1, (runO j ((xs.getD k c30).1)).2.2.2, la64, lb65, gq.2.2.2.2.2.2), (nI 0, nI ((runO j ((xs.getD k c30).1)).2.1.length)), gw66, (nI ((xs.getD k c30).1).length, gu.2.1, gu.2.2), gv, j, sl67, sl268, lh69, (runO j ((xs.getD k c30).1)).2.1, lo, lt, cv70, List.range ((xs.getD k c30).1).length, ke, g71, g236, g238, g240, g242, g234, g53, g54, g55, g72, g73, g74, g75, g76, g77, g78, g79, g80, g56, g244, g246, g248, g250, g252, g254, g256, ⟨ok.1, ok.2.1, ok.2.2.1, ⟨hO.1, hO.2.1, hO.2.2.1⟩, ok.2.2.2.2⟩⟩
              exact ⟨congrArg (fun z => some (Value.int z)) (show nI 1 = _ from by unfold aRan; rw [if_pos (hasC_nI (by omega) hkw), onC_k h8 hk, nN_nI (by omega)]; unfold ranO; rw [if_neg c_25, if_neg c_37, if_pos c_51, if_neg (some_t c_58)]), g257, fr63⟩
        · skip
          have c_37 : kw = 1 := cv_nne (by omega) (by omega) c_37
          refine e_aload_n f_169_40 rfl rfl ?_
          refine e_getf f_169_41 g71 rfl rfl ?_
          refine e_iconst (v := nI 3) f_169_44 (by decide) rfl ?_
          refine e_iaload_p (xs := sl67) f_169_45 g72 (d := 0) (by first | omega | (simp only [List.length_set]; omega)) rfl ?_
          show px_to 169 46 [some (.ref (269)), some (.int (nI k)), some (.int (nI kw))] [.int (sl67.getD 3 0)] h50 _
          rw [hO.2.2.2.1]
          refine e_goto f_169_46 ?_
          refine e_iret f_169_85 rfl (rfl) ?_
          have g258 : px_pa hm59 274 50 8 vN em34 := pa_fi g39 fa60 (by omega)
          have g259 : px_pa h50 274 50 8 vN em34 := pa_fi g258 fb61 (by omega)
          have g260 : px_pa hm59 275 52 192 evS es35 := pa_fi g40 fa60 (by omega)
          have g261 : px_pa h50 275 52 192 evS es35 := pa_fi g260 fb61 (by omega)
          have g262 : px_pa hm59 276 54 192 evK es35 := pa_fi g41 fa60 (by omega)
          have g263 : px_pa h50 276 54 192 evK es35 := pa_fi g262 fb61 (by omega)
          have g264 : px_pa hm59 277 53 192 evV es35 := pa_fi g42 fa60 (by omega)
          have g265 : px_pa h50 277 53 192 evV es35 := pa_fi g264 fb61 (by omega)
          have g266 : px_pa hm59 278 53 192 evT es35 := pa_fi g43 fa60 (by omega)
          have g267 : px_pa h50 278 53 192 evT es35 := pa_fi g266 fb61 (by omega)
          have g268 : px_pa hm59 279 50 8 vN om36 := pa_fi g44 fa60 (by omega)
          have g269 : px_pa h50 279 50 8 vN om36 := pa_fi g268 fb61 (by omega)
          have g270 : px_pa hm59 280 54 128 rK ro37 := pa_fi g45 fa60 (by omega)
          have g271 : px_pa h50 280 54 128 rK ro37 := pa_fi g270 fb61 (by omega)
          have g272 : px_pa hm59 281 53 128 rV ro37 := pa_fi g46 fa60 (by omega)
          have g273 : px_pa h50 281 53 128 rV ro37 := pa_fi g272 fb61 (by omega)
          have g274 : px_pa hm59 282 53 128 rT ro37 := pa_fi g47 fa60 (by omega)
          have g275 : px_pa h50 282 53 128 rT ro37 := pa_fi g274 fb61 (by omega)
          have g276 : px_pa hm59 283 52 8 vN wn38 := pa_fi g48 fa60 (by omega)
          have g277 : px_pa h50 283 52 8 vN wn38 := pa_fi g276 fb61 (by omega)
          have g278 : pMA h50 xs := ⟨_, _, _, _, _, g259, g261, g263, g265, g267, g269, g271, g273, g275, g277, hA49⟩
          have g279 : px_pa hm59 270 52 500 vN tx := pa_fi g2 fa60 (by omega)
          have g280 : px_pa h50 270 52 500 vN tx := pa_fi g279 fb61 (by omega)
          have g281 : px_pa hm59 271 52 6 stS j := pa_fi g3 fa60 (by omega)
          have g282 : px_pa h50 271 52 6 stS j := pa_fi g281 fb61 (by omega)
          have g283 : px_pa hm59 272 52 6 stA j := pa_fi g4 fa60 (by omega)
          have g284 : px_pa h50 272 52 6 stA j := pa_fi g283 fb61 (by omega)
          have g285 : px_pa hm59 273 50 6 stN j := pa_fi g5 fa60 (by omega)
          have g286 : px_pa h50 273 50 6 stN j := pa_fi g285 fb61 (by omega)
          have g287 : px_pa hm59 297 54 100 rK lo := pa_fi g20 fa60 (by omega)
          have g288 : px_pa h50 297 54 100 rK lo := pa_fi g287 fb61 (by omega)
          have g289 : px_pa hm59 298 50 100 rV lo := pa_fi g21 fa60 (by omega)
          have g290 : px_pa h50 298 50 100 rV lo := pa_fi g289 fb61 (by omega)
          have g291 : px_pa hm59 299 50 100 rT lo := pa_fi g22 fa60 (by omega)
          have g292 : px_pa h50 299 50 100 rT lo := pa_fi g291 fb61 (by omega)
          have g293 : px_pa hm59 300 54 100 rK lt := pa_fi g23 fa60 (by omega)
          have g294 : px_pa h50 300 54 100 rK lt := pa_fi g293 fb61 (by omega)
          have g295 : px_pa hm59 301 50 100 rV lt := pa_fi g24 fa60 (by omega)
          have g296 : px_pa h50 301 50 100 rV lt := pa_fi g295 fb61 (by omega)
          have g297 : px_pa hm59 302 50 100 rT lt := pa_fi g25 fa60 (by omega)
          have g298 : px_pa h50 302 50 100 rT lt := pa_fi g297 fb61 (by omega)
          have g299 : px_pa hm59 303 50 24 vN ke := pa_fi g26 fa60 (by omega)
          have g300 : px_pa h50 303 50 24 vN ke := pa_fi g299 fb61 (by omega)
          have g301 : pMD h50 tx j xs := ⟨gp, (nI j.length, (runO j ((xs.getD k c30).1)).2.2.1.isSome, oI (runO j ((xs.getD k c30).1)).2.2.1, (runO j ((xs.getD k c30).1)).2.2.2, la64, lb65, gq.2.2.2.2.2.2), (nI 0, nI ((runO j ((xs.getD k c30).1)).2.1.length)), gw66, (nI ((xs.getD k c30).1).length, gu.2.1, gu.2.2), gv, j, sl67, sl268, lh69, (runO j ((xs.getD k c30).1)).2.1, lo, lt, cv70, List.range ((xs.getD k c30).1).length, ke, g71, g280, g282, g284, g286, g278, g53, g54, g55, g72, g73, g74, g75, g76, g77, g78, g79, g80, g56, g288, g290, g292, g294, g296, g298, g300, ⟨ok.1, ok.2.1, ok.2.2.1, ⟨hO.1, hO.2.1, hO.2.2.1⟩, ok.2.2.2.2⟩⟩
          exact ⟨congrArg (fun z => some (Value.int z)) (show (runO j (xs.getD k c30).1).1 = _ from by unfold aRan; rw [if_pos (hasC_nI (by omega) hkw), onC_k h8 hk, nN_nI (by omega)]; unfold ranO; rw [if_neg c_25, if_pos c_37]), g301, fr63⟩
      · skip
        rw [← nI_0] at c_25
        have c_25 : kw = 0 := cv_nne (by omega) (by omega) c_25
        refine e_aload_n f_169_28 rfl rfl ?_
        refine e_getf f_169_29 g71 rfl rfl ?_
        show px_to 169 32 [some (.ref (269)), some (.int (nI k)), some (.int (nI kw))] [.int (nI ((runO j ((xs.getD k c30).1)).2.1.length))] h50 _
        refine e_goto f_169_32 ?_
        refine e_iret f_169_85 rfl (rfl) ?_
        have g302 : px_pa hm59 274 50 8 vN em34 := pa_fi g39 fa60 (by omega)
        have g303 : px_pa h50 274 50 8 vN em34 := pa_fi g302 fb61 (by omega)
        have g304 : px_pa hm59 275 52 192 evS es35 := pa_fi g40 fa60 (by omega)
        have g305 : px_pa h50 275 52 192 evS es35 := pa_fi g304 fb61 (by omega)
        have g306 : px_pa hm59 276 54 192 evK es35 := pa_fi g41 fa60 (by omega)
        have g307 : px_pa h50 276 54 192 evK es35 := pa_fi g306 fb61 (by omega)
        have g308 : px_pa hm59 277 53 192 evV es35 := pa_fi g42 fa60 (by omega)
        have g309 : px_pa h50 277 53 192 evV es35 := pa_fi g308 fb61 (by omega)
        have g310 : px_pa hm59 278 53 192 evT es35 := pa_fi g43 fa60 (by omega)
        have g311 : px_pa h50 278 53 192 evT es35 := pa_fi g310 fb61 (by omega)
        have g312 : px_pa hm59 279 50 8 vN om36 := pa_fi g44 fa60 (by omega)
        have g313 : px_pa h50 279 50 8 vN om36 := pa_fi g312 fb61 (by omega)
        have g314 : px_pa hm59 280 54 128 rK ro37 := pa_fi g45 fa60 (by omega)
        have g315 : px_pa h50 280 54 128 rK ro37 := pa_fi g314 fb61 (by omega)
        have g316 : px_pa hm59 281 53 128 rV ro37 := pa_fi g46 fa60 (by omega)
        have g317 : px_pa h50 281 53 128 rV ro37 := pa_fi g316 fb61 (by omega)
        have g318 : px_pa hm59 282 53 128 rT ro37 := pa_fi g47 fa60 (by omega)
        have g319 : px_pa h50 282 53 128 rT ro37 := pa_fi g318 fb61 (by omega)
        have g320 : px_pa hm59 283 52 8 vN wn38 := pa_fi g48 fa60 (by omega)
        have g321 : px_pa h50 283 52 8 vN wn38 := pa_fi g320 fb61 (by omega)
        have g322 : pMA h50 xs := ⟨_, _, _, _, _, g303, g305, g307, g309, g311, g313, g315, g317, g319, g321, hA49⟩
        have g323 : px_pa hm59 270 52 500 vN tx := pa_fi g2 fa60 (by omega)
        have g324 : px_pa h50 270 52 500 vN tx := pa_fi g323 fb61 (by omega)
        have g325 : px_pa hm59 271 52 6 stS j := pa_fi g3 fa60 (by omega)
        have g326 : px_pa h50 271 52 6 stS j := pa_fi g325 fb61 (by omega)
        have g327 : px_pa hm59 272 52 6 stA j := pa_fi g4 fa60 (by omega)
        have g328 : px_pa h50 272 52 6 stA j := pa_fi g327 fb61 (by omega)
        have g329 : px_pa hm59 273 50 6 stN j := pa_fi g5 fa60 (by omega)
        have g330 : px_pa h50 273 50 6 stN j := pa_fi g329 fb61 (by omega)
        have g331 : px_pa hm59 297 54 100 rK lo := pa_fi g20 fa60 (by omega)
        have g332 : px_pa h50 297 54 100 rK lo := pa_fi g331 fb61 (by omega)
        have g333 : px_pa hm59 298 50 100 rV lo := pa_fi g21 fa60 (by omega)
        have g334 : px_pa h50 298 50 100 rV lo := pa_fi g333 fb61 (by omega)
        have g335 : px_pa hm59 299 50 100 rT lo := pa_fi g22 fa60 (by omega)
        have g336 : px_pa h50 299 50 100 rT lo := pa_fi g335 fb61 (by omega)
        have g337 : px_pa hm59 300 54 100 rK lt := pa_fi g23 fa60 (by omega)
        have g338 : px_pa h50 300 54 100 rK lt := pa_fi g337 fb61 (by omega)
        have g339 : px_pa hm59 301 50 100 rV lt := pa_fi g24 fa60 (by omega)
        have g340 : px_pa h50 301 50 100 rV lt := pa_fi g339 fb61 (by omega)
        have g341 : px_pa hm59 302 50 100 rT lt := pa_fi g25 fa60 (by omega)
        have g342 : px_pa h50 302 50 100 rT lt := pa_fi g341 fb61 (by omega)
        have g343 : px_pa hm59 303 50 24 vN ke := pa_fi g26 fa60 (by omega)
        have g344 : px_pa h50 303 50 24 vN ke := pa_fi g343 fb61 (by omega)
        have g345 : pMD h50 tx j xs := ⟨gp, (nI j.length, (runO j ((xs.getD k c30).1)).2.2.1.isSome, oI (runO j ((xs.getD k c30).1)).2.2.1, (runO j ((xs.getD k c30).1)).2.2.2, la64, lb65, gq.2.2.2.2.2.2), (nI 0, nI ((runO j ((xs.getD k c30).1)).2.1.length)), gw66, (nI ((xs.getD k c30).1).length, gu.2.1, gu.2.2), gv, j, sl67, sl268, lh69, (runO j ((xs.getD k c30).1)).2.1, lo, lt, cv70, List.range ((xs.getD k c30).1).length, ke, g71, g324, g326, g328, g330, g322, g53, g54, g55, g72, g73, g74, g75, g76, g77, g78, g79, g80, g56, g332, g334, g336, g338, g340, g342, g344, ⟨ok.1, ok.2.1, ok.2.2.1, ⟨hO.1, hO.2.1, hO.2.2.1⟩, ok.2.2.2.2⟩⟩
        exact ⟨congrArg (fun z => some (Value.int z)) (show nI ((runO j ((xs.getD k c30).1)).2.1.length) = _ from by unfold aRan; rw [if_pos (hasC_nI (by omega) hkw), onC_k h8 hk, nN_nI (by omega)]; unfold ranO; rw [if_pos c_25]), g345, fr63⟩
    · skip
      have c_14 : (decide (nI 0 ≤ w ∧ w ≤ nI 4)) = false := bI_f' c_14
      have cw : hasC w 5 = false := by rw [← in4]; exact c_14
      refine e_iconst (v := (-1)) f_169_17 (by decide) rfl ?_
      refine e_iret f_169_18 rfl (rfl) ?_
      have g346 : pMD h tx j xs := ⟨gp, gq, gh, gw, gu, gv, jn, sl, sl2, lh, lg, lo, lt, cv, pl, ke, g1, g2, g3, g4, g5, g6, g7, g8, g9, g10, g11, g12, g13, g14, g15, g16, g17, g18, g19, g20, g21, g22, g23, g24, g25, g26, ok⟩
      exact ⟨congrArg (fun z => some (Value.int z)) (show (-1) = _ from by unfold aRan; rw [if_neg (by rw [cw]; decide)]), g346, fr0⟩

set_option maxRecDepth 20000 in
set_option maxHeartbeats 4000000 in
theorem cc_MD_out {h : px_H} {tx : List Nat} {j : List St} {xs : List CS3} {c : Int32} {i : Int32} {w : Int32} (H0 : pMD h tx j xs) (p0 : tN j ≤ 2) : px_wp 170 [.ref (269), .int (c), .int (i), .int (w)] h (fun h1 r => r = some (.int (aOut j xs c i w)) ∧ pMD h1 tx j xs ∧ px_fi 269 35 h h1) := by
  have fr0 : px_fi 269 35 h h := fi_rf _ _ _
  show px_to 170 0 [some (.ref (269)), some (.int (c)), some (.int (i)), some (.int (w))] [] h _
  obtain ⟨gp, gq, gh, gw, gu, gv, jn, sl, sl2, lh, lg, lo, lt, cv, pl, ke, g1, g2, g3, g4, g5, g6, g7, g8, g9, g10, g11, g12, g13, g14, g15, g16, g17, g18, g19, g20, g21, g22, g23, g24, g25, g26, ok⟩ := id H0
  have h8 : xs.length ≤ 8 := ok.2.2.1.1
  have hj6 : j.length ≤ 6 := ok.2.1.1.1
  have htl : tx.length ≤ 500 := pa_len g2
  refine e_aload_n f_170_0 rfl rfl ?_
  refine e_iload_n f_170_1 rfl rfl ?_
  refine e_callV (As := [.int (c)]) (rest := []) f_170_2 rfl rfl rfl (Nat.le_of_ble_eq_true rfl) (Nat.le_of_ble_eq_true rfl) g1 rfl (Nat.le_of_ble_eq_true rfl) (cc_Md_isCase (c := c) (L := nI tx.length) (sn := nI j.length) (xs := xs) (gp := gp) (gq := gq) (gh := gh) (gw := gw) (gu := gu) (gv := gv) g1 (by omega)) rfl (fun h27 r28 q29 => ?_)
  obtain ⟨rfl, qe⟩ := q29
  have qe := qe.symm
  subst qe
  show px_to 170 5 [some (.ref (269)), some (.int (c)), some (.int (i)), some (.int (w))] [.int (bI (hasC c xs.length))] h _
  refine e_if_eq f_170_5 rfl (fun c_5 => ?_) (fun c_5 => ?_)
  · skip
    have c_5 : (hasC c xs.length) = false := bI_f c_5
    refine e_iconst (v := (-1)) f_170_17 (by decide) rfl ?_
    refine e_iret f_170_18 rfl (rfl) ?_
    have g30 : pMD h tx j xs := ⟨gp, gq, gh, gw, gu, gv, jn, sl, sl2, lh, lg, lo, lt, cv, pl, ke, g1, g2, g3, g4, g5, g6, g7, g8, g9, g10, g11, g12, g13, g14, g15, g16, g17, g18, g19, g20, g21, g22, g23, g24, g25, g26, ok⟩
    exact ⟨congrArg (fun z => some (Value.int z)) (show (-1) = _ from by unfold aOut; rw [show onC xs c _ = -1 from onC_no c_5, ite_self]), g30, fr0⟩
  · skip
    have c_5 : (hasC c xs.length) = true := bI_t' c_5
    obtain ⟨k, hk, hkc⟩ := hasC_t (by omega) c_5
    subst hkc
    have hcx : okC3 (xs.getD k c30) := ok.2.2.1.2 _ (getD_mem _ hk)
    refine e_iload_n f_170_8 rfl rfl ?_
    refine e_iconst (v := nI 0) f_170_9 (by decide) rfl ?_
    refine e_iconst (v := nI 2) f_170_10 (by decide) rfl ?_
    refine e_callS (As := [.int (w), .int (nI 0), .int (nI 2)]) (rest := []) f_170_11 rfl rfl rfl (Nat.le_of_ble_eq_true rfl) (Nat.le_of_ble_eq_true rfl) (cc_Md_in (v := w) (lo := nI 0) (hi := nI 2)  ) rfl (fun h31 r32 q33 => ?_)
    obtain ⟨rfl, qe⟩ := q33
    have qe := qe.symm
    subst qe
    show px_to 170 14 [some (.ref (269)), some (.int (nI k)), some (.int (i)), some (.int (w))] [.int (bI (decide (nI 0 ≤ w ∧ w ≤ nI 2)))] h _
    refine e_if_ne f_170_14 rfl (fun c_14 => ?_) (fun c_14 => ?_)
    · skip
      have c_14 : (decide (nI 0 ≤ w ∧ w ≤ nI 2)) = true := bI_t c_14
      have cw : hasC w 3 = true := by rw [← in2]; exact c_14
      obtain ⟨kw, hkw, hkwc⟩ := hasC_t (by omega) cw
      subst hkwc
      obtain ⟨em34, es35, om36, ro37, wn38, g39, g40, g41, g42, g43, g44, g45, g46, g47, g48, hA49⟩ := id g6
      obtain ⟨hA1, hA2, hA3, hA4, hA5⟩ := hA49.2 k hk
      have hAl := hA49.1
      have hel := hcx.1
      have hoe : ∀ e ∈ (xs.getD k c30).1, e.1 < 65536 := fun e he => by have := (hcx.2.1 e he).1; omega
      refine e_aload_n f_170_19 rfl rfl ?_
      refine e_iload_n f_170_20 rfl rfl ?_
      refine e_callV (As := [.int (nI k)]) (rest := []) f_170_21 rfl rfl rfl (Nat.le_of_ble_eq_true rfl) (Nat.le_of_ble_eq_true rfl) g1 rfl (Nat.le_of_ble_eq_true rfl) (cc_Md_pla (c := k) (ev := (xs.getD k c30).1) (em := em34) (es := es35) (pl := pl) (L := nI tx.length) (cn := nI xs.length) (j := j) (jn := jn) (cb := gq.2.2.2.2.2.2) (sl := sl) (sl2 := sl2) (lh := lh) (lg := lg) (cv := cv) (tl := cv) (gp := gp) (gq := gq) (gh := gh) (gw := gw) (gu := gu) (gv := gv) g1 g3 g4 g5 g7 g8 g9 g10 g11 g12 g13 g14 g15 g16 g17 g18 g19 g39 g40 g41 g42 g43 (okB_okZ ok.2.1 p0) (ok.2.2.2.1) (by omega) (⟨hAl.1, hAl.2.1⟩) (hA2) (hcx.1) (hcx.2.1) (hA1) (⟨ok.2.2.2.1.2.2, fun _ => rfl⟩)) rfl (fun h50 r51 q52 => ?_)
      obtain ⟨rfl, g53, g54, g55, g56, g57, fx58⟩ := q52
      obtain ⟨hm59, fa60, fb61⟩ := fj_mid fx58
      have fr62 : px_fi 269 35 h hm59 := fi_tr fr0 fa60 (by omega)
      have fr63 : px_fi 269 35 h h50 := fi_tr fr62 fb61 (by omega)
      show px_to 170 24 [some (.ref (269)), some (.int (nI k)), some (.int (i)), some (.int (nI kw))] [] h50 _
      obtain ⟨la64, lb65, gw66, sl67, sl268, lh69, cv70, g71, g72, g73, g74, g75, g76, g77, g78, g79, g80, hO81⟩ := id g57
      have hO := hO81
      have hOl := hO.1
      have hrok := runO_rw ok.2.1.1 hcx
      have hrl := (runO_ok ok.2.1.1 hcx.2.1).2.1
      refine e_iload_n f_170_24 rfl rfl ?_
      refine e_iconst (v := nI 0) f_170_25 (by decide) rfl ?_
      refine e_aload_n f_170_26 rfl rfl ?_
      refine e_getf f_170_27 g71 rfl rfl ?_
      show px_to 170 30 [some (.ref (269)), some (.int (nI k)), some (.int (i)), some (.int (nI kw))] [.int (nI ((runO j ((xs.getD k c30).1)).2.1.length)), .int (nI 0), .int (i)] h50 _
      refine e_iconst (v := nI 1) f_170_30 (by decide) rfl ?_
      refine e_isub (z := (nI ((runO j ((xs.getD k c30).1)).2.1.length)) - (nI 1)) f_170_31 rfl rfl ?_
      refine e_callS (As := [.int (i), .int (nI 0), .int ((nI ((runO j ((xs.getD k c30).1)).2.1.length)) - (nI 1))]) (rest := []) f_170_32 rfl rfl rfl (Nat.le_of_ble_eq_true rfl) (Nat.le_of_ble_eq_true rfl) (cc_Md_in (v := i) (lo := nI 0) (hi := (nI ((runO j ((xs.getD k c30).1)).2.1.length)) - (nI 1))  ) rfl (fun h82 r83 q84 => ?_)
      obtain ⟨rfl, qe⟩ := q84
      have qe := qe.symm
      subst qe
      show px_to 170 35 [some (.ref (269)), some (.int (nI k)), some (.int (i)), some (.int (nI kw))] [.int (bI (decide (nI 0 ≤ i ∧ i ≤ (nI ((runO j ((xs.getD k c30).1)).2.1.length)) - (nI 1))))] h50 _
      refine e_if_ne f_170_35 rfl (fun c_35 => ?_) (fun c_35 => ?_)
      · skip
        have c_35 : (decide (nI 0 ≤ i ∧ i ≤ (nI ((runO j ((xs.getD k c30).1)).2.1.length)) - (nI 1))) = true := bI_t c_35
        have ci : hasC i (runO j (xs.getD k c30).1).2.1.length = true := by rw [← in_hasC (by omega)]; exact c_35
        obtain ⟨ki, hki, hkic⟩ := hasC_t (by omega) ci
        subst hkic
        refine e_iload_n f_170_40 rfl rfl ?_
        refine e_if_ne f_170_41 rfl (fun c_41 => ?_) (fun c_41 => ?_)
        · skip
          rw [← nI_0] at c_41
          have c_41 : kw ≠ 0 := cv_ne c_41
          refine e_iload_n f_170_53 rfl rfl ?_
          refine e_iconst (v := nI 1) f_170_54 (by decide) rfl ?_
          refine e_icmp_ne f_170_55 rfl (fun c_55 => ?_) (fun c_55 => ?_)
          · skip
            have c_55 : kw ≠ 1 := cv_ne c_55
            refine e_aload_n f_170_67 rfl rfl ?_
            refine e_getf f_170_68 g71 rfl rfl ?_
            refine e_iload_n f_170_71 rfl rfl ?_
            refine e_iaload_p (xs := (runO j ((xs.getD k c30).1)).2.1) f_170_72 g79 (d := (0, 0, 0)) (by first | omega | (simp only [List.length_set]; omega)) rfl ?_
            show px_to 170 73 [some (.ref (269)), some (.int (nI k)), some (.int (nI ki)), some (.int (nI kw))] [.int (nI ((((runO j ((xs.getD k c30).1)).2.1).getD ki (0, 0, 0)).2.2))] h50 _
            refine e_iret f_170_73 rfl (rfl) ?_
            have g85 : px_pa hm59 274 50 8 vN em34 := pa_fi g39 fa60 (by omega)
            have g86 : px_pa h50 274 50 8 vN em34 := pa_fi g85 fb61 (by omega)
            have g87 : px_pa hm59 275 52 192 evS es35 := pa_fi g40 fa60 (by omega)
            have g88 : px_pa h50 275 52 192 evS es35 := pa_fi g87 fb61 (by omega)
            have g89 : px_pa hm59 276 54 192 evK es35 := pa_fi g41 fa60 (by omega)
            have g90 : px_pa h50 276 54 192 evK es35 := pa_fi g89 fb61 (by omega)
            have g91 : px_pa hm59 277 53 192 evV es35 := pa_fi g42 fa60 (by omega)
            have g92 : px_pa h50 277 53 192 evV es35 := pa_fi g91 fb61 (by omega)
            have g93 : px_pa hm59 278 53 192 evT es35 := pa_fi g43 fa60 (by omega)
            have g94 : px_pa h50 278 53 192 evT es35 := pa_fi g93 fb61 (by omega)
            have g95 : px_pa hm59 279 50 8 vN om36 := pa_fi g44 fa60 (by omega)
            have g96 : px_pa h50 279 50 8 vN om36 := pa_fi g95 fb61 (by omega)
            have g97 : px_pa hm59 280 54 128 rK ro37 := pa_fi g45 fa60 (by omega)
            have g98 : px_pa h50 280 54 128 rK ro37 := pa_fi g97 fb61 (by omega)
            have g99 : px_pa hm59 281 53 128 rV ro37 := pa_fi g46 fa60 (by omega)
            have g100 : px_pa h50 281 53 128 rV ro37 := pa_fi g99 fb61 (by omega)
            have g101 : px_pa hm59 282 53 128 rT ro37 := pa_fi g47 fa60 (by omega)
            have g102 : px_pa h50 282 53 128 rT ro37 := pa_fi g101 fb61 (by omega)
            have g103 : px_pa hm59 283 52 8 vN wn38 := pa_fi g48 fa60 (by omega)
            have g104 : px_pa h50 283 52 8 vN wn38 := pa_fi g103 fb61 (by omega)
            have g105 : pMA h50 xs := ⟨_, _, _, _, _, g86, g88, g90, g92, g94, g96, g98, g100, g102, g104, hA49⟩
            have g106 : px_pa hm59 270 52 500 vN tx := pa_fi g2 fa60 (by omega)
            have g107 : px_pa h50 270 52 500 vN tx := pa_fi g106 fb61 (by omega)
            have g108 : px_pa hm59 271 52 6 stS j := pa_fi g3 fa60 (by omega)
            have g109 : px_pa h50 271 52 6 stS j := pa_fi g108 fb61 (by omega)
            have g110 : px_pa hm59 272 52 6 stA j := pa_fi g4 fa60 (by omega)
            have g111 : px_pa h50 272 52 6 stA j := pa_fi g110 fb61 (by omega)
            have g112 : px_pa hm59 273 50 6 stN j := pa_fi g5 fa60 (by omega)
            have g113 : px_pa h50 273 50 6 stN j := pa_fi g112 fb61 (by omega)
            have g114 : px_pa hm59 297 54 100 rK lo := pa_fi g20 fa60 (by omega)
            have g115 : px_pa h50 297 54 100 rK lo := pa_fi g114 fb61 (by omega)
            have g116 : px_pa hm59 298 50 100 rV lo := pa_fi g21 fa60 (by omega)
            have g117 : px_pa h50 298 50 100 rV lo := pa_fi g116 fb61 (by omega)
            have g118 : px_pa hm59 299 50 100 rT lo := pa_fi g22 fa60 (by omega)
            have g119 : px_pa h50 299 50 100 rT lo := pa_fi g118 fb61 (by omega)
            have g120 : px_pa hm59 300 54 100 rK lt := pa_fi g23 fa60 (by omega)
            have g121 : px_pa h50 300 54 100 rK lt := pa_fi g120 fb61 (by omega)
            have g122 : px_pa hm59 301 50 100 rV lt := pa_fi g24 fa60 (by omega)
            have g123 : px_pa h50 301 50 100 rV lt := pa_fi g122 fb61 (by omega)
            have g124 : px_pa hm59 302 50 100 rT lt := pa_fi g25 fa60 (by omega)
            have g125 : px_pa h50 302 50 100 rT lt := pa_fi g124 fb61 (by omega)
            have g126 : px_pa hm59 303 50 24 vN ke := pa_fi g26 fa60 (by omega)
            have g127 : px_pa h50 303 50 24 vN ke := pa_fi g126 fb61 (by omega)
            have g128 : pMD h50 tx j xs := ⟨gp, (nI j.length, (runO j ((xs.getD k c30).1)).2.2.1.isSome, oI (runO j ((xs.getD k c30).1)).2.2.1, (runO j ((xs.getD k c30).1)).2.2.2, la64, lb65, gq.2.2.2.2.2.2), (nI 0, nI ((runO j ((xs.getD k c30).1)).2.1.length)), gw66, (nI ((xs.getD k c30).1).length, gu.2.1, gu.2.2), gv, j, sl67, sl268, lh69, (runO j ((xs.getD k c30).1)).2.1, lo, lt, cv70, List.range ((xs.getD k c30).1).length, ke, g71, g107, g109, g111, g113, g105, g53, g54, g55, g72, g73, g74, g75, g76, g77, g78, g79, g80, g56, g115, g117, g119, g121, g123, g125, g127, ⟨ok.1, ok.2.1, ok.2.2.1, ⟨hO.1, hO.2.1, hO.2.2.1⟩, ok.2.2.2.2⟩⟩
            exact ⟨congrArg (fun z => some (Value.int z)) (show nI ((((runO j ((xs.getD k c30).1)).2.1).getD ki (0, 0, 0)).2.2) = _ from by unfold aOut; rw [if_pos (hasC_nI (by omega) hkw), onC_k h8 hk, nN_nI (show kw < 2147483648 by omega)]; unfold outO; rw [if_pos (hasC_nI (by omega) hki), nN_nI (show ki < 2147483648 by omega)]; unfold rowO; rw [if_neg c_41, if_neg c_55]), g128, fr63⟩
          · skip
            have c_55 : kw = 1 := cv_nne (by omega) (by omega) c_55
            refine e_aload_n f_170_58 rfl rfl ?_
            refine e_getf f_170_59 g71 rfl rfl ?_
            refine e_iload_n f_170_62 rfl rfl ?_
            refine e_iaload_p (xs := (runO j ((xs.getD k c30).1)).2.1) f_170_63 g78 (d := (0, 0, 0)) (by first | omega | (simp only [List.length_set]; omega)) rfl ?_
            show px_to 170 64 [some (.ref (269)), some (.int (nI k)), some (.int (nI ki)), some (.int (nI kw))] [.int ((((runO j ((xs.getD k c30).1)).2.1).getD ki (0, 0, 0)).2.1)] h50 _
            refine e_goto f_170_64 ?_
            refine e_iret f_170_73 rfl (rfl) ?_
            have g129 : px_pa hm59 274 50 8 vN em34 := pa_fi g39 fa60 (by omega)
            have g130 : px_pa h50 274 50 8 vN em34 := pa_fi g129 fb61 (by omega)
            have g131 : px_pa hm59 275 52 192 evS es35 := pa_fi g40 fa60 (by omega)
            have g132 : px_pa h50 275 52 192 evS es35 := pa_fi g131 fb61 (by omega)
            have g133 : px_pa hm59 276 54 192 evK es35 := pa_fi g41 fa60 (by omega)
            have g134 : px_pa h50 276 54 192 evK es35 := pa_fi g133 fb61 (by omega)
            have g135 : px_pa hm59 277 53 192 evV es35 := pa_fi g42 fa60 (by omega)
            have g136 : px_pa h50 277 53 192 evV es35 := pa_fi g135 fb61 (by omega)
            have g137 : px_pa hm59 278 53 192 evT es35 := pa_fi g43 fa60 (by omega)
            have g138 : px_pa h50 278 53 192 evT es35 := pa_fi g137 fb61 (by omega)
            have g139 : px_pa hm59 279 50 8 vN om36 := pa_fi g44 fa60 (by omega)
            have g140 : px_pa h50 279 50 8 vN om36 := pa_fi g139 fb61 (by omega)
            have g141 : px_pa hm59 280 54 128 rK ro37 := pa_fi g45 fa60 (by omega)
            have g142 : px_pa h50 280 54 128 rK ro37 := pa_fi g141 fb61 (by omega)
            have g143 : px_pa hm59 281 53 128 rV ro37 := pa_fi g46 fa60 (by omega)
            have g144 : px_pa h50 281 53 128 rV ro37 := pa_fi g143 fb61 (by omega)
            have g145 : px_pa hm59 282 53 128 rT ro37 := pa_fi g47 fa60 (by omega)
            have g146 : px_pa h50 282 53 128 rT ro37 := pa_fi g145 fb61 (by omega)
            have g147 : px_pa hm59 283 52 8 vN wn38 := pa_fi g48 fa60 (by omega)
            have g148 : px_pa h50 283 52 8 vN wn38 := pa_fi g147 fb61 (by omega)
            have g149 : pMA h50 xs := ⟨_, _, _, _, _, g130, g132, g134, g136, g138, g140, g142, g144, g146, g148, hA49⟩
            have g150 : px_pa hm59 270 52 500 vN tx := pa_fi g2 fa60 (by omega)
            have g151 : px_pa h50 270 52 500 vN tx := pa_fi g150 fb61 (by omega)
            have g152 : px_pa hm59 271 52 6 stS j := pa_fi g3 fa60 (by omega)
            have g153 : px_pa h50 271 52 6 stS j := pa_fi g152 fb61 (by omega)
            have g154 : px_pa hm59 272 52 6 stA j := pa_fi g4 fa60 (by omega)
            have g155 : px_pa h50 272 52 6 stA j := pa_fi g154 fb61 (by omega)
            have g156 : px_pa hm59 273 50 6 stN j := pa_fi g5 fa60 (by omega)
            have g157 : px_pa h50 273 50 6 stN j := pa_fi g156 fb61 (by omega)
            have g158 : px_pa hm59 297 54 100 rK lo := pa_fi g20 fa60 (by omega)
            have g159 : px_pa h50 297 54 100 rK lo := pa_fi g158 fb61 (by omega)
            have g160 : px_pa hm59 298 50 100 rV lo := pa_fi g21 fa60 (by omega)
            have g161 : px_pa h50 298 50 100 rV lo := pa_fi g160 fb61 (by omega)
            have g162 : px_pa hm59 299 50 100 rT lo := pa_fi g22 fa60 (by omega)
            have g163 : px_pa h50 299 50 100 rT lo := pa_fi g162 fb61 (by omega)
            have g164 : px_pa hm59 300 54 100 rK lt := pa_fi g23 fa60 (by omega)
            have g165 : px_pa h50 300 54 100 rK lt := pa_fi g164 fb61 (by omega)
            have g166 : px_pa hm59 301 50 100 rV lt := pa_fi g24 fa60 (by omega)
            have g167 : px_pa h50 301 50 100 rV lt := pa_fi g166 fb61 (by omega)
            have g168 : px_pa hm59 302 50 100 rT lt := pa_fi g25 fa60 (by omega)
            have g169 : px_pa h50 302 50 100 rT lt := pa_fi g168 fb61 (by omega)
            have g170 : px_pa hm59 303 50 24 vN ke := pa_fi g26 fa60 (by omega)
            have g171 : px_pa h50 303 50 24 vN ke := pa_fi g170 fb61 (by omega)
            have g172 : pMD h50 tx j xs := ⟨gp, (nI j.length, (runO j ((xs.getD k c30).1)).2.2.1.isSome, oI (runO j ((xs.getD k c30).1)).2.2.1, (runO j ((xs.getD k c30).1)).2.2.2, la64, lb65, gq.2.2.2.2.2.2), (nI 0, nI ((runO j ((xs.getD k c30).1)).2.1.length)), gw66, (nI ((xs.getD k c30).1).length, gu.2.1, gu.2.2), gv, j, sl67, sl268, lh69, (runO j ((xs.getD k c30).1)).2.1, lo, lt, cv70, List.range ((xs.getD k c30).1).length, ke, g71, g151, g153, g155, g157, g149, g53, g54, g55, g72, g73, g74, g75, g76, g77, g78, g79, g80, g56, g159, g161, g163, g165, g167, g169, g171, ⟨ok.1, ok.2.1, ok.2.2.1, ⟨hO.1, hO.2.1, hO.2.2.1⟩, ok.2.2.2.2⟩⟩
            exact ⟨congrArg (fun z => some (Value.int z)) (show (((runO j ((xs.getD k c30).1)).2.1).getD ki (0, 0, 0)).2.1 = _ from by unfold aOut; rw [if_pos (hasC_nI (by omega) hkw), onC_k h8 hk, nN_nI (show kw < 2147483648 by omega)]; unfold outO; rw [if_pos (hasC_nI (by omega) hki), nN_nI (show ki < 2147483648 by omega)]; unfold rowO; rw [if_neg c_41, if_pos c_55]), g172, fr63⟩
        · skip
          rw [← nI_0] at c_41
          have c_41 : kw = 0 := cv_nne (by omega) (by omega) c_41
          refine e_aload_n f_170_44 rfl rfl ?_
          refine e_getf f_170_45 g71 rfl rfl ?_
          refine e_iload_n f_170_48 rfl rfl ?_
          refine e_baload_p (xs := (runO j ((xs.getD k c30).1)).2.1) f_170_49 g77 (d := (0, 0, 0)) (by first | omega | (simp only [List.length_set]; omega)) rfl ?_
          show px_to 170 50 [some (.ref (269)), some (.int (nI k)), some (.int (nI ki)), some (.int (nI kw))] [.int (nI ((((runO j ((xs.getD k c30).1)).2.1).getD ki (0, 0, 0)).1))] h50 _
          refine e_goto f_170_50 ?_
          refine e_iret f_170_73 rfl (rfl) ?_
          have g173 : px_pa hm59 274 50 8 vN em34 := pa_fi g39 fa60 (by omega)
          have g174 : px_pa h50 274 50 8 vN em34 := pa_fi g173 fb61 (by omega)
          have g175 : px_pa hm59 275 52 192 evS es35 := pa_fi g40 fa60 (by omega)
          have g176 : px_pa h50 275 52 192 evS es35 := pa_fi g175 fb61 (by omega)
          have g177 : px_pa hm59 276 54 192 evK es35 := pa_fi g41 fa60 (by omega)
          have g178 : px_pa h50 276 54 192 evK es35 := pa_fi g177 fb61 (by omega)
          have g179 : px_pa hm59 277 53 192 evV es35 := pa_fi g42 fa60 (by omega)
          have g180 : px_pa h50 277 53 192 evV es35 := pa_fi g179 fb61 (by omega)
          have g181 : px_pa hm59 278 53 192 evT es35 := pa_fi g43 fa60 (by omega)
          have g182 : px_pa h50 278 53 192 evT es35 := pa_fi g181 fb61 (by omega)
          have g183 : px_pa hm59 279 50 8 vN om36 := pa_fi g44 fa60 (by omega)
          have g184 : px_pa h50 279 50 8 vN om36 := pa_fi g183 fb61 (by omega)
          have g185 : px_pa hm59 280 54 128 rK ro37 := pa_fi g45 fa60 (by omega)
          have g186 : px_pa h50 280 54 128 rK ro37 := pa_fi g185 fb61 (by omega)
          have g187 : px_pa hm59 281 53 128 rV ro37 := pa_fi g46 fa60 (by omega)
          have g188 : px_pa h50 281 53 128 rV ro37 := pa_fi g187 fb61 (by omega)
          have g189 : px_pa hm59 282 53 128 rT ro37 := pa_fi g47 fa60 (by omega)
          have g190 : px_pa h50 282 53 128 rT ro37 := pa_fi g189 fb61 (by omega)
          have g191 : px_pa hm59 283 52 8 vN wn38 := pa_fi g48 fa60 (by omega)
          have g192 : px_pa h50 283 52 8 vN wn38 := pa_fi g191 fb61 (by omega)
          have g193 : pMA h50 xs := ⟨_, _, _, _, _, g174, g176, g178, g180, g182, g184, g186, g188, g190, g192, hA49⟩
          have g194 : px_pa hm59 270 52 500 vN tx := pa_fi g2 fa60 (by omega)
          have g195 : px_pa h50 270 52 500 vN tx := pa_fi g194 fb61 (by omega)
          have g196 : px_pa hm59 271 52 6 stS j := pa_fi g3 fa60 (by omega)
          have g197 : px_pa h50 271 52 6 stS j := pa_fi g196 fb61 (by omega)
          have g198 : px_pa hm59 272 52 6 stA j := pa_fi g4 fa60 (by omega)
          have g199 : px_pa h50 272 52 6 stA j := pa_fi g198 fb61 (by omega)
          have g200 : px_pa hm59 273 50 6 stN j := pa_fi g5 fa60 (by omega)
          have g201 : px_pa h50 273 50 6 stN j := pa_fi g200 fb61 (by omega)
          have g202 : px_pa hm59 297 54 100 rK lo := pa_fi g20 fa60 (by omega)
          have g203 : px_pa h50 297 54 100 rK lo := pa_fi g202 fb61 (by omega)
          have g204 : px_pa hm59 298 50 100 rV lo := pa_fi g21 fa60 (by omega)
          have g205 : px_pa h50 298 50 100 rV lo := pa_fi g204 fb61 (by omega)
          have g206 : px_pa hm59 299 50 100 rT lo := pa_fi g22 fa60 (by omega)
          have g207 : px_pa h50 299 50 100 rT lo := pa_fi g206 fb61 (by omega)
          have g208 : px_pa hm59 300 54 100 rK lt := pa_fi g23 fa60 (by omega)
          have g209 : px_pa h50 300 54 100 rK lt := pa_fi g208 fb61 (by omega)
          have g210 : px_pa hm59 301 50 100 rV lt := pa_fi g24 fa60 (by omega)
          have g211 : px_pa h50 301 50 100 rV lt := pa_fi g210 fb61 (by omega)
          have g212 : px_pa hm59 302 50 100 rT lt := pa_fi g25 fa60 (by omega)
          have g213 : px_pa h50 302 50 100 rT lt := pa_fi g212 fb61 (by omega)
          have g214 : px_pa hm59 303 50 24 vN ke := pa_fi g26 fa60 (by omega)
          have g215 : px_pa h50 303 50 24 vN ke := pa_fi g214 fb61 (by omega)
          have g216 : pMD h50 tx j xs := ⟨gp, (nI j.length, (runO j ((xs.getD k c30).1)).2.2.1.isSome, oI (runO j ((xs.getD k c30).1)).2.2.1, (runO j ((xs.getD k c30).1)).2.2.2, la64, lb65, gq.2.2.2.2.2.2), (nI 0, nI ((runO j ((xs.getD k c30).1)).2.1.length)), gw66, (nI ((xs.getD k c30).1).length, gu.2.1, gu.2.2), gv, j, sl67, sl268, lh69, (runO j ((xs.getD k c30).1)).2.1, lo, lt, cv70, List.range ((xs.getD k c30).1).length, ke, g71, g195, g197, g199, g201, g193, g53, g54, g55, g72, g73, g74, g75, g76, g77, g78, g79, g80, g56, g203, g205, g207, g209, g211, g213, g215, ⟨ok.1, ok.2.1, ok.2.2.1, ⟨hO.1, hO.2.1, hO.2.2.1⟩, ok.2.2.2.2⟩⟩
          exact ⟨congrArg (fun z => some (Value.int z)) (show nI ((((runO j ((xs.getD k c30).1)).2.1).getD ki (0, 0, 0)).1) = _ from by unfold aOut; rw [if_pos (hasC_nI (by omega) hkw), onC_k h8 hk, nN_nI (show kw < 2147483648 by omega)]; unfold outO; rw [if_pos (hasC_nI (by omega) hki), nN_nI (show ki < 2147483648 by omega)]; unfold rowO; rw [if_pos c_41]), g216, fr63⟩
      · skip
        have c_35 : (decide (nI 0 ≤ i ∧ i ≤ (nI ((runO j ((xs.getD k c30).1)).2.1.length)) - (nI 1))) = false := bI_f' c_35
        have ci : hasC i (runO j (xs.getD k c30).1).2.1.length = false := by rw [← in_hasC (by omega)]; exact c_35
        refine e_iconst (v := nI 0) f_170_38 (by decide) rfl ?_
        refine e_iret f_170_39 rfl (rfl) ?_
        have g217 : px_pa hm59 274 50 8 vN em34 := pa_fi g39 fa60 (by omega)
        have g218 : px_pa h50 274 50 8 vN em34 := pa_fi g217 fb61 (by omega)
        have g219 : px_pa hm59 275 52 192 evS es35 := pa_fi g40 fa60 (by omega)
        have g220 : px_pa h50 275 52 192 evS es35 := pa_fi g219 fb61 (by omega)
        have g221 : px_pa hm59 276 54 192 evK es35 := pa_fi g41 fa60 (by omega)
        have g222 : px_pa h50 276 54 192 evK es35 := pa_fi g221 fb61 (by omega)
        have g223 : px_pa hm59 277 53 192 evV es35 := pa_fi g42 fa60 (by omega)
        have g224 : px_pa h50 277 53 192 evV es35 := pa_fi g223 fb61 (by omega)
        have g225 : px_pa hm59 278 53 192 evT es35 := pa_fi g43 fa60 (by omega)
        have g226 : px_pa h50 278 53 192 evT es35 := pa_fi g225 fb61 (by omega)
        have g227 : px_pa hm59 279 50 8 vN om36 := pa_fi g44 fa60 (by omega)
        have g228 : px_pa h50 279 50 8 vN om36 := pa_fi g227 fb61 (by omega)
        have g229 : px_pa hm59 280 54 128 rK ro37 := pa_fi g45 fa60 (by omega)
        have g230 : px_pa h50 280 54 128 rK ro37 := pa_fi g229 fb61 (by omega)
        have g231 : px_pa hm59 281 53 128 rV ro37 := pa_fi g46 fa60 (by omega)
        have g232 : px_pa h50 281 53 128 rV ro37 := pa_fi g231 fb61 (by omega)
        have g233 : px_pa hm59 282 53 128 rT ro37 := pa_fi g47 fa60 (by omega)
        have g234 : px_pa h50 282 53 128 rT ro37 := pa_fi g233 fb61 (by omega)
        have g235 : px_pa hm59 283 52 8 vN wn38 := pa_fi g48 fa60 (by omega)
        have g236 : px_pa h50 283 52 8 vN wn38 := pa_fi g235 fb61 (by omega)
        have g237 : pMA h50 xs := ⟨_, _, _, _, _, g218, g220, g222, g224, g226, g228, g230, g232, g234, g236, hA49⟩
        have g238 : px_pa hm59 270 52 500 vN tx := pa_fi g2 fa60 (by omega)
        have g239 : px_pa h50 270 52 500 vN tx := pa_fi g238 fb61 (by omega)
        have g240 : px_pa hm59 271 52 6 stS j := pa_fi g3 fa60 (by omega)
        have g241 : px_pa h50 271 52 6 stS j := pa_fi g240 fb61 (by omega)
        have g242 : px_pa hm59 272 52 6 stA j := pa_fi g4 fa60 (by omega)
        have g243 : px_pa h50 272 52 6 stA j := pa_fi g242 fb61 (by omega)
        have g244 : px_pa hm59 273 50 6 stN j := pa_fi g5 fa60 (by omega)
        have g245 : px_pa h50 273 50 6 stN j := pa_fi g244 fb61 (by omega)
        have g246 : px_pa hm59 297 54 100 rK lo := pa_fi g20 fa60 (by omega)
        have g247 : px_pa h50 297 54 100 rK lo := pa_fi g246 fb61 (by omega)
        have g248 : px_pa hm59 298 50 100 rV lo := pa_fi g21 fa60 (by omega)
        have g249 : px_pa h50 298 50 100 rV lo := pa_fi g248 fb61 (by omega)
        have g250 : px_pa hm59 299 50 100 rT lo := pa_fi g22 fa60 (by omega)
        have g251 : px_pa h50 299 50 100 rT lo := pa_fi g250 fb61 (by omega)
        have g252 : px_pa hm59 300 54 100 rK lt := pa_fi g23 fa60 (by omega)
        have g253 : px_pa h50 300 54 100 rK lt := pa_fi g252 fb61 (by omega)
        have g254 : px_pa hm59 301 50 100 rV lt := pa_fi g24 fa60 (by omega)
        have g255 : px_pa h50 301 50 100 rV lt := pa_fi g254 fb61 (by omega)
        have g256 : px_pa hm59 302 50 100 rT lt := pa_fi g25 fa60 (by omega)
        have g257 : px_pa h50 302 50 100 rT lt := pa_fi g256 fb61 (by omega)
        have g258 : px_pa hm59 303 50 24 vN ke := pa_fi g26 fa60 (by omega)
        have g259 : px_pa h50 303 50 24 vN ke := pa_fi g258 fb61 (by omega)
        have g260 : pMD h50 tx j xs := ⟨gp, (nI j.length, (runO j ((xs.getD k c30).1)).2.2.1.isSome, oI (runO j ((xs.getD k c30).1)).2.2.1, (runO j ((xs.getD k c30).1)).2.2.2, la64, lb65, gq.2.2.2.2.2.2), (nI 0, nI ((runO j ((xs.getD k c30).1)).2.1.length)), gw66, (nI ((xs.getD k c30).1).length, gu.2.1, gu.2.2), gv, j, sl67, sl268, lh69, (runO j ((xs.getD k c30).1)).2.1, lo, lt, cv70, List.range ((xs.getD k c30).1).length, ke, g71, g239, g241, g243, g245, g237, g53, g54, g55, g72, g73, g74, g75, g76, g77, g78, g79, g80, g56, g247, g249, g251, g253, g255, g257, g259, ⟨ok.1, ok.2.1, ok.2.2.1, ⟨hO.1, hO.2.1, hO.2.2.1⟩, ok.2.2.2.2⟩⟩
        exact ⟨congrArg (fun z => some (Value.int z)) (show nI 0 = _ from by unfold aOut; rw [if_pos (hasC_nI (by omega) hkw), onC_k h8 hk, nN_nI (show kw < 2147483648 by omega)]; unfold outO; rw [if_neg (by rw [ci]; decide)]), g260, fr63⟩
    · skip
      have c_14 : (decide (nI 0 ≤ w ∧ w ≤ nI 2)) = false := bI_f' c_14
      have cw : hasC w 3 = false := by rw [← in2]; exact c_14
      refine e_iconst (v := (-1)) f_170_17 (by decide) rfl ?_
      refine e_iret f_170_18 rfl (rfl) ?_
      have g261 : pMD h tx j xs := ⟨gp, gq, gh, gw, gu, gv, jn, sl, sl2, lh, lg, lo, lt, cv, pl, ke, g1, g2, g3, g4, g5, g6, g7, g8, g9, g10, g11, g12, g13, g14, g15, g16, g17, g18, g19, g20, g21, g22, g23, g24, g25, g26, ok⟩
      exact ⟨congrArg (fun z => some (Value.int z)) (show (-1) = _ from by unfold aOut; rw [if_neg (by rw [cw]; decide)]), g261, fr0⟩
