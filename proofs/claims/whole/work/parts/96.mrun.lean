def relO (cb : Bool) (yo : RO) (tl sl sl2 cv : List Int32) : Prop := sl.length = 3070 ∧ sl2.length = 3070 ∧ cv.length = 30 ∧ sl.getD 3 0 = yo.1 ∧ (cb = true → cv = tl)
def pRO (h : px_H) (ga : gA) (gp : gP) (gu : gU) (gv : gV) (j : List St) (cb : Bool) (yo : RO) (tl : List Int32) : Prop := ∃ (la lb : Bool) (gw : gW) (sl sl2 : List Int32) (lh : List Row) (cv : List Int32), h.2.2 269 = some (12, mB ga gp (nI j.length, yo.2.2.1.isSome, oI yo.2.2.1, yo.2.2.2, la, lb, cb) (nI 0, nI yo.2.1.length) gw gu gv) ∧ px_pa h 287 50 3070 Value.int sl ∧ px_pa h 288 50 3070 Value.int sl2 ∧ px_pa h 289 54 100 rK lh ∧ px_pa h 290 50 100 rV lh ∧ px_pa h 291 50 100 rT lh ∧ px_pa h 292 54 100 rK yo.2.1 ∧ px_pa h 293 50 100 rV yo.2.1 ∧ px_pa h 294 50 100 rT yo.2.1 ∧ px_pa h 295 50 30 Value.int cv ∧ relO cb yo tl sl sl2 cv
theorem pRO_fi {h h1 : px_H} {ga : gA} {gp : gP} {gu : gU} {gv : gV} {j : List St} {cb : Bool} {yo : RO} {tl : List Int32} {lo n : Nat} (q : pRO h ga gp gu gv j cb yo tl) (f : px_fi lo n h h1) (d : 296 ≤ lo ∨ lo + n ≤ 269 ∨ (270 ≤ lo ∧ lo + n ≤ 287)) : pRO h1 ga gp gu gv j cb yo tl := by
  obtain ⟨la, lb, gw, sl, sl2, lh, cv, z1, z2, z3, z4, z5, z6, z7, z8, z9, z10, y⟩ := q
  exact ⟨la, lb, gw, sl, sl2, lh, cv, fi_at z1 f (by omega), pa_fi z2 f (by omega), pa_fi z3 f (by omega), pa_fi z4 f (by omega), pa_fi z5 f (by omega), pa_fi z6 f (by omega), pa_fi z7 f (by omega), pa_fi z8 f (by omega), pa_fi z9 f (by omega), pa_fi z10 f (by omega), y⟩

set_option maxRecDepth 20000 in
set_option maxHeartbeats 4000000 in
theorem cc_Md_runs {h : px_H} {c : Nat} {ev es : List Ev} {pl : List Nat} {j : List St} {cb : Bool} {sl sl2 : List Int32} {lh lg : List Row} {cv tl : List Int32} {ga : gA} {gp : gP} {gq : gQ} {gh : gH} {gw : gW} {gu : gU} {gv : gV} (H0 : h.2.2 269 = some (12, mB ga gp (nI j.length, gq.2.1, gq.2.2.1, gq.2.2.2.1, gq.2.2.2.2.1, gq.2.2.2.2.2.1, cb) gh gw (nI pl.length, gu.2.1, gu.2.2) gv)) (H1 : px_pa h 284 52 6 stS j) (H2 : px_pa h 285 52 6 stA j) (H3 : px_pa h 286 50 6 stN j) (H4 : px_pa h 287 50 3070 Value.int sl) (H5 : px_pa h 288 50 3070 Value.int sl2) (H6 : px_pa h 289 54 100 rK lh) (H7 : px_pa h 290 50 100 rV lh) (H8 : px_pa h 291 50 100 rT lh) (H9 : px_pa h 292 54 100 rK lg) (H10 : px_pa h 293 50 100 rV lg) (H11 : px_pa h 294 50 100 rT lg) (H12 : px_pa h 295 50 30 Value.int cv) (H13 : px_pa h 296 50 24 vN pl) (H14 : px_pa h 275 52 192 evS es) (H15 : px_pa h 276 54 192 evK es) (H16 : px_pa h 277 53 192 evV es) (H17 : px_pa h 278 53 192 evT es) (p0 : okZ j) (p1 : sl.length = 3070 ∧ sl2.length = 3070 ∧ cv.length = 30) (p2 : c < 8) (p3 : es.length = 192) (p4 : inE es c ev) (p5 : ev.length ≤ 24) (p6 : ∀ e ∈ ev, okEv e) (p7 : ∀ p ∈ pl, p < ev.length) (p8 : tl.length = 30 ∧ (cb = true → cv = tl)) : px_wp 156 [.ref (269), .int (nI c)] h (fun h1 r => r = none ∧ pRO h1 ga gp (nI pl.length, gu.2.1, gu.2.2) gv j cb (runO j (evs ev pl)) ((runS j (evs ev pl) tl).1.2.2.2.1) ∧ px_fj 269 1 287 9 h h1) := by
  have fr0 : px_fj 269 1 287 9 h h := fj_rf _ _ _ _ _
  have h6 := p0.1.1
  have lp0 := pa_len H13
  show px_to 156 0 [some (.ref (269)), some (.int (nI c)), none, none, none, none] [] h _
  refine e_aload_n f_156_0 rfl rfl ?_
  refine e_iconst (v := nI 0) f_156_1 (by decide) rfl ?_
  refine e_putp (vs' := mB ga gp (nI j.length, gq.2.1, gq.2.2.1, gq.2.2.2.1, false, gq.2.2.2.2.2.1, cb) gh gw (nI pl.length, gu.2.1, gu.2.2) gv) f_156_2 H0 (Nat.le_of_ble_eq_true rfl) (rfl) (rfl) rfl rfl (fun h1 g2 fx3 => ?_)
  have fr4 : px_fj 269 1 287 9 h h1 := fj_tr fr0 fx3 (by omega)
  refine e_aload_n f_156_5 rfl rfl ?_
  refine e_iconst (v := nI 0) f_156_6 (by decide) rfl ?_
  refine e_putp (vs' := mB ga gp (nI j.length, gq.2.1, gq.2.2.1, gq.2.2.2.1, false, false, cb) gh gw (nI pl.length, gu.2.1, gu.2.2) gv) f_156_7 g2 (Nat.le_of_ble_eq_true rfl) (rfl) (rfl) rfl rfl (fun h5 g6 fx7 => ?_)
  have fr8 : px_fj 269 1 287 9 h h5 := fj_tr fr4 fx7 (by omega)
  refine e_iconst (v := nI 0) f_156_10 (by decide) rfl ?_
  refine e_istore_n (L' := [some (.ref (269)), some (.int (nI c)), some (.int (nI 0)), none, none, none]) f_156_11 (Nat.le_of_ble_eq_true rfl) rfl rfl ?_
  obtain ⟨hm10, fa11, fb12⟩ := fj_mid fr8
  have g9 : px_pa h5 275 52 192 evS es := pa_fi (pa_fi H14 fa11 (by omega)) fb12 (by omega)
  obtain ⟨hm14, fa15, fb16⟩ := fj_mid fr8
  have g13 : px_pa h5 296 50 24 vN pl := pa_fi (pa_fi H13 fa15 (by omega)) fb16 (by omega)
  refine ll_Md_run1 (h0 := h5) (LA := lks false (evs ev pl)) (LB := lks true (evs ev pl)) g9 g13 p2 p3 p4 p5 p6 p7 (fun g1 z0 zf => ?_) pl.length 0 false false h5 (by omega) (Nat.zero_le _) rfl rfl g6 (fi_rf _ _ _)
  have fr17 : px_fj 269 1 287 9 h g1 := fj_tr fr8 zf (by omega)
  refine e_aload_n f_156_99 rfl rfl ?_
  have g18 : px_pa h1 287 50 3070 Value.int sl := pa_fi H4 fx3 (by omega)
  have g19 : px_pa h5 287 50 3070 Value.int sl := pa_fi g18 fx7 (by omega)
  have g20 : px_pa g1 287 50 3070 Value.int sl := pa_fi g19 zf (by omega)
  have g21 : px_pa h1 288 50 3070 Value.int sl2 := pa_fi H5 fx3 (by omega)
  have g22 : px_pa h5 288 50 3070 Value.int sl2 := pa_fi g21 fx7 (by omega)
  have g23 : px_pa g1 288 50 3070 Value.int sl2 := pa_fi g22 zf (by omega)
  refine e_callV (As := []) (rest := []) f_156_100 rfl rfl rfl (Nat.le_of_ble_eq_true rfl) (Nat.le_of_ble_eq_true rfl) z0 rfl (Nat.le_of_ble_eq_true rfl) (cc_Md_fre (j := j) (la := lks false (evs ev pl)) (lb := lks true (evs ev pl)) (cb := cb) (sl := sl) (sl2 := sl2) (gq := (nI j.length, gq.2.1, gq.2.2.1, gq.2.2.2.1, lks false (evs ev pl), lks true (evs ev pl), cb)) (gh := gh) (ga := ga) (gp := gp) (gw := gw) (gu := (nI pl.length, gu.2.1, gu.2.2)) (gv := gv) z0 g20 g23 (p1.1) (p1.2.1) (h6)) rfl (fun h24 r25 q26 => ?_)
  obtain ⟨rfl, g27, fx28⟩ := q26
  obtain ⟨hm29, fa30, fb31⟩ := fj_mid fx28
  have fr32 : px_fj 269 1 287 9 h hm29 := fj_tr fr17 fa30 (by omega)
  have fr33 : px_fj 269 1 287 9 h h24 := fj_tr fr32 fb31 (by omega)
  show px_to 156 103 [some (.ref (269)), some (.int (nI c)), none, none, none, none] [] h24 _
  obtain ⟨sl34, sl235, g36, g37, g38, hB39, hB240⟩ := id g27
  have hB := hB39
  have hB2 := hB240
  have g41 : px_pa h1 289 54 100 rK lh := pa_fi H6 fx3 (by omega)
  have g42 : px_pa h5 289 54 100 rK lh := pa_fi g41 fx7 (by omega)
  have g43 : px_pa g1 289 54 100 rK lh := pa_fi g42 zf (by omega)
  have g44 : px_pa hm29 289 54 100 rK lh := pa_fi g43 fa30 (by omega)
  have g45 : px_pa h24 289 54 100 rK lh := pa_fi g44 fb31 (by omega)
  have g46 : px_pa h24 289 54 100 rK ([] : List Row) := pa_nil g45
  have g47 : px_pa h1 290 50 100 rV lh := pa_fi H7 fx3 (by omega)
  have g48 : px_pa h5 290 50 100 rV lh := pa_fi g47 fx7 (by omega)
  have g49 : px_pa g1 290 50 100 rV lh := pa_fi g48 zf (by omega)
  have g50 : px_pa hm29 290 50 100 rV lh := pa_fi g49 fa30 (by omega)
  have g51 : px_pa h24 290 50 100 rV lh := pa_fi g50 fb31 (by omega)
  have g52 : px_pa h24 290 50 100 rV ([] : List Row) := pa_nil g51
  have g53 : px_pa h1 291 50 100 rT lh := pa_fi H8 fx3 (by omega)
  have g54 : px_pa h5 291 50 100 rT lh := pa_fi g53 fx7 (by omega)
  have g55 : px_pa g1 291 50 100 rT lh := pa_fi g54 zf (by omega)
  have g56 : px_pa hm29 291 50 100 rT lh := pa_fi g55 fa30 (by omega)
  have g57 : px_pa h24 291 50 100 rT lh := pa_fi g56 fb31 (by omega)
  have g58 : px_pa h24 291 50 100 rT ([] : List Row) := pa_nil g57
  have g59 : px_pa h1 292 54 100 rK lg := pa_fi H9 fx3 (by omega)
  have g60 : px_pa h5 292 54 100 rK lg := pa_fi g59 fx7 (by omega)
  have g61 : px_pa g1 292 54 100 rK lg := pa_fi g60 zf (by omega)
  have g62 : px_pa hm29 292 54 100 rK lg := pa_fi g61 fa30 (by omega)
  have g63 : px_pa h24 292 54 100 rK lg := pa_fi g62 fb31 (by omega)
  have g64 : px_pa h24 292 54 100 rK ([] : List Row) := pa_nil g63
  have g65 : px_pa h1 293 50 100 rV lg := pa_fi H10 fx3 (by omega)
  have g66 : px_pa h5 293 50 100 rV lg := pa_fi g65 fx7 (by omega)
  have g67 : px_pa g1 293 50 100 rV lg := pa_fi g66 zf (by omega)
  have g68 : px_pa hm29 293 50 100 rV lg := pa_fi g67 fa30 (by omega)
  have g69 : px_pa h24 293 50 100 rV lg := pa_fi g68 fb31 (by omega)
  have g70 : px_pa h24 293 50 100 rV ([] : List Row) := pa_nil g69
  have g71 : px_pa h1 294 50 100 rT lg := pa_fi H11 fx3 (by omega)
  have g72 : px_pa h5 294 50 100 rT lg := pa_fi g71 fx7 (by omega)
  have g73 : px_pa g1 294 50 100 rT lg := pa_fi g72 zf (by omega)
  have g74 : px_pa hm29 294 50 100 rT lg := pa_fi g73 fa30 (by omega)
  have g75 : px_pa h24 294 50 100 rT lg := pa_fi g74 fb31 (by omega)
  have g76 : px_pa h24 294 50 100 rT ([] : List Row) := pa_nil g75
  have g77 : px_pa h1 295 50 30 Value.int cv := pa_fi H12 fx3 (by omega)
  have g78 : px_pa h5 295 50 30 Value.int cv := pa_fi g77 fx7 (by omega)
  have g79 : px_pa g1 295 50 30 Value.int cv := pa_fi g78 zf (by omega)
  have g80 : px_pa hm29 295 50 30 Value.int cv := pa_fi g79 fa30 (by omega)
  have g81 : px_pa h24 295 50 30 Value.int cv := pa_fi g80 fb31 (by omega)
  have g82 : pRZ h24 ga gp (nI pl.length, gu.2.1, gu.2.2) gv j ((s0 j tl).2.2.2.2) (lks false (evs ev pl)) (lks true (evs ev pl)) cb ([] : List Row) ((s0 j tl).2.1.1) ((s0 j tl).2.1.2.1) ((s0 j tl).2.1.2.2) ((s0 j tl).1) := ⟨_, _, ([] : List Row), _, g36, g37, g81, g46, g52, g58, hB.1, hB.2.1, fun _ => hB.2.2, rfl, p1.2.2, p8.2⟩
  refine e_iconst (v := nI 0) f_156_103 (by decide) rfl ?_
  refine e_istore_n (L' := [some (.ref (269)), some (.int (nI c)), some (.int (nI 0)), none, none, none]) f_156_104 (Nat.le_of_ble_eq_true rfl) rfl rfl ?_
  refine e_iconst (v := nI 0) f_156_105 (by decide) rfl ?_
  refine e_istore_n (L' := [some (.ref (269)), some (.int (nI c)), some (.int (nI 0)), some (.int (nI 0)), none, none]) f_156_106 (Nat.le_of_ble_eq_true rfl) rfl rfl ?_
  obtain ⟨hm84, fa85, fb86⟩ := fj_mid fr33
  have g83 : px_pa h24 275 52 192 evS es := pa_fi (pa_fi H14 fa85 (by omega)) fb86 (by omega)
  obtain ⟨hm88, fa89, fb90⟩ := fj_mid fr33
  have g87 : px_pa h24 276 54 192 evK es := pa_fi (pa_fi H15 fa89 (by omega)) fb90 (by omega)
  obtain ⟨hm92, fa93, fb94⟩ := fj_mid fr33
  have g91 : px_pa h24 277 53 192 evV es := pa_fi (pa_fi H16 fa93 (by omega)) fb94 (by omega)
  obtain ⟨hm96, fa97, fb98⟩ := fj_mid fr33
  have g95 : px_pa h24 278 53 192 evT es := pa_fi (pa_fi H17 fa97 (by omega)) fb98 (by omega)
  obtain ⟨hm100, fa101, fb102⟩ := fj_mid fr33
  have g99 : px_pa h24 284 52 6 stS j := pa_fi (pa_fi H1 fa101 (by omega)) fb102 (by omega)
  obtain ⟨hm104, fa105, fb106⟩ := fj_mid fr33
  have g103 : px_pa h24 285 52 6 stA j := pa_fi (pa_fi H2 fa105 (by omega)) fb106 (by omega)
  obtain ⟨hm108, fa109, fb110⟩ := fj_mid fr33
  have g107 : px_pa h24 286 50 6 stN j := pa_fi (pa_fi H3 fa109 (by omega)) fb110 (by omega)
  obtain ⟨hm112, fa113, fb114⟩ := fj_mid fr33
  have g111 : px_pa h24 296 50 24 vN pl := pa_fi (pa_fi H13 fa113 (by omega)) fb114 (by omega)
  have lp := pa_len g111
  have hI0 : inv j (s0 j tl) ([] : List Row).length sl235 0 0 := inv_0 p8.1 p0 hB2
  refine ll_Md_runM (h0 := h24) (y := perfL j (lks false (evs ev pl)) (lks true (evs ev pl)) (evs ev pl) [] (s0 j tl)) g83 g87 g91 g95 g99 g103 g107 g111 p2 p3 p4 p5 p6 p7 p0 (fun e he h1 => lks_app he (by unfold evOf; rw [if_neg (by decide), h1]; rfl)) (fun e he h1 => lks_app he (by unfold evOf; rw [if_pos rfl, h1]; rfl)) (fun g2 lg2 as2 w0 w1 w2 w3 w4 w5 w6 w7 w8 w9 wf => ?_) pl.length 0 0 (s0 j tl) ([] : List Row) sl235 h24 (by omega) ⟨Nat.le_refl _, Nat.zero_le _⟩ rfl hI0 (fun q h1 h2 => absurd h2 (Nat.not_lt_zero _)) g82 g38 g64 g70 g76 (fj_rf _ _ _ _ _)
  generalize hy : perfL j (lks false (evs ev pl)) (lks true (evs ev pl)) (evs ev pl) [] (s0 j tl) = y at w0 w5 w6 w7 w8 w9
  obtain ⟨hm2, fa2, fb2⟩ := fj_mid wf
  have fr115 : px_fj 269 1 287 9 h hm2 := fj_tr fr33 fa2 (by omega)
  have fr116 : px_fj 269 1 287 9 h g2 := fj_tr fr115 fb2 (by omega)
  refine e_aload_n f_156_294 rfl rfl ?_
  obtain ⟨gw117, sl118, lh119, cv120, g121, g122, g123, g124, g125, g126, hR127⟩ := id w0
  refine e_getf f_156_295 g121 rfl rfl ?_
  show px_to 156 298 [some (.ref (269)), some (.int (nI c)), none, none, none, none] [.int (bI y.1.2.2.2.2.isSome)] g2 _
  refine e_if_ne f_156_298 rfl (fun c_298 => ?_) (fun c_298 => ?_)
  · skip
    have c_298 : y.1.2.2.2.2.isSome = true := bI_t c_298
    refine e_aload_n f_156_308 rfl rfl ?_
    refine e_getf f_156_309 g121 rfl rfl ?_
    show px_to 156 312 [some (.ref (269)), some (.int (nI c)), none, none, none, none] [.int (bI y.1.2.2.2.2.isSome)] g2 _
    refine e_if_ne f_156_312 rfl (fun c_312 => ?_) (fun c_312 => ?_)
    · skip
      have c_312 : y.1.2.2.2.2.isSome = true := bI_t c_312
      have hR0 := hR127
      refine e_aload_n f_156_319 rfl rfl ?_
      refine e_iconst (v := nI 0) f_156_320 (by decide) rfl ?_
      refine e_putp (vs' := mB ga gp (nI j.length, y.1.2.2.2.2.isSome, oI y.1.2.2.2.2, y.2.2.2.2, lks false (evs ev pl), lks true (evs ev pl), cb) (nI 0, nI lg2.length) gw117 (nI pl.length, gu.2.1, gu.2.2) gv) f_156_321 g121 (Nat.le_of_ble_eq_true rfl) (rfl) (rfl) rfl rfl (fun h128 g129 fx130 => ?_)
      have fr131 : px_fj 269 1 287 9 h h128 := fj_tr fr116 fx130 (by omega)
      refine e_vret f_156_324 rfl ?_
      obtain ⟨eo, et⟩ := fin_z hy (some_t c_298) hR0.2.2.2.1 w6
      rw [eo, et]
      have g132 : px_pa h128 287 50 3070 Value.int sl118 := pa_fi g122 fx130 (by omega)
      have g133 : px_pa h128 288 50 3070 Value.int as2 := pa_fi w1 fx130 (by omega)
      have g134 : px_pa h128 289 54 100 rK lh119 := pa_fi g124 fx130 (by omega)
      have g135 : px_pa h128 290 50 100 rV lh119 := pa_fi g125 fx130 (by omega)
      have g136 : px_pa h128 291 50 100 rT lh119 := pa_fi g126 fx130 (by omega)
      have g137 : px_pa h128 292 54 100 rK lg2 := pa_fi w2 fx130 (by omega)
      have g138 : px_pa h128 293 50 100 rV lg2 := pa_fi w3 fx130 (by omega)
      have g139 : px_pa h128 294 50 100 rT lg2 := pa_fi w4 fx130 (by omega)
      have g140 : px_pa h128 295 50 30 Value.int cv120 := pa_fi g123 fx130 (by omega)
      exact ⟨rfl, ⟨_, _, _, _, _, _, _, g129, g132, g133, g134, g135, g136, g137, g138, g139, g140, hR0.1, w5, hR0.2.2.2.2.1, hR0.2.1.2.2.2, hR0.2.2.2.2.2⟩, fr131⟩
    · skip
      have c_312 : y.1.2.2.2.2.isSome = false := bI_f' c_312
      exact absurd c_298 (by rw [c_312]; decide)
  · skip
    have c_298 : y.1.2.2.2.2.isSome = false := bI_f' c_298
    have g141 : pRZ g2 ga gp (nI pl.length, gu.2.1, gu.2.2) gv j y.2.2.2.2 (lks false (evs ev pl)) (lks true (evs ev pl)) cb lg2 y.2.1.1 y.2.1.2.1 y.2.1.2.2 y.1 := by exact ⟨_, _, _, _, g121, g122, g123, g124, g125, g126, hR127⟩
    have hz := some_f c_298
    refine e_aload_n f_156_301 rfl rfl ?_
    refine e_sipush (v := nI 5000) f_156_302 (by decide) rfl ?_
    obtain ⟨gw142, sl143, lh144, cv145, g146, g147, g148, g149, g150, g151, hR152⟩ := id g141
    have g153 : pRZ g2 ga gp (nI pl.length, gu.2.1, gu.2.2) gv j y.2.2.2.2 (lks false (evs ev pl)) (lks true (evs ev pl)) cb lg2 y.2.1.1 y.2.1.2.1 y.2.1.2.2 y.1 := ⟨_, _, _, _, g146, g147, g148, g149, g150, g151, hR152⟩
    obtain ⟨hm155, fa156, fb157⟩ := fj_mid fr116
    have g154 : px_pa g2 284 52 6 stS j := pa_fi (pa_fi H1 fa156 (by omega)) fb157 (by omega)
    obtain ⟨hm159, fa160, fb161⟩ := fj_mid fr116
    have g158 : px_pa g2 285 52 6 stA j := pa_fi (pa_fi H2 fa160 (by omega)) fb161 (by omega)
    obtain ⟨hm163, fa164, fb165⟩ := fj_mid fr116
    have g162 : px_pa g2 286 50 6 stN j := pa_fi (pa_fi H3 fa164 (by omega)) fb165 (by omega)
    refine e_callV (As := [.int (nI 5000)]) (rest := []) f_156_305 rfl rfl rfl (Nat.le_of_ble_eq_true rfl) (Nat.le_of_ble_eq_true rfl) g146 rfl (Nat.le_of_ble_eq_true rfl) (cc_Md_ri1 (n := 5000) (x := y.1) (A := y.2.1.1) (B := y.2.1.2.1) (W := y.2.1.2.2) (ga := ga) (gp := gp) (gu := (nI pl.length, gu.2.1, gu.2.2)) (gv := gv) (j := j) (dn := y.2.2.2.2) (la := lks false (evs ev pl)) (lb := lks true (evs ev pl)) (cb := cb) (lg := lg2) g153 g154 g158 g162 (p0) (Nat.le_refl _) (okW9_last w8.2.2) (w7.1) (hz) (w9 hz)) rfl (fun h166 r167 q168 => ?_)
    obtain ⟨rfl, g169, fx170⟩ := q168
    obtain ⟨hm171, fa172, fb173⟩ := fl_mid fx170
    have fr174 : px_fj 269 1 287 9 h hm171 := fj_tr fr116 fa172 (by omega)
    obtain ⟨hm175, fa176, fb177⟩ := fl_mid fb173
    have fr178 : px_fj 269 1 287 9 h hm175 := fj_tr fr174 fa176 (by omega)
    obtain ⟨hm179, fa180, fb181⟩ := fl_mid fb177
    have fr182 : px_fj 269 1 287 9 h hm179 := fj_tr fr178 fa180 (by omega)
    have fb183 := fl_one fb181
    have fr184 : px_fj 269 1 287 9 h h166 := fj_tr fr182 fb183 (by omega)
    show px_to 156 308 [some (.ref (269)), some (.int (nI c)), none, none, none, none] [] h166 _
    refine e_aload_n f_156_308 rfl rfl ?_
    obtain ⟨gw185, sl186, lh187, cv188, g189, g190, g191, g192, g193, g194, hR195⟩ := id g169
    refine e_getf f_156_309 g189 rfl rfl ?_
    show px_to 156 312 [some (.ref (269)), some (.int (nI c)), none, none, none, none] [.int (bI (((tellGo j 5000 7 0 y.1).2.2.2.2).isSome))] h166 _
    refine e_if_ne f_156_312 rfl (fun c_312 => ?_) (fun c_312 => ?_)
    · skip
      have c_312 : (((tellGo j 5000 7 0 y.1).2.2.2.2).isSome) = true := bI_t c_312
      have hR0 := hR195
      refine e_aload_n f_156_319 rfl rfl ?_
      refine e_iconst (v := nI 0) f_156_320 (by decide) rfl ?_
      refine e_putp (vs' := mB ga gp (nI j.length, ((tellGo j 5000 7 0 y.1).2.2.2.2).isSome, oI ((tellGo j 5000 7 0 y.1).2.2.2.2), y.2.2.2.2, lks false (evs ev pl), lks true (evs ev pl), cb) (nI 0, nI lg2.length) gw185 (nI pl.length, gu.2.1, gu.2.2) gv) f_156_321 g189 (Nat.le_of_ble_eq_true rfl) (rfl) (rfl) rfl rfl (fun h196 g197 fx198 => ?_)
      have fr199 : px_fj 269 1 287 9 h h196 := fj_tr fr184 fx198 (by omega)
      refine e_vret f_156_324 rfl ?_
      obtain ⟨eo, et⟩ := fin_n (x := tellGo j 5000 7 0 y.1) hy hz rfl hR0.2.2.2.1 w6
      rw [if_neg (some_t c_312)] at eo
      rw [eo, et]
      have g200 : px_pa h196 287 50 3070 Value.int sl186 := pa_fi g190 fx198 (by omega)
      have g201 : px_pa hm171 288 50 3070 Value.int as2 := pa_fi w1 fa172 (by omega)
      have g202 : px_pa hm175 288 50 3070 Value.int as2 := pa_fi g201 fa176 (by omega)
      have g203 : px_pa hm179 288 50 3070 Value.int as2 := pa_fi g202 fa180 (by omega)
      have g204 : px_pa h166 288 50 3070 Value.int as2 := pa_fi g203 fb183 (by omega)
      have g205 : px_pa h196 288 50 3070 Value.int as2 := pa_fi g204 fx198 (by omega)
      have g206 : px_pa h196 289 54 100 rK lh187 := pa_fi g192 fx198 (by omega)
      have g207 : px_pa h196 290 50 100 rV lh187 := pa_fi g193 fx198 (by omega)
      have g208 : px_pa h196 291 50 100 rT lh187 := pa_fi g194 fx198 (by omega)
      have g209 : px_pa hm171 292 54 100 rK lg2 := pa_fi w2 fa172 (by omega)
      have g210 : px_pa hm175 292 54 100 rK lg2 := pa_fi g209 fa176 (by omega)
      have g211 : px_pa hm179 292 54 100 rK lg2 := pa_fi g210 fa180 (by omega)
      have g212 : px_pa h166 292 54 100 rK lg2 := pa_fi g211 fb183 (by omega)
      have g213 : px_pa h196 292 54 100 rK lg2 := pa_fi g212 fx198 (by omega)
      have g214 : px_pa hm171 293 50 100 rV lg2 := pa_fi w3 fa172 (by omega)
      have g215 : px_pa hm175 293 50 100 rV lg2 := pa_fi g214 fa176 (by omega)
      have g216 : px_pa hm179 293 50 100 rV lg2 := pa_fi g215 fa180 (by omega)
      have g217 : px_pa h166 293 50 100 rV lg2 := pa_fi g216 fb183 (by omega)
      have g218 : px_pa h196 293 50 100 rV lg2 := pa_fi g217 fx198 (by omega)
      have g219 : px_pa hm171 294 50 100 rT lg2 := pa_fi w4 fa172 (by omega)
      have g220 : px_pa hm175 294 50 100 rT lg2 := pa_fi g219 fa176 (by omega)
      have g221 : px_pa hm179 294 50 100 rT lg2 := pa_fi g220 fa180 (by omega)
      have g222 : px_pa h166 294 50 100 rT lg2 := pa_fi g221 fb183 (by omega)
      have g223 : px_pa h196 294 50 100 rT lg2 := pa_fi g222 fx198 (by omega)
      have g224 : px_pa h196 295 50 30 Value.int cv188 := pa_fi g191 fx198 (by omega)
      exact ⟨rfl, ⟨_, _, _, _, _, _, _, g197, g200, g205, g206, g207, g208, g213, g218, g223, g224, hR0.1, w5, hR0.2.2.2.2.1, hR0.2.1.2.2.2, hR0.2.2.2.2.2⟩, fr199⟩
    · skip
      have c_312 : (((tellGo j 5000 7 0 y.1).2.2.2.2).isSome) = false := bI_f' c_312
      have hR0 := hR195
      have hx2 := tellGo_ok p0.1 (Nat.le_refl 5000) 7 0 y.1 w7.1
      have hol : lg2.length + lh187.length ≤ 96 := by have z := hx2.2.2.2.2; rw [hR0.2.2.2.1, List.length_append] at z; exact z
      have hrw : ∀ x ∈ lh187, rwOk x := fun x hx => hx2.2.2.1 x (by rw [hR0.2.2.2.1]; exact List.mem_append_right _ hx)
      refine e_aload_n f_156_315 rfl rfl ?_
      have g225 : px_pa hm171 292 54 100 rK lg2 := pa_fi w2 fa172 (by omega)
      have g226 : px_pa hm175 292 54 100 rK lg2 := pa_fi g225 fa176 (by omega)
      have g227 : px_pa hm179 292 54 100 rK lg2 := pa_fi g226 fa180 (by omega)
      have g228 : px_pa h166 292 54 100 rK lg2 := pa_fi g227 fb183 (by omega)
      have g229 : px_pa hm171 293 50 100 rV lg2 := pa_fi w3 fa172 (by omega)
      have g230 : px_pa hm175 293 50 100 rV lg2 := pa_fi g229 fa176 (by omega)
      have g231 : px_pa hm179 293 50 100 rV lg2 := pa_fi g230 fa180 (by omega)
      have g232 : px_pa h166 293 50 100 rV lg2 := pa_fi g231 fb183 (by omega)
      have g233 : px_pa hm171 294 50 100 rT lg2 := pa_fi w4 fa172 (by omega)
      have g234 : px_pa hm175 294 50 100 rT lg2 := pa_fi g233 fa176 (by omega)
      have g235 : px_pa hm179 294 50 100 rT lg2 := pa_fi g234 fa180 (by omega)
      have g236 : px_pa h166 294 50 100 rT lg2 := pa_fi g235 fb183 (by omega)
      refine e_callV (As := []) (rest := []) f_156_316 rfl rfl rfl (Nat.le_of_ble_eq_true rfl) (Nat.le_of_ble_eq_true rfl) g189 rfl (Nat.le_of_ble_eq_true rfl) (cc_Md_giv (lh := lh187) (lg := lg2) (ga := ga) (gp := gp) (gq := (nI j.length, ((tellGo j 5000 7 0 y.1).2.2.2.2).isSome, oI ((tellGo j 5000 7 0 y.1).2.2.2.2), y.2.2.2.2, lks false (evs ev pl), lks true (evs ev pl), cb)) (gh := (0, 0)) (gw := gw185) (gu := (nI pl.length, gu.2.1, gu.2.2)) (gv := gv) g189 g192 g193 g194 g228 g232 g236 (hol) (hrw)) rfl (fun h237 r238 q239 => ?_)
      obtain ⟨rfl, g240, g241, g242, g243, fx244⟩ := q239
      obtain ⟨hm245, fa246, fb247⟩ := fj_mid fx244
      have fr248 : px_fj 269 1 287 9 h hm245 := fj_tr fr184 fa246 (by omega)
      have fr249 : px_fj 269 1 287 9 h h237 := fj_tr fr248 fb247 (by omega)
      show px_to 156 319 [some (.ref (269)), some (.int (nI c)), none, none, none, none] [] h237 _
      refine e_aload_n f_156_319 rfl rfl ?_
      refine e_iconst (v := nI 0) f_156_320 (by decide) rfl ?_
      refine e_putp (vs' := mB ga gp (nI j.length, ((tellGo j 5000 7 0 y.1).2.2.2.2).isSome, oI ((tellGo j 5000 7 0 y.1).2.2.2.2), y.2.2.2.2, lks false (evs ev pl), lks true (evs ev pl), cb) (nI 0, nI ((lg2 ++ lh187).length)) gw185 (nI pl.length, gu.2.1, gu.2.2) gv) f_156_321 g240 (Nat.le_of_ble_eq_true rfl) (rfl) (rfl) rfl rfl (fun h250 g251 fx252 => ?_)
      have fr253 : px_fj 269 1 287 9 h h250 := fj_tr fr249 fx252 (by omega)
      refine e_vret f_156_324 rfl ?_
      obtain ⟨eo, et⟩ := fin_n (x := tellGo j 5000 7 0 y.1) hy hz rfl hR0.2.2.2.1 w6
      rw [if_pos (some_f c_312)] at eo
      rw [eo, et]
      have g254 : px_pa hm245 287 50 3070 Value.int sl186 := pa_fi g190 fa246 (by omega)
      have g255 : px_pa h237 287 50 3070 Value.int sl186 := pa_fi g254 fb247 (by omega)
      have g256 : px_pa h250 287 50 3070 Value.int sl186 := pa_fi g255 fx252 (by omega)
      have g257 : px_pa hm171 288 50 3070 Value.int as2 := pa_fi w1 fa172 (by omega)
      have g258 : px_pa hm175 288 50 3070 Value.int as2 := pa_fi g257 fa176 (by omega)
      have g259 : px_pa hm179 288 50 3070 Value.int as2 := pa_fi g258 fa180 (by omega)
      have g260 : px_pa h166 288 50 3070 Value.int as2 := pa_fi g259 fb183 (by omega)
      have g261 : px_pa hm245 288 50 3070 Value.int as2 := pa_fi g260 fa246 (by omega)
      have g262 : px_pa h237 288 50 3070 Value.int as2 := pa_fi g261 fb247 (by omega)
      have g263 : px_pa h250 288 50 3070 Value.int as2 := pa_fi g262 fx252 (by omega)
      have g264 : px_pa hm245 289 54 100 rK lh187 := pa_fi g192 fa246 (by omega)
      have g265 : px_pa h237 289 54 100 rK lh187 := pa_fi g264 fb247 (by omega)
      have g266 : px_pa h250 289 54 100 rK lh187 := pa_fi g265 fx252 (by omega)
      have g267 : px_pa hm245 290 50 100 rV lh187 := pa_fi g193 fa246 (by omega)
      have g268 : px_pa h237 290 50 100 rV lh187 := pa_fi g267 fb247 (by omega)
      have g269 : px_pa h250 290 50 100 rV lh187 := pa_fi g268 fx252 (by omega)
      have g270 : px_pa hm245 291 50 100 rT lh187 := pa_fi g194 fa246 (by omega)
      have g271 : px_pa h237 291 50 100 rT lh187 := pa_fi g270 fb247 (by omega)
      have g272 : px_pa h250 291 50 100 rT lh187 := pa_fi g271 fx252 (by omega)
      have g273 : px_pa h250 292 54 100 rK (lg2 ++ lh187) := pa_fi g241 fx252 (by omega)
      have g274 : px_pa h250 293 50 100 rV (lg2 ++ lh187) := pa_fi g242 fx252 (by omega)
      have g275 : px_pa h250 294 50 100 rT (lg2 ++ lh187) := pa_fi g243 fx252 (by omega)
      have g276 : px_pa hm245 295 50 30 Value.int cv188 := pa_fi g191 fa246 (by omega)
      have g277 : px_pa h237 295 50 30 Value.int cv188 := pa_fi g276 fb247 (by omega)
      have g278 : px_pa h250 295 50 30 Value.int cv188 := pa_fi g277 fx252 (by omega)
      exact ⟨rfl, ⟨_, _, _, _, _, _, _, g251, g256, g263, g266, g269, g272, g273, g274, g275, g278, hR0.1, w5, hR0.2.2.2.2.1, hR0.2.1.2.2.2, hR0.2.2.2.2.2⟩, fr253⟩

set_option maxRecDepth 20000 in
set_option maxHeartbeats 4000000 in
theorem cc_Md_pla {h : px_H} {c : Nat} {ev : List Ev} {em : List Nat} {es : List Ev} {pl : List Nat} {L cn : Int32} {j jn : List St} {cb : Bool} {sl sl2 : List Int32} {lh lg : List Row} {cv tl : List Int32} {gp : gP} {gq : gQ} {gh : gH} {gw : gW} {gu : gU} {gv : gV} (H0 : h.2.2 269 = some (12, mB (L, nI j.length, cn) gp (gq.1, gq.2.1, gq.2.2.1, gq.2.2.2.1, gq.2.2.2.2.1, gq.2.2.2.2.2.1, cb) gh gw gu gv)) (H1 : px_pa h 271 52 6 stS j) (H2 : px_pa h 272 52 6 stA j) (H3 : px_pa h 273 50 6 stN j) (H4 : px_pa h 284 52 6 stS jn) (H5 : px_pa h 285 52 6 stA jn) (H6 : px_pa h 286 50 6 stN jn) (H7 : px_pa h 287 50 3070 Value.int sl) (H8 : px_pa h 288 50 3070 Value.int sl2) (H9 : px_pa h 289 54 100 rK lh) (H10 : px_pa h 290 50 100 rV lh) (H11 : px_pa h 291 50 100 rT lh) (H12 : px_pa h 292 54 100 rK lg) (H13 : px_pa h 293 50 100 rV lg) (H14 : px_pa h 294 50 100 rT lg) (H15 : px_pa h 295 50 30 Value.int cv) (H16 : px_pa h 296 50 24 vN pl) (H17 : px_pa h 274 50 8 vN em) (H18 : px_pa h 275 52 192 evS es) (H19 : px_pa h 276 54 192 evK es) (H20 : px_pa h 277 53 192 evV es) (H21 : px_pa h 278 53 192 evT es) (p0 : okZ j) (p1 : sl.length = 3070 ∧ sl2.length = 3070 ∧ cv.length = 30) (p2 : c < 8) (p3 : em.length = 8 ∧ es.length = 192) (p4 : inE es c ev) (p5 : ev.length ≤ 24) (p6 : ∀ e ∈ ev, okEv e) (p7 : em.getD c 0 = ev.length) (p8 : tl.length = 30 ∧ (cb = true → cv = tl)) : px_wp 158 [.ref (269), .int (nI c)] h (fun h1 r => r = none ∧ px_pa h1 284 52 6 stS j ∧ px_pa h1 285 52 6 stA j ∧ px_pa h1 286 50 6 stN j ∧ px_pa h1 296 50 24 vN (List.range ev.length) ∧ pRO h1 (L, nI j.length, cn) gp (nI ev.length, gu.2.1, gu.2.2) gv j cb (runO j ev) ((runS j ev tl).1.2.2.2.1) ∧ px_fj 269 1 284 13 h h1) := by
  have fr0 : px_fj 269 1 284 13 h h := fj_rf _ _ _ _ _
  have h6 := p0.1.1
  have hj2 : ∀ s ∈ j, s.1 < 65536 ∧ s.2.1 < 65536 := fun s hs => ⟨by have := (p0.1.2 s hs).1; omega, (p0.1.2 s hs).2.1⟩
  have he2 : ∀ e ∈ ev, e.1 < 65536 := fun e he => by have := (p6 e he).1; omega
  show px_to 158 0 [some (.ref (269)), some (.int (nI c))] [] h _
  refine e_aload_n f_158_0 rfl rfl ?_
  refine e_callV (As := []) (rest := []) f_158_1 rfl rfl rfl (Nat.le_of_ble_eq_true rfl) (Nat.le_of_ble_eq_true rfl) H0 rfl (Nat.le_of_ble_eq_true rfl) (cc_Md_asT (L := L) (cn := cn) (j := j) (jn := jn) (gp := gp) (gq := (gq.1, gq.2.1, gq.2.2.1, gq.2.2.2.1, gq.2.2.2.2.1, gq.2.2.2.2.2.1, cb)) (gh := gh) (gw := gw) (gu := gu) (gv := gv) H0 H1 H2 H3 H4 H5 H6 (hj2)) rfl (fun h1 r2 q3 => ?_)
  obtain ⟨rfl, g4, g5, g6, g7, fx8⟩ := q3
  obtain ⟨hm9, fa10, fb11⟩ := fj_mid fx8
  have fr12 : px_fj 269 1 284 13 h hm9 := fj_tr fr0 fa10 (by omega)
  have fr13 : px_fj 269 1 284 13 h h1 := fj_tr fr12 fb11 (by omega)
  show px_to 158 4 [some (.ref (269)), some (.int (nI c))] [] h1 _
  refine e_aload_n f_158_4 rfl rfl ?_
  refine e_iload_n f_158_5 rfl rfl ?_
  have g14 : px_pa hm9 296 50 24 vN pl := pa_fi H16 fa10 (by omega)
  have g15 : px_pa h1 296 50 24 vN pl := pa_fi g14 fb11 (by omega)
  have g16 : px_pa hm9 274 50 8 vN em := pa_fi H17 fa10 (by omega)
  have g17 : px_pa h1 274 50 8 vN em := pa_fi g16 fb11 (by omega)
  have g18 : px_pa hm9 275 52 192 evS es := pa_fi H18 fa10 (by omega)
  have g19 : px_pa h1 275 52 192 evS es := pa_fi g18 fb11 (by omega)
  refine e_callV (As := [.int (nI c)]) (rest := []) f_158_6 rfl rfl rfl (Nat.le_of_ble_eq_true rfl) (Nat.le_of_ble_eq_true rfl) g4 rfl (Nat.le_of_ble_eq_true rfl) (cc_Md_plA (pl := pl) (c := c) (ev := ev) (em := em) (es := es) (ga := (L, nI j.length, cn)) (gp := gp) (gq := (nI j.length, gq.2.1, gq.2.2.1, gq.2.2.2.1, gq.2.2.2.2.1, gq.2.2.2.2.2.1, cb)) (gh := gh) (gw := gw) (gu := gu) (gv := gv) g4 g15 g17 g19 (by omega) (p3) (p7) (p4) (p5) (he2)) rfl (fun h20 r21 q22 => ?_)
  obtain ⟨rfl, g23, g24, fx25⟩ := q22
  obtain ⟨hm26, fa27, fb28⟩ := fj_mid fx25
  have fr29 : px_fj 269 1 284 13 h hm26 := fj_tr fr13 fa27 (by omega)
  have fr30 : px_fj 269 1 284 13 h h20 := fj_tr fr29 fb28 (by omega)
  show px_to 158 9 [some (.ref (269)), some (.int (nI c))] [] h20 _
  have g31 : h20.2.2 269 = some (12, mB (L, nI j.length, cn) gp (nI j.length, gq.2.1, gq.2.2.1, gq.2.2.2.1, gq.2.2.2.2.1, gq.2.2.2.2.2.1, cb) gh gw (nI ((List.range ev.length).length), gu.2.1, gu.2.2) gv) := by rw [List.length_range]; exact g23
  refine e_aload_n f_158_9 rfl rfl ?_
  refine e_iload_n f_158_10 rfl rfl ?_
  have g32 : px_pa hm26 284 52 6 stS j := pa_fi g5 fa27 (by omega)
  have g33 : px_pa h20 284 52 6 stS j := pa_fi g32 fb28 (by omega)
  have g34 : px_pa hm26 285 52 6 stA j := pa_fi g6 fa27 (by omega)
  have g35 : px_pa h20 285 52 6 stA j := pa_fi g34 fb28 (by omega)
  have g36 : px_pa hm26 286 50 6 stN j := pa_fi g7 fa27 (by omega)
  have g37 : px_pa h20 286 50 6 stN j := pa_fi g36 fb28 (by omega)
  have g38 : px_pa hm9 287 50 3070 Value.int sl := pa_fi H7 fa10 (by omega)
  have g39 : px_pa h1 287 50 3070 Value.int sl := pa_fi g38 fb11 (by omega)
  have g40 : px_pa hm26 287 50 3070 Value.int sl := pa_fi g39 fa27 (by omega)
  have g41 : px_pa h20 287 50 3070 Value.int sl := pa_fi g40 fb28 (by omega)
  have g42 : px_pa hm9 288 50 3070 Value.int sl2 := pa_fi H8 fa10 (by omega)
  have g43 : px_pa h1 288 50 3070 Value.int sl2 := pa_fi g42 fb11 (by omega)
  have g44 : px_pa hm26 288 50 3070 Value.int sl2 := pa_fi g43 fa27 (by omega)
  have g45 : px_pa h20 288 50 3070 Value.int sl2 := pa_fi g44 fb28 (by omega)
  have g46 : px_pa hm9 289 54 100 rK lh := pa_fi H9 fa10 (by omega)
  have g47 : px_pa h1 289 54 100 rK lh := pa_fi g46 fb11 (by omega)
  have g48 : px_pa hm26 289 54 100 rK lh := pa_fi g47 fa27 (by omega)
  have g49 : px_pa h20 289 54 100 rK lh := pa_fi g48 fb28 (by omega)
  have g50 : px_pa hm9 290 50 100 rV lh := pa_fi H10 fa10 (by omega)
  have g51 : px_pa h1 290 50 100 rV lh := pa_fi g50 fb11 (by omega)
  have g52 : px_pa hm26 290 50 100 rV lh := pa_fi g51 fa27 (by omega)
  have g53 : px_pa h20 290 50 100 rV lh := pa_fi g52 fb28 (by omega)
  have g54 : px_pa hm9 291 50 100 rT lh := pa_fi H11 fa10 (by omega)
  have g55 : px_pa h1 291 50 100 rT lh := pa_fi g54 fb11 (by omega)
  have g56 : px_pa hm26 291 50 100 rT lh := pa_fi g55 fa27 (by omega)
  have g57 : px_pa h20 291 50 100 rT lh := pa_fi g56 fb28 (by omega)
  have g58 : px_pa hm9 292 54 100 rK lg := pa_fi H12 fa10 (by omega)
  have g59 : px_pa h1 292 54 100 rK lg := pa_fi g58 fb11 (by omega)
  have g60 : px_pa hm26 292 54 100 rK lg := pa_fi g59 fa27 (by omega)
  have g61 : px_pa h20 292 54 100 rK lg := pa_fi g60 fb28 (by omega)
  have g62 : px_pa hm9 293 50 100 rV lg := pa_fi H13 fa10 (by omega)
  have g63 : px_pa h1 293 50 100 rV lg := pa_fi g62 fb11 (by omega)
  have g64 : px_pa hm26 293 50 100 rV lg := pa_fi g63 fa27 (by omega)
  have g65 : px_pa h20 293 50 100 rV lg := pa_fi g64 fb28 (by omega)
  have g66 : px_pa hm9 294 50 100 rT lg := pa_fi H14 fa10 (by omega)
  have g67 : px_pa h1 294 50 100 rT lg := pa_fi g66 fb11 (by omega)
  have g68 : px_pa hm26 294 50 100 rT lg := pa_fi g67 fa27 (by omega)
  have g69 : px_pa h20 294 50 100 rT lg := pa_fi g68 fb28 (by omega)
  have g70 : px_pa hm9 295 50 30 Value.int cv := pa_fi H15 fa10 (by omega)
  have g71 : px_pa h1 295 50 30 Value.int cv := pa_fi g70 fb11 (by omega)
  have g72 : px_pa hm26 295 50 30 Value.int cv := pa_fi g71 fa27 (by omega)
  have g73 : px_pa h20 295 50 30 Value.int cv := pa_fi g72 fb28 (by omega)
  have g74 : px_pa hm26 275 52 192 evS es := pa_fi g19 fa27 (by omega)
  have g75 : px_pa h20 275 52 192 evS es := pa_fi g74 fb28 (by omega)
  have g76 : px_pa hm9 276 54 192 evK es := pa_fi H19 fa10 (by omega)
  have g77 : px_pa h1 276 54 192 evK es := pa_fi g76 fb11 (by omega)
  have g78 : px_pa hm26 276 54 192 evK es := pa_fi g77 fa27 (by omega)
  have g79 : px_pa h20 276 54 192 evK es := pa_fi g78 fb28 (by omega)
  have g80 : px_pa hm9 277 53 192 evV es := pa_fi H20 fa10 (by omega)
  have g81 : px_pa h1 277 53 192 evV es := pa_fi g80 fb11 (by omega)
  have g82 : px_pa hm26 277 53 192 evV es := pa_fi g81 fa27 (by omega)
  have g83 : px_pa h20 277 53 192 evV es := pa_fi g82 fb28 (by omega)
  have g84 : px_pa hm9 278 53 192 evT es := pa_fi H21 fa10 (by omega)
  have g85 : px_pa h1 278 53 192 evT es := pa_fi g84 fb11 (by omega)
  have g86 : px_pa hm26 278 53 192 evT es := pa_fi g85 fa27 (by omega)
  have g87 : px_pa h20 278 53 192 evT es := pa_fi g86 fb28 (by omega)
  refine e_callV (As := [.int (nI c)]) (rest := []) f_158_11 rfl rfl rfl (Nat.le_of_ble_eq_true rfl) (Nat.le_of_ble_eq_true rfl) g31 rfl (Nat.le_of_ble_eq_true rfl) (cc_Md_runs (c := c) (ev := ev) (es := es) (pl := (List.range ev.length)) (j := j) (cb := cb) (sl := sl) (sl2 := sl2) (lh := lh) (lg := lg) (cv := cv) (tl := tl) (ga := (L, nI j.length, cn)) (gp := gp) (gq := (nI j.length, gq.2.1, gq.2.2.1, gq.2.2.2.1, gq.2.2.2.2.1, gq.2.2.2.2.2.1, cb)) (gh := gh) (gw := gw) (gu := (nI ((List.range ev.length).length), gu.2.1, gu.2.2)) (gv := gv) g31 g33 g35 g37 g41 g45 g49 g53 g57 g61 g65 g69 g73 g24 g75 g79 g83 g87 (p0) (p1) (by omega) (p3.2) (p4) (p5) (p6) (fun p hp => List.mem_range.mp hp) (p8)) rfl (fun h88 r89 q90 => ?_)
  obtain ⟨rfl, g91, fx92⟩ := q90
  obtain ⟨hm93, fa94, fb95⟩ := fj_mid fx92
  have fr96 : px_fj 269 1 284 13 h hm93 := fj_tr fr30 fa94 (by omega)
  have fr97 : px_fj 269 1 284 13 h h88 := fj_tr fr96 fb95 (by omega)
  show px_to 158 14 [some (.ref (269)), some (.int (nI c))] [] h88 _
  refine e_vret f_158_14 rfl ?_
  have g98 : pRO h88 (L, nI j.length, cn) gp (nI ev.length, gu.2.1, gu.2.2) gv j cb (runO j ev) ((runS j ev tl).1.2.2.2.1) := by have z := g91; rw [evs_all, List.length_range] at z; exact z
  have g99 : px_pa hm93 284 52 6 stS j := pa_fi g33 fa94 (by omega)
  have g100 : px_pa h88 284 52 6 stS j := pa_fi g99 fb95 (by omega)
  have g101 : px_pa hm93 285 52 6 stA j := pa_fi g35 fa94 (by omega)
  have g102 : px_pa h88 285 52 6 stA j := pa_fi g101 fb95 (by omega)
  have g103 : px_pa hm93 286 50 6 stN j := pa_fi g37 fa94 (by omega)
  have g104 : px_pa h88 286 50 6 stN j := pa_fi g103 fb95 (by omega)
  have g105 : px_pa hm93 296 50 24 vN (List.range ev.length) := pa_fi g24 fa94 (by omega)
  have g106 : px_pa h88 296 50 24 vN (List.range ev.length) := pa_fi g105 fb95 (by omega)
  first | (exfalso; omega) | exact ⟨rfl, g100, g102, g104, g106, g98, fr97⟩
