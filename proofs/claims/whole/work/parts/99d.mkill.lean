theorem chg_1 (s : St) (wy : Nat) : (chg s wy).1 = s.1 := by unfold chg; split <;> rfl
theorem tN_er : ∀ (j : List St) (k : Nat), tN (j.eraseIdx k) ≤ tN j
  | [], _ => Nat.le_refl _
  | s :: r, 0 => by show tN r ≤ (if s.1 = 116 then 1 else 0) + tN r; omega
  | s :: r, k + 1 => by
    have := tN_er r k
    show (if s.1 = 116 then 1 else 0) + tN (r.eraseIdx k) ≤ (if s.1 = 116 then 1 else 0) + tN r
    omega
theorem tN_set : ∀ (j : List St) (k : Nat) (x : St), x.1 = (j.getD k (0, 0, 0)).1 → tN (j.set k x) = tN j
  | [], _, _, _ => rfl
  | s :: r, 0, x, h => by
    have h' : x.1 = s.1 := h
    show (if x.1 = 116 then 1 else 0) + tN r = (if s.1 = 116 then 1 else 0) + tN r
    rw [h']
  | s :: r, k + 1, x, h => by
    show (if s.1 = 116 then 1 else 0) + tN (r.set k x) = (if s.1 = 116 then 1 else 0) + tN r
    rw [tN_set r k x h]
theorem chg_act {s : St} {wy : Nat} (h : okP s) (hw : wy + 1 < ways s) (h9 : s.1 = 109) : (chg s wy).2.1 = 43 ∨ (chg s wy).2.1 = 45 ∨ (chg s wy).2.1 = 42 ∨ (chg s wy).2.1 = 47 := by
  have ha : s.2.1 ∈ [43, 45, 42, 47] := by have z := h.2.1 (Or.inr h9); rw [h9] at z; exact z
  have ho : othN s = 3 := by unfold othN; rw [h9]; rfl
  have hac : actsOf s.1 = [43, 45, 42, 47] := by rw [h9]; rfl
  unfold chg
  rw [ho, hac]
  by_cases c : wy < 3
  · rw [if_pos c]
    dsimp only
    obtain ⟨q, hq, eq⟩ : ∃ q, q ≤ 3 ∧ (if wy < [43, 45, 42, 47].idxOf s.2.1 then wy else wy + 1) = q := ⟨_, by split <;> omega, rfl⟩
    rw [eq]
    rcases (show q = 0 ∨ q = 1 ∨ q = 2 ∨ q = 3 by omega) with e | e | e | e
    · subst e; exact Or.inl rfl
    · subst e; exact Or.inr (Or.inl rfl)
    · subst e; exact Or.inr (Or.inr (Or.inl rfl))
    · subst e; exact Or.inr (Or.inr (Or.inr rfl))
  · rw [if_neg c]
    simp only [List.mem_cons, List.not_mem_nil, or_false] at ha
    exact ha
theorem mutJ_eq {j : List St} {k : Nat} (h : k < jMut j) : mutJ j k = (if (mutAt j k).2 + 1 < ways (j.getD (mutAt j k).1 (0, 0, 0)) then j.set (mutAt j k).1 (chg (j.getD (mutAt j k).1 (0, 0, 0)) (mutAt j k).2) else j.eraseIdx (mutAt j k).1) := by
  have hw := mutAt_w h
  unfold mutJ
  split
  · rename_i c
    exact mutGo_set _ j _ 0 hw.1 c
  · rename_i c
    exact mutGo_er _ j _ 0 hw.1 c
theorem mutJ_okZ {j : List St} {k : Nat} (hj : okB j) (ht : tN j ≤ 2) (h : k < jMut j) : okZ (mutJ j k) := by
  have hz := okB_okZ hj ht
  have hw := mutAt_w h
  refine ⟨mutJ_ok hj, ?_, ?_⟩
  · rw [mutJ_eq h]
    split
    · rename_i c
      intro s hs h9
      rcases List.mem_or_eq_of_mem_set hs with z | z
      · exact hz.2.1 s z h9
      · rw [z] at h9 ⊢
        rw [chg_1] at h9
        exact chg_act (hj.2 _ (getD_mem (0, 0, 0) hw.1)) c h9
    · intro s hs h9
      exact hz.2.1 s (List.mem_of_mem_eraseIdx hs) h9
  · rw [mutJ_eq h]
    split
    · rw [tN_set _ _ _ (chg_1 _ _)]; exact ht
    · exact Nat.le_trans (tN_er _ _) ht

def pKL (h : px_H) (ga : gA) (gp : gP) (cb : Bool) (gv : gV) : Prop := ∃ (gq : gQ) (gh : gH) (gw : gW) (gu : gU) (jn : List St) (sl : List Int32) (sl2 : List Int32) (lh : List Row) (lg : List Row) (cv : List Int32) (pl : List Nat) (lo : List Row) (lt : List Row), h.2.2 269 = some (12, mB ga gp (gq.1, gq.2.1, gq.2.2.1, gq.2.2.2.1, gq.2.2.2.2.1, gq.2.2.2.2.2.1, cb) gh gw gu gv) ∧ px_pa h 284 52 6 stS jn ∧ px_pa h 285 52 6 stA jn ∧ px_pa h 286 50 6 stN jn ∧ px_pa h 287 50 3070 Value.int sl ∧ px_pa h 288 50 3070 Value.int sl2 ∧ px_pa h 289 54 100 rK lh ∧ px_pa h 290 50 100 rV lh ∧ px_pa h 291 50 100 rT lh ∧ px_pa h 292 54 100 rK lg ∧ px_pa h 293 50 100 rV lg ∧ px_pa h 294 50 100 rT lg ∧ px_pa h 295 50 30 Value.int cv ∧ px_pa h 296 50 24 vN pl ∧ px_pa h 297 54 100 rK lo ∧ px_pa h 298 50 100 rV lo ∧ px_pa h 299 50 100 rT lo ∧ px_pa h 300 54 100 rK lt ∧ px_pa h 301 50 100 rV lt ∧ px_pa h 302 50 100 rT lt ∧ relL sl sl2 cv

set_option maxRecDepth 20000 in
set_option maxHeartbeats 4000000 in
theorem cc_Md_kil {h : px_H} {c : Nat} {x : CS3} {k : Nat} {em : List Nat} {es : List Ev} {om : List Nat} {ro : List Row} {wn pl : List Nat} {L cn : Int32} {j jn : List St} {cb : Bool} {sl sl2 : List Int32} {lh lg lo lt : List Row} {cv : List Int32} {gp : gP} {gq : gQ} {gh : gH} {gw : gW} {gu : gU} {gv : gV} (H0 : h.2.2 269 = some (12, mB (L, nI j.length, cn) gp (gq.1, gq.2.1, gq.2.2.1, gq.2.2.2.1, gq.2.2.2.2.1, gq.2.2.2.2.2.1, cb) gh gw gu (gv.1, gv.2.1, gv.2.2.1, gv.2.2.2.1, gv.2.2.2.2.1, gv.2.2.2.2.2.1, gv.2.2.2.2.2.2.1, nI ((mutAt j k).1), nI ((mutAt j k).2)))) (H1 : px_pa h 271 52 6 stS j) (H2 : px_pa h 272 52 6 stA j) (H3 : px_pa h 273 50 6 stN j) (H4 : px_pa h 284 52 6 stS jn) (H5 : px_pa h 285 52 6 stA jn) (H6 : px_pa h 286 50 6 stN jn) (H7 : px_pa h 287 50 3070 Value.int sl) (H8 : px_pa h 288 50 3070 Value.int sl2) (H9 : px_pa h 289 54 100 rK lh) (H10 : px_pa h 290 50 100 rV lh) (H11 : px_pa h 291 50 100 rT lh) (H12 : px_pa h 292 54 100 rK lg) (H13 : px_pa h 293 50 100 rV lg) (H14 : px_pa h 294 50 100 rT lg) (H15 : px_pa h 295 50 30 Value.int cv) (H16 : px_pa h 296 50 24 vN pl) (H17 : px_pa h 274 50 8 vN em) (H18 : px_pa h 275 52 192 evS es) (H19 : px_pa h 276 54 192 evK es) (H20 : px_pa h 277 53 192 evV es) (H21 : px_pa h 278 53 192 evT es) (H22 : px_pa h 279 50 8 vN om) (H23 : px_pa h 280 54 128 rK ro) (H24 : px_pa h 281 53 128 rV ro) (H25 : px_pa h 282 53 128 rT ro) (H26 : px_pa h 283 52 8 vN wn) (H27 : px_pa h 297 54 100 rK lo) (H28 : px_pa h 298 50 100 rV lo) (H29 : px_pa h 299 50 100 rT lo) (H30 : px_pa h 300 54 100 rK lt) (H31 : px_pa h 301 50 100 rV lt) (H32 : px_pa h 302 50 100 rT lt) (p0 : okB j ∧ tN j ≤ 2 ∧ k < jMut j) (p1 : relL sl sl2 cv) (p2 : c < 8) (p3 : em.length = 8 ∧ es.length = 192) (p4 : inE es c x.1) (p5 : okC3 x) (p6 : em.getD c 0 = x.1.length) (p7 : om.length = 8 ∧ ro.length = 128) (p8 : om.getD c 0 = x.2.1.length) (p9 : inR ro c x.2.1) (p10 : wn.length = 8 ∧ wn.getD c 0 = x.2.2) : px_wp 200 [.ref (269), .int (nI c)] h (fun h1 r => r = some (.int (bI (killB j x k))) ∧ pKL h1 (L, nI j.length, cn) gp cb (gv.1, gv.2.1, gv.2.2.1, gv.2.2.2.1, gv.2.2.2.2.1, gv.2.2.2.2.2.1, gv.2.2.2.2.2.2.1, nI (mutAt j k).1, nI (mutAt j k).2) ∧ px_fj 269 1 284 19 h h1) := by
  have fr0 : px_fj 269 1 284 19 h h := fj_rf _ _ _ _ _
  have h6 := p0.1.1.1
  have h24 := p5.1
  have hmw := mutAt_w p0.2.2
  have he2 : ∀ e ∈ x.1, e.1 < 65536 := fun e he => by have := (p5.2.1 e he).1; omega
  have hvl : ∀ a b (cc : List Row) (dd : List Row), vdB a b cc dd ≤ 2 := fun a b cc dd => by unfold vdB; (repeat' split) <;> omega
  show px_to 200 0 [some (.ref (269)), some (.int (nI c))] [] h _
  refine e_aload_n f_200_0 rfl rfl ?_
  refine e_iload_n f_200_1 rfl rfl ?_
  refine e_callV (As := [.int (nI c)]) (rest := []) f_200_2 rfl rfl rfl (Nat.le_of_ble_eq_true rfl) (Nat.le_of_ble_eq_true rfl) H0 rfl (Nat.le_of_ble_eq_true rfl) (cc_Md_pla (c := c) (ev := x.1) (em := em) (es := es) (pl := pl) (L := L) (cn := cn) (j := j) (jn := jn) (cb := cb) (sl := sl) (sl2 := sl2) (lh := lh) (lg := lg) (cv := cv) (tl := cv) (gp := gp) (gq := (gq.1, gq.2.1, gq.2.2.1, gq.2.2.2.1, gq.2.2.2.2.1, gq.2.2.2.2.2.1, cb)) (gh := gh) (gw := gw) (gu := gu) (gv := (gv.1, gv.2.1, gv.2.2.1, gv.2.2.2.1, gv.2.2.2.2.1, gv.2.2.2.2.2.1, gv.2.2.2.2.2.2.1, nI ((mutAt j k).1), nI ((mutAt j k).2))) H0 H1 H2 H3 H4 H5 H6 H7 H8 H9 H10 H11 H12 H13 H14 H15 H16 H17 H18 H19 H20 H21 (okB_okZ p0.1 p0.2.1) (p1) (p2) (p3) (p4) (p5.1) (p5.2.1) (p6) (⟨p1.2.2, fun _ => rfl⟩)) rfl (fun h1 r2 q3 => ?_)
  obtain ⟨rfl, g4, g5, g6, g7, g8, fx9⟩ := q3
  obtain ⟨hm10, fa11, fb12⟩ := fj_mid fx9
  have fr13 : px_fj 269 1 284 19 h hm10 := fj_tr fr0 fa11 (by omega)
  have fr14 : px_fj 269 1 284 19 h h1 := fj_tr fr13 fb12 (by omega)
  show px_to 200 5 [some (.ref (269)), some (.int (nI c))] [] h1 _
  obtain ⟨la15, lb16, gw17, sl18, sl219, lh20, cv21, g22, g23, g24, g25, g26, g27, g28, g29, g30, g31, hO32⟩ := id g8
  have hO := hO32
  have hrr := runO_ok (j := j) p0.1.1 p5.2.1
  have hvd : vdE j x x.1 = vdB x.2.2 (runO j x.1).2.2.1.isSome (runO j x.1).2.1 x.2.1 := by unfold vdE; rw [vdB_vd]
  refine e_aload_n f_200_5 rfl rfl ?_
  refine e_iload_n f_200_6 rfl rfl ?_
  have g33 : px_pa hm10 297 54 100 rK lo := pa_fi H27 fa11 (by omega)
  have g34 : px_pa h1 297 54 100 rK lo := pa_fi g33 fb12 (by omega)
  have g35 : px_pa hm10 298 50 100 rV lo := pa_fi H28 fa11 (by omega)
  have g36 : px_pa h1 298 50 100 rV lo := pa_fi g35 fb12 (by omega)
  have g37 : px_pa hm10 299 50 100 rT lo := pa_fi H29 fa11 (by omega)
  have g38 : px_pa h1 299 50 100 rT lo := pa_fi g37 fb12 (by omega)
  have g39 : px_pa hm10 279 50 8 vN om := pa_fi H22 fa11 (by omega)
  have g40 : px_pa h1 279 50 8 vN om := pa_fi g39 fb12 (by omega)
  have g41 : px_pa hm10 280 54 128 rK ro := pa_fi H23 fa11 (by omega)
  have g42 : px_pa h1 280 54 128 rK ro := pa_fi g41 fb12 (by omega)
  have g43 : px_pa hm10 281 53 128 rV ro := pa_fi H24 fa11 (by omega)
  have g44 : px_pa h1 281 53 128 rV ro := pa_fi g43 fb12 (by omega)
  have g45 : px_pa hm10 282 53 128 rT ro := pa_fi H25 fa11 (by omega)
  have g46 : px_pa h1 282 53 128 rT ro := pa_fi g45 fb12 (by omega)
  have g47 : px_pa hm10 300 54 100 rK lt := pa_fi H30 fa11 (by omega)
  have g48 : px_pa h1 300 54 100 rK lt := pa_fi g47 fb12 (by omega)
  have g49 : px_pa hm10 301 50 100 rV lt := pa_fi H31 fa11 (by omega)
  have g50 : px_pa h1 301 50 100 rV lt := pa_fi g49 fb12 (by omega)
  have g51 : px_pa hm10 302 50 100 rT lt := pa_fi H32 fa11 (by omega)
  have g52 : px_pa h1 302 50 100 rT lt := pa_fi g51 fb12 (by omega)
  have g53 : px_pa hm10 283 52 8 vN wn := pa_fi H26 fa11 (by omega)
  have g54 : px_pa h1 283 52 8 vN wn := pa_fi g53 fb12 (by omega)
  refine e_callV (As := [.int (nI c)]) (rest := []) f_200_7 rfl rfl rfl (Nat.le_of_ble_eq_true rfl) (Nat.le_of_ble_eq_true rfl) g22 rfl (Nat.le_of_ble_eq_true rfl) (cc_Md_vd (zz := (runO j x.1).2.2.1.isSome) (c := c) (os := x.2.2) (lg := (runO j x.1).2.1) (td := x.2.1) (lo := lo) (lt := lt) (om := om) (ro := ro) (wn := wn) (ga := (L, nI j.length, cn)) (gp := gp) (gq := (nI j.length, (runO j x.1).2.2.1.isSome, oI (runO j x.1).2.2.1, (runO j x.1).2.2.2, la15, lb16, cb)) (gh := (nI 0, nI ((runO j x.1).2.1.length))) (gw := gw17) (gu := (nI x.1.length, gu.2.1, gu.2.2)) (gv := (gv.1, gv.2.1, gv.2.2.1, gv.2.2.2.1, gv.2.2.2.2.1, gv.2.2.2.2.2.1, gv.2.2.2.2.2.2.1, nI ((mutAt j k).1), nI ((mutAt j k).2))) g22 g28 g29 g30 g34 g36 g38 g40 g42 g44 g46 g48 g50 g52 g54 (p2) (p7) (p8) (p9) (p5.2.2.1) (p5.2.2.2.1) (hrr.1) (p10) (by have := p5.2.2.2.2; omega)) rfl (fun h55 r56 q57 => ?_)
  obtain ⟨rfl, g58, g59, g60, g61, g62, g63, g64, fx65⟩ := q57
  obtain ⟨hm66, fa67, fb68⟩ := fj_mid fx65
  have fr69 : px_fj 269 1 284 19 h hm66 := fj_tr fr14 fa67 (by omega)
  have fr70 : px_fj 269 1 284 19 h h55 := fj_tr fr69 fb68 (by omega)
  show px_to 200 10 [some (.ref (269)), some (.int (nI c))] [.int (nI (vdB x.2.2 ((runO j x.1).2.2.1.isSome) ((runO j x.1).2.1) x.2.1))] h55 _
  refine e_iconst (v := nI 1) f_200_10 (by decide) rfl ?_
  have hvl2 := hvl x.2.2 (runO j x.1).2.2.1.isSome (runO j x.1).2.1 x.2.1
  refine e_icmp_eq f_200_11 rfl (fun c_11 => ?_) (fun c_11 => ?_)
  · skip
    have c_11 : vdB x.2.2 ((runO j x.1).2.2.1.isSome) ((runO j x.1).2.1) x.2.1 = 1 := cv_eq (by omega) (by omega) c_11
    refine e_aload_n f_200_16 rfl rfl ?_
    have g71 : px_pa hm10 271 52 6 stS j := pa_fi H1 fa11 (by omega)
    have g72 : px_pa h1 271 52 6 stS j := pa_fi g71 fb12 (by omega)
    have g73 : px_pa hm66 271 52 6 stS j := pa_fi g72 fa67 (by omega)
    have g74 : px_pa h55 271 52 6 stS j := pa_fi g73 fb68 (by omega)
    have g75 : px_pa hm10 272 52 6 stA j := pa_fi H2 fa11 (by omega)
    have g76 : px_pa h1 272 52 6 stA j := pa_fi g75 fb12 (by omega)
    have g77 : px_pa hm66 272 52 6 stA j := pa_fi g76 fa67 (by omega)
    have g78 : px_pa h55 272 52 6 stA j := pa_fi g77 fb68 (by omega)
    have g79 : px_pa hm10 273 50 6 stN j := pa_fi H3 fa11 (by omega)
    have g80 : px_pa h1 273 50 6 stN j := pa_fi g79 fb12 (by omega)
    have g81 : px_pa hm66 273 50 6 stN j := pa_fi g80 fa67 (by omega)
    have g82 : px_pa h55 273 50 6 stN j := pa_fi g81 fb68 (by omega)
    have g83 : px_pa hm66 284 52 6 stS j := pa_fi g4 fa67 (by omega)
    have g84 : px_pa h55 284 52 6 stS j := pa_fi g83 fb68 (by omega)
    have g85 : px_pa hm66 285 52 6 stA j := pa_fi g5 fa67 (by omega)
    have g86 : px_pa h55 285 52 6 stA j := pa_fi g85 fb68 (by omega)
    have g87 : px_pa hm66 286 50 6 stN j := pa_fi g6 fa67 (by omega)
    have g88 : px_pa h55 286 50 6 stN j := pa_fi g87 fb68 (by omega)
    refine e_callV (As := []) (rest := []) f_200_17 rfl rfl rfl (Nat.le_of_ble_eq_true rfl) (Nat.le_of_ble_eq_true rfl) g58 rfl (Nat.le_of_ble_eq_true rfl) (cc_Md_mta (st := (mutAt j k).1) (wy := (mutAt j k).2) (L := L) (cn := cn) (j := j) (jn := j) (gp := gp) (gq := (nI j.length, (runO j x.1).2.2.1.isSome, oI (runO j x.1).2.2.1, (runO j x.1).2.2.2, la15, lb16, cb)) (gh := (nI 0, nI (((runO j x.1).2.1).length))) (gw := gw17) (gu := (nI x.1.length, nI (((runO j x.1).2.1).length), nI x.2.1.length)) (gv := (gv.1, gv.2.1, gv.2.2.1, gv.2.2.2.1, gv.2.2.2.2.1, gv.2.2.2.2.2.1, gv.2.2.2.2.2.2.1, nI ((mutAt j k).1), nI ((mutAt j k).2))) g58 g74 g78 g82 g84 g86 g88 (p0.1) (hmw.1) (hmw.2)) rfl (fun h89 r90 q91 => ?_)
    obtain ⟨rfl, g92, g93, g94, g95, fx96⟩ := q91
    obtain ⟨hm97, fa98, fb99⟩ := fj_mid fx96
    have fr100 : px_fj 269 1 284 19 h hm97 := fj_tr fr70 fa98 (by omega)
    have fr101 : px_fj 269 1 284 19 h h89 := fj_tr fr100 fb99 (by omega)
    show px_to 200 20 [some (.ref (269)), some (.int (nI c))] [] h89 _
    have g102 : h89.2.2 269 = some (12, mB (L, nI j.length, cn) gp (nI ((mutJ j k).length), (runO j x.1).2.2.1.isSome, oI (runO j x.1).2.2.1, (runO j x.1).2.2.2, la15, lb16, cb) (nI 0, nI (((runO j x.1).2.1).length)) gw17 (nI x.1.length, nI (((runO j x.1).2.1).length), nI x.2.1.length) (gv.1, gv.2.1, gv.2.2.1, gv.2.2.2.1, gv.2.2.2.2.1, gv.2.2.2.2.2.1, gv.2.2.2.2.2.2.1, nI ((mutAt j k).1), nI ((mutAt j k).2))) := g92
    have g103 : px_pa h89 284 52 6 stS (mutJ j k) := g93
    have g104 : px_pa h89 285 52 6 stA (mutJ j k) := g94
    have g105 : px_pa h89 286 50 6 stN (mutJ j k) := g95
    have hmz := mutJ_okZ p0.1 p0.2.1 p0.2.2
    refine e_aload_n f_200_20 rfl rfl ?_
    refine e_iload_n f_200_21 rfl rfl ?_
    have g106 : px_pa hm66 296 50 24 vN (List.range x.1.length) := pa_fi g7 fa67 (by omega)
    have g107 : px_pa h55 296 50 24 vN (List.range x.1.length) := pa_fi g106 fb68 (by omega)
    have g108 : px_pa hm97 296 50 24 vN (List.range x.1.length) := pa_fi g107 fa98 (by omega)
    have g109 : px_pa h89 296 50 24 vN (List.range x.1.length) := pa_fi g108 fb99 (by omega)
    have g110 : px_pa hm10 274 50 8 vN em := pa_fi H17 fa11 (by omega)
    have g111 : px_pa h1 274 50 8 vN em := pa_fi g110 fb12 (by omega)
    have g112 : px_pa hm66 274 50 8 vN em := pa_fi g111 fa67 (by omega)
    have g113 : px_pa h55 274 50 8 vN em := pa_fi g112 fb68 (by omega)
    have g114 : px_pa hm97 274 50 8 vN em := pa_fi g113 fa98 (by omega)
    have g115 : px_pa h89 274 50 8 vN em := pa_fi g114 fb99 (by omega)
    have g116 : px_pa hm10 275 52 192 evS es := pa_fi H18 fa11 (by omega)
    have g117 : px_pa h1 275 52 192 evS es := pa_fi g116 fb12 (by omega)
    have g118 : px_pa hm66 275 52 192 evS es := pa_fi g117 fa67 (by omega)
    have g119 : px_pa h55 275 52 192 evS es := pa_fi g118 fb68 (by omega)
    have g120 : px_pa hm97 275 52 192 evS es := pa_fi g119 fa98 (by omega)
    have g121 : px_pa h89 275 52 192 evS es := pa_fi g120 fb99 (by omega)
    refine e_callV (As := [.int (nI c)]) (rest := []) f_200_22 rfl rfl rfl (Nat.le_of_ble_eq_true rfl) (Nat.le_of_ble_eq_true rfl) g102 rfl (Nat.le_of_ble_eq_true rfl) (cc_Md_plA (pl := List.range x.1.length) (c := c) (ev := x.1) (em := em) (es := es) (ga := (L, nI j.length, cn)) (gp := gp) (gq := (nI ((mutJ j k).length), (runO j x.1).2.2.1.isSome, oI (runO j x.1).2.2.1, (runO j x.1).2.2.2, la15, lb16, cb)) (gh := (nI 0, nI (((runO j x.1).2.1).length))) (gw := gw17) (gu := (nI x.1.length, nI (((runO j x.1).2.1).length), nI x.2.1.length)) (gv := (gv.1, gv.2.1, gv.2.2.1, gv.2.2.2.1, gv.2.2.2.2.1, gv.2.2.2.2.2.1, gv.2.2.2.2.2.2.1, nI ((mutAt j k).1), nI ((mutAt j k).2))) g102 g109 g115 g121 (by omega) (p3) (p6) (p4) (p5.1) (he2)) rfl (fun h122 r123 q124 => ?_)
    obtain ⟨rfl, g125, g126, fx127⟩ := q124
    obtain ⟨hm128, fa129, fb130⟩ := fj_mid fx127
    have fr131 : px_fj 269 1 284 19 h hm128 := fj_tr fr101 fa129 (by omega)
    have fr132 : px_fj 269 1 284 19 h h122 := fj_tr fr131 fb130 (by omega)
    show px_to 200 25 [some (.ref (269)), some (.int (nI c))] [] h122 _
    have g133 : h122.2.2 269 = some (12, mB (L, nI j.length, cn) gp (nI ((mutJ j k).length), (runO j x.1).2.2.1.isSome, oI (runO j x.1).2.2.1, (runO j x.1).2.2.2, la15, lb16, cb) (nI 0, nI (((runO j x.1).2.1).length)) gw17 (nI ((List.range x.1.length).length), nI (((runO j x.1).2.1).length), nI x.2.1.length) (gv.1, gv.2.1, gv.2.2.1, gv.2.2.2.1, gv.2.2.2.2.1, gv.2.2.2.2.2.1, gv.2.2.2.2.2.2.1, nI ((mutAt j k).1), nI ((mutAt j k).2))) := by rw [List.length_range]; exact g125
    refine e_aload_n f_200_25 rfl rfl ?_
    refine e_iload_n f_200_26 rfl rfl ?_
    have g134 : px_pa hm128 284 52 6 stS (mutJ j k) := pa_fi g103 fa129 (by omega)
    have g135 : px_pa h122 284 52 6 stS (mutJ j k) := pa_fi g134 fb130 (by omega)
    have g136 : px_pa hm128 285 52 6 stA (mutJ j k) := pa_fi g104 fa129 (by omega)
    have g137 : px_pa h122 285 52 6 stA (mutJ j k) := pa_fi g136 fb130 (by omega)
    have g138 : px_pa hm128 286 50 6 stN (mutJ j k) := pa_fi g105 fa129 (by omega)
    have g139 : px_pa h122 286 50 6 stN (mutJ j k) := pa_fi g138 fb130 (by omega)
    have g140 : px_pa hm66 287 50 3070 Value.int sl18 := pa_fi g23 fa67 (by omega)
    have g141 : px_pa h55 287 50 3070 Value.int sl18 := pa_fi g140 fb68 (by omega)
    have g142 : px_pa hm97 287 50 3070 Value.int sl18 := pa_fi g141 fa98 (by omega)
    have g143 : px_pa h89 287 50 3070 Value.int sl18 := pa_fi g142 fb99 (by omega)
    have g144 : px_pa hm128 287 50 3070 Value.int sl18 := pa_fi g143 fa129 (by omega)
    have g145 : px_pa h122 287 50 3070 Value.int sl18 := pa_fi g144 fb130 (by omega)
    have g146 : px_pa hm66 288 50 3070 Value.int sl219 := pa_fi g24 fa67 (by omega)
    have g147 : px_pa h55 288 50 3070 Value.int sl219 := pa_fi g146 fb68 (by omega)
    have g148 : px_pa hm97 288 50 3070 Value.int sl219 := pa_fi g147 fa98 (by omega)
    have g149 : px_pa h89 288 50 3070 Value.int sl219 := pa_fi g148 fb99 (by omega)
    have g150 : px_pa hm128 288 50 3070 Value.int sl219 := pa_fi g149 fa129 (by omega)
    have g151 : px_pa h122 288 50 3070 Value.int sl219 := pa_fi g150 fb130 (by omega)
    have g152 : px_pa hm66 289 54 100 rK lh20 := pa_fi g25 fa67 (by omega)
    have g153 : px_pa h55 289 54 100 rK lh20 := pa_fi g152 fb68 (by omega)
    have g154 : px_pa hm97 289 54 100 rK lh20 := pa_fi g153 fa98 (by omega)
    have g155 : px_pa h89 289 54 100 rK lh20 := pa_fi g154 fb99 (by omega)
    have g156 : px_pa hm128 289 54 100 rK lh20 := pa_fi g155 fa129 (by omega)
    have g157 : px_pa h122 289 54 100 rK lh20 := pa_fi g156 fb130 (by omega)
    have g158 : px_pa hm66 290 50 100 rV lh20 := pa_fi g26 fa67 (by omega)
    have g159 : px_pa h55 290 50 100 rV lh20 := pa_fi g158 fb68 (by omega)
    have g160 : px_pa hm97 290 50 100 rV lh20 := pa_fi g159 fa98 (by omega)
    have g161 : px_pa h89 290 50 100 rV lh20 := pa_fi g160 fb99 (by omega)
    have g162 : px_pa hm128 290 50 100 rV lh20 := pa_fi g161 fa129 (by omega)
    have g163 : px_pa h122 290 50 100 rV lh20 := pa_fi g162 fb130 (by omega)
    have g164 : px_pa hm66 291 50 100 rT lh20 := pa_fi g27 fa67 (by omega)
    have g165 : px_pa h55 291 50 100 rT lh20 := pa_fi g164 fb68 (by omega)
    have g166 : px_pa hm97 291 50 100 rT lh20 := pa_fi g165 fa98 (by omega)
    have g167 : px_pa h89 291 50 100 rT lh20 := pa_fi g166 fb99 (by omega)
    have g168 : px_pa hm128 291 50 100 rT lh20 := pa_fi g167 fa129 (by omega)
    have g169 : px_pa h122 291 50 100 rT lh20 := pa_fi g168 fb130 (by omega)
    have g170 : px_pa hm66 292 54 100 rK ((runO j x.1).2.1) := pa_fi g28 fa67 (by omega)
    have g171 : px_pa h55 292 54 100 rK ((runO j x.1).2.1) := pa_fi g170 fb68 (by omega)
    have g172 : px_pa hm97 292 54 100 rK ((runO j x.1).2.1) := pa_fi g171 fa98 (by omega)
    have g173 : px_pa h89 292 54 100 rK ((runO j x.1).2.1) := pa_fi g172 fb99 (by omega)
    have g174 : px_pa hm128 292 54 100 rK ((runO j x.1).2.1) := pa_fi g173 fa129 (by omega)
    have g175 : px_pa h122 292 54 100 rK ((runO j x.1).2.1) := pa_fi g174 fb130 (by omega)
    have g176 : px_pa hm66 293 50 100 rV ((runO j x.1).2.1) := pa_fi g29 fa67 (by omega)
    have g177 : px_pa h55 293 50 100 rV ((runO j x.1).2.1) := pa_fi g176 fb68 (by omega)
    have g178 : px_pa hm97 293 50 100 rV ((runO j x.1).2.1) := pa_fi g177 fa98 (by omega)
    have g179 : px_pa h89 293 50 100 rV ((runO j x.1).2.1) := pa_fi g178 fb99 (by omega)
    have g180 : px_pa hm128 293 50 100 rV ((runO j x.1).2.1) := pa_fi g179 fa129 (by omega)
    have g181 : px_pa h122 293 50 100 rV ((runO j x.1).2.1) := pa_fi g180 fb130 (by omega)
    have g182 : px_pa hm66 294 50 100 rT ((runO j x.1).2.1) := pa_fi g30 fa67 (by omega)
    have g183 : px_pa h55 294 50 100 rT ((runO j x.1).2.1) := pa_fi g182 fb68 (by omega)
    have g184 : px_pa hm97 294 50 100 rT ((runO j x.1).2.1) := pa_fi g183 fa98 (by omega)
    have g185 : px_pa h89 294 50 100 rT ((runO j x.1).2.1) := pa_fi g184 fb99 (by omega)
    have g186 : px_pa hm128 294 50 100 rT ((runO j x.1).2.1) := pa_fi g185 fa129 (by omega)
    have g187 : px_pa h122 294 50 100 rT ((runO j x.1).2.1) := pa_fi g186 fb130 (by omega)
    have g188 : px_pa hm66 295 50 30 Value.int cv21 := pa_fi g31 fa67 (by omega)
    have g189 : px_pa h55 295 50 30 Value.int cv21 := pa_fi g188 fb68 (by omega)
    have g190 : px_pa hm97 295 50 30 Value.int cv21 := pa_fi g189 fa98 (by omega)
    have g191 : px_pa h89 295 50 30 Value.int cv21 := pa_fi g190 fb99 (by omega)
    have g192 : px_pa hm128 295 50 30 Value.int cv21 := pa_fi g191 fa129 (by omega)
    have g193 : px_pa h122 295 50 30 Value.int cv21 := pa_fi g192 fb130 (by omega)
    have g194 : px_pa hm128 275 52 192 evS es := pa_fi g121 fa129 (by omega)
    have g195 : px_pa h122 275 52 192 evS es := pa_fi g194 fb130 (by omega)
    have g196 : px_pa hm10 276 54 192 evK es := pa_fi H19 fa11 (by omega)
    have g197 : px_pa h1 276 54 192 evK es := pa_fi g196 fb12 (by omega)
    have g198 : px_pa hm66 276 54 192 evK es := pa_fi g197 fa67 (by omega)
    have g199 : px_pa h55 276 54 192 evK es := pa_fi g198 fb68 (by omega)
    have g200 : px_pa hm97 276 54 192 evK es := pa_fi g199 fa98 (by omega)
    have g201 : px_pa h89 276 54 192 evK es := pa_fi g200 fb99 (by omega)
    have g202 : px_pa hm128 276 54 192 evK es := pa_fi g201 fa129 (by omega)
    have g203 : px_pa h122 276 54 192 evK es := pa_fi g202 fb130 (by omega)
    have g204 : px_pa hm10 277 53 192 evV es := pa_fi H20 fa11 (by omega)
    have g205 : px_pa h1 277 53 192 evV es := pa_fi g204 fb12 (by omega)
    have g206 : px_pa hm66 277 53 192 evV es := pa_fi g205 fa67 (by omega)
    have g207 : px_pa h55 277 53 192 evV es := pa_fi g206 fb68 (by omega)
    have g208 : px_pa hm97 277 53 192 evV es := pa_fi g207 fa98 (by omega)
    have g209 : px_pa h89 277 53 192 evV es := pa_fi g208 fb99 (by omega)
    have g210 : px_pa hm128 277 53 192 evV es := pa_fi g209 fa129 (by omega)
    have g211 : px_pa h122 277 53 192 evV es := pa_fi g210 fb130 (by omega)
    have g212 : px_pa hm10 278 53 192 evT es := pa_fi H21 fa11 (by omega)
    have g213 : px_pa h1 278 53 192 evT es := pa_fi g212 fb12 (by omega)
    have g214 : px_pa hm66 278 53 192 evT es := pa_fi g213 fa67 (by omega)
    have g215 : px_pa h55 278 53 192 evT es := pa_fi g214 fb68 (by omega)
    have g216 : px_pa hm97 278 53 192 evT es := pa_fi g215 fa98 (by omega)
    have g217 : px_pa h89 278 53 192 evT es := pa_fi g216 fb99 (by omega)
    have g218 : px_pa hm128 278 53 192 evT es := pa_fi g217 fa129 (by omega)
    have g219 : px_pa h122 278 53 192 evT es := pa_fi g218 fb130 (by omega)
    refine e_callV (As := [.int (nI c)]) (rest := []) f_200_27 rfl rfl rfl (Nat.le_of_ble_eq_true rfl) (Nat.le_of_ble_eq_true rfl) g133 rfl (Nat.le_of_ble_eq_true rfl) (cc_Md_runs (c := c) (ev := x.1) (es := es) (pl := (List.range x.1.length)) (j := mutJ j k) (cb := cb) (sl := sl18) (sl2 := sl219) (lh := lh20) (lg := (runO j x.1).2.1) (cv := cv21) (tl := cv21) (ga := (L, nI j.length, cn)) (gp := gp) (gq := (nI ((mutJ j k).length), (runO j x.1).2.2.1.isSome, oI (runO j x.1).2.2.1, (runO j x.1).2.2.2, la15, lb16, cb)) (gh := (nI 0, nI (((runO j x.1).2.1).length))) (gw := gw17) (gu := (nI ((List.range x.1.length).length), nI (((runO j x.1).2.1).length), nI x.2.1.length)) (gv := (gv.1, gv.2.1, gv.2.2.1, gv.2.2.2.1, gv.2.2.2.2.1, gv.2.2.2.2.2.1, gv.2.2.2.2.2.2.1, nI ((mutAt j k).1), nI ((mutAt j k).2))) g133 g135 g137 g139 g145 g151 g157 g163 g169 g175 g181 g187 g193 g126 g195 g203 g211 g219 (hmz) (⟨hO.1, hO.2.1, hO.2.2.1⟩) (by omega) (p3.2) (p4) (p5.1) (p5.2.1) (fun p hp => List.mem_range.mp hp) (⟨hO.2.2.1, fun _ => rfl⟩)) rfl (fun h220 r221 q222 => ?_)
    obtain ⟨rfl, g223, fx224⟩ := q222
    obtain ⟨hm225, fa226, fb227⟩ := fj_mid fx224
    have fr228 : px_fj 269 1 284 19 h hm225 := fj_tr fr132 fa226 (by omega)
    have fr229 : px_fj 269 1 284 19 h h220 := fj_tr fr228 fb227 (by omega)
    show px_to 200 30 [some (.ref (269)), some (.int (nI c))] [] h220 _
    have g230 : pRO h220 (L, nI j.length, cn) gp (nI (List.range x.1.length).length, nI (((runO j x.1).2.1).length), nI x.2.1.length) (gv.1, gv.2.1, gv.2.2.1, gv.2.2.2.1, gv.2.2.2.2.1, gv.2.2.2.2.2.1, gv.2.2.2.2.2.2.1, nI ((mutAt j k).1), nI ((mutAt j k).2)) (mutJ j k) cb (runO (mutJ j k) x.1) ((runS (mutJ j k) x.1 cv21).1.2.2.2.1) := by have z := g223; rw [evs_all] at z; exact z
    obtain ⟨la231, lb232, gw233, sl234, sl2235, lh236, cv237, g238, g239, g240, g241, g242, g243, g244, g245, g246, g247, hO248⟩ := id g230
    have hO2 := hO248
    have hrr2 := runO_ok (j := mutJ j k) hmz.1 p5.2.1
    have hvd2 : vdE (mutJ j k) x x.1 = vdB x.2.2 (runO (mutJ j k) x.1).2.2.1.isSome (runO (mutJ j k) x.1).2.1 x.2.1 := by unfold vdE; rw [vdB_vd]
    refine e_aload_n f_200_30 rfl rfl ?_
    refine e_iload_n f_200_31 rfl rfl ?_
    have g249 : px_pa hm97 297 54 100 rK (srt x.2.2 ((runO j x.1).2.1)) := pa_fi g59 fa98 (by omega)
    have g250 : px_pa h89 297 54 100 rK (srt x.2.2 ((runO j x.1).2.1)) := pa_fi g249 fb99 (by omega)
    have g251 : px_pa hm128 297 54 100 rK (srt x.2.2 ((runO j x.1).2.1)) := pa_fi g250 fa129 (by omega)
    have g252 : px_pa h122 297 54 100 rK (srt x.2.2 ((runO j x.1).2.1)) := pa_fi g251 fb130 (by omega)
    have g253 : px_pa hm225 297 54 100 rK (srt x.2.2 ((runO j x.1).2.1)) := pa_fi g252 fa226 (by omega)
    have g254 : px_pa h220 297 54 100 rK (srt x.2.2 ((runO j x.1).2.1)) := pa_fi g253 fb227 (by omega)
    have g255 : px_pa hm97 298 50 100 rV (srt x.2.2 ((runO j x.1).2.1)) := pa_fi g60 fa98 (by omega)
    have g256 : px_pa h89 298 50 100 rV (srt x.2.2 ((runO j x.1).2.1)) := pa_fi g255 fb99 (by omega)
    have g257 : px_pa hm128 298 50 100 rV (srt x.2.2 ((runO j x.1).2.1)) := pa_fi g256 fa129 (by omega)
    have g258 : px_pa h122 298 50 100 rV (srt x.2.2 ((runO j x.1).2.1)) := pa_fi g257 fb130 (by omega)
    have g259 : px_pa hm225 298 50 100 rV (srt x.2.2 ((runO j x.1).2.1)) := pa_fi g258 fa226 (by omega)
    have g260 : px_pa h220 298 50 100 rV (srt x.2.2 ((runO j x.1).2.1)) := pa_fi g259 fb227 (by omega)
    have g261 : px_pa hm97 299 50 100 rT (srt x.2.2 ((runO j x.1).2.1)) := pa_fi g61 fa98 (by omega)
    have g262 : px_pa h89 299 50 100 rT (srt x.2.2 ((runO j x.1).2.1)) := pa_fi g261 fb99 (by omega)
    have g263 : px_pa hm128 299 50 100 rT (srt x.2.2 ((runO j x.1).2.1)) := pa_fi g262 fa129 (by omega)
    have g264 : px_pa h122 299 50 100 rT (srt x.2.2 ((runO j x.1).2.1)) := pa_fi g263 fb130 (by omega)
    have g265 : px_pa hm225 299 50 100 rT (srt x.2.2 ((runO j x.1).2.1)) := pa_fi g264 fa226 (by omega)
    have g266 : px_pa h220 299 50 100 rT (srt x.2.2 ((runO j x.1).2.1)) := pa_fi g265 fb227 (by omega)
    have g267 : px_pa hm66 279 50 8 vN om := pa_fi g40 fa67 (by omega)
    have g268 : px_pa h55 279 50 8 vN om := pa_fi g267 fb68 (by omega)
    have g269 : px_pa hm97 279 50 8 vN om := pa_fi g268 fa98 (by omega)
    have g270 : px_pa h89 279 50 8 vN om := pa_fi g269 fb99 (by omega)
    have g271 : px_pa hm128 279 50 8 vN om := pa_fi g270 fa129 (by omega)
    have g272 : px_pa h122 279 50 8 vN om := pa_fi g271 fb130 (by omega)
    have g273 : px_pa hm225 279 50 8 vN om := pa_fi g272 fa226 (by omega)
    have g274 : px_pa h220 279 50 8 vN om := pa_fi g273 fb227 (by omega)
    have g275 : px_pa hm66 280 54 128 rK ro := pa_fi g42 fa67 (by omega)
    have g276 : px_pa h55 280 54 128 rK ro := pa_fi g275 fb68 (by omega)
    have g277 : px_pa hm97 280 54 128 rK ro := pa_fi g276 fa98 (by omega)
    have g278 : px_pa h89 280 54 128 rK ro := pa_fi g277 fb99 (by omega)
    have g279 : px_pa hm128 280 54 128 rK ro := pa_fi g278 fa129 (by omega)
    have g280 : px_pa h122 280 54 128 rK ro := pa_fi g279 fb130 (by omega)
    have g281 : px_pa hm225 280 54 128 rK ro := pa_fi g280 fa226 (by omega)
    have g282 : px_pa h220 280 54 128 rK ro := pa_fi g281 fb227 (by omega)
    have g283 : px_pa hm66 281 53 128 rV ro := pa_fi g44 fa67 (by omega)
    have g284 : px_pa h55 281 53 128 rV ro := pa_fi g283 fb68 (by omega)
    have g285 : px_pa hm97 281 53 128 rV ro := pa_fi g284 fa98 (by omega)
    have g286 : px_pa h89 281 53 128 rV ro := pa_fi g285 fb99 (by omega)
    have g287 : px_pa hm128 281 53 128 rV ro := pa_fi g286 fa129 (by omega)
    have g288 : px_pa h122 281 53 128 rV ro := pa_fi g287 fb130 (by omega)
    have g289 : px_pa hm225 281 53 128 rV ro := pa_fi g288 fa226 (by omega)
    have g290 : px_pa h220 281 53 128 rV ro := pa_fi g289 fb227 (by omega)
    have g291 : px_pa hm66 282 53 128 rT ro := pa_fi g46 fa67 (by omega)
    have g292 : px_pa h55 282 53 128 rT ro := pa_fi g291 fb68 (by omega)
    have g293 : px_pa hm97 282 53 128 rT ro := pa_fi g292 fa98 (by omega)
    have g294 : px_pa h89 282 53 128 rT ro := pa_fi g293 fb99 (by omega)
    have g295 : px_pa hm128 282 53 128 rT ro := pa_fi g294 fa129 (by omega)
    have g296 : px_pa h122 282 53 128 rT ro := pa_fi g295 fb130 (by omega)
    have g297 : px_pa hm225 282 53 128 rT ro := pa_fi g296 fa226 (by omega)
    have g298 : px_pa h220 282 53 128 rT ro := pa_fi g297 fb227 (by omega)
    have g299 : px_pa hm97 300 54 100 rK (srt x.2.2 x.2.1) := pa_fi g62 fa98 (by omega)
    have g300 : px_pa h89 300 54 100 rK (srt x.2.2 x.2.1) := pa_fi g299 fb99 (by omega)
    have g301 : px_pa hm128 300 54 100 rK (srt x.2.2 x.2.1) := pa_fi g300 fa129 (by omega)
    have g302 : px_pa h122 300 54 100 rK (srt x.2.2 x.2.1) := pa_fi g301 fb130 (by omega)
    have g303 : px_pa hm225 300 54 100 rK (srt x.2.2 x.2.1) := pa_fi g302 fa226 (by omega)
    have g304 : px_pa h220 300 54 100 rK (srt x.2.2 x.2.1) := pa_fi g303 fb227 (by omega)
    have g305 : px_pa hm97 301 50 100 rV (srt x.2.2 x.2.1) := pa_fi g63 fa98 (by omega)
    have g306 : px_pa h89 301 50 100 rV (srt x.2.2 x.2.1) := pa_fi g305 fb99 (by omega)
    have g307 : px_pa hm128 301 50 100 rV (srt x.2.2 x.2.1) := pa_fi g306 fa129 (by omega)
    have g308 : px_pa h122 301 50 100 rV (srt x.2.2 x.2.1) := pa_fi g307 fb130 (by omega)
    have g309 : px_pa hm225 301 50 100 rV (srt x.2.2 x.2.1) := pa_fi g308 fa226 (by omega)
    have g310 : px_pa h220 301 50 100 rV (srt x.2.2 x.2.1) := pa_fi g309 fb227 (by omega)
    have g311 : px_pa hm97 302 50 100 rT (srt x.2.2 x.2.1) := pa_fi g64 fa98 (by omega)
    have g312 : px_pa h89 302 50 100 rT (srt x.2.2 x.2.1) := pa_fi g311 fb99 (by omega)
    have g313 : px_pa hm128 302 50 100 rT (srt x.2.2 x.2.1) := pa_fi g312 fa129 (by omega)
    have g314 : px_pa h122 302 50 100 rT (srt x.2.2 x.2.1) := pa_fi g313 fb130 (by omega)
    have g315 : px_pa hm225 302 50 100 rT (srt x.2.2 x.2.1) := pa_fi g314 fa226 (by omega)
    have g316 : px_pa h220 302 50 100 rT (srt x.2.2 x.2.1) := pa_fi g315 fb227 (by omega)
    have g317 : px_pa hm66 283 52 8 vN wn := pa_fi g54 fa67 (by omega)
    have g318 : px_pa h55 283 52 8 vN wn := pa_fi g317 fb68 (by omega)
    have g319 : px_pa hm97 283 52 8 vN wn := pa_fi g318 fa98 (by omega)
    have g320 : px_pa h89 283 52 8 vN wn := pa_fi g319 fb99 (by omega)
    have g321 : px_pa hm128 283 52 8 vN wn := pa_fi g320 fa129 (by omega)
    have g322 : px_pa h122 283 52 8 vN wn := pa_fi g321 fb130 (by omega)
    have g323 : px_pa hm225 283 52 8 vN wn := pa_fi g322 fa226 (by omega)
    have g324 : px_pa h220 283 52 8 vN wn := pa_fi g323 fb227 (by omega)
    refine e_callV (As := [.int (nI c)]) (rest := []) f_200_32 rfl rfl rfl (Nat.le_of_ble_eq_true rfl) (Nat.le_of_ble_eq_true rfl) g238 rfl (Nat.le_of_ble_eq_true rfl) (cc_Md_vd (zz := (runO (mutJ j k) x.1).2.2.1.isSome) (c := c) (os := x.2.2) (lg := (runO (mutJ j k) x.1).2.1) (td := x.2.1) (lo := srt x.2.2 ((runO j x.1).2.1)) (lt := srt x.2.2 x.2.1) (om := om) (ro := ro) (wn := wn) (ga := (L, nI j.length, cn)) (gp := gp) (gq := (nI ((mutJ j k).length), (runO (mutJ j k) x.1).2.2.1.isSome, oI (runO (mutJ j k) x.1).2.2.1, (runO (mutJ j k) x.1).2.2.2, la231, lb232, cb)) (gh := (nI 0, nI ((runO (mutJ j k) x.1).2.1.length))) (gw := gw233) (gu := (nI (List.range x.1.length).length, nI (((runO j x.1).2.1).length), nI x.2.1.length)) (gv := (gv.1, gv.2.1, gv.2.2.1, gv.2.2.2.1, gv.2.2.2.2.1, gv.2.2.2.2.2.1, gv.2.2.2.2.2.2.1, nI ((mutAt j k).1), nI ((mutAt j k).2))) g238 g244 g245 g246 g254 g260 g266 g274 g282 g290 g298 g304 g310 g316 g324 (p2) (p7) (p8) (p9) (p5.2.2.1) (p5.2.2.2.1) (hrr2.1) (p10) (by have := p5.2.2.2.2; omega)) rfl (fun h325 r326 q327 => ?_)
    obtain ⟨rfl, g328, g329, g330, g331, g332, g333, g334, fx335⟩ := q327
    obtain ⟨hm336, fa337, fb338⟩ := fj_mid fx335
    have fr339 : px_fj 269 1 284 19 h hm336 := fj_tr fr229 fa337 (by omega)
    have fr340 : px_fj 269 1 284 19 h h325 := fj_tr fr339 fb338 (by omega)
    show px_to 200 35 [some (.ref (269)), some (.int (nI c))] [.int (nI (vdB x.2.2 ((runO (mutJ j k) x.1).2.2.1.isSome) ((runO (mutJ j k) x.1).2.1) x.2.1))] h325 _
    refine e_iconst (v := nI 1) f_200_35 (by decide) rfl ?_
    have hvl3 := hvl x.2.2 (runO (mutJ j k) x.1).2.2.1.isSome (runO (mutJ j k) x.1).2.1 x.2.1
    refine e_icmp_eq f_200_36 rfl (fun c_36 => ?_) (fun c_36 => ?_)
    · skip
      have c_36 : vdB x.2.2 ((runO (mutJ j k) x.1).2.2.1.isSome) ((runO (mutJ j k) x.1).2.1) x.2.1 = 1 := cv_eq (by omega) (by omega) c_36
      refine e_iconst (v := nI 0) f_200_43 (by decide) rfl ?_
      refine e_iret f_200_44 rfl (rfl) ?_
      have g341 : px_pa hm225 284 52 6 stS (mutJ j k) := pa_fi g135 fa226 (by omega)
      have g342 : px_pa h220 284 52 6 stS (mutJ j k) := pa_fi g341 fb227 (by omega)
      have g343 : px_pa hm336 284 52 6 stS (mutJ j k) := pa_fi g342 fa337 (by omega)
      have g344 : px_pa h325 284 52 6 stS (mutJ j k) := pa_fi g343 fb338 (by omega)
      have g345 : px_pa hm225 285 52 6 stA (mutJ j k) := pa_fi g137 fa226 (by omega)
      have g346 : px_pa h220 285 52 6 stA (mutJ j k) := pa_fi g345 fb227 (by omega)
      have g347 : px_pa hm336 285 52 6 stA (mutJ j k) := pa_fi g346 fa337 (by omega)
      have g348 : px_pa h325 285 52 6 stA (mutJ j k) := pa_fi g347 fb338 (by omega)
      have g349 : px_pa hm225 286 50 6 stN (mutJ j k) := pa_fi g139 fa226 (by omega)
      have g350 : px_pa h220 286 50 6 stN (mutJ j k) := pa_fi g349 fb227 (by omega)
      have g351 : px_pa hm336 286 50 6 stN (mutJ j k) := pa_fi g350 fa337 (by omega)
      have g352 : px_pa h325 286 50 6 stN (mutJ j k) := pa_fi g351 fb338 (by omega)
      have g353 : px_pa hm336 287 50 3070 Value.int sl234 := pa_fi g239 fa337 (by omega)
      have g354 : px_pa h325 287 50 3070 Value.int sl234 := pa_fi g353 fb338 (by omega)
      have g355 : px_pa hm336 288 50 3070 Value.int sl2235 := pa_fi g240 fa337 (by omega)
      have g356 : px_pa h325 288 50 3070 Value.int sl2235 := pa_fi g355 fb338 (by omega)
      have g357 : px_pa hm336 289 54 100 rK lh236 := pa_fi g241 fa337 (by omega)
      have g358 : px_pa h325 289 54 100 rK lh236 := pa_fi g357 fb338 (by omega)
      have g359 : px_pa hm336 290 50 100 rV lh236 := pa_fi g242 fa337 (by omega)
      have g360 : px_pa h325 290 50 100 rV lh236 := pa_fi g359 fb338 (by omega)
      have g361 : px_pa hm336 291 50 100 rT lh236 := pa_fi g243 fa337 (by omega)
      have g362 : px_pa h325 291 50 100 rT lh236 := pa_fi g361 fb338 (by omega)
      have g363 : px_pa hm336 292 54 100 rK ((runO (mutJ j k) x.1).2.1) := pa_fi g244 fa337 (by omega)
      have g364 : px_pa h325 292 54 100 rK ((runO (mutJ j k) x.1).2.1) := pa_fi g363 fb338 (by omega)
      have g365 : px_pa hm336 293 50 100 rV ((runO (mutJ j k) x.1).2.1) := pa_fi g245 fa337 (by omega)
      have g366 : px_pa h325 293 50 100 rV ((runO (mutJ j k) x.1).2.1) := pa_fi g365 fb338 (by omega)
      have g367 : px_pa hm336 294 50 100 rT ((runO (mutJ j k) x.1).2.1) := pa_fi g246 fa337 (by omega)
      have g368 : px_pa h325 294 50 100 rT ((runO (mutJ j k) x.1).2.1) := pa_fi g367 fb338 (by omega)
      have g369 : px_pa hm336 295 50 30 Value.int cv237 := pa_fi g247 fa337 (by omega)
      have g370 : px_pa h325 295 50 30 Value.int cv237 := pa_fi g369 fb338 (by omega)
      have g371 : px_pa hm225 296 50 24 vN (List.range x.1.length) := pa_fi g126 fa226 (by omega)
      have g372 : px_pa h220 296 50 24 vN (List.range x.1.length) := pa_fi g371 fb227 (by omega)
      have g373 : px_pa hm336 296 50 24 vN (List.range x.1.length) := pa_fi g372 fa337 (by omega)
      have g374 : px_pa h325 296 50 24 vN (List.range x.1.length) := pa_fi g373 fb338 (by omega)
      have g375 : pKL h325 (L, nI j.length, cn) gp cb (gv.1, gv.2.1, gv.2.2.1, gv.2.2.2.1, gv.2.2.2.2.1, gv.2.2.2.2.2.1, gv.2.2.2.2.2.2.1, nI (mutAt j k).1, nI (mutAt j k).2) := ⟨(nI ((mutJ j k).length), (runO (mutJ j k) x.1).2.2.1.isSome, oI (runO (mutJ j k) x.1).2.2.1, (runO (mutJ j k) x.1).2.2.2, la231, lb232, cb), (nI 0, nI (((runO (mutJ j k) x.1).2.1).length)), gw233, (nI ((List.range x.1.length).length), nI (((runO (mutJ j k) x.1).2.1).length), nI x.2.1.length), _, _, _, _, _, _, _, _, _, g328, g344, g348, g352, g354, g356, g358, g360, g362, g364, g366, g368, g370, g374, g329, g330, g331, g332, g333, g334, ⟨hO2.1, hO2.2.1, hO2.2.2.1⟩⟩
      first | (exfalso; omega) | exact ⟨congrArg (fun z => some (Value.int z)) (b0 (by unfold killB; exact decide_eq_false (fun z => z.2 (by rw [hvd2]; exact c_36)))), g375, fr340⟩
    · skip
      have c_36 : vdB x.2.2 ((runO (mutJ j k) x.1).2.2.1.isSome) ((runO (mutJ j k) x.1).2.1) x.2.1 ≠ 1 := cv_ne c_36
      refine e_iconst (v := nI 1) f_200_39 (by decide) rfl ?_
      refine e_goto f_200_40 ?_
      refine e_iret f_200_44 rfl (rfl) ?_
      have g376 : px_pa hm225 284 52 6 stS (mutJ j k) := pa_fi g135 fa226 (by omega)
      have g377 : px_pa h220 284 52 6 stS (mutJ j k) := pa_fi g376 fb227 (by omega)
      have g378 : px_pa hm336 284 52 6 stS (mutJ j k) := pa_fi g377 fa337 (by omega)
      have g379 : px_pa h325 284 52 6 stS (mutJ j k) := pa_fi g378 fb338 (by omega)
      have g380 : px_pa hm225 285 52 6 stA (mutJ j k) := pa_fi g137 fa226 (by omega)
      have g381 : px_pa h220 285 52 6 stA (mutJ j k) := pa_fi g380 fb227 (by omega)
      have g382 : px_pa hm336 285 52 6 stA (mutJ j k) := pa_fi g381 fa337 (by omega)
      have g383 : px_pa h325 285 52 6 stA (mutJ j k) := pa_fi g382 fb338 (by omega)
      have g384 : px_pa hm225 286 50 6 stN (mutJ j k) := pa_fi g139 fa226 (by omega)
      have g385 : px_pa h220 286 50 6 stN (mutJ j k) := pa_fi g384 fb227 (by omega)
      have g386 : px_pa hm336 286 50 6 stN (mutJ j k) := pa_fi g385 fa337 (by omega)
      have g387 : px_pa h325 286 50 6 stN (mutJ j k) := pa_fi g386 fb338 (by omega)
      have g388 : px_pa hm336 287 50 3070 Value.int sl234 := pa_fi g239 fa337 (by omega)
      have g389 : px_pa h325 287 50 3070 Value.int sl234 := pa_fi g388 fb338 (by omega)
      have g390 : px_pa hm336 288 50 3070 Value.int sl2235 := pa_fi g240 fa337 (by omega)
      have g391 : px_pa h325 288 50 3070 Value.int sl2235 := pa_fi g390 fb338 (by omega)
      have g392 : px_pa hm336 289 54 100 rK lh236 := pa_fi g241 fa337 (by omega)
      have g393 : px_pa h325 289 54 100 rK lh236 := pa_fi g392 fb338 (by omega)
      have g394 : px_pa hm336 290 50 100 rV lh236 := pa_fi g242 fa337 (by omega)
      have g395 : px_pa h325 290 50 100 rV lh236 := pa_fi g394 fb338 (by omega)
      have g396 : px_pa hm336 291 50 100 rT lh236 := pa_fi g243 fa337 (by omega)
      have g397 : px_pa h325 291 50 100 rT lh236 := pa_fi g396 fb338 (by omega)
      have g398 : px_pa hm336 292 54 100 rK ((runO (mutJ j k) x.1).2.1) := pa_fi g244 fa337 (by omega)
      have g399 : px_pa h325 292 54 100 rK ((runO (mutJ j k) x.1).2.1) := pa_fi g398 fb338 (by omega)
      have g400 : px_pa hm336 293 50 100 rV ((runO (mutJ j k) x.1).2.1) := pa_fi g245 fa337 (by omega)
      have g401 : px_pa h325 293 50 100 rV ((runO (mutJ j k) x.1).2.1) := pa_fi g400 fb338 (by omega)
      have g402 : px_pa hm336 294 50 100 rT ((runO (mutJ j k) x.1).2.1) := pa_fi g246 fa337 (by omega)
      have g403 : px_pa h325 294 50 100 rT ((runO (mutJ j k) x.1).2.1) := pa_fi g402 fb338 (by omega)
      have g404 : px_pa hm336 295 50 30 Value.int cv237 := pa_fi g247 fa337 (by omega)
      have g405 : px_pa h325 295 50 30 Value.int cv237 := pa_fi g404 fb338 (by omega)
      have g406 : px_pa hm225 296 50 24 vN (List.range x.1.length) := pa_fi g126 fa226 (by omega)
      have g407 : px_pa h220 296 50 24 vN (List.range x.1.length) := pa_fi g406 fb227 (by omega)
      have g408 : px_pa hm336 296 50 24 vN (List.range x.1.length) := pa_fi g407 fa337 (by omega)
      have g409 : px_pa h325 296 50 24 vN (List.range x.1.length) := pa_fi g408 fb338 (by omega)
      have g410 : pKL h325 (L, nI j.length, cn) gp cb (gv.1, gv.2.1, gv.2.2.1, gv.2.2.2.1, gv.2.2.2.2.1, gv.2.2.2.2.2.1, gv.2.2.2.2.2.2.1, nI (mutAt j k).1, nI (mutAt j k).2) := ⟨(nI ((mutJ j k).length), (runO (mutJ j k) x.1).2.2.1.isSome, oI (runO (mutJ j k) x.1).2.2.1, (runO (mutJ j k) x.1).2.2.2, la231, lb232, cb), (nI 0, nI (((runO (mutJ j k) x.1).2.1).length)), gw233, (nI ((List.range x.1.length).length), nI (((runO (mutJ j k) x.1).2.1).length), nI x.2.1.length), _, _, _, _, _, _, _, _, _, g328, g379, g383, g387, g389, g391, g393, g395, g397, g399, g401, g403, g405, g409, g329, g330, g331, g332, g333, g334, ⟨hO2.1, hO2.2.1, hO2.2.2.1⟩⟩
      first | (exfalso; omega) | exact ⟨congrArg (fun z => some (Value.int z)) (b1 (by unfold killB; exact decide_eq_true ⟨by rw [hvd]; exact c_11, by rw [hvd2]; exact c_36⟩)), g410, fr340⟩
  · skip
    have c_11 : vdB x.2.2 ((runO j x.1).2.2.1.isSome) ((runO j x.1).2.1) x.2.1 ≠ 1 := cv_ne c_11
    refine e_iconst (v := nI 0) f_200_14 (by decide) rfl ?_
    refine e_iret f_200_15 rfl (rfl) ?_
    have g411 : px_pa hm66 284 52 6 stS j := pa_fi g4 fa67 (by omega)
    have g412 : px_pa h55 284 52 6 stS j := pa_fi g411 fb68 (by omega)
    have g413 : px_pa hm66 285 52 6 stA j := pa_fi g5 fa67 (by omega)
    have g414 : px_pa h55 285 52 6 stA j := pa_fi g413 fb68 (by omega)
    have g415 : px_pa hm66 286 50 6 stN j := pa_fi g6 fa67 (by omega)
    have g416 : px_pa h55 286 50 6 stN j := pa_fi g415 fb68 (by omega)
    have g417 : px_pa hm66 287 50 3070 Value.int sl18 := pa_fi g23 fa67 (by omega)
    have g418 : px_pa h55 287 50 3070 Value.int sl18 := pa_fi g417 fb68 (by omega)
    have g419 : px_pa hm66 288 50 3070 Value.int sl219 := pa_fi g24 fa67 (by omega)
    have g420 : px_pa h55 288 50 3070 Value.int sl219 := pa_fi g419 fb68 (by omega)
    have g421 : px_pa hm66 289 54 100 rK lh20 := pa_fi g25 fa67 (by omega)
    have g422 : px_pa h55 289 54 100 rK lh20 := pa_fi g421 fb68 (by omega)
    have g423 : px_pa hm66 290 50 100 rV lh20 := pa_fi g26 fa67 (by omega)
    have g424 : px_pa h55 290 50 100 rV lh20 := pa_fi g423 fb68 (by omega)
    have g425 : px_pa hm66 291 50 100 rT lh20 := pa_fi g27 fa67 (by omega)
    have g426 : px_pa h55 291 50 100 rT lh20 := pa_fi g425 fb68 (by omega)
    have g427 : px_pa hm66 292 54 100 rK ((runO j x.1).2.1) := pa_fi g28 fa67 (by omega)
    have g428 : px_pa h55 292 54 100 rK ((runO j x.1).2.1) := pa_fi g427 fb68 (by omega)
    have g429 : px_pa hm66 293 50 100 rV ((runO j x.1).2.1) := pa_fi g29 fa67 (by omega)
    have g430 : px_pa h55 293 50 100 rV ((runO j x.1).2.1) := pa_fi g429 fb68 (by omega)
    have g431 : px_pa hm66 294 50 100 rT ((runO j x.1).2.1) := pa_fi g30 fa67 (by omega)
    have g432 : px_pa h55 294 50 100 rT ((runO j x.1).2.1) := pa_fi g431 fb68 (by omega)
    have g433 : px_pa hm66 295 50 30 Value.int cv21 := pa_fi g31 fa67 (by omega)
    have g434 : px_pa h55 295 50 30 Value.int cv21 := pa_fi g433 fb68 (by omega)
    have g435 : px_pa hm66 296 50 24 vN (List.range x.1.length) := pa_fi g7 fa67 (by omega)
    have g436 : px_pa h55 296 50 24 vN (List.range x.1.length) := pa_fi g435 fb68 (by omega)
    have g437 : pKL h55 (L, nI j.length, cn) gp cb (gv.1, gv.2.1, gv.2.2.1, gv.2.2.2.1, gv.2.2.2.2.1, gv.2.2.2.2.2.1, gv.2.2.2.2.2.2.1, nI (mutAt j k).1, nI (mutAt j k).2) := ⟨(nI j.length, (runO j x.1).2.2.1.isSome, oI (runO j x.1).2.2.1, (runO j x.1).2.2.2, la15, lb16, cb), (nI 0, nI (((runO j x.1).2.1).length)), gw17, (nI x.1.length, nI (((runO j x.1).2.1).length), nI x.2.1.length), _, _, _, _, _, _, _, _, _, g58, g412, g414, g416, g418, g420, g422, g424, g426, g428, g430, g432, g434, g436, g59, g60, g61, g62, g63, g64, ⟨hO.1, hO.2.1, hO.2.2.1⟩⟩
    first | (exfalso; omega) | exact ⟨congrArg (fun z => some (Value.int z)) (b0 (by unfold killB; exact decide_eq_false (fun z => c_11 (by rw [← hvd]; exact z.1)))), g437, fr70⟩
