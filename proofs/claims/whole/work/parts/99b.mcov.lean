theorem tl0_of {y : List Int32} (h : y.length = 30) (hz : ∀ q, q < 30 → y.getD q 0 = nI 0) : y = tl0 := by
  refine List.ext_getElem (by rw [h]; rfl) (fun i h1 h2 => ?_)
  have := hz i (by omega)
  rw [getD_lt 0 h1] at this
  rw [this]
  exact (List.getElem_replicate (by simpa [tl0] using h2)).symm
theorem covL_s {j : List St} {xs : List CS3} {c : Nat} {tl : List Int32} (h : c < xs.length) : covL j (xs.drop c) tl = covL j (xs.drop (c + 1)) (runS j (xs.getD c c30).1 tl).1.2.2.2.1 := by
  rw [drop_step c30 h]
  rfl

set_option maxRecDepth 20000 in
set_option maxHeartbeats 4000000 in
theorem ll_Md_cov0 {P : px_H → Option Value → Prop} {h0 : px_H} {s w : Int32} {ga : gA} {gp : gP} {gq : gQ} {gh : gH} {gw : gW} {gu : gU} {gv : gV} (HM : h0.2.2 269 = some (12, mB ga gp gq gh gw gu gv)) (kx : ∀ g, px_pa g 295 50 30 Value.int tl0 → px_fi 295 1 h0 g → px_to 193 46 [some (.ref (269)), some (.int (s)), some (.int (w)), none] [] g P) : ∀ (d : Nat) (i : Nat) (y : List Int32) (g : px_H), (30 ≤ i + d) → (i ≤ 30) → (y.length = 30) → (∀ q, q < i → y.getD q 0 = nI 0) → px_pa g 295 50 30 Value.int y → px_fi 295 1 h0 g → px_to 193 27 [some (.ref (269)), some (.int (s)), some (.int (w)), some (.int (nI i))] [] g P := by
  intro d
  induction d using Nat.strongRecOn with
  | ind d ih =>
    intro i y g q0 q1 q2 q3 G0 frg
    refine e_iload_n f_193_27 rfl rfl ?_
    refine e_bipush (v := nI 30) f_193_28 (by decide) rfl ?_
    refine e_icmp_ge f_193_30 rfl (fun c_30 => ?_) (fun c_30 => ?_)
    · skip
      have c_30 : 30 ≤ i := cv_le (by omega) (by omega) c_30
      refine px_to_L (L := [some (.ref (269)), some (.int (s)), some (.int (w)), none]) ⟨Or.inr rfl, Or.inr rfl, Or.inr rfl, Or.inl rfl, trivial⟩ ?_
      have ey := tl0_of q2 (fun q hq => q3 q (by omega))
      subst ey
      exact kx g G0 frg
    · skip
      have c_30 : i < 30 := cv_nle (by omega) (by omega) c_30
      refine e_aload_n f_193_33 rfl rfl ?_
      have g1 : g.2.2 269 = some (12, mB ga gp gq gh gw gu gv) := fi_at HM frg (by omega)
      refine e_getf f_193_34 g1 rfl rfl ?_
      refine e_iload_n f_193_37 rfl rfl ?_
      refine e_iconst (v := nI 0) f_193_38 (by decide) rfl ?_
      refine e_iastore_p (xs := y) (x := nI 0) f_193_39 G0 (by omega) (by first | omega | (simp only [List.length_set]; omega)) (rfl) rfl (fun h2 g3 fx4 => ?_)
      have fr5 : px_fi 295 1 h0 h2 := fi_tr frg fx4 (by omega)
      refine e_iinc (y := nI (i + 1)) (L' := [some (.ref (269)), some (.int (s)), some (.int (w)), some (.int (nI (i + 1)))]) f_193_40 rfl (by rw [show Int32.ofInt 1 = nI 1 by decide]; exact (nI_add _ _)) rfl rfl ?_
      refine e_goto f_193_43 ?_
      first | (exfalso; omega) | exact ih (d - 1) (by omega) (i + 1) (y.set i (nI 0)) h2 (by omega) (by omega) (by rw [List.length_set]; exact q2) (fun q hq => by
        rcases Nat.lt_or_ge q i with z | z
        · rw [getD_set_ne (by omega)]; exact q3 q z
        · rw [show q = i by omega]; exact getD_set_same (by omega)) g3 fr5

def pCL (h : px_H) (L : Int32) (j : List St) (cn : Int32) (gp : gP) : Prop := ∃ (gq : gQ) (gh : gH) (gw : gW) (gu : gU) (gv : gV) (jn : List St) (sl : List Int32) (sl2 : List Int32) (lh : List Row) (lg : List Row) (pl : List Nat), h.2.2 269 = some (12, mB (L, nI j.length, cn) gp (gq.1, gq.2.1, gq.2.2.1, gq.2.2.2.1, gq.2.2.2.2.1, gq.2.2.2.2.2.1, true) gh gw gu gv) ∧ px_pa h 284 52 6 stS jn ∧ px_pa h 285 52 6 stA jn ∧ px_pa h 286 50 6 stN jn ∧ px_pa h 287 50 3070 Value.int sl ∧ px_pa h 288 50 3070 Value.int sl2 ∧ px_pa h 289 54 100 rK lh ∧ px_pa h 290 50 100 rV lh ∧ px_pa h 291 50 100 rT lh ∧ px_pa h 292 54 100 rK lg ∧ px_pa h 293 50 100 rV lg ∧ px_pa h 294 50 100 rT lg ∧ px_pa h 296 50 24 vN pl ∧ (sl.length = 3070 ∧ sl2.length = 3070)

theorem pCL_fi {h h1 : px_H} {L : Int32} {j : List St} {cn : Int32} {gp : gP} {lo n : Nat} (q : pCL h L j cn gp) (f : px_fi lo n h h1) (d : 297 ≤ lo ∨ lo + n ≤ 269 ∨ (270 ≤ lo ∧ lo + n ≤ 284) ∨ (295 ≤ lo ∧ lo + n ≤ 296)) : pCL h1 L j cn gp := by
  obtain ⟨gq, gh, gw, gu, gv, jn, sl, sl2, lh, lg, pl, z1, z2, z3, z4, z5, z6, z7, z8, z9, z10, z11, z12, z13, y⟩ := q
  exact ⟨gq, gh, gw, gu, gv, jn, sl, sl2, lh, lg, pl, fi_at z1 f (by omega), pa_fi z2 f (by omega), pa_fi z3 f (by omega), pa_fi z4 f (by omega), pa_fi z5 f (by omega), pa_fi z6 f (by omega), pa_fi z7 f (by omega), pa_fi z8 f (by omega), pa_fi z9 f (by omega), pa_fi z10 f (by omega), pa_fi z11 f (by omega), pa_fi z12 f (by omega), pa_fi z13 f (by omega), y⟩

set_option maxRecDepth 20000 in
set_option maxHeartbeats 4000000 in
theorem ll_Md_cov1 {P : px_H → Option Value → Prop} {h0 : px_H} {s w L : Int32} {j : List St} {xs : List CS3} {gp : gP} {em : List Nat} {es : List Ev} {om : List Nat} {ro : List Row} {wn : List Nat} {y : List Int32}  (K0 : px_pa h0 271 52 6 stS j) (K1 : px_pa h0 272 52 6 stA j) (K2 : px_pa h0 273 50 6 stN j) (K3 : px_pa h0 274 50 8 vN em) (K4 : px_pa h0 275 52 192 evS es) (K5 : px_pa h0 276 54 192 evK es) (K6 : px_pa h0 277 53 192 evV es) (K7 : px_pa h0 278 53 192 evT es) (hj : okZ j) (h8 : xs.length ≤ 8) (hxs : ∀ x ∈ xs, okC3 x) (hA : okA xs em es om ro wn) (kx : ∀ g, pCL g L j (nI xs.length) gp → px_pa g 295 50 30 Value.int y → px_fj 269 1 284 13 h0 g → px_to 193 72 [some (.ref (269)), some (.int (s)), some (.int (w)), none] [] g P) : ∀ (d : Nat) (c : Nat) (tl : List Int32) (g : px_H), (xs.length ≤ c + d) → (c ≤ xs.length) → (covL j (xs.drop c) tl = y) → (tl.length = 30) → pCL g L j (nI xs.length) gp → px_pa g 295 50 30 Value.int tl → px_fj 269 1 284 13 h0 g → px_to 193 53 [some (.ref (269)), some (.int (s)), some (.int (w)), some (.int (nI c))] [] g P := by
  intro d
  induction d using Nat.strongRecOn with
  | ind d ih =>
    intro c tl g q0 q1 q2 q3 G0 G1 frg
    have h6 := hj.1.1
    refine e_iload_n f_193_53 rfl rfl ?_
    refine e_aload_n f_193_54 rfl rfl ?_
    obtain ⟨gq1, gh2, gw3, gu4, gv5, jn6, sl7, sl28, lh9, lg10, pl11, g12, g13, g14, g15, g16, g17, g18, g19, g20, g21, g22, g23, g24, hC25⟩ := id G0
    refine e_getf f_193_55 g12 rfl rfl ?_
    show px_to 193 58 [some (.ref (269)), some (.int (s)), some (.int (w)), some (.int (nI c))] [.int (nI xs.length), .int (nI c)] g _
    refine e_icmp_ge f_193_58 rfl (fun c_58 => ?_) (fun c_58 => ?_)
    · skip
      have c_58 : xs.length ≤ c := cv_le (by omega) (by omega) c_58
      have g26 : pCL g L j (nI xs.length) gp := ⟨(gq1.1, gq1.2.1, gq1.2.2.1, gq1.2.2.2.1, gq1.2.2.2.2.1, gq1.2.2.2.2.2.1, true), gh2, gw3, gu4, gv5, _, _, _, _, _, _, g12, g13, g14, g15, g16, g17, g18, g19, g20, g21, g22, g23, g24, hC25⟩
      refine px_to_L (L := [some (.ref (269)), some (.int (s)), some (.int (w)), none]) ⟨Or.inr rfl, Or.inr rfl, Or.inr rfl, Or.inl rfl, trivial⟩ ?_
      have ey : y = tl := by rw [← q2, List.drop_eq_nil_of_le (by omega)]; rfl
      rw [ey] at kx
      exact kx g g26 G1 frg
    · skip
      have c_58 : c < xs.length := cv_nle (by omega) (by omega) c_58
      have hC := hC25
      obtain ⟨hA1, hA2, hA3, hA4, hA5⟩ := hA.2 c (by omega)
      have hcx : okC3 (xs.getD c c30) := hxs _ (getD_mem _ (by omega))
      refine e_aload_n f_193_61 rfl rfl ?_
      refine e_iload_n f_193_62 rfl rfl ?_
      obtain ⟨hm28, fa29, fb30⟩ := fj_mid frg
      have g27 : px_pa g 271 52 6 stS j := pa_fi (pa_fi K0 fa29 (by omega)) fb30 (by omega)
      obtain ⟨hm32, fa33, fb34⟩ := fj_mid frg
      have g31 : px_pa g 272 52 6 stA j := pa_fi (pa_fi K1 fa33 (by omega)) fb34 (by omega)
      obtain ⟨hm36, fa37, fb38⟩ := fj_mid frg
      have g35 : px_pa g 273 50 6 stN j := pa_fi (pa_fi K2 fa37 (by omega)) fb38 (by omega)
      obtain ⟨hm40, fa41, fb42⟩ := fj_mid frg
      have g39 : px_pa g 274 50 8 vN em := pa_fi (pa_fi K3 fa41 (by omega)) fb42 (by omega)
      obtain ⟨hm44, fa45, fb46⟩ := fj_mid frg
      have g43 : px_pa g 275 52 192 evS es := pa_fi (pa_fi K4 fa45 (by omega)) fb46 (by omega)
      obtain ⟨hm48, fa49, fb50⟩ := fj_mid frg
      have g47 : px_pa g 276 54 192 evK es := pa_fi (pa_fi K5 fa49 (by omega)) fb50 (by omega)
      obtain ⟨hm52, fa53, fb54⟩ := fj_mid frg
      have g51 : px_pa g 277 53 192 evV es := pa_fi (pa_fi K6 fa53 (by omega)) fb54 (by omega)
      obtain ⟨hm56, fa57, fb58⟩ := fj_mid frg
      have g55 : px_pa g 278 53 192 evT es := pa_fi (pa_fi K7 fa57 (by omega)) fb58 (by omega)
      refine e_callV (As := [.int (nI c)]) (rest := []) f_193_63 rfl rfl rfl (Nat.le_of_ble_eq_true rfl) (Nat.le_of_ble_eq_true rfl) g12 rfl (Nat.le_of_ble_eq_true rfl) (cc_Md_pla (c := c) (ev := (xs.getD c c30).1) (em := em) (es := es) (pl := pl11) (L := L) (cn := nI xs.length) (j := j) (jn := jn6) (cb := true) (sl := sl7) (sl2 := sl28) (lh := lh9) (lg := lg10) (cv := tl) (tl := tl) (gp := gp) (gq := (gq1.1, gq1.2.1, gq1.2.2.1, gq1.2.2.2.1, gq1.2.2.2.2.1, gq1.2.2.2.2.2.1, true)) (gh := gh2) (gw := gw3) (gu := gu4) (gv := gv5) g12 g27 g31 g35 g13 g14 g15 g16 g17 g18 g19 g20 g21 g22 g23 G1 g24 g39 g43 g47 g51 g55 (hj) (⟨hC.1, hC.2, q3⟩) (by omega) (⟨hA.1.1, hA.1.2.1⟩) (hA2) (hcx.1) (hcx.2.1) (hA1) (⟨q3, fun _ => rfl⟩)) rfl (fun h59 r60 q61 => ?_)
      obtain ⟨rfl, g62, g63, g64, g65, g66, fx67⟩ := q61
      obtain ⟨hm68, fa69, fb70⟩ := fj_mid fx67
      have fr71 : px_fj 269 1 284 13 h0 hm68 := fj_tr frg fa69 (by omega)
      have fr72 : px_fj 269 1 284 13 h0 h59 := fj_tr fr71 fb70 (by omega)
      show px_to 193 66 [some (.ref (269)), some (.int (s)), some (.int (w)), some (.int (nI c))] [] h59 _
      refine e_iinc (y := nI (c + 1)) (L' := [some (.ref (269)), some (.int (s)), some (.int (w)), some (.int (nI (c + 1)))]) f_193_66 rfl (by rw [show Int32.ofInt 1 = nI 1 by decide]; exact (nI_add _ _)) rfl rfl ?_
      refine e_goto f_193_69 ?_
      obtain ⟨la73, lb74, gw75, sl76, sl277, lh78, cv79, g80, g81, g82, g83, g84, g85, g86, g87, g88, g89, hO90⟩ := id g66
      have hO := hO90
      have ecv := hO.2.2.2.2 rfl
      have hol := hO.2.2.1
      rw [ecv] at hol
      have g91 : px_pa h59 295 50 30 Value.int ((runS j (xs.getD c c30).1 tl).1.2.2.2.1) := pa_eq g89 (ecv)
      have g92 : pCL h59 L j (nI xs.length) gp := ⟨(nI j.length, (runO j ((xs.getD c c30).1)).2.2.1.isSome, oI (runO j ((xs.getD c c30).1)).2.2.1, (runO j ((xs.getD c c30).1)).2.2.2, la73, lb74, true), (nI 0, nI ((runO j ((xs.getD c c30).1)).2.1.length)), gw75, (nI ((xs.getD c c30).1).length, gu4.2.1, gu4.2.2), gv5, _, _, _, _, _, _, g80, g62, g63, g64, g81, g82, g83, g84, g85, g86, g87, g88, g65, ⟨hO.1, hO.2.1⟩⟩
      first | (exfalso; omega) | exact ih (d - 1) (by omega) (c + 1) ((runS j (xs.getD c c30).1 tl).1.2.2.2.1) h59 (by omega) (by omega) (by rw [← q2, covL_s (show c < xs.length by omega)]) (hol) g92 g91 fr72

set_option maxRecDepth 20000 in
set_option maxHeartbeats 4000000 in
theorem cc_MD_cov {h : px_H} {tx : List Nat} {j : List St} {xs : List CS3} {s : Int32} {w : Int32} (H0 : pMD h tx j xs) (p0 : tN j ≤ 2) : px_wp 193 [.ref (269), .int (s), .int (w)] h (fun h1 r => r = some (.int (aCov j xs s w)) ∧ pMD h1 tx j xs ∧ px_fi 269 35 h h1) := by
  have fr0 : px_fi 269 35 h h := fi_rf _ _ _
  show px_to 193 0 [some (.ref (269)), some (.int (s)), some (.int (w)), none] [] h _
  obtain ⟨gp, gq, gh, gw, gu, gv, jn, sl, sl2, lh, lg, lo, lt, cv, pl, ke, g1, g2, g3, g4, g5, g6, g7, g8, g9, g10, g11, g12, g13, g14, g15, g16, g17, g18, g19, g20, g21, g22, g23, g24, g25, g26, ok⟩ := id H0
  have h8 : xs.length ≤ 8 := ok.2.2.1.1
  have hj6 : j.length ≤ 6 := ok.2.1.1.1
  have htl : tx.length ≤ 500 := pa_len g2
  refine e_iload_n f_193_0 rfl rfl ?_
  refine e_iconst (v := nI 0) f_193_1 (by decide) rfl ?_
  refine e_aload_n f_193_2 rfl rfl ?_
  refine e_getf f_193_3 g1 rfl rfl ?_
  show px_to 193 6 [some (.ref (269)), some (.int (s)), some (.int (w)), none] [.int (nI j.length), .int (nI 0), .int (s)] h _
  refine e_iconst (v := nI 1) f_193_6 (by decide) rfl ?_
  refine e_isub (z := (nI j.length) - (nI 1)) f_193_7 rfl rfl ?_
  refine e_callS (As := [.int (s), .int (nI 0), .int ((nI j.length) - (nI 1))]) (rest := []) f_193_8 rfl rfl rfl (Nat.le_of_ble_eq_true rfl) (Nat.le_of_ble_eq_true rfl) (cc_Md_in (v := s) (lo := nI 0) (hi := (nI j.length) - (nI 1))  ) rfl (fun h27 r28 q29 => ?_)
  obtain ⟨rfl, qe⟩ := q29
  have qe := qe.symm
  subst qe
  show px_to 193 11 [some (.ref (269)), some (.int (s)), some (.int (w)), none] [.int (bI (decide (nI 0 ≤ s ∧ s ≤ (nI j.length) - (nI 1))))] h _
  refine e_if_eq f_193_11 rfl (fun c_11 => ?_) (fun c_11 => ?_)
  · skip
    have c_11 : (decide (nI 0 ≤ s ∧ s ≤ (nI j.length) - (nI 1))) = false := bI_f c_11
    have cs : hasC s j.length = false := by rw [← in_hasC (by omega)]; exact c_11
    refine e_iconst (v := (-1)) f_193_23 (by decide) rfl ?_
    refine e_iret f_193_24 rfl (rfl) ?_
    have g30 : pMD h tx j xs := ⟨gp, gq, gh, gw, gu, gv, jn, sl, sl2, lh, lg, lo, lt, cv, pl, ke, g1, g2, g3, g4, g5, g6, g7, g8, g9, g10, g11, g12, g13, g14, g15, g16, g17, g18, g19, g20, g21, g22, g23, g24, g25, g26, ok⟩
    exact ⟨congrArg (fun z => some (Value.int z)) (show (-1) = _ from by unfold aCov; rw [if_neg (fun z => absurd z.1 (by rw [cs]; decide))]), g30, fr0⟩
  · skip
    have c_11 : (decide (nI 0 ≤ s ∧ s ≤ (nI j.length) - (nI 1))) = true := bI_t' c_11
    have cs : hasC s j.length = true := by rw [← in_hasC (by omega)]; exact c_11
    refine e_iload_n f_193_14 rfl rfl ?_
    refine e_iconst (v := nI 0) f_193_15 (by decide) rfl ?_
    refine e_iconst (v := nI 4) f_193_16 (by decide) rfl ?_
    refine e_callS (As := [.int (w), .int (nI 0), .int (nI 4)]) (rest := []) f_193_17 rfl rfl rfl (Nat.le_of_ble_eq_true rfl) (Nat.le_of_ble_eq_true rfl) (cc_Md_in (v := w) (lo := nI 0) (hi := nI 4)  ) rfl (fun h31 r32 q33 => ?_)
    obtain ⟨rfl, qe⟩ := q33
    have qe := qe.symm
    subst qe
    show px_to 193 20 [some (.ref (269)), some (.int (s)), some (.int (w)), none] [.int (bI (decide (nI 0 ≤ w ∧ w ≤ nI 4)))] h _
    refine e_if_ne f_193_20 rfl (fun c_20 => ?_) (fun c_20 => ?_)
    · skip
      have c_20 : (decide (nI 0 ≤ w ∧ w ≤ nI 4)) = true := bI_t c_20
      have cw : hasC w 5 = true := by rw [← in4]; exact c_20
      refine e_iconst (v := nI 0) f_193_25 (by decide) rfl ?_
      refine e_istore_n (L' := [some (.ref (269)), some (.int (s)), some (.int (w)), some (.int (nI 0))]) f_193_26 (Nat.le_of_ble_eq_true rfl) rfl rfl ?_
      refine ll_Md_cov0 (h0 := h) g1 (fun hG1 z0 zf => ?_) 30 0 cv h (by omega) (by omega) ok.2.2.2.1.2.2 (fun q hq => absurd hq (Nat.not_lt_zero _)) g18 (fi_rf _ _ _)
      have fr34 : px_fi 269 35 h hG1 := fi_tr fr0 zf (by omega)
      refine e_aload_n f_193_46 rfl rfl ?_
      refine e_iconst (v := nI 1) f_193_47 (by decide) rfl ?_
      have g35 : hG1.2.2 269 = some (12, mB (nI tx.length, nI j.length, nI xs.length) gp gq gh gw gu gv) := fi_at g1 zf (by omega)
      refine e_putp (vs' := mB (nI tx.length, nI j.length, nI xs.length) gp (gq.1, gq.2.1, gq.2.2.1, gq.2.2.2.1, gq.2.2.2.2.1, gq.2.2.2.2.2.1, true) gh gw gu gv) f_193_48 g35 (Nat.le_of_ble_eq_true rfl) (rfl) (rfl) rfl rfl (fun h36 g37 fx38 => ?_)
      have fr39 : px_fi 269 35 h h36 := fi_tr fr34 fx38 (by omega)
      refine e_iconst (v := nI 0) f_193_51 (by decide) rfl ?_
      refine e_istore_n (L' := [some (.ref (269)), some (.int (s)), some (.int (w)), some (.int (nI 0))]) f_193_52 (Nat.le_of_ble_eq_true rfl) rfl rfl ?_
      have g45 : pMA hG1 xs := pMA_fi g6 zf (by omega)
      have g46 : pMA h36 xs := pMA_fi g45 fx38 (by omega)
      obtain ⟨em40, es41, om42, ro43, wn44, g47, g48, g49, g50, g51, g52, g53, g54, g55, g56, hA57⟩ := id g46
      have g58 : px_pa hG1 284 52 6 stS jn := pa_fi g7 zf (by omega)
      have g59 : px_pa h36 284 52 6 stS jn := pa_fi g58 fx38 (by omega)
      have g60 : px_pa hG1 285 52 6 stA jn := pa_fi g8 zf (by omega)
      have g61 : px_pa h36 285 52 6 stA jn := pa_fi g60 fx38 (by omega)
      have g62 : px_pa hG1 286 50 6 stN jn := pa_fi g9 zf (by omega)
      have g63 : px_pa h36 286 50 6 stN jn := pa_fi g62 fx38 (by omega)
      have g64 : px_pa hG1 287 50 3070 Value.int sl := pa_fi g10 zf (by omega)
      have g65 : px_pa h36 287 50 3070 Value.int sl := pa_fi g64 fx38 (by omega)
      have g66 : px_pa hG1 288 50 3070 Value.int sl2 := pa_fi g11 zf (by omega)
      have g67 : px_pa h36 288 50 3070 Value.int sl2 := pa_fi g66 fx38 (by omega)
      have g68 : px_pa hG1 289 54 100 rK lh := pa_fi g12 zf (by omega)
      have g69 : px_pa h36 289 54 100 rK lh := pa_fi g68 fx38 (by omega)
      have g70 : px_pa hG1 290 50 100 rV lh := pa_fi g13 zf (by omega)
      have g71 : px_pa h36 290 50 100 rV lh := pa_fi g70 fx38 (by omega)
      have g72 : px_pa hG1 291 50 100 rT lh := pa_fi g14 zf (by omega)
      have g73 : px_pa h36 291 50 100 rT lh := pa_fi g72 fx38 (by omega)
      have g74 : px_pa hG1 292 54 100 rK lg := pa_fi g15 zf (by omega)
      have g75 : px_pa h36 292 54 100 rK lg := pa_fi g74 fx38 (by omega)
      have g76 : px_pa hG1 293 50 100 rV lg := pa_fi g16 zf (by omega)
      have g77 : px_pa h36 293 50 100 rV lg := pa_fi g76 fx38 (by omega)
      have g78 : px_pa hG1 294 50 100 rT lg := pa_fi g17 zf (by omega)
      have g79 : px_pa h36 294 50 100 rT lg := pa_fi g78 fx38 (by omega)
      have g80 : px_pa hG1 296 50 24 vN pl := pa_fi g19 zf (by omega)
      have g81 : px_pa h36 296 50 24 vN pl := pa_fi g80 fx38 (by omega)
      have g82 : pCL h36 (nI tx.length) j (nI xs.length) gp := ⟨(gq.1, gq.2.1, gq.2.2.1, gq.2.2.2.1, gq.2.2.2.2.1, gq.2.2.2.2.2.1, true), gh, gw, gu, gv, _, _, _, _, _, _, g37, g59, g61, g63, g65, g67, g69, g71, g73, g75, g77, g79, g81, ⟨ok.2.2.2.1.1, ok.2.2.2.1.2.1⟩⟩
      have g83 : px_pa h36 295 50 30 Value.int tl0 := pa_fi z0 fx38 (by omega)
      have g84 : px_pa hG1 271 52 6 stS j := pa_fi g3 zf (by omega)
      have g85 : px_pa h36 271 52 6 stS j := pa_fi g84 fx38 (by omega)
      have g86 : px_pa hG1 272 52 6 stA j := pa_fi g4 zf (by omega)
      have g87 : px_pa h36 272 52 6 stA j := pa_fi g86 fx38 (by omega)
      have g88 : px_pa hG1 273 50 6 stN j := pa_fi g5 zf (by omega)
      have g89 : px_pa h36 273 50 6 stN j := pa_fi g88 fx38 (by omega)
      refine ll_Md_cov1 (h0 := h36) (y := covL j xs tl0) g85 g87 g89 g47 g48 g49 g50 g51 (okB_okZ ok.2.1 p0) h8 ok.2.2.1.2 hA57 (fun hG2 y0 y1 yf => ?_) xs.length 0 tl0 h36 (by omega) (Nat.zero_le _) rfl rfl g82 g83 (fj_rf _ _ _ _ _)
      obtain ⟨hm2, fa2, fb2⟩ := fj_mid yf
      have fr90 : px_fi 269 35 h hm2 := fi_tr fr39 fa2 (by omega)
      have fr91 : px_fi 269 35 h hG2 := fi_tr fr90 fb2 (by omega)
      obtain ⟨gq92, gh93, gw94, gu95, gv96, jn97, sl98, sl299, lh100, lg101, pl102, g103, g104, g105, g106, g107, g108, g109, g110, g111, g112, g113, g114, g115, hC116⟩ := id y0
      have hC := hC116
      have hcl := pa_len y1
      have hcl30 : (covL j xs tl0).length = 30 := covL_len ok.2.1.1 xs tl0 ok.2.2.1.2 rfl
      obtain ⟨ks, hks, hksc⟩ := hasC_t (by omega) cs
      subst hksc
      obtain ⟨kw, hkw, hkwc⟩ := hasC_t (by omega) cw
      subst hkwc
      refine e_aload_n f_193_72 rfl rfl ?_
      refine e_iconst (v := nI 0) f_193_73 (by decide) rfl ?_
      refine e_putp (vs' := mB (nI tx.length, nI j.length, nI xs.length) gp (gq92.1, gq92.2.1, gq92.2.2.1, gq92.2.2.2.1, gq92.2.2.2.2.1, gq92.2.2.2.2.2.1, false) gh93 gw94 gu95 gv96) f_193_74 g103 (Nat.le_of_ble_eq_true rfl) (rfl) (rfl) rfl rfl (fun h117 g118 fx119 => ?_)
      have fr120 : px_fi 269 35 h h117 := fi_tr fr91 fx119 (by omega)
      refine e_aload_n f_193_77 rfl rfl ?_
      refine e_getf f_193_78 g118 rfl rfl ?_
      refine e_iconst (v := nI 5) f_193_81 (by decide) rfl ?_
      refine e_iload_n f_193_82 rfl rfl ?_
      refine e_imul (z := nI (5 * ks)) f_193_83 (pk_mul _ _) rfl ?_
      refine e_iload_n f_193_84 rfl rfl ?_
      refine e_iadd (z := nI (5 * ks + kw)) f_193_85 (nI_add _ _) rfl ?_
      have g121 : px_pa h117 295 50 30 Value.int (covL j xs tl0) := pa_fi y1 fx119 (by omega)
      refine e_iaload_p (xs := covL j xs tl0) f_193_86 g121 (d := 0) (by first | omega | (simp only [List.length_set]; omega)) rfl ?_
      show px_to 193 87 [some (.ref (269)), some (.int (nI ks)), some (.int (nI kw)), none] [.int ((covL j xs tl0).getD (5 * ks + kw) 0)] h117 _
      refine e_iret f_193_87 rfl (rfl) ?_
      have g122 : px_pa hm2 274 50 8 vN em40 := pa_fi g47 fa2 (by omega)
      have g123 : px_pa hG2 274 50 8 vN em40 := pa_fi g122 fb2 (by omega)
      have g124 : px_pa h117 274 50 8 vN em40 := pa_fi g123 fx119 (by omega)
      have g125 : px_pa hm2 275 52 192 evS es41 := pa_fi g48 fa2 (by omega)
      have g126 : px_pa hG2 275 52 192 evS es41 := pa_fi g125 fb2 (by omega)
      have g127 : px_pa h117 275 52 192 evS es41 := pa_fi g126 fx119 (by omega)
      have g128 : px_pa hm2 276 54 192 evK es41 := pa_fi g49 fa2 (by omega)
      have g129 : px_pa hG2 276 54 192 evK es41 := pa_fi g128 fb2 (by omega)
      have g130 : px_pa h117 276 54 192 evK es41 := pa_fi g129 fx119 (by omega)
      have g131 : px_pa hm2 277 53 192 evV es41 := pa_fi g50 fa2 (by omega)
      have g132 : px_pa hG2 277 53 192 evV es41 := pa_fi g131 fb2 (by omega)
      have g133 : px_pa h117 277 53 192 evV es41 := pa_fi g132 fx119 (by omega)
      have g134 : px_pa hm2 278 53 192 evT es41 := pa_fi g51 fa2 (by omega)
      have g135 : px_pa hG2 278 53 192 evT es41 := pa_fi g134 fb2 (by omega)
      have g136 : px_pa h117 278 53 192 evT es41 := pa_fi g135 fx119 (by omega)
      have g137 : px_pa hm2 279 50 8 vN om42 := pa_fi g52 fa2 (by omega)
      have g138 : px_pa hG2 279 50 8 vN om42 := pa_fi g137 fb2 (by omega)
      have g139 : px_pa h117 279 50 8 vN om42 := pa_fi g138 fx119 (by omega)
      have g140 : px_pa hm2 280 54 128 rK ro43 := pa_fi g53 fa2 (by omega)
      have g141 : px_pa hG2 280 54 128 rK ro43 := pa_fi g140 fb2 (by omega)
      have g142 : px_pa h117 280 54 128 rK ro43 := pa_fi g141 fx119 (by omega)
      have g143 : px_pa hm2 281 53 128 rV ro43 := pa_fi g54 fa2 (by omega)
      have g144 : px_pa hG2 281 53 128 rV ro43 := pa_fi g143 fb2 (by omega)
      have g145 : px_pa h117 281 53 128 rV ro43 := pa_fi g144 fx119 (by omega)
      have g146 : px_pa hm2 282 53 128 rT ro43 := pa_fi g55 fa2 (by omega)
      have g147 : px_pa hG2 282 53 128 rT ro43 := pa_fi g146 fb2 (by omega)
      have g148 : px_pa h117 282 53 128 rT ro43 := pa_fi g147 fx119 (by omega)
      have g149 : px_pa hm2 283 52 8 vN wn44 := pa_fi g56 fa2 (by omega)
      have g150 : px_pa hG2 283 52 8 vN wn44 := pa_fi g149 fb2 (by omega)
      have g151 : px_pa h117 283 52 8 vN wn44 := pa_fi g150 fx119 (by omega)
      have g152 : pMA h117 xs := ⟨_, _, _, _, _, g124, g127, g130, g133, g136, g139, g142, g145, g148, g151, hA57⟩
      have g153 : px_pa hG1 270 52 500 vN tx := pa_fi g2 zf (by omega)
      have g154 : px_pa h36 270 52 500 vN tx := pa_fi g153 fx38 (by omega)
      have g155 : px_pa hm2 270 52 500 vN tx := pa_fi g154 fa2 (by omega)
      have g156 : px_pa hG2 270 52 500 vN tx := pa_fi g155 fb2 (by omega)
      have g157 : px_pa h117 270 52 500 vN tx := pa_fi g156 fx119 (by omega)
      have g158 : px_pa hm2 271 52 6 stS j := pa_fi g85 fa2 (by omega)
      have g159 : px_pa hG2 271 52 6 stS j := pa_fi g158 fb2 (by omega)
      have g160 : px_pa h117 271 52 6 stS j := pa_fi g159 fx119 (by omega)
      have g161 : px_pa hm2 272 52 6 stA j := pa_fi g87 fa2 (by omega)
      have g162 : px_pa hG2 272 52 6 stA j := pa_fi g161 fb2 (by omega)
      have g163 : px_pa h117 272 52 6 stA j := pa_fi g162 fx119 (by omega)
      have g164 : px_pa hm2 273 50 6 stN j := pa_fi g89 fa2 (by omega)
      have g165 : px_pa hG2 273 50 6 stN j := pa_fi g164 fb2 (by omega)
      have g166 : px_pa h117 273 50 6 stN j := pa_fi g165 fx119 (by omega)
      have g167 : px_pa h117 284 52 6 stS jn97 := pa_fi g104 fx119 (by omega)
      have g168 : px_pa h117 285 52 6 stA jn97 := pa_fi g105 fx119 (by omega)
      have g169 : px_pa h117 286 50 6 stN jn97 := pa_fi g106 fx119 (by omega)
      have g170 : px_pa h117 287 50 3070 Value.int sl98 := pa_fi g107 fx119 (by omega)
      have g171 : px_pa h117 288 50 3070 Value.int sl299 := pa_fi g108 fx119 (by omega)
      have g172 : px_pa h117 289 54 100 rK lh100 := pa_fi g109 fx119 (by omega)
      have g173 : px_pa h117 290 50 100 rV lh100 := pa_fi g110 fx119 (by omega)
      have g174 : px_pa h117 291 50 100 rT lh100 := pa_fi g111 fx119 (by omega)
      have g175 : px_pa h117 292 54 100 rK lg101 := pa_fi g112 fx119 (by omega)
      have g176 : px_pa h117 293 50 100 rV lg101 := pa_fi g113 fx119 (by omega)
      have g177 : px_pa h117 294 50 100 rT lg101 := pa_fi g114 fx119 (by omega)
      have g178 : px_pa h117 296 50 24 vN pl102 := pa_fi g115 fx119 (by omega)
      have g179 : px_pa hG1 297 54 100 rK lo := pa_fi g20 zf (by omega)
      have g180 : px_pa h36 297 54 100 rK lo := pa_fi g179 fx38 (by omega)
      have g181 : px_pa hm2 297 54 100 rK lo := pa_fi g180 fa2 (by omega)
      have g182 : px_pa hG2 297 54 100 rK lo := pa_fi g181 fb2 (by omega)
      have g183 : px_pa h117 297 54 100 rK lo := pa_fi g182 fx119 (by omega)
      have g184 : px_pa hG1 298 50 100 rV lo := pa_fi g21 zf (by omega)
      have g185 : px_pa h36 298 50 100 rV lo := pa_fi g184 fx38 (by omega)
      have g186 : px_pa hm2 298 50 100 rV lo := pa_fi g185 fa2 (by omega)
      have g187 : px_pa hG2 298 50 100 rV lo := pa_fi g186 fb2 (by omega)
      have g188 : px_pa h117 298 50 100 rV lo := pa_fi g187 fx119 (by omega)
      have g189 : px_pa hG1 299 50 100 rT lo := pa_fi g22 zf (by omega)
      have g190 : px_pa h36 299 50 100 rT lo := pa_fi g189 fx38 (by omega)
      have g191 : px_pa hm2 299 50 100 rT lo := pa_fi g190 fa2 (by omega)
      have g192 : px_pa hG2 299 50 100 rT lo := pa_fi g191 fb2 (by omega)
      have g193 : px_pa h117 299 50 100 rT lo := pa_fi g192 fx119 (by omega)
      have g194 : px_pa hG1 300 54 100 rK lt := pa_fi g23 zf (by omega)
      have g195 : px_pa h36 300 54 100 rK lt := pa_fi g194 fx38 (by omega)
      have g196 : px_pa hm2 300 54 100 rK lt := pa_fi g195 fa2 (by omega)
      have g197 : px_pa hG2 300 54 100 rK lt := pa_fi g196 fb2 (by omega)
      have g198 : px_pa h117 300 54 100 rK lt := pa_fi g197 fx119 (by omega)
      have g199 : px_pa hG1 301 50 100 rV lt := pa_fi g24 zf (by omega)
      have g200 : px_pa h36 301 50 100 rV lt := pa_fi g199 fx38 (by omega)
      have g201 : px_pa hm2 301 50 100 rV lt := pa_fi g200 fa2 (by omega)
      have g202 : px_pa hG2 301 50 100 rV lt := pa_fi g201 fb2 (by omega)
      have g203 : px_pa h117 301 50 100 rV lt := pa_fi g202 fx119 (by omega)
      have g204 : px_pa hG1 302 50 100 rT lt := pa_fi g25 zf (by omega)
      have g205 : px_pa h36 302 50 100 rT lt := pa_fi g204 fx38 (by omega)
      have g206 : px_pa hm2 302 50 100 rT lt := pa_fi g205 fa2 (by omega)
      have g207 : px_pa hG2 302 50 100 rT lt := pa_fi g206 fb2 (by omega)
      have g208 : px_pa h117 302 50 100 rT lt := pa_fi g207 fx119 (by omega)
      have g209 : px_pa hG1 303 50 24 vN ke := pa_fi g26 zf (by omega)
      have g210 : px_pa h36 303 50 24 vN ke := pa_fi g209 fx38 (by omega)
      have g211 : px_pa hm2 303 50 24 vN ke := pa_fi g210 fa2 (by omega)
      have g212 : px_pa hG2 303 50 24 vN ke := pa_fi g211 fb2 (by omega)
      have g213 : px_pa h117 303 50 24 vN ke := pa_fi g212 fx119 (by omega)
      have g214 : pMD h117 tx j xs := ⟨gp, (gq92.1, gq92.2.1, gq92.2.2.1, gq92.2.2.2.1, gq92.2.2.2.2.1, gq92.2.2.2.2.2.1, false), gh93, gw94, gu95, gv96, jn97, sl98, sl299, lh100, lg101, lo, lt, covL j xs tl0, pl102, ke, g118, g157, g160, g163, g166, g152, g167, g168, g169, g170, g171, g172, g173, g174, g175, g176, g177, g121, g178, g183, g188, g193, g198, g203, g208, g213, ⟨ok.1, ok.2.1, ok.2.2.1, ⟨hC.1, hC.2, hcl30⟩, rfl⟩⟩
      exact ⟨congrArg (fun z => some (Value.int z)) (show (covL j xs tl0).getD (5 * ks + kw) 0 = _ from by unfold aCov; rw [if_pos ⟨hasC_nI (by omega) hks, hasC_nI (by omega) hkw⟩, nN_nI (by omega), nN_nI (by omega), Nat.mul_comm ks 5]), g214, fr120⟩
    · skip
      have c_20 : (decide (nI 0 ≤ w ∧ w ≤ nI 4)) = false := bI_f' c_20
      have cw : hasC w 5 = false := by rw [← in4]; exact c_20
      refine e_iconst (v := (-1)) f_193_23 (by decide) rfl ?_
      refine e_iret f_193_24 rfl (rfl) ?_
      have g215 : pMD h tx j xs := ⟨gp, gq, gh, gw, gu, gv, jn, sl, sl2, lh, lg, lo, lt, cv, pl, ke, g1, g2, g3, g4, g5, g6, g7, g8, g9, g10, g11, g12, g13, g14, g15, g16, g17, g18, g19, g20, g21, g22, g23, g24, g25, g26, ok⟩
      exact ⟨congrArg (fun z => some (Value.int z)) (show (-1) = _ from by unfold aCov; rw [if_neg (fun z => absurd z.2 (by rw [cw]; decide))]), g215, fr0⟩
