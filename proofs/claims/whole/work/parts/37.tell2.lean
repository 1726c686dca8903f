theorem ringGo_none {j : List St} {k w d : Nat} {x : RX} (h : tmNext (getS x k).2.2.1 (nI w) = none) : ringGo j k w d x = x := by
  cases d with
  | zero => rfl
  | succ d => rw [ringGo, h]
theorem ringGo_z {j : List St} {k w d q : Nat} {x : RX} (h : x.2.2.2.2 = some q) : ringGo j k w d x = x := by
  cases d with
  | zero => rfl
  | succ d =>
    rw [ringGo]
    split
    · rfl
    · rw [if_neg (by rw [h]; exact fun z => nomatch z)]
theorem ringGo_s {j : List St} {k w d q t : Nat} {x : RX} (h : tmNext (getS x k).2.2.1 (nI w) = some q) (hz : x.2.2.2.2 = none) (ht : (getS x k).2.2.1.getD q 0 = nI t) (hb : t ≤ 5000) : ringGo j k w (d + 1) x = ringGo j k w d (pass j 7 (k + 1) q (nI 0) t (noted k (setS x k (smRung q (getS x k))))) := by
  rw [ringGo, h]
  dsimp only
  rw [if_pos hz, ht, nN_nI (by omega)]

set_option maxRecDepth 20000 in
set_option maxHeartbeats 4000000 in
theorem ll_Run_ring {h0 : px_H} {k w : Nat} {j : List St} {jb gv : Nat} {la lb : Bool} {dn wo : Int32} {A B W : Int32} {A3 B3 W3 S3 : Int32} {sm3 : List SM} {y : RX} (HJ : pJob h0 jb j) (p0 : okJ j) (p2 : jb + 4 ≤ 177 ∨ 249 ≤ jb) (p3 : k < j.length) (p4 : w ≤ 5000) (p5 : (j.getD k (0, 0, 0)).1 = 116) : ∀ (d : Nat) (r : Nat) (x : RX) (g : px_H), (4 < r + d) → (r ≤ 4) → (ringGo j k w (4 - r) x = y) → (okX j x) → g.2.2 177 = some (6, [.ref (jb), .ref (182), .ref (214), .ref (246), .int (nI gv), .int (bI la), .int (bI lb), .int (oI x.2.2.2.2), .int (dn), .int (wo), .ref (248)]) → g.2.2 182 = some (2, [.int (A), .int (B), .int (W), .int (x.1), .ref (183)]) → px_rs g 183 55 6 (fun k => 182 + 5 * k + 2) → pSt g 182 x.2.1 → pRows g 246 96 x.2.2.1 → px_pa g 248 50 30 Value.int x.2.2.2.1 → pMm g 214 A3 B3 W3 S3 sm3 → px_fi 177 72 h0 g → px_to 54 20 [some (.ref (177)), some (.int (nI k)), some (.int (nI w)), some (.ref (182 + 5 * k + 2)), some (.int (oI (tmNext (getS x k).2.2.1 (nI w)))), some (.int (nI r)), none] [] g (fun h1 r => r = none ∧ h1.2.2 177 = some (6, [.ref (jb), .ref (182), .ref (214), .ref (246), .int (nI gv), .int (bI la), .int (bI lb), .int (oI y.2.2.2.2), .int (dn), .int (wo), .ref (248)]) ∧ h1.2.2 182 = some (2, [.int (A), .int (B), .int (W), .int (y.1), .ref (183)]) ∧ px_rs h1 183 55 6 (fun k => 182 + 5 * k + 2) ∧ pSt h1 182 y.2.1 ∧ pRows h1 246 96 y.2.2.1 ∧ px_pa h1 248 50 30 Value.int y.2.2.2.1 ∧ pMm h1 214 A3 B3 W3 S3 sm3 ∧ px_fi 177 72 h0 h1) := by
  intro d
  induction d using Nat.strongRecOn with
  | ind d ih =>
    intro r x g q0 q1 q2 q3 G0 G1 G2 G3 G4 G5 G6 frg
    have okx := q3
    have lj := p0.1
    refine e_iload f_54_20 rfl rfl ?_
    refine e_iconst (v := nI 4) f_54_22 (by decide) rfl ?_
    refine e_icmp_ge f_54_23 rfl (fun c_23 => ?_) (fun c_23 => ?_)
    · skip
      have c_23 : 4 ≤ r := cv_le (by omega) (by omega) c_23
      refine e_vret f_54_87 rfl ?_
      have ey : x = y := by
        rw [show 4 - r = 0 by omega, ringGo] at q2; exact q2
      subst ey
      exact ⟨rfl, G0, G1, G2, G3, G4, G5, G6, frg⟩
    · skip
      have c_23 : r < 4 := cv_nle (by omega) (by omega) c_23
      refine e_iload f_54_26 rfl rfl ?_
      refine e_bipush (v := (-3)) f_54_28 (by decide) rfl ?_
      refine e_icmp_eq f_54_30 rfl (fun c_30 => ?_) (fun c_30 => ?_)
      · skip
        have hq := oI_eq c_30 (fun q h => tmNext_lt h)
        refine e_vret f_54_87 rfl ?_
        have ey : x = y := by
          rw [ringGo_none hq] at q2; exact q2
        subst ey
        exact ⟨rfl, G0, G1, G2, G3, G4, G5, G6, frg⟩
      · skip
        obtain ⟨q, hq⟩ := oI_ne c_30
        obtain ⟨hq4, t, ht5, htt⟩ := ring_at (okx.1.2 k p3) p5 p4 hq
        rw [hq]
        show px_to 54 33 [some (.ref (177)), some (.int (nI k)), some (.int (nI w)), some (.ref (182 + 5 * k + 2)), some (.int (nI q)), some (.int (nI r)), none] [] g _
        refine e_aload_n f_54_33 rfl rfl ?_
        refine e_getf f_54_34 G0 rfl rfl ?_
        refine e_bipush (v := (-3)) f_54_37 (by decide) rfl ?_
        refine e_icmp_ne f_54_39 rfl (fun c_39 => ?_) (fun c_39 => ?_)
        · skip
          obtain ⟨zq, hz⟩ := oI_ne c_39
          refine e_vret f_54_87 rfl ?_
          have ey : x = y := by
            rw [ringGo_z hz] at q2; exact q2
          subst ey
          exact ⟨rfl, G0, G1, G2, G3, G4, G5, G6, frg⟩
        · skip
          have hz : x.2.2.2.2 = none := oI_z (Classical.not_not.mp c_39) okx.2.2.2.1
          obtain ⟨g1, g2⟩ := pSt_get (k := k) G3 (by omega) (by have := okx.1.1; omega)
          refine e_aload_n f_54_42 rfl rfl ?_
          refine e_getf f_54_43 g1.1 rfl rfl ?_
          refine e_iload f_54_46 rfl rfl ?_
          refine e_iaload_p (xs := (x.2.1.getD k sm0).2.2.1) f_54_48 g1.2.2.1 (d := 0) (by have := (okx.1.2 k p3).2.1; omega) rfl ?_
          show px_to 54 49 [some (.ref (177)), some (.int (nI k)), some (.int (nI w)), some (.ref (182 + 5 * k + 2)), some (.int (nI q)), some (.int (nI r)), none] [.int (((x.2.1.getD k sm0).2.2.1).getD q 0)] g _
          rw [htt]
          refine e_istore (L' := [some (.ref (177)), some (.int (nI k)), some (.int (nI w)), some (.ref (182 + 5 * k + 2)), some (.int (nI q)), some (.int (nI r)), some (.int (nI t))]) f_54_49 (Nat.le_of_ble_eq_true rfl) rfl rfl ?_
          refine e_aload_n f_54_51 rfl rfl ?_
          refine e_iload f_54_52 rfl rfl ?_
          refine e_callV (As := [.int (nI q)]) (rest := []) f_54_54 rfl rfl rfl (Nat.le_of_ble_eq_true rfl) (Nat.le_of_ble_eq_true rfl) g1.1 rfl (Nat.le_of_ble_eq_true rfl) (cc_SM_dropTimer (k := q) (a := 182 + 5 * k + 2) (to := (x.2.1.getD k sm0).1) (su := (x.2.1.getD k sm0).2.1) (ti := (x.2.1.getD k sm0).2.2.1) (ms := (x.2.1.getD k sm0).2.2.2.1) (cs := (x.2.1.getD k sm0).2.2.2.2) g1 (by omega) (by omega)) rfl (fun h3 r4 q5 => ?_)
          obtain ⟨rfl, g6, fx7⟩ := q5
          have fr8 : px_fi 177 72 h0 h3 := fi_tr frg fx7 (by omega)
          show px_to 54 57 [some (.ref (177)), some (.int (nI k)), some (.int (nI w)), some (.ref (182 + 5 * k + 2)), some (.int (nI q)), some (.int (nI r)), some (.int (nI t))] [] h3 _
          have g9 : pStx h3 182 x.2.1 k := pStx_fi g2 fx7 (by omega)
          have g10 : pSt h3 182 (x.2.1.set k (smRung q (getS x k))) := pSt_in g9 g6
          refine e_aload_n f_54_57 rfl rfl ?_
          refine e_iload_n f_54_58 rfl rfl ?_
          have g11 : h3.2.2 177 = some (6, [.ref (jb), .ref (182), .ref (214), .ref (246), .int (nI gv), .int (bI la), .int (bI lb), .int (oI x.2.2.2.2), .int (dn), .int (wo), .ref (248)]) := fi_at G0 fx7 (by omega)
          have g12 : px_pa h3 248 50 30 Value.int x.2.2.2.1 := pa_fi G5 fx7 (by omega)
          refine e_callV (As := [.int (nI k)]) (rest := []) f_54_59 rfl rfl rfl (Nat.le_of_ble_eq_true rfl) (Nat.le_of_ble_eq_true rfl) g11 rfl (Nat.le_of_ble_eq_true rfl) (cc_Run_note (k := k) (tl := x.2.2.2.1) (jb := jb) (gv := gv) (la := la) (lb := lb) (z := x.2.2.2.2) (dn := dn) (wo := wo) g11 g12 (by omega) (okx.2.1)) rfl (fun h13 r14 q15 => ?_)
          obtain ⟨rfl, g16, fx17⟩ := q15
          have fr18 : px_fi 177 72 h0 h13 := fi_tr fr8 fx17 (by omega)
          show px_to 54 62 [some (.ref (177)), some (.int (nI k)), some (.int (nI w)), some (.ref (182 + 5 * k + 2)), some (.int (nI q)), some (.int (nI r)), some (.int (nI t))] [] h13 _
          refine e_aload_n f_54_62 rfl rfl ?_
          refine e_iload_n f_54_63 rfl rfl ?_
          refine e_iconst (v := nI 1) f_54_64 (by decide) rfl ?_
          refine e_iadd (z := nI (k + 1)) f_54_65 (nI_add _ _) rfl ?_
          refine e_iload f_54_66 rfl rfl ?_
          refine e_iconst (v := nI 0) f_54_68 (by decide) rfl ?_
          refine e_iload f_54_69 rfl rfl ?_
          have g19 : h13.2.2 177 = some (6, [.ref (jb), .ref (182), .ref (214), .ref (246), .int (nI gv), .int (bI la), .int (bI lb), .int (oI x.2.2.2.2), .int (dn), .int (wo), .ref (248)]) := fi_at g11 fx17 (by omega)
          have g20 : h3.2.2 182 = some (2, [.int (A), .int (B), .int (W), .int (x.1), .ref (183)]) := fi_at G1 fx7 (by omega)
          have g21 : h13.2.2 182 = some (2, [.int (A), .int (B), .int (W), .int (x.1), .ref (183)]) := fi_at g20 fx17 (by omega)
          have g22 : px_rs h3 183 55 6 (fun k => 182 + 5 * k + 2) := rs_fi G2 fx7 (by omega)
          have g23 : px_rs h13 183 55 6 (fun k => 182 + 5 * k + 2) := rs_fi g22 fx17 (by omega)
          have g24 : pSt h13 182 (x.2.1.set k (smRung q (getS x k))) := pSt_fi g10 fx17 (by omega)
          have g25 : pRows h3 246 96 x.2.2.1 := pRows_fi G4 fx7 (by omega)
          have g26 : pRows h13 246 96 x.2.2.1 := pRows_fi g25 fx17 (by omega)
          have g27 : pMm h3 214 A3 B3 W3 S3 sm3 := pMm_fi G6 fx7 (by omega)
          have g28 : pMm h13 214 A3 B3 W3 S3 sm3 := pMm_fi g27 fx17 (by omega)
          have g29 : pJob h13 jb j := pJob_fi HJ fr18 (by omega)
          refine e_callV (As := [.int (nI (k + 1)), .int (nI q), .int (nI 0), .int (nI t)]) (rest := []) f_54_71 rfl rfl rfl (Nat.le_of_ble_eq_true rfl) (Nat.le_of_ble_eq_true rfl) g19 rfl (Nat.le_of_ble_eq_true rfl) (cc_Run_passX (f := k + 1) (key := q) (v := nI 0) (t := t) (j := j) (jb := jb) (gv := gv) (la := la) (lb := lb) (dn := dn) (wo := wo) (A := A) (B := B) (W := W) (x := noted k (setS x k (smRung q (getS x k)))) (A3 := A3) (B3 := B3) (W3 := W3) (S3 := S3) (sm3 := sm3) g19 g21 g23 g24 g26 g16 g28 g29 (by omega) (noted_ok (setS_ok okx (smRung_ok (okx.1.2 k p3) hq4))) (by omega) (by omega) (by omega) (by omega) (hz)) rfl (fun h30 r31 q32 => ?_)
          obtain ⟨rfl, g33, g34, g35, g36, g37, g38, g39, fx40⟩ := q32
          have fr41 : px_fi 177 72 h0 h30 := fi_tr fr18 fx40 (by omega)
          show px_to 54 74 [some (.ref (177)), some (.int (nI k)), some (.int (nI w)), some (.ref (182 + 5 * k + 2)), some (.int (nI q)), some (.int (nI r)), some (.int (nI t))] [] h30 _
          refine e_aload_n f_54_74 rfl rfl ?_
          refine e_iload_n f_54_75 rfl rfl ?_
          have okn := pass_ok p0 hq4 (show t ≤ 5000 by omega) 7 (k + 1) (nI 0) _ (noted_ok (k := k) (setS_ok okx (smRung_ok (okx.1.2 k p3) hq4)))
          have g42 : pSM h30 (182 + 5 * k + 2) ((getS (pass j 7 (k + 1) q (nI 0) t (noted k (setS x k (smRung q (getS x k))))) k).1, (getS (pass j 7 (k + 1) q (nI 0) t (noted k (setS x k (smRung q (getS x k))))) k).2.1, (getS (pass j 7 (k + 1) q (nI 0) t (noted k (setS x k (smRung q (getS x k))))) k).2.2.1, (getS (pass j 7 (k + 1) q (nI 0) t (noted k (setS x k (smRung q (getS x k))))) k).2.2.2.1, (getS (pass j 7 (k + 1) q (nI 0) t (noted k (setS x k (smRung q (getS x k))))) k).2.2.2.2) := (pSt_get (k := k) g36 (by have := p0.1; omega) (by have := okn.1.1; rw [show (pass j 7 (k + 1) q (nI 0) t (noted k (setS x k (smRung q (getS x k))))).2.1.length = j.length from this]; exact p3)).1
          refine e_callV (As := [.int (nI w)]) (rest := []) f_54_76 rfl rfl rfl (Nat.le_of_ble_eq_true rfl) (Nat.le_of_ble_eq_true rfl) g42.1 rfl (Nat.le_of_ble_eq_true rfl) (cc_SM_nextTimer (w := nI w) (a := 182 + 5 * k + 2) (to := (getS (pass j 7 (k + 1) q (nI 0) t (noted k (setS x k (smRung q (getS x k))))) k).1) (su := (getS (pass j 7 (k + 1) q (nI 0) t (noted k (setS x k (smRung q (getS x k))))) k).2.1) (ti := (getS (pass j 7 (k + 1) q (nI 0) t (noted k (setS x k (smRung q (getS x k))))) k).2.2.1) (ms := (getS (pass j 7 (k + 1) q (nI 0) t (noted k (setS x k (smRung q (getS x k))))) k).2.2.2.1) (cs := (getS (pass j 7 (k + 1) q (nI 0) t (noted k (setS x k (smRung q (getS x k))))) k).2.2.2.2) g42 ) rfl (fun h43 r44 q45 => ?_)
          obtain ⟨rfl, qe⟩ := q45
          have qe := qe.symm
          subst qe
          show px_to 54 79 [some (.ref (177)), some (.int (nI k)), some (.int (nI w)), some (.ref (182 + 5 * k + 2)), some (.int (nI q)), some (.int (nI r)), some (.int (nI t))] [.int (oI (tmNext ((getS (pass j 7 (k + 1) q (nI 0) t (noted k (setS x k (smRung q (getS x k))))) k).2.2.1) (nI w)))] h30 _
          refine e_istore (L' := [some (.ref (177)), some (.int (nI k)), some (.int (nI w)), some (.ref (182 + 5 * k + 2)), some (.int (oI (tmNext ((getS (pass j 7 (k + 1) q (nI 0) t (noted k (setS x k (smRung q (getS x k))))) k).2.2.1) (nI w)))), some (.int (nI r)), some (.int (nI t))]) f_54_79 (Nat.le_of_ble_eq_true rfl) rfl rfl ?_
          refine e_iinc (y := nI (r + 1)) (L' := [some (.ref (177)), some (.int (nI k)), some (.int (nI w)), some (.ref (182 + 5 * k + 2)), some (.int (oI (tmNext ((getS (pass j 7 (k + 1) q (nI 0) t (noted k (setS x k (smRung q (getS x k))))) k).2.2.1) (nI w)))), some (.int (nI (r + 1))), some (.int (nI t))]) f_54_81 rfl (by rw [show Int32.ofInt 1 = nI 1 by decide]; exact (nI_add _ _)) rfl rfl ?_
          refine e_goto f_54_84 ?_
          obtain ⟨d, rfl⟩ : ∃ y, d = y + 1 := ⟨d - 1, by omega⟩
          refine px_to_L (L := [some (.ref (177)), some (.int (nI k)), some (.int (nI w)), some (.ref (182 + 5 * k + 2)), some (.int (oI (tmNext (getS (pass j 7 (k + 1) q (nI 0) t (noted k (setS x k (smRung q (getS x k))))) k).2.2.1 (nI w)))), some (.int (nI (r + 1))), none]) ⟨Or.inr rfl, Or.inr rfl, Or.inr rfl, Or.inr rfl, Or.inr rfl, Or.inr rfl, Or.inl rfl, trivial⟩ ?_
          first | (exfalso; omega) | exact ih (d) (by omega) (r + 1) (pass j 7 (k + 1) q (nI 0) t (noted k (setS x k (smRung q (getS x k))))) h30 (by omega) (by omega) (by rw [show 4 - r = (4 - (r + 1)) + 1 by omega, ringGo_s hq hz htt (by omega)] at q2; exact q2) (okn) g33 g34 g35 g36 g37 g38 g39 fr41

set_option maxRecDepth 20000 in
set_option maxHeartbeats 4000000 in
theorem cc_Run_ring {h : px_H} {k w : Nat} {j : List St} {jb gv : Nat} {la lb : Bool} {dn wo : Int32} {A B W : Int32} {x : RX} {A3 B3 W3 S3 : Int32} {sm3 : List SM} (H0 : h.2.2 177 = some (6, [.ref (jb), .ref (182), .ref (214), .ref (246), .int (nI gv), .int (bI la), .int (bI lb), .int (oI x.2.2.2.2), .int (dn), .int (wo), .ref (248)])) (H1 : h.2.2 182 = some (2, [.int (A), .int (B), .int (W), .int (x.1), .ref (183)])) (H2 : px_rs h 183 55 6 (fun k => 182 + 5 * k + 2)) (H3 : pSt h 182 x.2.1) (H4 : pRows h 246 96 x.2.2.1) (H5 : px_pa h 248 50 30 Value.int x.2.2.2.1) (H6 : pMm h 214 A3 B3 W3 S3 sm3) (H7 : pJob h jb j) (p0 : okJ j) (p1 : okX j x) (p2 : jb + 4 ≤ 177 ∨ 249 ≤ jb) (p3 : k < j.length) (p4 : w ≤ 5000) (p5 : (j.getD k (0, 0, 0)).1 = 116) : px_wp 54 [.ref (177), .int (nI k), .int (nI w)] h (fun h1 r => r = none ∧ h1.2.2 177 = some (6, [.ref (jb), .ref (182), .ref (214), .ref (246), .int (nI gv), .int (bI la), .int (bI lb), .int (oI ((ringGo j k w 4 x).2.2.2.2)), .int (dn), .int (wo), .ref (248)]) ∧ h1.2.2 182 = some (2, [.int (A), .int (B), .int (W), .int ((ringGo j k w 4 x).1), .ref (183)]) ∧ px_rs h1 183 55 6 (fun k => 182 + 5 * k + 2) ∧ pSt h1 182 ((ringGo j k w 4 x).2.1) ∧ pRows h1 246 96 ((ringGo j k w 4 x).2.2.1) ∧ px_pa h1 248 50 30 Value.int ((ringGo j k w 4 x).2.2.2.1) ∧ pMm h1 214 A3 B3 W3 S3 sm3 ∧ px_fi 177 72 h h1) := by
  have fr0 : px_fi 177 72 h h := fi_rf _ _ _
  have okx := p1
  have lj := p0.1
  show px_to 54 0 [some (.ref (177)), some (.int (nI k)), some (.int (nI w)), none, none, none, none] [] h _
  refine e_aload_n f_54_0 rfl rfl ?_
  refine e_getf f_54_1 H0 rfl rfl ?_
  refine e_getf f_54_4 H1 rfl rfl ?_
  refine e_iload_n f_54_7 rfl rfl ?_
  refine e_aaload_r f_54_8 (by decide) H2 (by first | omega | (simp only [List.length_set]; omega)) (by decide) rfl ?_
  show px_to 54 9 [some (.ref (177)), some (.int (nI k)), some (.int (nI w)), none, none, none, none] [.ref (182 + 5 * k + 2)] h _
  refine e_astore_n (L' := [some (.ref (177)), some (.int (nI k)), some (.int (nI w)), some (.ref (182 + 5 * k + 2)), none, none, none]) f_54_9 (Nat.le_of_ble_eq_true rfl) rfl rfl ?_
  refine e_aload_n f_54_10 rfl rfl ?_
  refine e_iload_n f_54_11 rfl rfl ?_
  have g1 : pSM h (182 + 5 * k + 2) ((getS x k).1, (getS x k).2.1, (getS x k).2.2.1, (getS x k).2.2.2.1, (getS x k).2.2.2.2) := (pSt_get (k := k) H3 (by have := p0.1; omega) (by have := okx.1.1; omega)).1
  refine e_callV (As := [.int (nI w)]) (rest := []) f_54_12 rfl rfl rfl (Nat.le_of_ble_eq_true rfl) (Nat.le_of_ble_eq_true rfl) g1.1 rfl (Nat.le_of_ble_eq_true rfl) (cc_SM_nextTimer (w := nI w) (a := 182 + 5 * k + 2) (to := (getS x k).1) (su := (getS x k).2.1) (ti := (getS x k).2.2.1) (ms := (getS x k).2.2.2.1) (cs := (getS x k).2.2.2.2) g1 ) rfl (fun h2 r3 q4 => ?_)
  obtain ⟨rfl, qe⟩ := q4
  have qe := qe.symm
  subst qe
  show px_to 54 15 [some (.ref (177)), some (.int (nI k)), some (.int (nI w)), some (.ref (182 + 5 * k + 2)), none, none, none] [.int (oI (tmNext ((getS x k).2.2.1) (nI w)))] h _
  refine e_istore (L' := [some (.ref (177)), some (.int (nI k)), some (.int (nI w)), some (.ref (182 + 5 * k + 2)), some (.int (oI (tmNext ((getS x k).2.2.1) (nI w)))), none, none]) f_54_15 (Nat.le_of_ble_eq_true rfl) rfl rfl ?_
  refine e_iconst (v := nI 0) f_54_17 (by decide) rfl ?_
  refine e_istore (L' := [some (.ref (177)), some (.int (nI k)), some (.int (nI w)), some (.ref (182 + 5 * k + 2)), some (.int (oI (tmNext ((getS x k).2.2.1) (nI w)))), some (.int (nI 0)), none]) f_54_18 (Nat.le_of_ble_eq_true rfl) rfl rfl ?_
  exact ll_Run_ring (h0 := h) H7 p0 p2 p3 p4 p5 5 0 x h (by omega) (by omega) rfl p1 H0 H1 H2 H3 H4 H5 H6 fr0

set_option maxRecDepth 20000 in
set_option maxHeartbeats 4000000 in
theorem ll_Run_tell {h0 : px_H} {w : Nat} {j : List St} {jb gv : Nat} {la lb : Bool} {dn wo : Int32} {A B : Int32} {A3 B3 W3 S3 : Int32} {sm3 : List SM} {y : RX} (HJ : pJob h0 jb j) (p0 : okJ j) (p2 : jb + 4 ≤ 177 ∨ 249 ≤ jb) (p4 : w ≤ 5000) : ∀ (d : Nat) (k : Nat) (x : RX) (g : px_H), (j.length < k + d) → (k ≤ j.length) → (tellGo j w (7 - k) k x = y) → (okX j x) → g.2.2 177 = some (6, [.ref (jb), .ref (182), .ref (214), .ref (246), .int (nI gv), .int (bI la), .int (bI lb), .int (oI x.2.2.2.2), .int (dn), .int (wo), .ref (248)]) → g.2.2 182 = some (2, [.int (A), .int (B), .int (nI w), .int (x.1), .ref (183)]) → px_rs g 183 55 6 (fun k => 182 + 5 * k + 2) → pSt g 182 x.2.1 → pRows g 246 96 x.2.2.1 → px_pa g 248 50 30 Value.int x.2.2.2.1 → pMm g 214 A3 B3 W3 S3 sm3 → px_fi 177 72 h0 g → px_to 52 10 [some (.ref (177)), some (.int (nI w)), some (.int (nI k))] [] g (fun h1 r => r = none ∧ h1.2.2 177 = some (6, [.ref (jb), .ref (182), .ref (214), .ref (246), .int (nI gv), .int (bI la), .int (bI lb), .int (oI y.2.2.2.2), .int (dn), .int (wo), .ref (248)]) ∧ h1.2.2 182 = some (2, [.int (A), .int (B), .int (nI w), .int (y.1), .ref (183)]) ∧ px_rs h1 183 55 6 (fun k => 182 + 5 * k + 2) ∧ pSt h1 182 y.2.1 ∧ pRows h1 246 96 y.2.2.1 ∧ px_pa h1 248 50 30 Value.int y.2.2.2.1 ∧ pMm h1 214 A3 B3 W3 S3 sm3 ∧ px_fi 177 72 h0 h1) := by
  intro d
  induction d using Nat.strongRecOn with
  | ind d ih =>
    intro k x g q0 q1 q2 q3 G0 G1 G2 G3 G4 G5 G6 frg
    have okx := q3
    have lj := p0.1
    refine e_iload_n f_52_10 rfl rfl ?_
    refine e_aload_n f_52_11 rfl rfl ?_
    refine e_getf f_52_12 G0 rfl rfl ?_
    have g1 : pJob g jb j := pJob_fi HJ frg (by omega)
    refine e_getf f_52_15 g1.1 rfl rfl ?_
    refine e_icmp_ge f_52_18 rfl (fun c_18 => ?_) (fun c_18 => ?_)
    · skip
      have c_18 : j.length ≤ k := cv_le (by omega) (by omega) c_18
      refine e_vret f_52_92 rfl ?_
      have ey : x = y := by
        rw [show 7 - k = (7 - (k + 1)) + 1 by omega, tellGo, if_neg (fun z => by omega)] at q2; exact q2
      subst ey
      exact ⟨rfl, G0, G1, G2, G3, G4, G5, G6, frg⟩
    · skip
      have c_18 : k < j.length := cv_nle (by omega) (by omega) c_18
      refine e_aload_n f_52_21 rfl rfl ?_
      refine e_getf f_52_22 G0 rfl rfl ?_
      refine e_bipush (v := (-3)) f_52_25 (by decide) rfl ?_
      refine e_icmp_ne f_52_27 rfl (fun c_27 => ?_) (fun c_27 => ?_)
      · skip
        obtain ⟨zq, hz⟩ := oI_ne c_27
        refine e_vret f_52_92 rfl ?_
        have ey : x = y := by
          rw [show 7 - k = (7 - (k + 1)) + 1 by omega, tellGo, if_neg (fun z => by rw [hz] at z; exact nomatch z.2)] at q2; exact q2
        subst ey
        exact ⟨rfl, G0, G1, G2, G3, G4, G5, G6, frg⟩
      · skip
        have hz : x.2.2.2.2 = none := oI_z (Classical.not_not.mp c_27) okx.2.2.2.1
        have hst : okSt (j.getD k (0, 0, 0)) := p0.2 _ (getD_mem _ (by omega))
        have hsg := hst.1
        have p3 : k < j.length := by omega
        refine e_aload_n f_52_30 rfl rfl ?_
        refine e_getf f_52_31 G0 rfl rfl ?_
        refine e_getf f_52_34 g1.1 rfl rfl ?_
        refine e_iload_n f_52_37 rfl rfl ?_
        refine e_iaload_p (xs := j) f_52_38 g1.2.1 (d := (0, 0, 0)) (by first | omega | (simp only [List.length_set]; omega)) rfl ?_
        show px_to 52 39 [some (.ref (177)), some (.int (nI w)), some (.int (nI k))] [.int (nI ((j.getD k (0, 0, 0)).1))] g _
        refine e_bipush (v := nI 119) f_52_39 (by decide) rfl ?_
        refine e_icmp_ne f_52_41 rfl (fun c_41 => ?_) (fun c_41 => ?_)
        · skip
          have c_41 : (j.getD k (0, 0, 0)).1 ≠ 119 := cv_ne c_41
          refine e_aload_n f_52_53 rfl rfl ?_
          refine e_getf f_52_54 G0 rfl rfl ?_
          refine e_getf f_52_57 g1.1 rfl rfl ?_
          refine e_iload_n f_52_60 rfl rfl ?_
          refine e_iaload_p (xs := j) f_52_61 g1.2.1 (d := (0, 0, 0)) (by first | omega | (simp only [List.length_set]; omega)) rfl ?_
          show px_to 52 62 [some (.ref (177)), some (.int (nI w)), some (.int (nI k))] [.int (nI ((j.getD k (0, 0, 0)).1))] g _
          refine e_bipush (v := nI 116) f_52_62 (by decide) rfl ?_
          refine e_icmp_ne f_52_64 rfl (fun c_64 => ?_) (fun c_64 => ?_)
          · skip
            have c_64 : (j.getD k (0, 0, 0)).1 ≠ 116 := cv_ne c_64
            have e1 : tellOne j k w x = x := by unfold tellOne; rw [if_neg c_41, if_neg c_64]
            have okx1 : okX j x := by rw [← e1]; exact tellOne_ok p0 p3 p4 okx
            refine e_aload_n f_52_73 rfl rfl ?_
            refine e_getf f_52_74 G0 rfl rfl ?_
            refine e_getf f_52_77 G1 rfl rfl ?_
            refine e_iload_n f_52_80 rfl rfl ?_
            refine e_aaload_r f_52_81 (by decide) G2 (by first | omega | (simp only [List.length_set]; omega)) (by decide) rfl ?_
            show px_to 52 82 [some (.ref (177)), some (.int (nI w)), some (.int (nI k))] [.ref (182 + 5 * k + 2)] g _
            obtain ⟨g2, g3⟩ := pSt_get (k := k) G3 (by omega) (by have := okx1.1.1; omega)
            have l1 : (x.2.1.getD k sm0).2.1.length = 4 := g2.2.2.2.2.2.1
            have l2 : (x.2.1.getD k sm0).2.2.1.length = 4 := g2.2.2.2.2.2.2
            have g4 : g.2.2 (182 + 5 * k + 2) = some (9, [.int ((x.2.1.getD k sm0).1), .ref (182 + 5 * k + 3), .ref (182 + 5 * k + 4), .ref (182 + 5 * k + 5), .ref (182 + 5 * k + 6), .int (nI (((x.2.1.getD k sm0).2.2.2.1).length))]) := g2.1
            have g5 : px_pa g (182 + 5 * k + 3) 50 4 Value.int ((x.2.1.getD k sm0).2.1) := g2.2.1
            have g6 : px_pa g (182 + 5 * k + 4) 50 4 Value.int ((x.2.1.getD k sm0).2.2.1) := g2.2.2.1
            have g7 : px_pa g (182 + 5 * k + 5) 51 96 Value.long ((x.2.1.getD k sm0).2.2.2.1) := g2.2.2.2.1
            have g8 : px_pz g (182 + 5 * k + 6) 96 ((x.2.1.getD k sm0).2.2.2.2) := g2.2.2.2.2.1
            refine e_iload_n f_52_82 rfl rfl ?_
            refine e_putp (vs' := [.int (nI w), .ref (182 + 5 * k + 3), .ref (182 + 5 * k + 4), .ref (182 + 5 * k + 5), .ref (182 + 5 * k + 6), .int (nI (((x.2.1.getD k sm0).2.2.2.1).length))]) f_52_83 g4 (Nat.le_of_ble_eq_true rfl) (rfl) (rfl) rfl rfl (fun h9 g10 fx11 => ?_)
            have fr12 : px_fi 177 72 h0 h9 := fi_tr frg fx11 (by omega)
            refine e_iinc (y := nI (k + 1)) (L' := [some (.ref (177)), some (.int (nI w)), some (.int (nI (k + 1)))]) f_52_86 rfl (by rw [show Int32.ofInt 1 = nI 1 by decide]; exact (nI_add _ _)) rfl rfl ?_
            refine e_goto f_52_89 ?_
            obtain ⟨d, rfl⟩ : ∃ y, d = y + 1 := ⟨d - 1, by omega⟩
            have g13 : px_pa h9 (182 + 5 * k + 3) 50 4 Value.int ((x.2.1.getD k sm0).2.1) := pa_fi g5 fx11 (by omega)
            have g14 : px_pa h9 (182 + 5 * k + 4) 50 4 Value.int ((x.2.1.getD k sm0).2.2.1) := pa_fi g6 fx11 (by omega)
            have g15 : px_pa h9 (182 + 5 * k + 5) 51 96 Value.long ((x.2.1.getD k sm0).2.2.2.1) := pa_fi g7 fx11 (by omega)
            have g16 : px_pz h9 (182 + 5 * k + 6) 96 ((x.2.1.getD k sm0).2.2.2.2) := pz_fi g8 fx11 (by omega)
            have g17 : pSM h9 (182 + 5 * k + 2) (nI w, (x.2.1.getD k sm0).2.1, (x.2.1.getD k sm0).2.2.1, (x.2.1.getD k sm0).2.2.2.1, (x.2.1.getD k sm0).2.2.2.2) := ⟨g10, g13, g14, g15, g16, l1, l2⟩
            have g18 : pStx h9 182 x.2.1 k := pStx_fi g3 fx11 (by omega)
            have g19 : pSt h9 182 (x.2.1.set k (smTold w (getS x k))) := pSt_in g18 g17
            have g20 : h9.2.2 177 = some (6, [.ref (jb), .ref (182), .ref (214), .ref (246), .int (nI gv), .int (bI la), .int (bI lb), .int (oI x.2.2.2.2), .int (dn), .int (wo), .ref (248)]) := fi_at G0 fx11 (by omega)
            have g21 : h9.2.2 182 = some (2, [.int (A), .int (B), .int (nI w), .int (x.1), .ref (183)]) := fi_at G1 fx11 (by omega)
            have g22 : px_rs h9 183 55 6 (fun k => 182 + 5 * k + 2) := rs_fi G2 fx11 (by omega)
            have g23 : pRows h9 246 96 x.2.2.1 := pRows_fi G4 fx11 (by omega)
            have g24 : px_pa h9 248 50 30 Value.int x.2.2.2.1 := pa_fi G5 fx11 (by omega)
            have g25 : pMm h9 214 A3 B3 W3 S3 sm3 := pMm_fi G6 fx11 (by omega)
            first | (exfalso; omega) | exact ih (d) (by omega) (k + 1) (setS x k (smTold w (getS x k))) h9 (by omega) (by omega) (by rw [show 7 - k = (7 - (k + 1)) + 1 by omega, tellGo, if_pos ⟨p3, hz⟩, e1] at q2; exact q2) (setS_ok okx1 (smTold_ok (okx1.1.2 k p3))) g20 g21 g22 g19 g23 g24 g25 fr12
          · skip
            have c_64 : (j.getD k (0, 0, 0)).1 = 116 := cv_nne (by omega) (by omega) c_64
            refine e_aload_n f_52_67 rfl rfl ?_
            refine e_iload_n f_52_68 rfl rfl ?_
            refine e_iload_n f_52_69 rfl rfl ?_
            refine e_callV (As := [.int (nI k), .int (nI w)]) (rest := []) f_52_70 rfl rfl rfl (Nat.le_of_ble_eq_true rfl) (Nat.le_of_ble_eq_true rfl) G0 rfl (Nat.le_of_ble_eq_true rfl) (cc_Run_ring (k := k) (w := w) (j := j) (jb := jb) (gv := gv) (la := la) (lb := lb) (dn := dn) (wo := wo) (A := A) (B := B) (W := nI w) (x := x) (A3 := A3) (B3 := B3) (W3 := W3) (S3 := S3) (sm3 := sm3) G0 G1 G2 G3 G4 G5 G6 g1 (by omega) (by omega) (by omega) (by omega) (by omega) (by omega)) rfl (fun h26 r27 q28 => ?_)
            obtain ⟨rfl, g29, g30, g31, g32, g33, g34, g35, fx36⟩ := q28
            have fr37 : px_fi 177 72 h0 h26 := fi_tr frg fx36 (by omega)
            show px_to 52 73 [some (.ref (177)), some (.int (nI w)), some (.int (nI k))] [] h26 _
            have e1 : tellOne j k w x = ringGo j k w 4 x := by unfold tellOne; rw [if_neg c_41, if_pos c_64]
            have okx1 : okX j (ringGo j k w 4 x) := by rw [← e1]; exact tellOne_ok p0 p3 p4 okx
            refine e_aload_n f_52_73 rfl rfl ?_
            refine e_getf f_52_74 g29 rfl rfl ?_
            refine e_getf f_52_77 g30 rfl rfl ?_
            refine e_iload_n f_52_80 rfl rfl ?_
            refine e_aaload_r f_52_81 (by decide) g31 (by first | omega | (simp only [List.length_set]; omega)) (by decide) rfl ?_
            show px_to 52 82 [some (.ref (177)), some (.int (nI w)), some (.int (nI k))] [.ref (182 + 5 * k + 2)] h26 _
            obtain ⟨g38, g39⟩ := pSt_get (k := k) g32 (by omega) (by have := okx1.1.1; omega)
            have l1 : ((ringGo j k w 4 x).2.1.getD k sm0).2.1.length = 4 := g38.2.2.2.2.2.1
            have l2 : ((ringGo j k w 4 x).2.1.getD k sm0).2.2.1.length = 4 := g38.2.2.2.2.2.2
            have g40 : h26.2.2 (182 + 5 * k + 2) = some (9, [.int ((((ringGo j k w 4 x).2.1).getD k sm0).1), .ref (182 + 5 * k + 3), .ref (182 + 5 * k + 4), .ref (182 + 5 * k + 5), .ref (182 + 5 * k + 6), .int (nI (((((ringGo j k w 4 x).2.1).getD k sm0).2.2.2.1).length))]) := g38.1
            have g41 : px_pa h26 (182 + 5 * k + 3) 50 4 Value.int ((((ringGo j k w 4 x).2.1).getD k sm0).2.1) := g38.2.1
            have g42 : px_pa h26 (182 + 5 * k + 4) 50 4 Value.int ((((ringGo j k w 4 x).2.1).getD k sm0).2.2.1) := g38.2.2.1
            have g43 : px_pa h26 (182 + 5 * k + 5) 51 96 Value.long ((((ringGo j k w 4 x).2.1).getD k sm0).2.2.2.1) := g38.2.2.2.1
            have g44 : px_pz h26 (182 + 5 * k + 6) 96 ((((ringGo j k w 4 x).2.1).getD k sm0).2.2.2.2) := g38.2.2.2.2.1
            refine e_iload_n f_52_82 rfl rfl ?_
            refine e_putp (vs' := [.int (nI w), .ref (182 + 5 * k + 3), .ref (182 + 5 * k + 4), .ref (182 + 5 * k + 5), .ref (182 + 5 * k + 6), .int (nI (((((ringGo j k w 4 x).2.1).getD k sm0).2.2.2.1).length))]) f_52_83 g40 (Nat.le_of_ble_eq_true rfl) (rfl) (rfl) rfl rfl (fun h45 g46 fx47 => ?_)
            have fr48 : px_fi 177 72 h0 h45 := fi_tr fr37 fx47 (by omega)
            refine e_iinc (y := nI (k + 1)) (L' := [some (.ref (177)), some (.int (nI w)), some (.int (nI (k + 1)))]) f_52_86 rfl (by rw [show Int32.ofInt 1 = nI 1 by decide]; exact (nI_add _ _)) rfl rfl ?_
            refine e_goto f_52_89 ?_
            obtain ⟨d, rfl⟩ : ∃ y, d = y + 1 := ⟨d - 1, by omega⟩
            have g49 : px_pa h45 (182 + 5 * k + 3) 50 4 Value.int ((((ringGo j k w 4 x).2.1).getD k sm0).2.1) := pa_fi g41 fx47 (by omega)
            have g50 : px_pa h45 (182 + 5 * k + 4) 50 4 Value.int ((((ringGo j k w 4 x).2.1).getD k sm0).2.2.1) := pa_fi g42 fx47 (by omega)
            have g51 : px_pa h45 (182 + 5 * k + 5) 51 96 Value.long ((((ringGo j k w 4 x).2.1).getD k sm0).2.2.2.1) := pa_fi g43 fx47 (by omega)
            have g52 : px_pz h45 (182 + 5 * k + 6) 96 ((((ringGo j k w 4 x).2.1).getD k sm0).2.2.2.2) := pz_fi g44 fx47 (by omega)
            have g53 : pSM h45 (182 + 5 * k + 2) (nI w, ((ringGo j k w 4 x).2.1.getD k sm0).2.1, ((ringGo j k w 4 x).2.1.getD k sm0).2.2.1, ((ringGo j k w 4 x).2.1.getD k sm0).2.2.2.1, ((ringGo j k w 4 x).2.1.getD k sm0).2.2.2.2) := ⟨g46, g49, g50, g51, g52, l1, l2⟩
            have g54 : pStx h45 182 ((ringGo j k w 4 x).2.1) k := pStx_fi g39 fx47 (by omega)
            have g55 : pSt h45 182 (((ringGo j k w 4 x).2.1).set k (smTold w (getS (ringGo j k w 4 x) k))) := pSt_in g54 g53
            have g56 : h45.2.2 177 = some (6, [.ref (jb), .ref (182), .ref (214), .ref (246), .int (nI gv), .int (bI la), .int (bI lb), .int (oI ((ringGo j k w 4 x).2.2.2.2)), .int (dn), .int (wo), .ref (248)]) := fi_at g29 fx47 (by omega)
            have g57 : h45.2.2 182 = some (2, [.int (A), .int (B), .int (nI w), .int ((ringGo j k w 4 x).1), .ref (183)]) := fi_at g30 fx47 (by omega)
            have g58 : px_rs h45 183 55 6 (fun k => 182 + 5 * k + 2) := rs_fi g31 fx47 (by omega)
            have g59 : pRows h45 246 96 ((ringGo j k w 4 x).2.2.1) := pRows_fi g33 fx47 (by omega)
            have g60 : px_pa h45 248 50 30 Value.int ((ringGo j k w 4 x).2.2.2.1) := pa_fi g34 fx47 (by omega)
            have g61 : pMm h45 214 A3 B3 W3 S3 sm3 := pMm_fi g35 fx47 (by omega)
            first | (exfalso; omega) | exact ih (d) (by omega) (k + 1) (setS (ringGo j k w 4 x) k (smTold w (getS (ringGo j k w 4 x) k))) h45 (by omega) (by omega) (by rw [show 7 - k = (7 - (k + 1)) + 1 by omega, tellGo, if_pos ⟨p3, hz⟩, e1] at q2; exact q2) (setS_ok okx1 (smTold_ok (okx1.1.2 k p3))) g56 g57 g58 g55 g59 g60 g61 fr48
        · skip
          have c_41 : (j.getD k (0, 0, 0)).1 = 119 := cv_nne (by omega) (by omega) c_41
          refine e_aload_n f_52_44 rfl rfl ?_
          refine e_iload_n f_52_45 rfl rfl ?_
          refine e_iload_n f_52_46 rfl rfl ?_
          refine e_callV (As := [.int (nI k), .int (nI w)]) (rest := []) f_52_47 rfl rfl rfl (Nat.le_of_ble_eq_true rfl) (Nat.le_of_ble_eq_true rfl) G0 rfl (Nat.le_of_ble_eq_true rfl) (cc_Run_endS (k := k) (w := w) (j := j) (jb := jb) (gv := gv) (la := la) (lb := lb) (dn := dn) (wo := wo) (A := A) (B := B) (W := nI w) (x := x) (A3 := A3) (B3 := B3) (W3 := W3) (S3 := S3) (sm3 := sm3) G0 G1 G2 G3 G4 G5 G6 g1 (by omega) (by omega) (by omega) (by omega) (by omega) (by omega)) rfl (fun h62 r63 q64 => ?_)
          obtain ⟨rfl, g65, g66, g67, g68, g69, g70, g71, fx72⟩ := q64
          have fr73 : px_fi 177 72 h0 h62 := fi_tr frg fx72 (by omega)
          show px_to 52 50 [some (.ref (177)), some (.int (nI w)), some (.int (nI k))] [] h62 _
          refine e_goto f_52_50 ?_
          have e1 : tellOne j k w x = endS j k w x := by unfold tellOne; rw [if_pos c_41]
          have okx1 : okX j (endS j k w x) := by rw [← e1]; exact tellOne_ok p0 p3 p4 okx
          refine e_aload_n f_52_73 rfl rfl ?_
          refine e_getf f_52_74 g65 rfl rfl ?_
          refine e_getf f_52_77 g66 rfl rfl ?_
          refine e_iload_n f_52_80 rfl rfl ?_
          refine e_aaload_r f_52_81 (by decide) g67 (by first | omega | (simp only [List.length_set]; omega)) (by decide) rfl ?_
          show px_to 52 82 [some (.ref (177)), some (.int (nI w)), some (.int (nI k))] [.ref (182 + 5 * k + 2)] h62 _
          obtain ⟨g74, g75⟩ := pSt_get (k := k) g68 (by omega) (by have := okx1.1.1; omega)
          have l1 : ((endS j k w x).2.1.getD k sm0).2.1.length = 4 := g74.2.2.2.2.2.1
          have l2 : ((endS j k w x).2.1.getD k sm0).2.2.1.length = 4 := g74.2.2.2.2.2.2
          have g76 : h62.2.2 (182 + 5 * k + 2) = some (9, [.int ((((endS j k w x).2.1).getD k sm0).1), .ref (182 + 5 * k + 3), .ref (182 + 5 * k + 4), .ref (182 + 5 * k + 5), .ref (182 + 5 * k + 6), .int (nI (((((endS j k w x).2.1).getD k sm0).2.2.2.1).length))]) := g74.1
          have g77 : px_pa h62 (182 + 5 * k + 3) 50 4 Value.int ((((endS j k w x).2.1).getD k sm0).2.1) := g74.2.1
          have g78 : px_pa h62 (182 + 5 * k + 4) 50 4 Value.int ((((endS j k w x).2.1).getD k sm0).2.2.1) := g74.2.2.1
          have g79 : px_pa h62 (182 + 5 * k + 5) 51 96 Value.long ((((endS j k w x).2.1).getD k sm0).2.2.2.1) := g74.2.2.2.1
          have g80 : px_pz h62 (182 + 5 * k + 6) 96 ((((endS j k w x).2.1).getD k sm0).2.2.2.2) := g74.2.2.2.2.1
          refine e_iload_n f_52_82 rfl rfl ?_
          refine e_putp (vs' := [.int (nI w), .ref (182 + 5 * k + 3), .ref (182 + 5 * k + 4), .ref (182 + 5 * k + 5), .ref (182 + 5 * k + 6), .int (nI (((((endS j k w x).2.1).getD k sm0).2.2.2.1).length))]) f_52_83 g76 (Nat.le_of_ble_eq_true rfl) (rfl) (rfl) rfl rfl (fun h81 g82 fx83 => ?_)
          have fr84 : px_fi 177 72 h0 h81 := fi_tr fr73 fx83 (by omega)
          refine e_iinc (y := nI (k + 1)) (L' := [some (.ref (177)), some (.int (nI w)), some (.int (nI (k + 1)))]) f_52_86 rfl (by rw [show Int32.ofInt 1 = nI 1 by decide]; exact (nI_add _ _)) rfl rfl ?_
          refine e_goto f_52_89 ?_
          obtain ⟨d, rfl⟩ : ∃ y, d = y + 1 := ⟨d - 1, by omega⟩
          have g85 : px_pa h81 (182 + 5 * k + 3) 50 4 Value.int ((((endS j k w x).2.1).getD k sm0).2.1) := pa_fi g77 fx83 (by omega)
          have g86 : px_pa h81 (182 + 5 * k + 4) 50 4 Value.int ((((endS j k w x).2.1).getD k sm0).2.2.1) := pa_fi g78 fx83 (by omega)
          have g87 : px_pa h81 (182 + 5 * k + 5) 51 96 Value.long ((((endS j k w x).2.1).getD k sm0).2.2.2.1) := pa_fi g79 fx83 (by omega)
          have g88 : px_pz h81 (182 + 5 * k + 6) 96 ((((endS j k w x).2.1).getD k sm0).2.2.2.2) := pz_fi g80 fx83 (by omega)
          have g89 : pSM h81 (182 + 5 * k + 2) (nI w, ((endS j k w x).2.1.getD k sm0).2.1, ((endS j k w x).2.1.getD k sm0).2.2.1, ((endS j k w x).2.1.getD k sm0).2.2.2.1, ((endS j k w x).2.1.getD k sm0).2.2.2.2) := ⟨g82, g85, g86, g87, g88, l1, l2⟩
          have g90 : pStx h81 182 ((endS j k w x).2.1) k := pStx_fi g75 fx83 (by omega)
          have g91 : pSt h81 182 (((endS j k w x).2.1).set k (smTold w (getS (endS j k w x) k))) := pSt_in g90 g89
          have g92 : h81.2.2 177 = some (6, [.ref (jb), .ref (182), .ref (214), .ref (246), .int (nI gv), .int (bI la), .int (bI lb), .int (oI ((endS j k w x).2.2.2.2)), .int (dn), .int (wo), .ref (248)]) := fi_at g65 fx83 (by omega)
          have g93 : h81.2.2 182 = some (2, [.int (A), .int (B), .int (nI w), .int ((endS j k w x).1), .ref (183)]) := fi_at g66 fx83 (by omega)
          have g94 : px_rs h81 183 55 6 (fun k => 182 + 5 * k + 2) := rs_fi g67 fx83 (by omega)
          have g95 : pRows h81 246 96 ((endS j k w x).2.2.1) := pRows_fi g69 fx83 (by omega)
          have g96 : px_pa h81 248 50 30 Value.int ((endS j k w x).2.2.2.1) := pa_fi g70 fx83 (by omega)
          have g97 : pMm h81 214 A3 B3 W3 S3 sm3 := pMm_fi g71 fx83 (by omega)
          first | (exfalso; omega) | exact ih (d) (by omega) (k + 1) (setS (endS j k w x) k (smTold w (getS (endS j k w x) k))) h81 (by omega) (by omega) (by rw [show 7 - k = (7 - (k + 1)) + 1 by omega, tellGo, if_pos ⟨p3, hz⟩, e1] at q2; exact q2) (setS_ok okx1 (smTold_ok (okx1.1.2 k p3))) g92 g93 g94 g91 g95 g96 g97 fr84

set_option maxRecDepth 20000 in
set_option maxHeartbeats 4000000 in
theorem cc_Run_tell {h : px_H} {w : Nat} {j : List St} {jb gv : Nat} {la lb : Bool} {dn wo : Int32} {A B W : Int32} {x : RX} {A3 B3 W3 S3 : Int32} {sm3 : List SM} (H0 : h.2.2 177 = some (6, [.ref (jb), .ref (182), .ref (214), .ref (246), .int (nI gv), .int (bI la), .int (bI lb), .int (oI x.2.2.2.2), .int (dn), .int (wo), .ref (248)])) (H1 : h.2.2 182 = some (2, [.int (A), .int (B), .int (W), .int (x.1), .ref (183)])) (H2 : px_rs h 183 55 6 (fun k => 182 + 5 * k + 2)) (H3 : pSt h 182 x.2.1) (H4 : pRows h 246 96 x.2.2.1) (H5 : px_pa h 248 50 30 Value.int x.2.2.2.1) (H6 : pMm h 214 A3 B3 W3 S3 sm3) (H7 : pJob h jb j) (p0 : okJ j) (p1 : okX j x) (p2 : jb + 4 ≤ 177 ∨ 249 ≤ jb) (p3 : w ≤ 5000) : px_wp 52 [.ref (177), .int (nI w)] h (fun h1 r => r = none ∧ h1.2.2 177 = some (6, [.ref (jb), .ref (182), .ref (214), .ref (246), .int (nI gv), .int (bI la), .int (bI lb), .int (oI ((tellGo j w 7 0 x).2.2.2.2)), .int (dn), .int (wo), .ref (248)]) ∧ h1.2.2 182 = some (2, [.int (A), .int (B), .int (nI w), .int ((tellGo j w 7 0 x).1), .ref (183)]) ∧ px_rs h1 183 55 6 (fun k => 182 + 5 * k + 2) ∧ pSt h1 182 ((tellGo j w 7 0 x).2.1) ∧ pRows h1 246 96 ((tellGo j w 7 0 x).2.2.1) ∧ px_pa h1 248 50 30 Value.int ((tellGo j w 7 0 x).2.2.2.1) ∧ pMm h1 214 A3 B3 W3 S3 sm3 ∧ px_fi 177 72 h h1) := by
  have fr0 : px_fi 177 72 h h := fi_rf _ _ _
  have okx := p1
  have lj := p0.1
  show px_to 52 0 [some (.ref (177)), some (.int (nI w)), none] [] h _
  refine e_aload_n f_52_0 rfl rfl ?_
  refine e_getf f_52_1 H0 rfl rfl ?_
  refine e_iload_n f_52_4 rfl rfl ?_
  refine e_putp (vs' := [.int (A), .int (B), .int (nI w), .int (x.1), .ref (183)]) f_52_5 H1 (Nat.le_of_ble_eq_true rfl) (rfl) (rfl) rfl rfl (fun h1 g2 fx3 => ?_)
  have fr4 : px_fi 177 72 h h1 := fi_tr fr0 fx3 (by omega)
  refine e_iconst (v := nI 0) f_52_8 (by decide) rfl ?_
  refine e_istore_n (L' := [some (.ref (177)), some (.int (nI w)), some (.int (nI 0))]) f_52_9 (Nat.le_of_ble_eq_true rfl) rfl rfl ?_
  have g5 : h1.2.2 177 = some (6, [.ref (jb), .ref (182), .ref (214), .ref (246), .int (nI gv), .int (bI la), .int (bI lb), .int (oI x.2.2.2.2), .int (dn), .int (wo), .ref (248)]) := fi_at H0 fx3 (by omega)
  have g6 : px_rs h1 183 55 6 (fun k => 182 + 5 * k + 2) := rs_fi H2 fx3 (by omega)
  have g7 : pSt h1 182 x.2.1 := pSt_fi H3 fx3 (by omega)
  have g8 : pRows h1 246 96 x.2.2.1 := pRows_fi H4 fx3 (by omega)
  have g9 : px_pa h1 248 50 30 Value.int x.2.2.2.1 := pa_fi H5 fx3 (by omega)
  have g10 : pMm h1 214 A3 B3 W3 S3 sm3 := pMm_fi H6 fx3 (by omega)
  exact ll_Run_tell (h0 := h) H7 p0 p2 p3 7 0 x h1 (by omega) (by omega) rfl p1 g5 g2 g6 g7 g8 g9 g10 fr4

set_option maxRecDepth 20000 in
set_option maxHeartbeats 4000000 in
theorem ll_Run_clr {h0 : px_H} {jb gv : Nat} {la lb : Bool} {z : Option Nat} {dn wo : Int32}  : ∀ (d : Nat) (i : Nat) (tl : List Int32) (g : px_H), (30 ≤ i + d) → (i ≤ 30) → (tl.length = 30) → (tl.take i = List.replicate i 0) → g.2.2 177 = some (6, [.ref (jb), .ref (182), .ref (214), .ref (246), .int (nI gv), .int (bI la), .int (bI lb), .int (oI z), .int (dn), .int (wo), .ref (248)]) → px_pa g 248 50 30 Value.int tl → px_fi 248 1 h0 g → px_to 47 2 [some (.ref (177)), some (.int (nI i))] [] g (fun h1 r => r = none ∧ px_pa h1 248 50 30 Value.int (List.replicate 30 0) ∧ px_fi 248 1 h0 h1) := by
  intro d
  induction d using Nat.strongRecOn with
  | ind d ih =>
    intro i tl g q0 q1 q2 q3 G0 G1 frg
    refine e_iload_n f_47_2 rfl rfl ?_
    refine e_aload_n f_47_3 rfl rfl ?_
    refine e_getf f_47_4 G0 rfl rfl ?_
    refine e_alen_p f_47_7 (Nat.le_of_ble_eq_true rfl) G1 rfl ?_
    refine e_icmp_ge f_47_8 rfl (fun c_8 => ?_) (fun c_8 => ?_)
    · skip
      have c_8 : 30 ≤ i := cv_le (by omega) (by omega) c_8
      refine e_vret f_47_24 rfl ?_
      have e : i = 30 := by omega
      subst e
      rw [take_all q2] at q3
      subst q3
      exact ⟨rfl, G1, frg⟩
    · skip
      have c_8 : i < 30 := cv_nle (by omega) (by omega) c_8
      refine e_aload_n f_47_11 rfl rfl ?_
      refine e_getf f_47_12 G0 rfl rfl ?_
      refine e_iload_n f_47_15 rfl rfl ?_
      refine e_iconst (v := nI 0) f_47_16 (by decide) rfl ?_
      refine e_iastore_p (xs := tl) (x := nI 0) f_47_17 G1 (by omega) (by first | omega | (simp only [List.length_set]; omega)) (rfl) rfl (fun h1 g2 fx3 => ?_)
      have fr4 : px_fi 248 1 h0 h1 := fi_tr frg fx3 (by omega)
      refine e_iinc (y := nI (i + 1)) (L' := [some (.ref (177)), some (.int (nI (i + 1)))]) f_47_18 rfl (by rw [show Int32.ofInt 1 = nI 1 by decide]; exact (nI_add _ _)) rfl rfl ?_
      refine e_goto f_47_21 ?_
      have g5 : h1.2.2 177 = some (6, [.ref (jb), .ref (182), .ref (214), .ref (246), .int (nI gv), .int (bI la), .int (bI lb), .int (oI z), .int (dn), .int (wo), .ref (248)]) := fi_at G0 fx3 (by omega)
      first | (exfalso; omega) | exact ih (d - 1) (by omega) (i + 1) (tl.set i (nI 0)) h1 (by omega) (by omega) (by rw [List.length_set]; exact q2) (set_last (d := 0) (show i < 30 by omega) q2 q3) g5 g2 fr4

set_option maxRecDepth 20000 in
set_option maxHeartbeats 4000000 in
theorem cc_Run_clr {h : px_H} {tl : List Int32} {jb gv : Nat} {la lb : Bool} {z : Option Nat} {dn wo : Int32} (H0 : h.2.2 177 = some (6, [.ref (jb), .ref (182), .ref (214), .ref (246), .int (nI gv), .int (bI la), .int (bI lb), .int (oI z), .int (dn), .int (wo), .ref (248)])) (H1 : px_pa h 248 50 30 Value.int tl) (p0 : tl.length = 30) : px_wp 47 [.ref (177)] h (fun h1 r => r = none ∧ px_pa h1 248 50 30 Value.int (List.replicate 30 0) ∧ px_fi 248 1 h h1) := by
  have fr0 : px_fi 248 1 h h := fi_rf _ _ _
  show px_to 47 0 [some (.ref (177)), none] [] h _
  refine e_iconst (v := nI 0) f_47_0 (by decide) rfl ?_
  refine e_istore_n (L' := [some (.ref (177)), some (.int (nI 0))]) f_47_1 (Nat.le_of_ble_eq_true rfl) rfl rfl ?_
  exact ll_Run_clr (h0 := h) 30 0 tl h (by omega) (by omega) p0 rfl H0 H1 fr0
