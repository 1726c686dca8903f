def onC (xs : List CS3) (c : Int32) (f : CS3 → Int32) : Int32 := if hasC c xs.length = true then f (xs.getD (nN c) c30) else -1
theorem onC_k {xs : List CS3} {k : Nat} {f : CS3 → Int32} (h8 : xs.length ≤ 8) (hk : k < xs.length) : onC xs (nI k) f = f (xs.getD k c30) := by
  unfold onC
  rw [if_pos (hasC_nI (by omega) hk), nN_nI (by omega)]
theorem onC_no {xs : List CS3} {c : Int32} {f : CS3 → Int32} (h : hasC c xs.length = false) : onC xs c f = -1 := by
  unfold onC
  rw [if_neg (by rw [h]; decide)]
theorem map_c3 {cs : List CT7} {k : Nat} (h : k < cs.length) : (cs.map c3of).getD k c30 = c3of (cs.getD k ct0) := by
  rw [List.getD_eq_getElem?_getD, List.getElem?_map, List.getElem?_eq_getElem h, getD_lt ct0 h]
  rfl
theorem rng_t {w : Int32} {n : Nat} (hn : n < 1000) (h1 : ¬ w < 0) (h2 : w ≤ nI n) : ∃ k, k ≤ n ∧ w = nI k := by
  have h3 := Int32.le_iff_toInt_le.mp (Int32.not_lt.mp h1)
  have h4 := Int32.le_iff_toInt_le.mp h2
  rw [nI_toInt (by omega)] at h4
  rw [show (0 : Int32).toInt = 0 by decide] at h3
  refine ⟨w.toInt.toNat, by omega, Int32.toInt_inj.mp ?_⟩
  rw [nI_toInt (by omega)]
  omega
theorem rng_a {w : Int32} {n : Nat} (h : w < 0) : hasC w n = false := decide_eq_false (fun z => Int32.not_le.mpr h z.1)
theorem rng_b {w : Int32} {n : Nat} (hn : n < 1000) (h : ¬ w ≤ nI n) : hasC w (n + 1) = false := decide_eq_false (fun z => h (Int32.le_iff_toInt_le.mpr (by
  have h4 := Int32.lt_iff_toInt_lt.mp z.2
  rw [nI_toInt (by omega)] at h4
  rw [nI_toInt (by omega)]
  omega)))
theorem rng_c {w : Int32} {n : Nat} (h : ¬ w < nI n) : hasC w n = false := decide_eq_false (fun z => h z.2)
theorem rng_u {w : Int32} {n : Nat} (hn : n < 2 ^ 31) (h1 : ¬ w < 0) (h2 : w < nI n) : ∃ k, k < n ∧ w = nI k := hasC_t hn (decide_eq_true ⟨Int32.not_lt.mp h1, h2⟩)
def aCount (tx : List Nat) (j : List St) (xs : List CS3) (w : Int32) : Int32 := if w = nI 0 then nI j.length else if w = nI 1 then nI xs.length else if w = nI 2 then nI tx.length else if w = nI 3 then nI (jMut j) else -1
def aRun (j : List St) (xs : List CS3) (c : Int32) : Int32 := onC xs c (fun x => nI (vdE j x x.1))
def ranO (y : RO) (w : Nat) : Int32 := if w = 0 then nI y.2.1.length else if w = 1 then y.1 else if w = 2 then (if y.2.2.1 = none then nI 0 else nI 1) else if w = 3 then oI y.2.2.1 else y.2.2.2
def aRan (j : List St) (xs : List CS3) (c w : Int32) : Int32 := if hasC w 5 = true then onC xs c (fun x => ranO (runO j x.1) (nN w)) else -1
def rowO (r : Row) (w : Nat) : Int32 := if w = 0 then nI r.1 else if w = 1 then r.2.1 else nI r.2.2
def outO (l : List Row) (i : Int32) (w : Nat) : Int32 := if hasC i l.length = true then rowO (l.getD (nN i) (0, 0, 0)) w else nI 0
def aOut (j : List St) (xs : List CS3) (c i w : Int32) : Int32 := if hasC w 3 = true then onC xs c (fun x => outO (runO j x.1).2.1 i (nN w)) else -1
def aDiff (j : List St) (xs : List CS3) (c : Int32) : Int32 := onC xs c (fun x => fdiff x.2.2 (runO j x.1).2.1 x.2.1)
def aScs (xs : List CS3) (c s : Int32) : Int32 := if hasC s 4 = true then onC xs c (fun x => nI (scL x.1 (nN s)).length) else -1
def atL (l : List Nat) (k : Int32) : Int32 := if hasC k l.length = true then nI (l.getD (nN k) 0) else -3
def aSc (xs : List CS3) (c s k : Int32) : Int32 := if hasC s 4 = true then onC xs c (fun x => atL (scL x.1 (nN s)) k) else -1
def evO (e : Ev) (w : Int32) : Int32 := if w = nI 0 then nI e.1 else if w = nI 1 then e.2.1 else if w = nI 2 then e.2.2.1 else if w = nI 3 then e.2.2.2 else -1
def aEvent (xs : List CS3) (c i w : Int32) : Int32 := onC xs c (fun x => if hasC i x.1.length = true then evO (x.1.getD (nN i) (0, 0, 0, 0)) w else -1)
def stO (s : St) (w : Int32) : Int32 := if w = nI 0 then nI s.1 else if w = nI 1 then s.2.2 else if w = nI 2 then nI s.2.1 else -1
def aStep (j : List St) (k w : Int32) : Int32 := if hasC k j.length = true then stO (j.getD (nN k) (0, 0, 0)) w else -1
theorem okJT_wo {tx : List Nat} {j : List St} {cs : List CT7} {S D : Nat} {kk ck : Bool} {wo wo2 : Int32} {x x2 : RO} {kl cv : List Int32} (h : okJT tx j cs S D kk ck wo x kl cv) (h2 : ∀ c, c < cs.length → wo2 = nI c → x2 = runO j (cs.getD c ct0).1) : okJT tx j cs S D kk ck wo2 x2 kl cv := ⟨h.1, h.2.1, h.2.2.1, h.2.2.2.1, h2, h.2.2.2.2.2⟩
theorem wo_ok {j : List St} {cs : List CT7} {k : Nat} {x : RO} (h8 : cs.length ≤ 8) (hk : k < cs.length) (hx : x = runO j (cs.getD k ct0).1) : ∀ c, c < cs.length → nI k = nI c → x = runO j (cs.getD c ct0).1 := fun c hc e => by
  have := cv_eq (by omega) (by omega) e
  subst this
  exact hx

set_option maxRecDepth 20000 in
set_option maxHeartbeats 4000000 in
theorem cc_JT_count {h : px_H} {tx : List Nat} {j : List St} {xs : List CS3} {w : Int32} (H0 : pJT h tx j xs)  : px_wp 92 [.ref (17), .int (w)] h (fun h1 r => r = some (.int (aCount tx j xs w)) ∧ pJT h1 tx j xs ∧ px_fi 17 252 h h1) := by
  have fr0 : px_fi 17 252 h h := fi_rf _ _ _
  show px_to 92 0 [some (.ref (17)), some (.int (w))] [] h _
  obtain ⟨cs, S, D, pz, kk, ck, wo, xr, kl, cv, g1, g2, g3, g4, g5, g6, g7, g8, g9, g10, g11, g12, g13, g14, g15, g16, g17, g18, g19, g20, g21, g22, g23, g24, g25, hx, ok⟩ := id H0
  subst hx
  have h8 := ok.2.2.2.1.1
  have hS : 18 < S ∧ S + 78 ≤ 175 := by have := ok.1; omega
  have hD : 18 < D ∧ D + 78 ≤ 175 := by have := ok.1; omega
  have hSD : D + 78 ≤ S ∨ S + 78 ≤ D := by have := ok.1; omega
  have h8m : (cs.map c3of).length ≤ 8 := by rw [List.length_map]; exact h8
  have htl : tx.length ≤ 500 := pa_len g2
  refine e_iload_n f_92_0 rfl rfl ?_
  by_cases c_1_0 : w = nI 0
  · skip
    refine e_sw_t f_92_1 (t := 32) (by rw [c_1_0]; rfl) ?_
    refine e_aload_n f_92_32 rfl rfl ?_
    refine e_getf f_92_33 g1 rfl rfl ?_
    refine e_getf f_92_36 g3 rfl rfl ?_
    refine e_getf f_92_39 g4.1 rfl rfl ?_
    refine e_iret f_92_42 rfl (rfl) ?_
    have g26 : pJT h tx j (cs.map c3of) := ⟨cs, S, D, pz, kk, ck, wo, xr, kl, cv, g1, g2, g3, g4, g5, g6, g7, g8, g9, g10, g11, g12, g13, g14, g15, g16, g17, g18, g19, g20, g21, g22, g23, g24, g25, rfl, ok⟩
    exact ⟨congrArg (fun z => some (Value.int z)) (show nI j.length = _ from by unfold aCount; rw [if_pos c_1_0]), g26, fr0⟩
  · skip
    by_cases c_1_1 : w = nI 1
    · skip
      refine e_sw_t f_92_1 (t := 43) (by rw [c_1_1]; rfl) ?_
      refine e_aload_n f_92_43 rfl rfl ?_
      refine e_getf f_92_44 g1 rfl rfl ?_
      refine e_getf f_92_47 g3 rfl rfl ?_
      refine e_iret f_92_50 rfl (rfl) ?_
      have g27 : pJT h tx j (cs.map c3of) := ⟨cs, S, D, pz, kk, ck, wo, xr, kl, cv, g1, g2, g3, g4, g5, g6, g7, g8, g9, g10, g11, g12, g13, g14, g15, g16, g17, g18, g19, g20, g21, g22, g23, g24, g25, rfl, ok⟩
      exact ⟨congrArg (fun z => some (Value.int z)) (show nI cs.length = _ from by unfold aCount; rw [if_neg c_1_0, if_pos c_1_1]; rw [List.length_map]), g27, fr0⟩
    · skip
      by_cases c_1_2 : w = nI 2
      · skip
        refine e_sw_t f_92_1 (t := 51) (by rw [c_1_2]; rfl) ?_
        refine e_aload_n f_92_51 rfl rfl ?_
        refine e_getf f_92_52 g1 rfl rfl ?_
        refine e_iret f_92_55 rfl (rfl) ?_
        have g28 : pJT h tx j (cs.map c3of) := ⟨cs, S, D, pz, kk, ck, wo, xr, kl, cv, g1, g2, g3, g4, g5, g6, g7, g8, g9, g10, g11, g12, g13, g14, g15, g16, g17, g18, g19, g20, g21, g22, g23, g24, g25, rfl, ok⟩
        exact ⟨congrArg (fun z => some (Value.int z)) (show nI tx.length = _ from by unfold aCount; rw [if_neg c_1_0, if_neg c_1_1, if_pos c_1_2]), g28, fr0⟩
      · skip
        by_cases c_1_3 : w = nI 3
        · skip
          refine e_sw_t f_92_1 (t := 56) (by rw [c_1_3]; rfl) ?_
          refine e_aload_n f_92_56 rfl rfl ?_
          refine e_getf f_92_57 g1 rfl rfl ?_
          refine e_getf f_92_60 g3 rfl rfl ?_
          refine e_callV (As := []) (rest := []) f_92_63 rfl rfl rfl (Nat.le_of_ble_eq_true rfl) (Nat.le_of_ble_eq_true rfl) g4.1 rfl (Nat.le_of_ble_eq_true rfl) (cc_Job_mutants (a := S + 1) (j := j) g4 (fun s hs => by have := (ok.2.2.1.2 s hs).1.1; omega)) rfl (fun h29 r30 q31 => ?_)
          obtain ⟨rfl, qe⟩ := q31
          have qe := qe.symm
          subst qe
          show px_to 92 66 [some (.ref (17)), some (.int (w))] [.int (nI (jMut j))] h _
          refine e_iret f_92_66 rfl (rfl) ?_
          have g32 : pJT h tx j (cs.map c3of) := ⟨cs, S, D, pz, kk, ck, wo, xr, kl, cv, g1, g2, g3, g4, g5, g6, g7, g8, g9, g10, g11, g12, g13, g14, g15, g16, g17, g18, g19, g20, g21, g22, g23, g24, g25, rfl, ok⟩
          exact ⟨congrArg (fun z => some (Value.int z)) (show nI (jMut j) = _ from by unfold aCount; rw [if_neg c_1_0, if_neg c_1_1, if_neg c_1_2, if_pos c_1_3]), g32, fr0⟩
        · skip
          refine e_sw_t f_92_1 (t := 67) (tsw_df (by have z0 := ne_toInt c_1_0 (by decide); have z1 := ne_toInt c_1_1 (by decide); have z2 := ne_toInt c_1_2 (by decide); have z3 := ne_toInt c_1_3 (by decide); omega) rfl) ?_
          refine e_iconst (v := (-1)) f_92_67 (by decide) rfl ?_
          refine e_iret f_92_68 rfl (rfl) ?_
          have g33 : pJT h tx j (cs.map c3of) := ⟨cs, S, D, pz, kk, ck, wo, xr, kl, cv, g1, g2, g3, g4, g5, g6, g7, g8, g9, g10, g11, g12, g13, g14, g15, g16, g17, g18, g19, g20, g21, g22, g23, g24, g25, rfl, ok⟩
          exact ⟨congrArg (fun z => some (Value.int z)) (show (-1) = _ from by unfold aCount; rw [if_neg c_1_0, if_neg c_1_1, if_neg c_1_2, if_neg c_1_3]), g33, fr0⟩

set_option maxRecDepth 20000 in
set_option maxHeartbeats 4000000 in
theorem cc_JT_run {h : px_H} {tx : List Nat} {j : List St} {xs : List CS3} {c : Int32} (H0 : pJT h tx j xs)  : px_wp 93 [.ref (17), .int (c)] h (fun h1 r => r = some (.int (aRun j xs c)) ∧ pJT h1 tx j xs ∧ px_fi 17 252 h h1) := by
  have fr0 : px_fi 17 252 h h := fi_rf _ _ _
  show px_to 93 0 [some (.ref (17)), some (.int (c))] [] h _
  obtain ⟨cs, S, D, pz, kk, ck, wo, xr, kl, cv, g1, g2, g3, g4, g5, g6, g7, g8, g9, g10, g11, g12, g13, g14, g15, g16, g17, g18, g19, g20, g21, g22, g23, g24, g25, hx, ok⟩ := id H0
  subst hx
  have h8 := ok.2.2.2.1.1
  have hS : 18 < S ∧ S + 78 ≤ 175 := by have := ok.1; omega
  have hD : 18 < D ∧ D + 78 ≤ 175 := by have := ok.1; omega
  have hSD : D + 78 ≤ S ∨ S + 78 ≤ D := by have := ok.1; omega
  have h8m : (cs.map c3of).length ≤ 8 := by rw [List.length_map]; exact h8
  have htl : tx.length ≤ 500 := pa_len g2
  refine e_aload_n f_93_0 rfl rfl ?_
  refine e_iload_n f_93_1 rfl rfl ?_
  refine e_callV (As := [.int (c)]) (rest := []) f_93_2 rfl rfl rfl (Nat.le_of_ble_eq_true rfl) (Nat.le_of_ble_eq_true rfl) g1 rfl (Nat.le_of_ble_eq_true rfl) (cc_JT_has (c := c) (L := tx.length) (S := S) (D := D) (n := cs.length) (pz := pz) (kk := kk) (ck := ck) g1 g3 (by omega)) rfl (fun h26 r27 q28 => ?_)
  obtain ⟨rfl, qe⟩ := q28
  have qe := qe.symm
  subst qe
  show px_to 93 5 [some (.ref (17)), some (.int (c))] [.int (bI (hasC c cs.length))] h _
  refine e_if_ne f_93_5 rfl (fun c_5 => ?_) (fun c_5 => ?_)
  · skip
    have c_5 : (hasC c cs.length) = true := bI_t c_5
    obtain ⟨k, hk, hkc⟩ := hasC_t (by omega) c_5
    subst hkc
    have hkm : k < (cs.map c3of).length := by rw [List.length_map]; exact hk
    have g29 : pCase h (S + 9 * k + 6) ((cs.getD k ct0).1) ((cs.getD k ct0).2.1) ((cs.getD k ct0).2.2.1) ((cs.getD k ct0).2.2.2.1) ((cs.getD k ct0).2.2.2.2.1) ((cs.getD k ct0).2.2.2.2.2.1) ((cs.getD k ct0).2.2.2.2.2.2) := (pCs_get (k := k) g6 (by omega) hk).1
    have hct : okK j (cs.getD k ct0) := ok.2.2.2.1.2 _ (getD_mem _ hk)
    refine e_aload_n f_93_10 rfl rfl ?_
    refine e_iload_n f_93_11 rfl rfl ?_
    refine e_callV (As := [.int (nI k)]) (rest := []) f_93_12 rfl rfl rfl (Nat.le_of_ble_eq_true rfl) (Nat.le_of_ble_eq_true rfl) g1 rfl (Nat.le_of_ble_eq_true rfl) (cc_JT_rw (c := k) (j := j) (cs := cs) (wo := wo) (x := xr) (L := tx.length) (S := S) (D := D) (n := cs.length) (pz := pz) (kk := kk) (ck := ck) g9 g11 g1 g3 g4 g5 g6 (hk) (h8) (ok.2.2.1.1) (fun t ht => (ok.2.2.2.1.2 t ht).1) (hS) (fun e => ok.2.2.2.2.1 k hk e)) rfl (fun h30 r31 q32 => ?_)
    obtain ⟨rfl, g33, g34, fx35⟩ := q32
    obtain ⟨hm36, fa37, fb38⟩ := fj_mid fx35
    have fr39 : px_fi 17 252 h hm36 := fi_tr fr0 fa37 (by omega)
    have fr40 : px_fi 17 252 h h30 := fi_tr fr39 fb38 (by omega)
    show px_to 93 15 [some (.ref (17)), some (.int (nI k))] [] h30 _
    have ok2 := okJT_wo (wo2 := nI k) (x2 := (runO j (cs.getD k ct0).1)) ok (wo_ok h8 hk rfl)
    have hro := runO_ok (es := (cs.getD k ct0).1) ok.2.2.1.1 hct.1.2.1
    obtain ⟨jb41, gv42, la43, lb44, A45, B46, W47, sms48, tl49, A350, B351, W352, S353, sm354, hl62, g55, g56, g57, g58, g59, g60, g61⟩ := id g33
    refine e_aload_n f_93_15 rfl rfl ?_
    have g63 : hm36.2.2 17 = some (11, [.ref (18), .int (nI tx.length), .ref (S), .ref (D), .ref (175), .ref (177), .ref (249), .ref (254), .ref (256), .ref (258), .ref (261), .ref (265), .int (bI pz), .ref (267), .int (bI kk), .ref (268), .int (bI ck)]) := fi_at g1 fa37 (by omega)
    have g64 : h30.2.2 17 = some (11, [.ref (18), .int (nI tx.length), .ref (S), .ref (D), .ref (175), .ref (177), .ref (249), .ref (254), .ref (256), .ref (258), .ref (261), .ref (265), .int (bI pz), .ref (267), .int (bI kk), .ref (268), .int (bI ck)]) := fi_at g63 fb38 (by omega)
    refine e_getf f_93_16 g64 rfl rfl ?_
    refine e_aload_n f_93_19 rfl rfl ?_
    refine e_getf f_93_20 g64 rfl rfl ?_
    have g65 : hm36.2.2 S = some (8, [.ref (S + 1), .ref (S + 5), .int (nI cs.length)]) := fi_at g3 fa37 (by omega)
    have g66 : h30.2.2 S = some (8, [.ref (S + 1), .ref (S + 5), .int (nI cs.length)]) := fi_at g65 fb38 (by omega)
    refine e_getf f_93_23 g66 rfl rfl ?_
    refine e_iload_n f_93_26 rfl rfl ?_
    have g67 : px_rs hm36 (S + 5) 56 8 (fun k => S + 9 * k + 6) := rs_fi g5 fa37 (by omega)
    have g68 : px_rs h30 (S + 5) 56 8 (fun k => S + 9 * k + 6) := rs_fi g67 fb38 (by omega)
    refine e_aaload_r f_93_27 (by decide) g68 (by first | omega | (simp only [List.length_set]; omega)) (by decide) rfl ?_
    show px_to 93 28 [some (.ref (17)), some (.int (nI k))] [.ref (S + 9 * k + 6), .ref (249)] h30 _
    refine e_aload_n f_93_28 rfl rfl ?_
    refine e_getf f_93_29 g64 rfl rfl ?_
    have g69 : pJud hm36 := pJud_fi g10 fa37 (by omega)
    have g70 : pJud h30 := pJud_fi g69 fb38 (by omega)
    obtain ⟨g73, ⟨sa71, g74⟩, sb72, g75⟩ := g70
    have g76 : pCase hm36 (S + 9 * k + 6) ((cs.getD k ct0).1) ((cs.getD k ct0).2.1) ((cs.getD k ct0).2.2.1) ((cs.getD k ct0).2.2.2.1) ((cs.getD k ct0).2.2.2.2.1) ((cs.getD k ct0).2.2.2.2.2.1) ((cs.getD k ct0).2.2.2.2.2.2) := pCase_fi g29 fa37 (by omega)
    have g77 : pCase h30 (S + 9 * k + 6) ((cs.getD k ct0).1) ((cs.getD k ct0).2.1) ((cs.getD k ct0).2.2.1) ((cs.getD k ct0).2.2.2.1) ((cs.getD k ct0).2.2.2.2.1) ((cs.getD k ct0).2.2.2.2.2.1) ((cs.getD k ct0).2.2.2.2.2.2) := pCase_fi g76 fb38 (by omega)
    refine e_callV (As := [.ref (S + 9 * k + 6), .ref (177)]) (rest := []) f_93_32 rfl rfl rfl (Nat.le_of_ble_eq_true rfl) (Nat.le_of_ble_eq_true rfl) g73 rfl (Nat.le_of_ble_eq_true rfl) (cc_Jud_vd (outs := (runO j (cs.getD k ct0).1).2.1) (s1 := sa71) (s2 := sb72) (jb := jb41) (gv := gv42) (la := la43) (lb := lb44) (z := ((runO j (cs.getD k ct0).1).2.2.1)) (dn := (runO j (cs.getD k ct0).1).2.2.2) (wo := nI k) (a := S + 9 * k + 6) (ev := (cs.getD k ct0).1) (told := (cs.getD k ct0).2.1) (os := (cs.getD k ct0).2.2.1) (ks := (cs.getD k ct0).2.2.2.1) (kept := (cs.getD k ct0).2.2.2.2.1) (ck := (cs.getD k ct0).2.2.2.2.2.1) (un := (cs.getD k ct0).2.2.2.2.2.2) g73 g74 g75 g77 g59 g55 (by have := hct.1.2.2.2.2; unfold c3of at *; dsimp only at this; omega) (hro.1) (hct.1.2.2.2.1) (by omega) (hro.2.2)) rfl (fun h78 r79 q80 => ?_)
    obtain ⟨rfl, g81, g82, g83, fx84⟩ := q80
    have fr85 : px_fi 17 252 h h78 := fi_tr fr40 fx84 (by omega)
    show px_to 93 35 [some (.ref (17)), some (.int (nI k))] [.int (nI (vd ((cs.getD k ct0).2.2.1) ((runO j (cs.getD k ct0).1).2.2.1) ((runO j (cs.getD k ct0).1).2.1) ((cs.getD k ct0).2.1)))] h78 _
    refine e_iret f_93_35 rfl (rfl) ?_
    have g86 : h78.2.2 177 = some (6, [.ref (jb41), .ref (182), .ref (214), .ref (246), .int (nI gv42), .int (bI la43), .int (bI lb44), .int (oI ((runO j (cs.getD k ct0).1).2.2.1)), .int ((runO j (cs.getD k ct0).1).2.2.2), .int (nI k), .ref (248)]) := fi_at g55 fx84 (by omega)
    have g87 : h78.2.2 182 = some (2, [.int (A45), .int (B46), .int (W47), .int ((runO j (cs.getD k ct0).1).1), .ref (183)]) := fi_at g56 fx84 (by omega)
    have g88 : px_rs h78 183 55 6 (fun k => 182 + 5 * k + 2) := rs_fi g57 fx84 (by omega)
    have g89 : pSt h78 182 sms48 := pSt_fi g58 fx84 (by omega)
    have g90 : pRows h78 246 96 ((runO j (cs.getD k ct0).1).2.1) := pRows_fi g59 fx84 (by omega)
    have g91 : px_pa h78 248 50 30 Value.int tl49 := pa_fi g60 fx84 (by omega)
    have g92 : pMm h78 214 A350 B351 W352 S353 sm354 := pMm_fi g61 fx84 (by omega)
    have g93 : pRun h78 (nI k) (runO j (cs.getD k ct0).1) := ⟨_, _, _, _, _, _, _, _, _, _, _, _, _, _, hl62, g86, g87, g88, g89, g90, g91, g92⟩
    have g94 : h78.2.2 17 = some (11, [.ref (18), .int (nI tx.length), .ref (S), .ref (D), .ref (175), .ref (177), .ref (249), .ref (254), .ref (256), .ref (258), .ref (261), .ref (265), .int (bI pz), .ref (267), .int (bI kk), .ref (268), .int (bI ck)]) := fi_at g64 fx84 (by omega)
    have g95 : px_pa hm36 18 52 500 vN tx := pa_fi g2 fa37 (by omega)
    have g96 : px_pa h30 18 52 500 vN tx := pa_fi g95 fb38 (by omega)
    have g97 : px_pa h78 18 52 500 vN tx := pa_fi g96 fx84 (by omega)
    have g98 : h78.2.2 S = some (8, [.ref (S + 1), .ref (S + 5), .int (nI cs.length)]) := fi_at g66 fx84 (by omega)
    have g99 : pJob hm36 (S + 1) j := pJob_fi g4 fa37 (by omega)
    have g100 : pJob h30 (S + 1) j := pJob_fi g99 fb38 (by omega)
    have g101 : pJob h78 (S + 1) j := pJob_fi g100 fx84 (by omega)
    have g102 : px_rs h78 (S + 5) 56 8 (fun k => S + 9 * k + 6) := rs_fi g68 fx84 (by omega)
    have g103 : pCs hm36 S cs := pCs_fi g6 fa37 (by omega)
    have g104 : pCs h30 S cs := pCs_fi g103 fb38 (by omega)
    have g105 : pCs h78 S cs := pCs_fi g104 fx84 (by omega)
    have g106 : pDr hm36 D := pDr_fi g7 fa37 (by omega)
    have g107 : pDr h30 D := pDr_fi g106 fb38 (by omega)
    have g108 : pDr h78 D := pDr_fi g107 fx84 (by omega)
    have g109 : pRA hm36 := pRA_fi g8 fa37 (by omega)
    have g110 : pRA h30 := pRA_fi g109 fb38 (by omega)
    have g111 : pRA h78 := pRA_fi g110 fx84 (by omega)
    have g112 : pJud h78 := ⟨g81, ⟨_, g82⟩, _, g83⟩
    have g113 : pOrA h78 254 := pOrA_fi g34 fx84 (by omega)
    have g114 : pOrA hm36 256 := pOrA_fi g12 fa37 (by omega)
    have g115 : pOrA h30 256 := pOrA_fi g114 fb38 (by omega)
    have g116 : pOrA h78 256 := pOrA_fi g115 fx84 (by omega)
    have g117 : pSc hm36 := pSc_fi g13 fa37 (by omega)
    have g118 : pSc h30 := pSc_fi g117 fb38 (by omega)
    have g119 : pSc h78 := pSc_fi g118 fx84 (by omega)
    have g120 : pJA hm36 261 := pJA_fi g14 fa37 (by omega)
    have g121 : pJA h30 261 := pJA_fi g120 fb38 (by omega)
    have g122 : pJA h78 261 := pJA_fi g121 fx84 (by omega)
    have g123 : pRwA hm36 265 := pRwA_fi g15 fa37 (by omega)
    have g124 : pRwA h30 265 := pRwA_fi g123 fb38 (by omega)
    have g125 : pRwA h78 265 := pRwA_fi g124 fx84 (by omega)
    have g126 : px_pa hm36 267 50 30 Value.int kl := pa_fi g16 fa37 (by omega)
    have g127 : px_pa h30 267 50 30 Value.int kl := pa_fi g126 fb38 (by omega)
    have g128 : px_pa h78 267 50 30 Value.int kl := pa_fi g127 fx84 (by omega)
    have g129 : px_pa hm36 268 50 30 Value.int cv := pa_fi g17 fa37 (by omega)
    have g130 : px_pa h30 268 50 30 Value.int cv := pa_fi g129 fb38 (by omega)
    have g131 : px_pa h78 268 50 30 Value.int cv := pa_fi g130 fx84 (by omega)
    have g132 : pStr hm36 1 ([60, 61, 62]) := pStr_fi g18 fa37 (by omega)
    have g133 : pStr h30 1 ([60, 61, 62]) := pStr_fi g132 fb38 (by omega)
    have g134 : pStr h78 1 ([60, 61, 62]) := pStr_fi g133 fx84 (by omega)
    have g135 : pStr hm36 2 ([43, 45, 42, 47]) := pStr_fi g19 fa37 (by omega)
    have g136 : pStr h30 2 ([43, 45, 42, 47]) := pStr_fi g135 fb38 (by omega)
    have g137 : pStr h78 2 ([43, 45, 42, 47]) := pStr_fi g136 fx84 (by omega)
    have g138 : pStr hm36 3 stepSigns := pStr_fi g20 fa37 (by omega)
    have g139 : pStr h30 3 stepSigns := pStr_fi g138 fb38 (by omega)
    have g140 : pStr h78 3 stepSigns := pStr_fi g139 fx84 (by omega)
    have g141 : pStr hm36 4 ([60, 61, 62]) := pStr_fi g21 fa37 (by omega)
    have g142 : pStr h30 4 ([60, 61, 62]) := pStr_fi g141 fb38 (by omega)
    have g143 : pStr h78 4 ([60, 61, 62]) := pStr_fi g142 fx84 (by omega)
    have g144 : pStr hm36 5 ([43, 45, 42, 47]) := pStr_fi g22 fa37 (by omega)
    have g145 : pStr h30 5 ([43, 45, 42, 47]) := pStr_fi g144 fb38 (by omega)
    have g146 : pStr h78 5 ([43, 45, 42, 47]) := pStr_fi g145 fx84 (by omega)
    have g147 : pStr hm36 6 evSigns := pStr_fi g23 fa37 (by omega)
    have g148 : pStr h30 6 evSigns := pStr_fi g147 fb38 (by omega)
    have g149 : pStr h78 6 evSigns := pStr_fi g148 fx84 (by omega)
    have g150 : pStr hm36 7 keyL := pStr_fi g24 fa37 (by omega)
    have g151 : pStr h30 7 keyL := pStr_fi g150 fb38 (by omega)
    have g152 : pStr h78 7 keyL := pStr_fi g151 fx84 (by omega)
    have g153 : pStr hm36 8 ordL := pStr_fi g25 fa37 (by omega)
    have g154 : pStr h30 8 ordL := pStr_fi g153 fb38 (by omega)
    have g155 : pStr h78 8 ordL := pStr_fi g154 fx84 (by omega)
    have g156 : pJT h78 tx j (cs.map c3of) := ⟨cs, S, D, pz, kk, ck, (nI k), (runO j (cs.getD k ct0).1), kl, cv, g94, g97, g98, g101, g102, g105, g108, g111, g93, g112, g113, g116, g119, g122, g125, g128, g131, g134, g137, g140, g143, g146, g149, g152, g155, rfl, ok2⟩
    exact ⟨congrArg (fun z => some (Value.int z)) (show nI (vd ((cs.getD k ct0).2.2.1) ((runO j (cs.getD k ct0).1).2.2.1) ((runO j (cs.getD k ct0).1).2.1) ((cs.getD k ct0).2.1)) = _ from by unfold aRun; rw [onC_k h8m hkm, map_c3 hk]; rfl), g156, fr85⟩
  · skip
    have c_5 : (hasC c cs.length) = false := bI_f' c_5
    have hno : hasC c (cs.map c3of).length = false := by rw [List.length_map]; exact c_5
    refine e_iconst (v := (-1)) f_93_8 (by decide) rfl ?_
    refine e_iret f_93_9 rfl (rfl) ?_
    have g157 : pJT h tx j (cs.map c3of) := ⟨cs, S, D, pz, kk, ck, wo, xr, kl, cv, g1, g2, g3, g4, g5, g6, g7, g8, g9, g10, g11, g12, g13, g14, g15, g16, g17, g18, g19, g20, g21, g22, g23, g24, g25, rfl, ok⟩
    exact ⟨congrArg (fun z => some (Value.int z)) (show (-1) = _ from (onC_no hno).symm), g157, fr0⟩

set_option maxRecDepth 20000 in
set_option maxHeartbeats 4000000 in
theorem cc_JT_diff {h : px_H} {tx : List Nat} {j : List St} {xs : List CS3} {c : Int32} (H0 : pJT h tx j xs)  : px_wp 96 [.ref (17), .int (c)] h (fun h1 r => r = some (.int (aDiff j xs c)) ∧ pJT h1 tx j xs ∧ px_fi 17 252 h h1) := by
  have fr0 : px_fi 17 252 h h := fi_rf _ _ _
  show px_to 96 0 [some (.ref (17)), some (.int (c))] [] h _
  obtain ⟨cs, S, D, pz, kk, ck, wo, xr, kl, cv, g1, g2, g3, g4, g5, g6, g7, g8, g9, g10, g11, g12, g13, g14, g15, g16, g17, g18, g19, g20, g21, g22, g23, g24, g25, hx, ok⟩ := id H0
  subst hx
  have h8 := ok.2.2.2.1.1
  have hS : 18 < S ∧ S + 78 ≤ 175 := by have := ok.1; omega
  have hD : 18 < D ∧ D + 78 ≤ 175 := by have := ok.1; omega
  have hSD : D + 78 ≤ S ∨ S + 78 ≤ D := by have := ok.1; omega
  have h8m : (cs.map c3of).length ≤ 8 := by rw [List.length_map]; exact h8
  have htl : tx.length ≤ 500 := pa_len g2
  refine e_aload_n f_96_0 rfl rfl ?_
  refine e_iload_n f_96_1 rfl rfl ?_
  refine e_callV (As := [.int (c)]) (rest := []) f_96_2 rfl rfl rfl (Nat.le_of_ble_eq_true rfl) (Nat.le_of_ble_eq_true rfl) g1 rfl (Nat.le_of_ble_eq_true rfl) (cc_JT_has (c := c) (L := tx.length) (S := S) (D := D) (n := cs.length) (pz := pz) (kk := kk) (ck := ck) g1 g3 (by omega)) rfl (fun h26 r27 q28 => ?_)
  obtain ⟨rfl, qe⟩ := q28
  have qe := qe.symm
  subst qe
  show px_to 96 5 [some (.ref (17)), some (.int (c))] [.int (bI (hasC c cs.length))] h _
  refine e_if_ne f_96_5 rfl (fun c_5 => ?_) (fun c_5 => ?_)
  · skip
    have c_5 : (hasC c cs.length) = true := bI_t c_5
    obtain ⟨k, hk, hkc⟩ := hasC_t (by omega) c_5
    subst hkc
    have hkm : k < (cs.map c3of).length := by rw [List.length_map]; exact hk
    have g29 : pCase h (S + 9 * k + 6) ((cs.getD k ct0).1) ((cs.getD k ct0).2.1) ((cs.getD k ct0).2.2.1) ((cs.getD k ct0).2.2.2.1) ((cs.getD k ct0).2.2.2.2.1) ((cs.getD k ct0).2.2.2.2.2.1) ((cs.getD k ct0).2.2.2.2.2.2) := (pCs_get (k := k) g6 (by omega) hk).1
    have hct : okK j (cs.getD k ct0) := ok.2.2.2.1.2 _ (getD_mem _ hk)
    refine e_aload_n f_96_10 rfl rfl ?_
    refine e_iload_n f_96_11 rfl rfl ?_
    refine e_callV (As := [.int (nI k)]) (rest := []) f_96_12 rfl rfl rfl (Nat.le_of_ble_eq_true rfl) (Nat.le_of_ble_eq_true rfl) g1 rfl (Nat.le_of_ble_eq_true rfl) (cc_JT_rw (c := k) (j := j) (cs := cs) (wo := wo) (x := xr) (L := tx.length) (S := S) (D := D) (n := cs.length) (pz := pz) (kk := kk) (ck := ck) g9 g11 g1 g3 g4 g5 g6 (hk) (h8) (ok.2.2.1.1) (fun t ht => (ok.2.2.2.1.2 t ht).1) (hS) (fun e => ok.2.2.2.2.1 k hk e)) rfl (fun h30 r31 q32 => ?_)
    obtain ⟨rfl, g33, g34, fx35⟩ := q32
    obtain ⟨hm36, fa37, fb38⟩ := fj_mid fx35
    have fr39 : px_fi 17 252 h hm36 := fi_tr fr0 fa37 (by omega)
    have fr40 : px_fi 17 252 h h30 := fi_tr fr39 fb38 (by omega)
    show px_to 96 15 [some (.ref (17)), some (.int (nI k))] [] h30 _
    have ok2 := okJT_wo (wo2 := nI k) (x2 := (runO j (cs.getD k ct0).1)) ok (wo_ok h8 hk rfl)
    have hro := runO_ok (es := (cs.getD k ct0).1) ok.2.2.1.1 hct.1.2.1
    obtain ⟨jb41, gv42, la43, lb44, A45, B46, W47, sms48, tl49, A350, B351, W352, S353, sm354, hl62, g55, g56, g57, g58, g59, g60, g61⟩ := id g33
    refine e_aload_n f_96_15 rfl rfl ?_
    have g63 : hm36.2.2 17 = some (11, [.ref (18), .int (nI tx.length), .ref (S), .ref (D), .ref (175), .ref (177), .ref (249), .ref (254), .ref (256), .ref (258), .ref (261), .ref (265), .int (bI pz), .ref (267), .int (bI kk), .ref (268), .int (bI ck)]) := fi_at g1 fa37 (by omega)
    have g64 : h30.2.2 17 = some (11, [.ref (18), .int (nI tx.length), .ref (S), .ref (D), .ref (175), .ref (177), .ref (249), .ref (254), .ref (256), .ref (258), .ref (261), .ref (265), .int (bI pz), .ref (267), .int (bI kk), .ref (268), .int (bI ck)]) := fi_at g63 fb38 (by omega)
    refine e_getf f_96_16 g64 rfl rfl ?_
    refine e_aload_n f_96_19 rfl rfl ?_
    refine e_getf f_96_20 g64 rfl rfl ?_
    have g65 : hm36.2.2 S = some (8, [.ref (S + 1), .ref (S + 5), .int (nI cs.length)]) := fi_at g3 fa37 (by omega)
    have g66 : h30.2.2 S = some (8, [.ref (S + 1), .ref (S + 5), .int (nI cs.length)]) := fi_at g65 fb38 (by omega)
    refine e_getf f_96_23 g66 rfl rfl ?_
    refine e_iload_n f_96_26 rfl rfl ?_
    have g67 : px_rs hm36 (S + 5) 56 8 (fun k => S + 9 * k + 6) := rs_fi g5 fa37 (by omega)
    have g68 : px_rs h30 (S + 5) 56 8 (fun k => S + 9 * k + 6) := rs_fi g67 fb38 (by omega)
    refine e_aaload_r f_96_27 (by decide) g68 (by first | omega | (simp only [List.length_set]; omega)) (by decide) rfl ?_
    show px_to 96 28 [some (.ref (17)), some (.int (nI k))] [.ref (S + 9 * k + 6), .ref (249)] h30 _
    refine e_aload_n f_96_28 rfl rfl ?_
    refine e_getf f_96_29 g64 rfl rfl ?_
    refine e_getf f_96_32 g55 rfl rfl ?_
    have g69 : pJud hm36 := pJud_fi g10 fa37 (by omega)
    have g70 : pJud h30 := pJud_fi g69 fb38 (by omega)
    obtain ⟨g73, ⟨sa71, g74⟩, sb72, g75⟩ := g70
    have g76 : pCase hm36 (S + 9 * k + 6) ((cs.getD k ct0).1) ((cs.getD k ct0).2.1) ((cs.getD k ct0).2.2.1) ((cs.getD k ct0).2.2.2.1) ((cs.getD k ct0).2.2.2.2.1) ((cs.getD k ct0).2.2.2.2.2.1) ((cs.getD k ct0).2.2.2.2.2.2) := pCase_fi g29 fa37 (by omega)
    have g77 : pCase h30 (S + 9 * k + 6) ((cs.getD k ct0).1) ((cs.getD k ct0).2.1) ((cs.getD k ct0).2.2.1) ((cs.getD k ct0).2.2.2.1) ((cs.getD k ct0).2.2.2.2.1) ((cs.getD k ct0).2.2.2.2.2.1) ((cs.getD k ct0).2.2.2.2.2.2) := pCase_fi g76 fb38 (by omega)
    refine e_callV (As := [.ref (S + 9 * k + 6), .ref (246)]) (rest := []) f_96_35 rfl rfl rfl (Nat.le_of_ble_eq_true rfl) (Nat.le_of_ble_eq_true rfl) g73 rfl (Nat.le_of_ble_eq_true rfl) (cc_Jud_fd (b := 246) (outs := (runO j (cs.getD k ct0).1).2.1) (s1 := sa71) (s2 := sb72) (a := S + 9 * k + 6) (ev := (cs.getD k ct0).1) (told := (cs.getD k ct0).2.1) (os := (cs.getD k ct0).2.2.1) (ks := (cs.getD k ct0).2.2.2.1) (kept := (cs.getD k ct0).2.2.2.2.1) (ck := (cs.getD k ct0).2.2.2.2.2.1) (un := (cs.getD k ct0).2.2.2.2.2.2) g73 g74 g75 g77 g59 (by have := hct.1.2.2.2.2; dsimp only at this; omega) (hro.1) (hct.1.2.2.2.1) (by omega) (by omega)) rfl (fun h78 r79 q80 => ?_)
    obtain ⟨rfl, g81, g82, g83, fx84⟩ := q80
    have fr85 : px_fi 17 252 h h78 := fi_tr fr40 fx84 (by omega)
    show px_to 96 38 [some (.ref (17)), some (.int (nI k))] [.int (fdiff ((cs.getD k ct0).2.2.1) ((runO j (cs.getD k ct0).1).2.1) ((cs.getD k ct0).2.1))] h78 _
    refine e_iret f_96_38 rfl (rfl) ?_
    have g86 : h78.2.2 177 = some (6, [.ref (jb41), .ref (182), .ref (214), .ref (246), .int (nI gv42), .int (bI la43), .int (bI lb44), .int (oI ((runO j (cs.getD k ct0).1).2.2.1)), .int ((runO j (cs.getD k ct0).1).2.2.2), .int (nI k), .ref (248)]) := fi_at g55 fx84 (by omega)
    have g87 : h78.2.2 182 = some (2, [.int (A45), .int (B46), .int (W47), .int ((runO j (cs.getD k ct0).1).1), .ref (183)]) := fi_at g56 fx84 (by omega)
    have g88 : px_rs h78 183 55 6 (fun k => 182 + 5 * k + 2) := rs_fi g57 fx84 (by omega)
    have g89 : pSt h78 182 sms48 := pSt_fi g58 fx84 (by omega)
    have g90 : pRows h78 246 96 ((runO j (cs.getD k ct0).1).2.1) := pRows_fi g59 fx84 (by omega)
    have g91 : px_pa h78 248 50 30 Value.int tl49 := pa_fi g60 fx84 (by omega)
    have g92 : pMm h78 214 A350 B351 W352 S353 sm354 := pMm_fi g61 fx84 (by omega)
    have g93 : pRun h78 (nI k) (runO j (cs.getD k ct0).1) := ⟨_, _, _, _, _, _, _, _, _, _, _, _, _, _, hl62, g86, g87, g88, g89, g90, g91, g92⟩
    have g94 : h78.2.2 17 = some (11, [.ref (18), .int (nI tx.length), .ref (S), .ref (D), .ref (175), .ref (177), .ref (249), .ref (254), .ref (256), .ref (258), .ref (261), .ref (265), .int (bI pz), .ref (267), .int (bI kk), .ref (268), .int (bI ck)]) := fi_at g64 fx84 (by omega)
    have g95 : px_pa hm36 18 52 500 vN tx := pa_fi g2 fa37 (by omega)
    have g96 : px_pa h30 18 52 500 vN tx := pa_fi g95 fb38 (by omega)
    have g97 : px_pa h78 18 52 500 vN tx := pa_fi g96 fx84 (by omega)
    have g98 : h78.2.2 S = some (8, [.ref (S + 1), .ref (S + 5), .int (nI cs.length)]) := fi_at g66 fx84 (by omega)
    have g99 : pJob hm36 (S + 1) j := pJob_fi g4 fa37 (by omega)
    have g100 : pJob h30 (S + 1) j := pJob_fi g99 fb38 (by omega)
    have g101 : pJob h78 (S + 1) j := pJob_fi g100 fx84 (by omega)
    have g102 : px_rs h78 (S + 5) 56 8 (fun k => S + 9 * k + 6) := rs_fi g68 fx84 (by omega)
    have g103 : pCs hm36 S cs := pCs_fi g6 fa37 (by omega)
    have g104 : pCs h30 S cs := pCs_fi g103 fb38 (by omega)
    have g105 : pCs h78 S cs := pCs_fi g104 fx84 (by omega)
    have g106 : pDr hm36 D := pDr_fi g7 fa37 (by omega)
    have g107 : pDr h30 D := pDr_fi g106 fb38 (by omega)
    have g108 : pDr h78 D := pDr_fi g107 fx84 (by omega)
    have g109 : pRA hm36 := pRA_fi g8 fa37 (by omega)
    have g110 : pRA h30 := pRA_fi g109 fb38 (by omega)
    have g111 : pRA h78 := pRA_fi g110 fx84 (by omega)
    have g112 : pJud h78 := ⟨g81, ⟨_, g82⟩, _, g83⟩
    have g113 : pOrA h78 254 := pOrA_fi g34 fx84 (by omega)
    have g114 : pOrA hm36 256 := pOrA_fi g12 fa37 (by omega)
    have g115 : pOrA h30 256 := pOrA_fi g114 fb38 (by omega)
    have g116 : pOrA h78 256 := pOrA_fi g115 fx84 (by omega)
    have g117 : pSc hm36 := pSc_fi g13 fa37 (by omega)
    have g118 : pSc h30 := pSc_fi g117 fb38 (by omega)
    have g119 : pSc h78 := pSc_fi g118 fx84 (by omega)
    have g120 : pJA hm36 261 := pJA_fi g14 fa37 (by omega)
    have g121 : pJA h30 261 := pJA_fi g120 fb38 (by omega)
    have g122 : pJA h78 261 := pJA_fi g121 fx84 (by omega)
    have g123 : pRwA hm36 265 := pRwA_fi g15 fa37 (by omega)
    have g124 : pRwA h30 265 := pRwA_fi g123 fb38 (by omega)
    have g125 : pRwA h78 265 := pRwA_fi g124 fx84 (by omega)
    have g126 : px_pa hm36 267 50 30 Value.int kl := pa_fi g16 fa37 (by omega)
    have g127 : px_pa h30 267 50 30 Value.int kl := pa_fi g126 fb38 (by omega)
    have g128 : px_pa h78 267 50 30 Value.int kl := pa_fi g127 fx84 (by omega)
    have g129 : px_pa hm36 268 50 30 Value.int cv := pa_fi g17 fa37 (by omega)
    have g130 : px_pa h30 268 50 30 Value.int cv := pa_fi g129 fb38 (by omega)
    have g131 : px_pa h78 268 50 30 Value.int cv := pa_fi g130 fx84 (by omega)
    have g132 : pStr hm36 1 ([60, 61, 62]) := pStr_fi g18 fa37 (by omega)
    have g133 : pStr h30 1 ([60, 61, 62]) := pStr_fi g132 fb38 (by omega)
    have g134 : pStr h78 1 ([60, 61, 62]) := pStr_fi g133 fx84 (by omega)
    have g135 : pStr hm36 2 ([43, 45, 42, 47]) := pStr_fi g19 fa37 (by omega)
    have g136 : pStr h30 2 ([43, 45, 42, 47]) := pStr_fi g135 fb38 (by omega)
    have g137 : pStr h78 2 ([43, 45, 42, 47]) := pStr_fi g136 fx84 (by omega)
    have g138 : pStr hm36 3 stepSigns := pStr_fi g20 fa37 (by omega)
    have g139 : pStr h30 3 stepSigns := pStr_fi g138 fb38 (by omega)
    have g140 : pStr h78 3 stepSigns := pStr_fi g139 fx84 (by omega)
    have g141 : pStr hm36 4 ([60, 61, 62]) := pStr_fi g21 fa37 (by omega)
    have g142 : pStr h30 4 ([60, 61, 62]) := pStr_fi g141 fb38 (by omega)
    have g143 : pStr h78 4 ([60, 61, 62]) := pStr_fi g142 fx84 (by omega)
    have g144 : pStr hm36 5 ([43, 45, 42, 47]) := pStr_fi g22 fa37 (by omega)
    have g145 : pStr h30 5 ([43, 45, 42, 47]) := pStr_fi g144 fb38 (by omega)
    have g146 : pStr h78 5 ([43, 45, 42, 47]) := pStr_fi g145 fx84 (by omega)
    have g147 : pStr hm36 6 evSigns := pStr_fi g23 fa37 (by omega)
    have g148 : pStr h30 6 evSigns := pStr_fi g147 fb38 (by omega)
    have g149 : pStr h78 6 evSigns := pStr_fi g148 fx84 (by omega)
    have g150 : pStr hm36 7 keyL := pStr_fi g24 fa37 (by omega)
    have g151 : pStr h30 7 keyL := pStr_fi g150 fb38 (by omega)
    have g152 : pStr h78 7 keyL := pStr_fi g151 fx84 (by omega)
    have g153 : pStr hm36 8 ordL := pStr_fi g25 fa37 (by omega)
    have g154 : pStr h30 8 ordL := pStr_fi g153 fb38 (by omega)
    have g155 : pStr h78 8 ordL := pStr_fi g154 fx84 (by omega)
    have g156 : pJT h78 tx j (cs.map c3of) := ⟨cs, S, D, pz, kk, ck, (nI k), (runO j (cs.getD k ct0).1), kl, cv, g94, g97, g98, g101, g102, g105, g108, g111, g93, g112, g113, g116, g119, g122, g125, g128, g131, g134, g137, g140, g143, g146, g149, g152, g155, rfl, ok2⟩
    exact ⟨congrArg (fun z => some (Value.int z)) (show fdiff ((cs.getD k ct0).2.2.1) ((runO j (cs.getD k ct0).1).2.1) ((cs.getD k ct0).2.1) = _ from by unfold aDiff; rw [onC_k h8m hkm, map_c3 hk]; rfl), g156, fr85⟩
  · skip
    have c_5 : (hasC c cs.length) = false := bI_f' c_5
    have hno : hasC c (cs.map c3of).length = false := by rw [List.length_map]; exact c_5
    refine e_iconst (v := (-1)) f_96_8 (by decide) rfl ?_
    refine e_iret f_96_9 rfl (rfl) ?_
    have g157 : pJT h tx j (cs.map c3of) := ⟨cs, S, D, pz, kk, ck, wo, xr, kl, cv, g1, g2, g3, g4, g5, g6, g7, g8, g9, g10, g11, g12, g13, g14, g15, g16, g17, g18, g19, g20, g21, g22, g23, g24, g25, rfl, ok⟩
    exact ⟨congrArg (fun z => some (Value.int z)) (show (-1) = _ from (onC_no hno).symm), g157, fr0⟩
