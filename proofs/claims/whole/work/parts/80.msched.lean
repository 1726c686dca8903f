theorem nn_of {q : Int32} (h : ¬ q < 0) : ∃ k, k < 2147483648 ∧ q = nI k := by
  have h1 := Int32.not_lt.mp h
  have h2 := Int32.le_iff_toInt_le.mp h1
  rw [show (0 : Int32).toInt = 0 by decide] at h2
  have h3 := Int32.toInt_lt q
  refine ⟨q.toInt.toNat, by omega, ?_⟩
  apply Int32.toInt_inj.mp
  rw [nI_toInt (by omega)]
  omega
theorem hasC_inv {k n : Nat} (hk : k < 2147483648) (hn : n < 2147483648) (h : hasC (nI k) n = true) : k < n := (nI_ltI (by omega) (by omega)).mp (of_decide_eq_true h).2

set_option maxRecDepth 20000 in
set_option maxHeartbeats 4000000 in
theorem ll_Md_finds {h0 : px_H} {s k na nb : Nat} {T : List Nat} {ga : gA} {gp : gP} {gq : gQ} {gh : gH} {gw : gW} {gu : gU} {gv : gV} (h24 : na + nb ≤ 24) (hs : s < 4) (hkm : k < 2147483648) : ∀ (d : Nat) (n : Nat) (l : Nat) (pre : Nat) (bt : Int32) (pl : Int32) (g : px_H), (s + 1 ≤ n + d) → (n ≤ s + 1) → (pre + l = k) → (pre ≤ T.length) → (T.drop pre = (List.range' n (s + 1 - n)).flatMap (thS na nb)) → g.2.2 269 = some (12, mB ga gp gq gh gw gu (nI na, nI nb, bt, pl, nI l, gv.2.2.2.2.2.1, gv.2.2.2.2.2.2.1, gv.2.2.2.2.2.2.2.1, gv.2.2.2.2.2.2.2.2)) → px_fi 269 1 h0 g → px_to 177 7 [some (.ref (269)), some (.int (nI s)), some (.int (nI k)), some (.int (nI n))] [] g (fun h1 r => r = some (.int (bI (decide (k < T.length)))) ∧ pTh h1 ga gp gq gh gw gu gv na nb T k ∧ px_fi 269 1 h0 h1) := by
  intro d
  induction d using Nat.strongRecOn with
  | ind d ih =>
    intro n l pre bt pl g q0 q1 q2 q3 q4 G0 frg
    refine e_iload_n f_177_7 rfl rfl ?_
    refine e_iload_n f_177_8 rfl rfl ?_
    refine e_icmp_gt f_177_9 rfl (fun c_9 => ?_) (fun c_9 => ?_)
    · skip
      have c_9 : s < n := cv_lt (by omega) (by omega) c_9
      refine e_iconst (v := nI 0) f_177_38 (by decide) rfl ?_
      refine e_iret f_177_39 rfl (rfl) ?_
      rw [show s + 1 - n = 0 by omega] at q4
      have hn := List.drop_eq_nil_iff.mp q4
      exact ⟨by rw [decide_eq_false (by omega)]; rfl, ⟨_, _, _, G0, fun z => absurd z (by omega), fun _ => congrArg nI (by omega)⟩, frg⟩
    · skip
      have c_9 : n ≤ s := cv_nlt (by omega) (by omega) c_9
      refine e_aload_n f_177_12 rfl rfl ?_
      refine e_iload_n f_177_13 rfl rfl ?_
      refine e_iconst (v := nI 0) f_177_14 (by decide) rfl ?_
      show px_to 177 15 [some (.ref (269)), some (.int (nI s)), some (.int (nI k)), some (.int (nI n))] [.int (bI false), .int (nI n), .ref (269)] g _
      refine e_callV (As := [.int (nI n), .int (bI false)]) (rest := []) f_177_15 rfl rfl rfl (Nat.le_of_ble_eq_true rfl) (Nat.le_of_ble_eq_true rfl) G0 rfl (Nat.le_of_ble_eq_true rfl) (cc_Md_thatF (sw := n) (l := l) (fs := na) (gs := nb) (ga := ga) (gp := gp) (gq := gq) (gh := gh) (gw := gw) (gu := gu) (gv := (nI na, nI nb, bt, pl, nI l, gv.2.2.2.2.2.1, gv.2.2.2.2.2.2.1, gv.2.2.2.2.2.2.2.1, gv.2.2.2.2.2.2.2.2)) G0 (by omega) (by omega) (by omega)) rfl (fun h1 r2 q3 => ?_)
      obtain ⟨rfl, g4, fx5⟩ := q3
      have fr6 : px_fi 269 1 h0 h1 := fi_tr frg fx5 (by omega)
      show px_to 177 18 [some (.ref (269)), some (.int (nI s)), some (.int (nI k)), some (.int (nI n))] [.int (bI (decide (l < (thL false na nb n).length)))] h1 _
      refine e_if_ne f_177_18 rfl (fun c_18 => ?_) (fun c_18 => ?_)
      · skip
        have c_18 : (decide (l < (thL false na nb n).length)) = true := bI_t c_18
        refine e_iconst (v := nI 1) f_177_30 (by decide) rfl ?_
        refine e_iret f_177_31 rfl (rfl) ?_
        obtain ⟨bt7, pl8, lf9, g10, hT111, hT212⟩ := id g4
        rw [show s + 1 - n = (s + 1 - (n + 1)) + 1 by omega, List.range'_succ, List.flatMap_cons] at q4
        unfold thS at q4
        rw [List.append_assoc] at q4
        have hz := of_decide_eq_true c_18
        obtain ⟨e1, e2⟩ := drop_f q4 hz
        rw [show pre + l = k by omega] at e1 e2
        exact ⟨by rw [decide_eq_true e1]; rfl, ⟨_, _, _, g10, fun _ => (hT111 hz).trans (congrArg nI e2.symm), fun z => absurd z (by omega)⟩, fr6⟩
      · skip
        have c_18 : (decide (l < (thL false na nb n).length)) = false := bI_f' c_18
        obtain ⟨bt13, pl14, lf15, g16, hT117, hT218⟩ := id g4
        have hz18 := of_decide_eq_false c_18
        have hlf18 := hT218 (by omega)
        have g19 : h1.2.2 269 = some (12, mB ga gp gq gh gw gu (nI na, nI nb, bt13, pl14, nI (l - (thL false na nb n).length), gv.2.2.2.2.2.1, gv.2.2.2.2.2.2.1, gv.2.2.2.2.2.2.2.1, gv.2.2.2.2.2.2.2.2)) := by rw [← hlf18]; exact g16
        refine e_aload_n f_177_21 rfl rfl ?_
        refine e_iload_n f_177_22 rfl rfl ?_
        refine e_iconst (v := nI 1) f_177_23 (by decide) rfl ?_
        show px_to 177 24 [some (.ref (269)), some (.int (nI s)), some (.int (nI k)), some (.int (nI n))] [.int (bI true), .int (nI n), .ref (269)] h1 _
        refine e_callV (As := [.int (nI n), .int (bI true)]) (rest := []) f_177_24 rfl rfl rfl (Nat.le_of_ble_eq_true rfl) (Nat.le_of_ble_eq_true rfl) g19 rfl (Nat.le_of_ble_eq_true rfl) (cc_Md_thatT (sw := n) (l := l - (thL false na nb n).length) (fs := nb) (gs := na) (ga := ga) (gp := gp) (gq := gq) (gh := gh) (gw := gw) (gu := gu) (gv := (nI na, nI nb, bt13, pl14, nI (l - (thL false na nb n).length), gv.2.2.2.2.2.1, gv.2.2.2.2.2.2.1, gv.2.2.2.2.2.2.2.1, gv.2.2.2.2.2.2.2.2)) g19 (by omega) (by omega) (by omega)) rfl (fun h20 r21 q22 => ?_)
        obtain ⟨rfl, g23, fx24⟩ := q22
        have fr25 : px_fi 269 1 h0 h20 := fi_tr fr6 fx24 (by omega)
        show px_to 177 27 [some (.ref (269)), some (.int (nI s)), some (.int (nI k)), some (.int (nI n))] [.int (bI (decide (l - (thL false na nb n).length < (thL true nb na n).length)))] h20 _
        refine e_if_eq f_177_27 rfl (fun c_27 => ?_) (fun c_27 => ?_)
        · skip
          have c_27 : (decide (l - (thL false na nb n).length < (thL true nb na n).length)) = false := bI_f c_27
          obtain ⟨bt26, pl27, lf28, g29, hT130, hT231⟩ := id g23
          have hz27 := of_decide_eq_false c_27
          have hlf27 := hT231 (by omega)
          have g32 : h20.2.2 269 = some (12, mB ga gp gq gh gw gu (nI na, nI nb, bt26, pl27, nI (l - (thL false na nb n).length - (thL true nb na n).length), gv.2.2.2.2.2.1, gv.2.2.2.2.2.2.1, gv.2.2.2.2.2.2.2.1, gv.2.2.2.2.2.2.2.2)) := by rw [← hlf27]; exact g29
          refine e_iinc (y := nI (n + 1)) (L' := [some (.ref (269)), some (.int (nI s)), some (.int (nI k)), some (.int (nI (n + 1)))]) f_177_32 rfl (by rw [show Int32.ofInt 1 = nI 1 by decide]; exact (nI_add _ _)) rfl rfl ?_
          refine e_goto f_177_35 ?_
          rw [show s + 1 - n = (s + 1 - (n + 1)) + 1 by omega, List.range'_succ, List.flatMap_cons] at q4
          unfold thS at q4
          rw [List.append_assoc] at q4
          obtain ⟨e1, e2⟩ := drop_nx q4 q3
          obtain ⟨e3, e4⟩ := drop_nx e1 e2
          first | (exfalso; omega) | exact ih (d - 1) (by omega) (n + 1) (l - (thL false na nb n).length - (thL true nb na n).length) (pre + (thL false na nb n).length + (thL true nb na n).length) bt26 pl27 h20 (by omega) (by omega) (by omega) (by omega) (e3) g32 fr25
        · skip
          have c_27 : (decide (l - (thL false na nb n).length < (thL true nb na n).length)) = true := bI_t' c_27
          refine e_iconst (v := nI 1) f_177_30 (by decide) rfl ?_
          refine e_iret f_177_31 rfl (rfl) ?_
          obtain ⟨bt33, pl34, lf35, g36, hT137, hT238⟩ := id g23
          rw [show s + 1 - n = (s + 1 - (n + 1)) + 1 by omega, List.range'_succ, List.flatMap_cons] at q4
          unfold thS at q4
          rw [List.append_assoc] at q4
          have hz := of_decide_eq_true c_27
          obtain ⟨e3, e4⟩ := drop_nx q4 q3
          obtain ⟨e1, e2⟩ := drop_f e3 hz
          rw [show pre + (thL false na nb n).length + (l - (thL false na nb n).length) = k by omega] at e1 e2
          exact ⟨by rw [decide_eq_true e1]; rfl, ⟨_, _, _, g36, fun _ => (hT137 hz).trans (congrArg nI e2.symm), fun z => absurd z (by omega)⟩, fr25⟩

set_option maxRecDepth 20000 in
set_option maxHeartbeats 4000000 in
theorem cc_Md_finds {h : px_H} {s k na nb : Nat} {ga : gA} {gp : gP} {gq : gQ} {gh : gH} {gw : gW} {gu : gU} {gv : gV} (H0 : h.2.2 269 = some (12, mB ga gp gq gh gw gu (nI na, nI nb, gv.2.2.1, gv.2.2.2.1, gv.2.2.2.2.1, gv.2.2.2.2.2.1, gv.2.2.2.2.2.2.1, gv.2.2.2.2.2.2.2.1, gv.2.2.2.2.2.2.2.2))) (p0 : s < 4) (p1 : na + nb ≤ 24) (p2 : k < 2147483648) : px_wp 177 [.ref (269), .int (nI s), .int (nI k)] h (fun h1 r => r = some (.int (bI (decide (k < (schU na nb s).length)))) ∧ pTh h1 ga gp gq gh gw gu gv na nb (schU na nb s) k ∧ px_fi 269 1 h h1) := by
  have fr0 : px_fi 269 1 h h := fi_rf _ _ _
  show px_to 177 0 [some (.ref (269)), some (.int (nI s)), some (.int (nI k)), none] [] h _
  refine e_aload_n f_177_0 rfl rfl ?_
  refine e_iload_n f_177_1 rfl rfl ?_
  refine e_putp (vs' := mB ga gp gq gh gw gu (nI na, nI nb, gv.2.2.1, gv.2.2.2.1, nI k, gv.2.2.2.2.2.1, gv.2.2.2.2.2.2.1, gv.2.2.2.2.2.2.2.1, gv.2.2.2.2.2.2.2.2)) f_177_2 H0 (Nat.le_of_ble_eq_true rfl) (rfl) (rfl) rfl rfl (fun h1 g2 fx3 => ?_)
  have fr4 : px_fi 269 1 h h1 := fi_tr fr0 fx3 (by omega)
  refine e_iconst (v := nI 0) f_177_5 (by decide) rfl ?_
  refine e_istore_n (L' := [some (.ref (269)), some (.int (nI s)), some (.int (nI k)), some (.int (nI 0))]) f_177_6 (Nat.le_of_ble_eq_true rfl) rfl rfl ?_
  exact ll_Md_finds (h0 := h) p1 p0 p2 5 0 k 0 _ _ h1 (by omega) (by omega) (by omega) (Nat.zero_le _) (by rw [List.drop_zero]; exact schU_th p0) g2 fr4

set_option maxRecDepth 20000 in
set_option maxHeartbeats 4000000 in
theorem ll_MD_scs {P : px_H → Option Value → Prop} {h0 : px_H} {tx : List Nat} {j : List St} {xs : List CS3} {k s0 : Nat} {y : List Nat} {gp : gP} {gq : gQ} {gh : gH} {gw : gW} {gu : gU} {gv : gV} (hab : nAB (xs.getD k c30).1 ≤ 24) (hs0 : s0 < 4) (hy : schU (evCnt false (xs.getD k c30).1) (evCnt true (xs.getD k c30).1) s0 = y) (hyl : y.length ≤ 266) (hk2 : ∀ g bt pl lf, g.2.2 269 = some (12, mB (nI tx.length, nI j.length, nI xs.length) gp gq gh gw gu (nI (evCnt false (xs.getD k c30).1), nI (evCnt true (xs.getD k c30).1), bt, pl, lf, gv.2.2.2.2.2.1, gv.2.2.2.2.2.2.1, gv.2.2.2.2.2.2.2.1, gv.2.2.2.2.2.2.2.2)) → px_fi 269 1 h0 g → P g (some (.int (nI y.length)))) : ∀ (d : Nat) (n : Nat) (bt : Int32) (pl : Int32) (lf : Int32) (g : px_H), (y.length < n + d) → (n ≤ y.length) → g.2.2 269 = some (12, mB (nI tx.length, nI j.length, nI xs.length) gp gq gh gw gu (nI (evCnt false (xs.getD k c30).1), nI (evCnt true (xs.getD k c30).1), bt, pl, lf, gv.2.2.2.2.2.1, gv.2.2.2.2.2.2.1, gv.2.2.2.2.2.2.2.1, gv.2.2.2.2.2.2.2.2)) → px_fi 269 1 h0 g → px_to 179 18 [some (.ref (269)), some (.int (nI k)), some (.int (nI s0)), some (.int (nI n))] [] g P := by
  intro d
  induction d using Nat.strongRecOn with
  | ind d ih =>
    intro n bt pl lf g q0 q1 G0 frg
    unfold nAB at hab
    refine e_aload_n f_179_18 rfl rfl ?_
    refine e_iload_n f_179_19 rfl rfl ?_
    refine e_iload_n f_179_20 rfl rfl ?_
    refine e_callV (As := [.int (nI s0), .int (nI n)]) (rest := []) f_179_21 rfl rfl rfl (Nat.le_of_ble_eq_true rfl) (Nat.le_of_ble_eq_true rfl) G0 rfl (Nat.le_of_ble_eq_true rfl) (cc_Md_finds (s := s0) (k := n) (na := evCnt false (xs.getD k c30).1) (nb := evCnt true (xs.getD k c30).1) (ga := (nI tx.length, nI j.length, nI xs.length)) (gp := gp) (gq := gq) (gh := gh) (gw := gw) (gu := gu) (gv := (nI (evCnt false (xs.getD k c30).1), nI (evCnt true (xs.getD k c30).1), bt, pl, lf, gv.2.2.2.2.2.1, gv.2.2.2.2.2.2.1, gv.2.2.2.2.2.2.2.1, gv.2.2.2.2.2.2.2.2)) G0 (by omega) (by omega) (by omega)) rfl (fun h1 r2 q3 => ?_)
    obtain ⟨rfl, g4, fx5⟩ := q3
    have fr6 : px_fi 269 1 h0 h1 := fi_tr frg fx5 (by omega)
    show px_to 179 24 [some (.ref (269)), some (.int (nI k)), some (.int (nI s0)), some (.int (nI n))] [.int (bI (decide (n < (schU (evCnt false (xs.getD k c30).1) (evCnt true (xs.getD k c30).1) s0).length)))] h1 _
    refine e_if_eq f_179_24 rfl (fun c_24 => ?_) (fun c_24 => ?_)
    · skip
      have c_24 : (decide (n < (schU (evCnt false (xs.getD k c30).1) (evCnt true (xs.getD k c30).1) s0).length)) = false := bI_f c_24
      rw [hy] at c_24
      refine e_iload_n f_179_33 rfl rfl ?_
      refine e_iret f_179_34 rfl (rfl) ?_
      obtain ⟨bt7, pl8, lf9, g10, hT111, hT212⟩ := id g4
      have z := of_decide_eq_false c_24
      have z2 : n = y.length := by omega
      rw [z2]
      exact hk2 _ _ _ _ g10 fr6
    · skip
      have c_24 : (decide (n < (schU (evCnt false (xs.getD k c30).1) (evCnt true (xs.getD k c30).1) s0).length)) = true := bI_t' c_24
      rw [hy] at c_24
      refine e_iinc (y := nI (n + 1)) (L' := [some (.ref (269)), some (.int (nI k)), some (.int (nI s0)), some (.int (nI (n + 1)))]) f_179_27 rfl (by rw [show Int32.ofInt 1 = nI 1 by decide]; exact (nI_add _ _)) rfl rfl ?_
      refine e_goto f_179_30 ?_
      obtain ⟨bt13, pl14, lf15, g16, hT117, hT218⟩ := id g4
      first | (exfalso; omega) | exact ih (d - 1) (by omega) (n + 1) bt13 pl14 lf15 h1 (by omega) (of_decide_eq_true c_24) g16 fr6

theorem schU_mono {a b s : Nat} (h : s ≤ 3) : (schU a b s).length ≤ (schU a b 3).length := by
  rcases (show s = 0 ∨ s = 1 ∨ s = 2 ∨ s = 3 by omega) with e | e | e | e
  all_goals subst e
  all_goals simp only [schU, List.length_append]
  all_goals omega

set_option maxRecDepth 20000 in
set_option maxHeartbeats 4000000 in
theorem cc_MD_scs {h : px_H} {tx : List Nat} {j : List St} {xs : List CS3} {c : Int32} {s : Int32} (H0 : pMD h tx j xs)  : px_wp 179 [.ref (269), .int (c), .int (s)] h (fun h1 r => r = some (.int (aScs xs c s)) ∧ pMD h1 tx j xs ∧ px_fi 269 35 h h1) := by
  have fr0 : px_fi 269 35 h h := fi_rf _ _ _
  show px_to 179 0 [some (.ref (269)), some (.int (c)), some (.int (s)), none] [] h _
  obtain ⟨gp, gq, gh, gw, gu, gv, jn, sl, sl2, lh, lg, lo, lt, cv, pl, ke, g1, g2, g3, g4, g5, g6, g7, g8, g9, g10, g11, g12, g13, g14, g15, g16, g17, g18, g19, g20, g21, g22, g23, g24, g25, g26, ok⟩ := id H0
  have h8 : xs.length ≤ 8 := ok.2.2.1.1
  have hj6 : j.length ≤ 6 := ok.2.1.1.1
  have htl : tx.length ≤ 500 := pa_len g2
  refine e_aload_n f_179_0 rfl rfl ?_
  refine e_iload_n f_179_1 rfl rfl ?_
  refine e_iload_n f_179_2 rfl rfl ?_
  refine e_callV (As := [.int (c), .int (s)]) (rest := []) f_179_3 rfl rfl rfl (Nat.le_of_ble_eq_true rfl) (Nat.le_of_ble_eq_true rfl) g1 rfl (Nat.le_of_ble_eq_true rfl) (cc_Md_isAsk (c := c) (s := s) (L := nI tx.length) (sn := nI j.length) (xs := xs) (gp := gp) (gq := gq) (gh := gh) (gw := gw) (gu := gu) (gv := gv) g1 (by omega)) rfl (fun h27 r28 q29 => ?_)
  obtain ⟨rfl, qe⟩ := q29
  have qe := qe.symm
  subst qe
  show px_to 179 6 [some (.ref (269)), some (.int (c)), some (.int (s)), none] [.int (bI (hasC c xs.length && hasC s 4))] h _
  refine e_if_ne f_179_6 rfl (fun c_6 => ?_) (fun c_6 => ?_)
  · skip
    have c_6 : (hasC c xs.length && hasC s 4) = true := bI_t c_6
    have cAk := c_6
    rw [Bool.and_eq_true] at cAk
    obtain ⟨k, hk, hkc⟩ := hasC_t (by omega) cAk.1
    obtain ⟨s0, hs0, hsc⟩ := hasC_t (by omega) cAk.2
    subst hkc
    subst hsc
    have hcx : okC3 (xs.getD k c30) := ok.2.2.1.2 _ (getD_mem _ hk)
    have hab : nAB (xs.getD k c30).1 ≤ 24 := Nat.le_trans (evCnt_sum _) hcx.1
    obtain ⟨em30, es31, om32, ro33, wn34, g35, g36, g37, g38, g39, g40, g41, g42, g43, g44, hA45⟩ := id g6
    obtain ⟨hA1, hA2, hA3, hA4, hA5⟩ := hA45.2 k hk
    have hAl := hA45.1
    have hel := hcx.1
    have hoe : ∀ e ∈ (xs.getD k c30).1, e.1 < 65536 := fun e he => by have := (hcx.2.1 e he).1; omega
    refine e_aload_n f_179_11 rfl rfl ?_
    refine e_iload_n f_179_12 rfl rfl ?_
    refine e_callV (As := [.int (nI k)]) (rest := []) f_179_13 rfl rfl rfl (Nat.le_of_ble_eq_true rfl) (Nat.le_of_ble_eq_true rfl) g1 rfl (Nat.le_of_ble_eq_true rfl) (cc_Md_inp (c := k) (ev := (xs.getD k c30).1) (em := em30) (es := es31) (ga := (nI tx.length, nI j.length, nI xs.length)) (gp := gp) (gq := gq) (gh := gh) (gw := gw) (gu := gu) (gv := gv) g1 g35 g36 (by omega) (⟨hAl.1, hAl.2.1⟩) (hA1) (hA2) (hcx.1) (hoe)) rfl (fun h46 r47 q48 => ?_)
    obtain ⟨rfl, g49, fx50⟩ := q48
    have fr51 : px_fi 269 35 h h46 := fi_tr fr0 fx50 (by omega)
    show px_to 179 16 [some (.ref (269)), some (.int (nI k)), some (.int (nI s0)), none] [] h46 _
    refine e_iconst (v := nI 0) f_179_16 (by decide) rfl ?_
    refine e_istore_n (L' := [some (.ref (269)), some (.int (nI k)), some (.int (nI s0)), some (.int (nI 0))]) f_179_17 (Nat.le_of_ble_eq_true rfl) rfl rfl ?_
    refine ll_MD_scs (h0 := h46) hab hs0 rfl (Nat.le_trans (schU_mono (by omega)) (schU_len hab)) (fun g1 bt1 pl1 lf1 z0 zf => ?_) 300 0 _ _ _ h46 (by have := Nat.le_trans (schU_mono (a := evCnt false (xs.getD k c30).1) (b := evCnt true (xs.getD k c30).1) (show s0 ≤ 3 by omega)) (schU_len hab); omega) (Nat.zero_le _) g49 (fi_rf _ _ _)
    have fr52 : px_fi 269 35 h g1 := fi_tr fr51 zf (by omega)
    have g53 : px_pa h46 274 50 8 vN em30 := pa_fi g35 fx50 (by omega)
    have g54 : px_pa g1 274 50 8 vN em30 := pa_fi g53 zf (by omega)
    have g55 : px_pa h46 275 52 192 evS es31 := pa_fi g36 fx50 (by omega)
    have g56 : px_pa g1 275 52 192 evS es31 := pa_fi g55 zf (by omega)
    have g57 : px_pa h46 276 54 192 evK es31 := pa_fi g37 fx50 (by omega)
    have g58 : px_pa g1 276 54 192 evK es31 := pa_fi g57 zf (by omega)
    have g59 : px_pa h46 277 53 192 evV es31 := pa_fi g38 fx50 (by omega)
    have g60 : px_pa g1 277 53 192 evV es31 := pa_fi g59 zf (by omega)
    have g61 : px_pa h46 278 53 192 evT es31 := pa_fi g39 fx50 (by omega)
    have g62 : px_pa g1 278 53 192 evT es31 := pa_fi g61 zf (by omega)
    have g63 : px_pa h46 279 50 8 vN om32 := pa_fi g40 fx50 (by omega)
    have g64 : px_pa g1 279 50 8 vN om32 := pa_fi g63 zf (by omega)
    have g65 : px_pa h46 280 54 128 rK ro33 := pa_fi g41 fx50 (by omega)
    have g66 : px_pa g1 280 54 128 rK ro33 := pa_fi g65 zf (by omega)
    have g67 : px_pa h46 281 53 128 rV ro33 := pa_fi g42 fx50 (by omega)
    have g68 : px_pa g1 281 53 128 rV ro33 := pa_fi g67 zf (by omega)
    have g69 : px_pa h46 282 53 128 rT ro33 := pa_fi g43 fx50 (by omega)
    have g70 : px_pa g1 282 53 128 rT ro33 := pa_fi g69 zf (by omega)
    have g71 : px_pa h46 283 52 8 vN wn34 := pa_fi g44 fx50 (by omega)
    have g72 : px_pa g1 283 52 8 vN wn34 := pa_fi g71 zf (by omega)
    have g73 : pMA g1 xs := ⟨_, _, _, _, _, g54, g56, g58, g60, g62, g64, g66, g68, g70, g72, hA45⟩
    have g74 : px_pa h46 270 52 500 vN tx := pa_fi g2 fx50 (by omega)
    have g75 : px_pa g1 270 52 500 vN tx := pa_fi g74 zf (by omega)
    have g76 : px_pa h46 271 52 6 stS j := pa_fi g3 fx50 (by omega)
    have g77 : px_pa g1 271 52 6 stS j := pa_fi g76 zf (by omega)
    have g78 : px_pa h46 272 52 6 stA j := pa_fi g4 fx50 (by omega)
    have g79 : px_pa g1 272 52 6 stA j := pa_fi g78 zf (by omega)
    have g80 : px_pa h46 273 50 6 stN j := pa_fi g5 fx50 (by omega)
    have g81 : px_pa g1 273 50 6 stN j := pa_fi g80 zf (by omega)
    have g82 : px_pa h46 284 52 6 stS jn := pa_fi g7 fx50 (by omega)
    have g83 : px_pa g1 284 52 6 stS jn := pa_fi g82 zf (by omega)
    have g84 : px_pa h46 285 52 6 stA jn := pa_fi g8 fx50 (by omega)
    have g85 : px_pa g1 285 52 6 stA jn := pa_fi g84 zf (by omega)
    have g86 : px_pa h46 286 50 6 stN jn := pa_fi g9 fx50 (by omega)
    have g87 : px_pa g1 286 50 6 stN jn := pa_fi g86 zf (by omega)
    have g88 : px_pa h46 287 50 3070 Value.int sl := pa_fi g10 fx50 (by omega)
    have g89 : px_pa g1 287 50 3070 Value.int sl := pa_fi g88 zf (by omega)
    have g90 : px_pa h46 288 50 3070 Value.int sl2 := pa_fi g11 fx50 (by omega)
    have g91 : px_pa g1 288 50 3070 Value.int sl2 := pa_fi g90 zf (by omega)
    have g92 : px_pa h46 289 54 100 rK lh := pa_fi g12 fx50 (by omega)
    have g93 : px_pa g1 289 54 100 rK lh := pa_fi g92 zf (by omega)
    have g94 : px_pa h46 290 50 100 rV lh := pa_fi g13 fx50 (by omega)
    have g95 : px_pa g1 290 50 100 rV lh := pa_fi g94 zf (by omega)
    have g96 : px_pa h46 291 50 100 rT lh := pa_fi g14 fx50 (by omega)
    have g97 : px_pa g1 291 50 100 rT lh := pa_fi g96 zf (by omega)
    have g98 : px_pa h46 292 54 100 rK lg := pa_fi g15 fx50 (by omega)
    have g99 : px_pa g1 292 54 100 rK lg := pa_fi g98 zf (by omega)
    have g100 : px_pa h46 293 50 100 rV lg := pa_fi g16 fx50 (by omega)
    have g101 : px_pa g1 293 50 100 rV lg := pa_fi g100 zf (by omega)
    have g102 : px_pa h46 294 50 100 rT lg := pa_fi g17 fx50 (by omega)
    have g103 : px_pa g1 294 50 100 rT lg := pa_fi g102 zf (by omega)
    have g104 : px_pa h46 295 50 30 Value.int cv := pa_fi g18 fx50 (by omega)
    have g105 : px_pa g1 295 50 30 Value.int cv := pa_fi g104 zf (by omega)
    have g106 : px_pa h46 296 50 24 vN pl := pa_fi g19 fx50 (by omega)
    have g107 : px_pa g1 296 50 24 vN pl := pa_fi g106 zf (by omega)
    have g108 : px_pa h46 297 54 100 rK lo := pa_fi g20 fx50 (by omega)
    have g109 : px_pa g1 297 54 100 rK lo := pa_fi g108 zf (by omega)
    have g110 : px_pa h46 298 50 100 rV lo := pa_fi g21 fx50 (by omega)
    have g111 : px_pa g1 298 50 100 rV lo := pa_fi g110 zf (by omega)
    have g112 : px_pa h46 299 50 100 rT lo := pa_fi g22 fx50 (by omega)
    have g113 : px_pa g1 299 50 100 rT lo := pa_fi g112 zf (by omega)
    have g114 : px_pa h46 300 54 100 rK lt := pa_fi g23 fx50 (by omega)
    have g115 : px_pa g1 300 54 100 rK lt := pa_fi g114 zf (by omega)
    have g116 : px_pa h46 301 50 100 rV lt := pa_fi g24 fx50 (by omega)
    have g117 : px_pa g1 301 50 100 rV lt := pa_fi g116 zf (by omega)
    have g118 : px_pa h46 302 50 100 rT lt := pa_fi g25 fx50 (by omega)
    have g119 : px_pa g1 302 50 100 rT lt := pa_fi g118 zf (by omega)
    have g120 : px_pa h46 303 50 24 vN ke := pa_fi g26 fx50 (by omega)
    have g121 : px_pa g1 303 50 24 vN ke := pa_fi g120 zf (by omega)
    have g122 : pMD g1 tx j xs := ⟨gp, gq, gh, gw, gu, (nI (evCnt false (xs.getD k c30).1), nI (evCnt true (xs.getD k c30).1), bt1, pl1, lf1, gv.2.2.2.2.2.1, gv.2.2.2.2.2.2.1, gv.2.2.2.2.2.2.2.1, gv.2.2.2.2.2.2.2.2), jn, sl, sl2, lh, lg, lo, lt, cv, pl, ke, z0, g75, g77, g79, g81, g73, g83, g85, g87, g89, g91, g93, g95, g97, g99, g101, g103, g105, g107, g109, g111, g113, g115, g117, g119, g121, ok⟩
    exact ⟨congrArg (fun z => some (Value.int z)) (show nI ((schU (evCnt false (xs.getD k c30).1) (evCnt true (xs.getD k c30).1) s0).length) = _ from by unfold aScs; rw [if_pos (hasC_nI (by omega) hs0), onC_k h8 hk, nN_nI (by omega)]; rfl), g122, fr52⟩
  · skip
    have c_6 : (hasC c xs.length && hasC s 4) = false := bI_f' c_6
    refine e_iconst (v := (-1)) f_179_9 (by decide) rfl ?_
    refine e_iret f_179_10 rfl (rfl) ?_
    have g123 : pMD h tx j xs := ⟨gp, gq, gh, gw, gu, gv, jn, sl, sl2, lh, lg, lo, lt, cv, pl, ke, g1, g2, g3, g4, g5, g6, g7, g8, g9, g10, g11, g12, g13, g14, g15, g16, g17, g18, g19, g20, g21, g22, g23, g24, g25, g26, ok⟩
    exact ⟨congrArg (fun z => some (Value.int z)) (show (-1) = _ from by unfold aScs; rcases Bool.and_eq_false_iff.mp c_6 with z | z; rw [show onC xs c _ = -1 from onC_no z, ite_self]; rw [if_neg (by rw [z]; decide)]), g123, fr0⟩

set_option maxRecDepth 20000 in
set_option maxHeartbeats 4000000 in
theorem cc_MD_sc {h : px_H} {tx : List Nat} {j : List St} {xs : List CS3} {c : Int32} {s : Int32} {q : Int32} (H0 : pMD h tx j xs)  : px_wp 180 [.ref (269), .int (c), .int (s), .int (q)] h (fun h1 r => r = some (.int (aSc xs c s q)) ∧ pMD h1 tx j xs ∧ px_fi 269 35 h h1) := by
  have fr0 : px_fi 269 35 h h := fi_rf _ _ _
  show px_to 180 0 [some (.ref (269)), some (.int (c)), some (.int (s)), some (.int (q))] [] h _
  obtain ⟨gp, gq, gh, gw, gu, gv, jn, sl, sl2, lh, lg, lo, lt, cv, pl, ke, g1, g2, g3, g4, g5, g6, g7, g8, g9, g10, g11, g12, g13, g14, g15, g16, g17, g18, g19, g20, g21, g22, g23, g24, g25, g26, ok⟩ := id H0
  have h8 : xs.length ≤ 8 := ok.2.2.1.1
  have hj6 : j.length ≤ 6 := ok.2.1.1.1
  have htl : tx.length ≤ 500 := pa_len g2
  refine e_aload_n f_180_0 rfl rfl ?_
  refine e_iload_n f_180_1 rfl rfl ?_
  refine e_iload_n f_180_2 rfl rfl ?_
  refine e_callV (As := [.int (c), .int (s)]) (rest := []) f_180_3 rfl rfl rfl (Nat.le_of_ble_eq_true rfl) (Nat.le_of_ble_eq_true rfl) g1 rfl (Nat.le_of_ble_eq_true rfl) (cc_Md_isAsk (c := c) (s := s) (L := nI tx.length) (sn := nI j.length) (xs := xs) (gp := gp) (gq := gq) (gh := gh) (gw := gw) (gu := gu) (gv := gv) g1 (by omega)) rfl (fun h27 r28 q29 => ?_)
  obtain ⟨rfl, qe⟩ := q29
  have qe := qe.symm
  subst qe
  show px_to 180 6 [some (.ref (269)), some (.int (c)), some (.int (s)), some (.int (q))] [.int (bI (hasC c xs.length && hasC s 4))] h _
  refine e_if_ne f_180_6 rfl (fun c_6 => ?_) (fun c_6 => ?_)
  · skip
    have c_6 : (hasC c xs.length && hasC s 4) = true := bI_t c_6
    have cAk := c_6
    rw [Bool.and_eq_true] at cAk
    obtain ⟨k, hk, hkc⟩ := hasC_t (by omega) cAk.1
    obtain ⟨s0, hs0, hsc⟩ := hasC_t (by omega) cAk.2
    subst hkc
    subst hsc
    have hcx : okC3 (xs.getD k c30) := ok.2.2.1.2 _ (getD_mem _ hk)
    have hab : nAB (xs.getD k c30).1 ≤ 24 := Nat.le_trans (evCnt_sum _) hcx.1
    obtain ⟨em30, es31, om32, ro33, wn34, g35, g36, g37, g38, g39, g40, g41, g42, g43, g44, hA45⟩ := id g6
    obtain ⟨hA1, hA2, hA3, hA4, hA5⟩ := hA45.2 k hk
    have hAl := hA45.1
    have hel := hcx.1
    have hoe : ∀ e ∈ (xs.getD k c30).1, e.1 < 65536 := fun e he => by have := (hcx.2.1 e he).1; omega
    refine e_aload_n f_180_11 rfl rfl ?_
    refine e_iload_n f_180_12 rfl rfl ?_
    refine e_callV (As := [.int (nI k)]) (rest := []) f_180_13 rfl rfl rfl (Nat.le_of_ble_eq_true rfl) (Nat.le_of_ble_eq_true rfl) g1 rfl (Nat.le_of_ble_eq_true rfl) (cc_Md_inp (c := k) (ev := (xs.getD k c30).1) (em := em30) (es := es31) (ga := (nI tx.length, nI j.length, nI xs.length)) (gp := gp) (gq := gq) (gh := gh) (gw := gw) (gu := gu) (gv := gv) g1 g35 g36 (by omega) (⟨hAl.1, hAl.2.1⟩) (hA1) (hA2) (hcx.1) (hoe)) rfl (fun h46 r47 q48 => ?_)
    obtain ⟨rfl, g49, fx50⟩ := q48
    have fr51 : px_fi 269 35 h h46 := fi_tr fr0 fx50 (by omega)
    show px_to 180 16 [some (.ref (269)), some (.int (nI k)), some (.int (nI s0)), some (.int (q))] [] h46 _
    refine e_iload_n f_180_16 rfl rfl ?_
    refine e_if_lt f_180_17 rfl (fun c_17 => ?_) (fun c_17 => ?_)
    · skip
      refine e_bipush (v := (-3)) f_180_36 (by decide) rfl ?_
      refine e_iret f_180_38 rfl (rfl) ?_
      have g52 : px_pa h46 274 50 8 vN em30 := pa_fi g35 fx50 (by omega)
      have g53 : px_pa h46 275 52 192 evS es31 := pa_fi g36 fx50 (by omega)
      have g54 : px_pa h46 276 54 192 evK es31 := pa_fi g37 fx50 (by omega)
      have g55 : px_pa h46 277 53 192 evV es31 := pa_fi g38 fx50 (by omega)
      have g56 : px_pa h46 278 53 192 evT es31 := pa_fi g39 fx50 (by omega)
      have g57 : px_pa h46 279 50 8 vN om32 := pa_fi g40 fx50 (by omega)
      have g58 : px_pa h46 280 54 128 rK ro33 := pa_fi g41 fx50 (by omega)
      have g59 : px_pa h46 281 53 128 rV ro33 := pa_fi g42 fx50 (by omega)
      have g60 : px_pa h46 282 53 128 rT ro33 := pa_fi g43 fx50 (by omega)
      have g61 : px_pa h46 283 52 8 vN wn34 := pa_fi g44 fx50 (by omega)
      have g62 : pMA h46 xs := ⟨_, _, _, _, _, g52, g53, g54, g55, g56, g57, g58, g59, g60, g61, hA45⟩
      have g63 : px_pa h46 270 52 500 vN tx := pa_fi g2 fx50 (by omega)
      have g64 : px_pa h46 271 52 6 stS j := pa_fi g3 fx50 (by omega)
      have g65 : px_pa h46 272 52 6 stA j := pa_fi g4 fx50 (by omega)
      have g66 : px_pa h46 273 50 6 stN j := pa_fi g5 fx50 (by omega)
      have g67 : px_pa h46 284 52 6 stS jn := pa_fi g7 fx50 (by omega)
      have g68 : px_pa h46 285 52 6 stA jn := pa_fi g8 fx50 (by omega)
      have g69 : px_pa h46 286 50 6 stN jn := pa_fi g9 fx50 (by omega)
      have g70 : px_pa h46 287 50 3070 Value.int sl := pa_fi g10 fx50 (by omega)
      have g71 : px_pa h46 288 50 3070 Value.int sl2 := pa_fi g11 fx50 (by omega)
      have g72 : px_pa h46 289 54 100 rK lh := pa_fi g12 fx50 (by omega)
      have g73 : px_pa h46 290 50 100 rV lh := pa_fi g13 fx50 (by omega)
      have g74 : px_pa h46 291 50 100 rT lh := pa_fi g14 fx50 (by omega)
      have g75 : px_pa h46 292 54 100 rK lg := pa_fi g15 fx50 (by omega)
      have g76 : px_pa h46 293 50 100 rV lg := pa_fi g16 fx50 (by omega)
      have g77 : px_pa h46 294 50 100 rT lg := pa_fi g17 fx50 (by omega)
      have g78 : px_pa h46 295 50 30 Value.int cv := pa_fi g18 fx50 (by omega)
      have g79 : px_pa h46 296 50 24 vN pl := pa_fi g19 fx50 (by omega)
      have g80 : px_pa h46 297 54 100 rK lo := pa_fi g20 fx50 (by omega)
      have g81 : px_pa h46 298 50 100 rV lo := pa_fi g21 fx50 (by omega)
      have g82 : px_pa h46 299 50 100 rT lo := pa_fi g22 fx50 (by omega)
      have g83 : px_pa h46 300 54 100 rK lt := pa_fi g23 fx50 (by omega)
      have g84 : px_pa h46 301 50 100 rV lt := pa_fi g24 fx50 (by omega)
      have g85 : px_pa h46 302 50 100 rT lt := pa_fi g25 fx50 (by omega)
      have g86 : px_pa h46 303 50 24 vN ke := pa_fi g26 fx50 (by omega)
      have g87 : pMD h46 tx j xs := ⟨gp, gq, gh, gw, gu, (nI (evCnt false ((xs.getD k c30).1)), nI (evCnt true ((xs.getD k c30).1)), gv.2.2.1, gv.2.2.2.1, gv.2.2.2.2.1, gv.2.2.2.2.2.1, gv.2.2.2.2.2.2.1, gv.2.2.2.2.2.2.2.1, gv.2.2.2.2.2.2.2.2), jn, sl, sl2, lh, lg, lo, lt, cv, pl, ke, g49, g63, g64, g65, g66, g62, g67, g68, g69, g70, g71, g72, g73, g74, g75, g76, g77, g78, g79, g80, g81, g82, g83, g84, g85, g86, ok⟩
      exact ⟨congrArg (fun z => some (Value.int z)) (show (-3) = _ from by unfold aSc; rw [if_pos (hasC_nI (by omega) hs0), onC_k h8 hk, nN_nI (show s0 < 2147483648 by omega)]; unfold atL scL; rw [if_neg (fun z => absurd (of_decide_eq_true z).1 (Int32.not_le.mpr c_17))]), g87, fr51⟩
    · skip
      have hUl := Nat.le_trans (schU_mono (a := evCnt false (xs.getD k c30).1) (b := evCnt true (xs.getD k c30).1) (show s0 ≤ 3 by omega)) (schU_len hab)
      obtain ⟨kq, hkq, hkqe⟩ := nn_of c_17
      subst hkqe
      have hab2 := hab
      unfold nAB at hab2
      refine e_aload_n f_180_20 rfl rfl ?_
      refine e_iload_n f_180_21 rfl rfl ?_
      refine e_iload_n f_180_22 rfl rfl ?_
      refine e_callV (As := [.int (nI s0), .int (nI kq)]) (rest := []) f_180_23 rfl rfl rfl (Nat.le_of_ble_eq_true rfl) (Nat.le_of_ble_eq_true rfl) g49 rfl (Nat.le_of_ble_eq_true rfl) (cc_Md_finds (s := s0) (k := kq) (na := evCnt false ((xs.getD k c30).1)) (nb := evCnt true ((xs.getD k c30).1)) (ga := (nI tx.length, nI j.length, nI xs.length)) (gp := gp) (gq := gq) (gh := gh) (gw := gw) (gu := gu) (gv := (nI (evCnt false ((xs.getD k c30).1)), nI (evCnt true ((xs.getD k c30).1)), gv.2.2.1, gv.2.2.2.1, gv.2.2.2.2.1, gv.2.2.2.2.2.1, gv.2.2.2.2.2.2.1, gv.2.2.2.2.2.2.2.1, gv.2.2.2.2.2.2.2.2)) g49 (by omega) (by omega) (by omega)) rfl (fun h88 r89 q90 => ?_)
      obtain ⟨rfl, g91, fx92⟩ := q90
      have fr93 : px_fi 269 35 h h88 := fi_tr fr51 fx92 (by omega)
      show px_to 180 26 [some (.ref (269)), some (.int (nI k)), some (.int (nI s0)), some (.int (nI kq))] [.int (bI (decide (kq < (schU (evCnt false ((xs.getD k c30).1)) (evCnt true ((xs.getD k c30).1)) s0).length)))] h88 _
      refine e_if_eq f_180_26 rfl (fun c_26 => ?_) (fun c_26 => ?_)
      · skip
        have c_26 : (decide (kq < (schU (evCnt false ((xs.getD k c30).1)) (evCnt true ((xs.getD k c30).1)) s0).length)) = false := bI_f c_26
        refine e_bipush (v := (-3)) f_180_36 (by decide) rfl ?_
        refine e_iret f_180_38 rfl (rfl) ?_
        obtain ⟨bt94, pl95, lf96, g97, hT198, hT299⟩ := id g91
        have g100 : px_pa h46 274 50 8 vN em30 := pa_fi g35 fx50 (by omega)
        have g101 : px_pa h88 274 50 8 vN em30 := pa_fi g100 fx92 (by omega)
        have g102 : px_pa h46 275 52 192 evS es31 := pa_fi g36 fx50 (by omega)
        have g103 : px_pa h88 275 52 192 evS es31 := pa_fi g102 fx92 (by omega)
        have g104 : px_pa h46 276 54 192 evK es31 := pa_fi g37 fx50 (by omega)
        have g105 : px_pa h88 276 54 192 evK es31 := pa_fi g104 fx92 (by omega)
        have g106 : px_pa h46 277 53 192 evV es31 := pa_fi g38 fx50 (by omega)
        have g107 : px_pa h88 277 53 192 evV es31 := pa_fi g106 fx92 (by omega)
        have g108 : px_pa h46 278 53 192 evT es31 := pa_fi g39 fx50 (by omega)
        have g109 : px_pa h88 278 53 192 evT es31 := pa_fi g108 fx92 (by omega)
        have g110 : px_pa h46 279 50 8 vN om32 := pa_fi g40 fx50 (by omega)
        have g111 : px_pa h88 279 50 8 vN om32 := pa_fi g110 fx92 (by omega)
        have g112 : px_pa h46 280 54 128 rK ro33 := pa_fi g41 fx50 (by omega)
        have g113 : px_pa h88 280 54 128 rK ro33 := pa_fi g112 fx92 (by omega)
        have g114 : px_pa h46 281 53 128 rV ro33 := pa_fi g42 fx50 (by omega)
        have g115 : px_pa h88 281 53 128 rV ro33 := pa_fi g114 fx92 (by omega)
        have g116 : px_pa h46 282 53 128 rT ro33 := pa_fi g43 fx50 (by omega)
        have g117 : px_pa h88 282 53 128 rT ro33 := pa_fi g116 fx92 (by omega)
        have g118 : px_pa h46 283 52 8 vN wn34 := pa_fi g44 fx50 (by omega)
        have g119 : px_pa h88 283 52 8 vN wn34 := pa_fi g118 fx92 (by omega)
        have g120 : pMA h88 xs := ⟨_, _, _, _, _, g101, g103, g105, g107, g109, g111, g113, g115, g117, g119, hA45⟩
        have g121 : px_pa h46 270 52 500 vN tx := pa_fi g2 fx50 (by omega)
        have g122 : px_pa h88 270 52 500 vN tx := pa_fi g121 fx92 (by omega)
        have g123 : px_pa h46 271 52 6 stS j := pa_fi g3 fx50 (by omega)
        have g124 : px_pa h88 271 52 6 stS j := pa_fi g123 fx92 (by omega)
        have g125 : px_pa h46 272 52 6 stA j := pa_fi g4 fx50 (by omega)
        have g126 : px_pa h88 272 52 6 stA j := pa_fi g125 fx92 (by omega)
        have g127 : px_pa h46 273 50 6 stN j := pa_fi g5 fx50 (by omega)
        have g128 : px_pa h88 273 50 6 stN j := pa_fi g127 fx92 (by omega)
        have g129 : px_pa h46 284 52 6 stS jn := pa_fi g7 fx50 (by omega)
        have g130 : px_pa h88 284 52 6 stS jn := pa_fi g129 fx92 (by omega)
        have g131 : px_pa h46 285 52 6 stA jn := pa_fi g8 fx50 (by omega)
        have g132 : px_pa h88 285 52 6 stA jn := pa_fi g131 fx92 (by omega)
        have g133 : px_pa h46 286 50 6 stN jn := pa_fi g9 fx50 (by omega)
        have g134 : px_pa h88 286 50 6 stN jn := pa_fi g133 fx92 (by omega)
        have g135 : px_pa h46 287 50 3070 Value.int sl := pa_fi g10 fx50 (by omega)
        have g136 : px_pa h88 287 50 3070 Value.int sl := pa_fi g135 fx92 (by omega)
        have g137 : px_pa h46 288 50 3070 Value.int sl2 := pa_fi g11 fx50 (by omega)
        have g138 : px_pa h88 288 50 3070 Value.int sl2 := pa_fi g137 fx92 (by omega)
        have g139 : px_pa h46 289 54 100 rK lh := pa_fi g12 fx50 (by omega)
        have g140 : px_pa h88 289 54 100 rK lh := pa_fi g139 fx92 (by omega)
        have g141 : px_pa h46 290 50 100 rV lh := pa_fi g13 fx50 (by omega)
        have g142 : px_pa h88 290 50 100 rV lh := pa_fi g141 fx92 (by omega)
        have g143 : px_pa h46 291 50 100 rT lh := pa_fi g14 fx50 (by omega)
        have g144 : px_pa h88 291 50 100 rT lh := pa_fi g143 fx92 (by omega)
        have g145 : px_pa h46 292 54 100 rK lg := pa_fi g15 fx50 (by omega)
        have g146 : px_pa h88 292 54 100 rK lg := pa_fi g145 fx92 (by omega)
        have g147 : px_pa h46 293 50 100 rV lg := pa_fi g16 fx50 (by omega)
        have g148 : px_pa h88 293 50 100 rV lg := pa_fi g147 fx92 (by omega)
        have g149 : px_pa h46 294 50 100 rT lg := pa_fi g17 fx50 (by omega)
        have g150 : px_pa h88 294 50 100 rT lg := pa_fi g149 fx92 (by omega)
        have g151 : px_pa h46 295 50 30 Value.int cv := pa_fi g18 fx50 (by omega)
        have g152 : px_pa h88 295 50 30 Value.int cv := pa_fi g151 fx92 (by omega)
        have g153 : px_pa h46 296 50 24 vN pl := pa_fi g19 fx50 (by omega)
        have g154 : px_pa h88 296 50 24 vN pl := pa_fi g153 fx92 (by omega)
        have g155 : px_pa h46 297 54 100 rK lo := pa_fi g20 fx50 (by omega)
        have g156 : px_pa h88 297 54 100 rK lo := pa_fi g155 fx92 (by omega)
        have g157 : px_pa h46 298 50 100 rV lo := pa_fi g21 fx50 (by omega)
        have g158 : px_pa h88 298 50 100 rV lo := pa_fi g157 fx92 (by omega)
        have g159 : px_pa h46 299 50 100 rT lo := pa_fi g22 fx50 (by omega)
        have g160 : px_pa h88 299 50 100 rT lo := pa_fi g159 fx92 (by omega)
        have g161 : px_pa h46 300 54 100 rK lt := pa_fi g23 fx50 (by omega)
        have g162 : px_pa h88 300 54 100 rK lt := pa_fi g161 fx92 (by omega)
        have g163 : px_pa h46 301 50 100 rV lt := pa_fi g24 fx50 (by omega)
        have g164 : px_pa h88 301 50 100 rV lt := pa_fi g163 fx92 (by omega)
        have g165 : px_pa h46 302 50 100 rT lt := pa_fi g25 fx50 (by omega)
        have g166 : px_pa h88 302 50 100 rT lt := pa_fi g165 fx92 (by omega)
        have g167 : px_pa h46 303 50 24 vN ke := pa_fi g26 fx50 (by omega)
        have g168 : px_pa h88 303 50 24 vN ke := pa_fi g167 fx92 (by omega)
        have g169 : pMD h88 tx j xs := ⟨gp, gq, gh, gw, gu, (nI (evCnt false ((xs.getD k c30).1)), nI (evCnt true ((xs.getD k c30).1)), bt94, pl95, lf96, gv.2.2.2.2.2.1, gv.2.2.2.2.2.2.1, gv.2.2.2.2.2.2.2.1, gv.2.2.2.2.2.2.2.2), jn, sl, sl2, lh, lg, lo, lt, cv, pl, ke, g97, g122, g124, g126, g128, g120, g130, g132, g134, g136, g138, g140, g142, g144, g146, g148, g150, g152, g154, g156, g158, g160, g162, g164, g166, g168, ok⟩
        exact ⟨congrArg (fun z => some (Value.int z)) (show (-3) = _ from by unfold aSc; rw [if_pos (hasC_nI (by omega) hs0), onC_k h8 hk, nN_nI (show s0 < 2147483648 by omega)]; unfold atL scL; rw [if_neg (fun z => (of_decide_eq_false c_26) (hasC_inv hkq (by have e := hUl; exact Nat.lt_of_le_of_lt e (by decide)) z))]), g169, fr93⟩
      · skip
        have c_26 : (decide (kq < (schU (evCnt false ((xs.getD k c30).1)) (evCnt true ((xs.getD k c30).1)) s0).length)) = true := bI_t' c_26
        refine e_aload_n f_180_29 rfl rfl ?_
        obtain ⟨bt170, pl171, lf172, g173, hT1174, hT2175⟩ := id g91
        refine e_getf f_180_30 g173 rfl rfl ?_
        show px_to 180 33 [some (.ref (269)), some (.int (nI k)), some (.int (nI s0)), some (.int (nI kq))] [.int (bt170)] h88 _
        refine e_goto f_180_33 ?_
        refine e_iret f_180_38 rfl (rfl) ?_
        have g176 : px_pa h46 274 50 8 vN em30 := pa_fi g35 fx50 (by omega)
        have g177 : px_pa h88 274 50 8 vN em30 := pa_fi g176 fx92 (by omega)
        have g178 : px_pa h46 275 52 192 evS es31 := pa_fi g36 fx50 (by omega)
        have g179 : px_pa h88 275 52 192 evS es31 := pa_fi g178 fx92 (by omega)
        have g180 : px_pa h46 276 54 192 evK es31 := pa_fi g37 fx50 (by omega)
        have g181 : px_pa h88 276 54 192 evK es31 := pa_fi g180 fx92 (by omega)
        have g182 : px_pa h46 277 53 192 evV es31 := pa_fi g38 fx50 (by omega)
        have g183 : px_pa h88 277 53 192 evV es31 := pa_fi g182 fx92 (by omega)
        have g184 : px_pa h46 278 53 192 evT es31 := pa_fi g39 fx50 (by omega)
        have g185 : px_pa h88 278 53 192 evT es31 := pa_fi g184 fx92 (by omega)
        have g186 : px_pa h46 279 50 8 vN om32 := pa_fi g40 fx50 (by omega)
        have g187 : px_pa h88 279 50 8 vN om32 := pa_fi g186 fx92 (by omega)
        have g188 : px_pa h46 280 54 128 rK ro33 := pa_fi g41 fx50 (by omega)
        have g189 : px_pa h88 280 54 128 rK ro33 := pa_fi g188 fx92 (by omega)
        have g190 : px_pa h46 281 53 128 rV ro33 := pa_fi g42 fx50 (by omega)
        have g191 : px_pa h88 281 53 128 rV ro33 := pa_fi g190 fx92 (by omega)
        have g192 : px_pa h46 282 53 128 rT ro33 := pa_fi g43 fx50 (by omega)
        have g193 : px_pa h88 282 53 128 rT ro33 := pa_fi g192 fx92 (by omega)
        have g194 : px_pa h46 283 52 8 vN wn34 := pa_fi g44 fx50 (by omega)
        have g195 : px_pa h88 283 52 8 vN wn34 := pa_fi g194 fx92 (by omega)
        have g196 : pMA h88 xs := ⟨_, _, _, _, _, g177, g179, g181, g183, g185, g187, g189, g191, g193, g195, hA45⟩
        have g197 : px_pa h46 270 52 500 vN tx := pa_fi g2 fx50 (by omega)
        have g198 : px_pa h88 270 52 500 vN tx := pa_fi g197 fx92 (by omega)
        have g199 : px_pa h46 271 52 6 stS j := pa_fi g3 fx50 (by omega)
        have g200 : px_pa h88 271 52 6 stS j := pa_fi g199 fx92 (by omega)
        have g201 : px_pa h46 272 52 6 stA j := pa_fi g4 fx50 (by omega)
        have g202 : px_pa h88 272 52 6 stA j := pa_fi g201 fx92 (by omega)
        have g203 : px_pa h46 273 50 6 stN j := pa_fi g5 fx50 (by omega)
        have g204 : px_pa h88 273 50 6 stN j := pa_fi g203 fx92 (by omega)
        have g205 : px_pa h46 284 52 6 stS jn := pa_fi g7 fx50 (by omega)
        have g206 : px_pa h88 284 52 6 stS jn := pa_fi g205 fx92 (by omega)
        have g207 : px_pa h46 285 52 6 stA jn := pa_fi g8 fx50 (by omega)
        have g208 : px_pa h88 285 52 6 stA jn := pa_fi g207 fx92 (by omega)
        have g209 : px_pa h46 286 50 6 stN jn := pa_fi g9 fx50 (by omega)
        have g210 : px_pa h88 286 50 6 stN jn := pa_fi g209 fx92 (by omega)
        have g211 : px_pa h46 287 50 3070 Value.int sl := pa_fi g10 fx50 (by omega)
        have g212 : px_pa h88 287 50 3070 Value.int sl := pa_fi g211 fx92 (by omega)
        have g213 : px_pa h46 288 50 3070 Value.int sl2 := pa_fi g11 fx50 (by omega)
        have g214 : px_pa h88 288 50 3070 Value.int sl2 := pa_fi g213 fx92 (by omega)
        have g215 : px_pa h46 289 54 100 rK lh := pa_fi g12 fx50 (by omega)
        have g216 : px_pa h88 289 54 100 rK lh := pa_fi g215 fx92 (by omega)
        have g217 : px_pa h46 290 50 100 rV lh := pa_fi g13 fx50 (by omega)
        have g218 : px_pa h88 290 50 100 rV lh := pa_fi g217 fx92 (by omega)
        have g219 : px_pa h46 291 50 100 rT lh := pa_fi g14 fx50 (by omega)
        have g220 : px_pa h88 291 50 100 rT lh := pa_fi g219 fx92 (by omega)
        have g221 : px_pa h46 292 54 100 rK lg := pa_fi g15 fx50 (by omega)
        have g222 : px_pa h88 292 54 100 rK lg := pa_fi g221 fx92 (by omega)
        have g223 : px_pa h46 293 50 100 rV lg := pa_fi g16 fx50 (by omega)
        have g224 : px_pa h88 293 50 100 rV lg := pa_fi g223 fx92 (by omega)
        have g225 : px_pa h46 294 50 100 rT lg := pa_fi g17 fx50 (by omega)
        have g226 : px_pa h88 294 50 100 rT lg := pa_fi g225 fx92 (by omega)
        have g227 : px_pa h46 295 50 30 Value.int cv := pa_fi g18 fx50 (by omega)
        have g228 : px_pa h88 295 50 30 Value.int cv := pa_fi g227 fx92 (by omega)
        have g229 : px_pa h46 296 50 24 vN pl := pa_fi g19 fx50 (by omega)
        have g230 : px_pa h88 296 50 24 vN pl := pa_fi g229 fx92 (by omega)
        have g231 : px_pa h46 297 54 100 rK lo := pa_fi g20 fx50 (by omega)
        have g232 : px_pa h88 297 54 100 rK lo := pa_fi g231 fx92 (by omega)
        have g233 : px_pa h46 298 50 100 rV lo := pa_fi g21 fx50 (by omega)
        have g234 : px_pa h88 298 50 100 rV lo := pa_fi g233 fx92 (by omega)
        have g235 : px_pa h46 299 50 100 rT lo := pa_fi g22 fx50 (by omega)
        have g236 : px_pa h88 299 50 100 rT lo := pa_fi g235 fx92 (by omega)
        have g237 : px_pa h46 300 54 100 rK lt := pa_fi g23 fx50 (by omega)
        have g238 : px_pa h88 300 54 100 rK lt := pa_fi g237 fx92 (by omega)
        have g239 : px_pa h46 301 50 100 rV lt := pa_fi g24 fx50 (by omega)
        have g240 : px_pa h88 301 50 100 rV lt := pa_fi g239 fx92 (by omega)
        have g241 : px_pa h46 302 50 100 rT lt := pa_fi g25 fx50 (by omega)
        have g242 : px_pa h88 302 50 100 rT lt := pa_fi g241 fx92 (by omega)
        have g243 : px_pa h46 303 50 24 vN ke := pa_fi g26 fx50 (by omega)
        have g244 : px_pa h88 303 50 24 vN ke := pa_fi g243 fx92 (by omega)
        have g245 : pMD h88 tx j xs := ⟨gp, gq, gh, gw, gu, (nI (evCnt false ((xs.getD k c30).1)), nI (evCnt true ((xs.getD k c30).1)), bt170, pl171, lf172, gv.2.2.2.2.2.1, gv.2.2.2.2.2.2.1, gv.2.2.2.2.2.2.2.1, gv.2.2.2.2.2.2.2.2), jn, sl, sl2, lh, lg, lo, lt, cv, pl, ke, g173, g198, g200, g202, g204, g196, g206, g208, g210, g212, g214, g216, g218, g220, g222, g224, g226, g228, g230, g232, g234, g236, g238, g240, g242, g244, ok⟩
        exact ⟨congrArg (fun z => some (Value.int z)) (show bt170 = _ from by unfold aSc; rw [if_pos (hasC_nI (by omega) hs0), onC_k h8 hk, nN_nI (show s0 < 2147483648 by omega)]; unfold atL scL; rw [if_pos (hasC_nI (Nat.lt_of_le_of_lt hUl (by decide)) (of_decide_eq_true c_26)), nN_nI hkq]; exact hT1174 (of_decide_eq_true c_26)), g245, fr93⟩
  · skip
    have c_6 : (hasC c xs.length && hasC s 4) = false := bI_f' c_6
    refine e_iconst (v := (-1)) f_180_9 (by decide) rfl ?_
    refine e_iret f_180_10 rfl (rfl) ?_
    have g246 : pMD h tx j xs := ⟨gp, gq, gh, gw, gu, gv, jn, sl, sl2, lh, lg, lo, lt, cv, pl, ke, g1, g2, g3, g4, g5, g6, g7, g8, g9, g10, g11, g12, g13, g14, g15, g16, g17, g18, g19, g20, g21, g22, g23, g24, g25, g26, ok⟩
    exact ⟨congrArg (fun z => some (Value.int z)) (show (-1) = _ from by unfold aSc; rcases Bool.and_eq_false_iff.mp c_6 with z | z; rw [show onC xs c _ = -1 from onC_no z, ite_self]; rw [if_neg (by rw [z]; decide)]), g246, fr0⟩
