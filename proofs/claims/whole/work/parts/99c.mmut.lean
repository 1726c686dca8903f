def sfG {α : Type} (ps : List α) (g q : Nat) : List α := (ps.eraseIdx g).take q ++ ps.drop q
theorem sfG_0 {α : Type} {ps : List α} {g : Nat} (h : g ≤ ps.length) : sfG ps g g = ps := by
  unfold sfG
  rw [List.eraseIdx_eq_take_drop_succ, List.take_append_of_le_length (by rw [List.length_take]; omega), List.take_take, Nat.min_self, List.take_append_drop]
theorem erG_len {α : Type} {ps : List α} {g : Nat} (h : g < ps.length) : (ps.eraseIdx g).length = ps.length - 1 := List.length_eraseIdx_of_lt h
theorem erG_get {α : Type} {ps : List α} {g q : Nat} {d : α} (h : g ≤ q) : (ps.eraseIdx g).getD q d = ps.getD (q + 1) d := by
  rw [List.getD_eq_getElem?_getD, List.getElem?_eraseIdx, if_neg (by omega), List.getD_eq_getElem?_getD]
theorem sfG_len {α : Type} {ps : List α} {g q : Nat} (h : g < ps.length) (hq : q < ps.length) : (sfG ps g q).length = ps.length := by
  unfold sfG
  rw [List.length_append, List.length_take, List.length_drop, erG_len h]
  omega
theorem sfG_get {α : Type} {ps : List α} {g q : Nat} {d : α} (h : g < ps.length) (hq : q + 1 < ps.length) : (sfG ps g q).getD (q + 1) d = ps.getD (q + 1) d := by
  unfold sfG
  rw [List.getD_eq_getElem?_getD, List.getElem?_append_right (by rw [List.length_take, erG_len h]; omega), List.length_take, erG_len h, Nat.min_eq_left (by omega), List.getElem?_drop, show q + (q + 1 - q) = q + 1 by omega, List.getD_eq_getElem?_getD]
theorem sfG_s {α : Type} {ps : List α} {g q : Nat} {d : α} (h : g ≤ q) (hq : q + 1 < ps.length) : (sfG ps g q).set q (ps.getD (q + 1) d) = sfG ps g (q + 1) := by
  have hl : (ps.eraseIdx g).length = ps.length - 1 := erG_len (by omega)
  unfold sfG
  rw [List.set_append_right _ _ (by rw [List.length_take]; omega), List.length_take, hl, Nat.min_eq_left (by omega), Nat.sub_self, drop_step d (show q < ps.length by omega), List.set_cons_zero, take_s d (show q < (ps.eraseIdx g).length by omega), erG_get h, List.append_assoc]
  rfl
theorem sfG_end {α : Type} {ps : List α} {g : Nat} (h : g < ps.length) : sfG ps g (ps.length - 1) = ps.eraseIdx g ++ ps.drop (ps.length - 1) := by
  unfold sfG
  rw [List.take_of_length_le (by rw [erG_len h]; omega)]
theorem mutGo_no (st wy : Nat) : ∀ (j : List St) (i : Nat), st < i → mutGo st wy j i = j
  | [], _, _ => rfl
  | s :: r, i, h => by rw [mutGo, if_neg (by omega), mutGo_no st wy r (i + 1) (by omega)]
theorem mutGo_set (wy : Nat) : ∀ (j : List St) (st i : Nat), st < j.length → wy + 1 < ways (j.getD st (0, 0, 0)) → mutGo (st + i) wy j i = j.set st (chg (j.getD st (0, 0, 0)) wy)
  | [], st, i, h, _ => absurd h (Nat.not_lt_zero _)
  | s :: r, 0, i, h, hw => by
    have hw' : wy + 1 < ways s := hw
    rw [mutGo, if_pos (by omega), if_pos hw', mutGo_no _ _ _ _ (by omega)]
    rfl
  | s :: r, st + 1, i, h, hw => by
    rw [mutGo, if_neg (by omega), show st + 1 + i = st + (i + 1) by omega, mutGo_set wy r st (i + 1) (by rw [List.length_cons] at h; omega) hw]
    rfl
theorem mutGo_er (wy : Nat) : ∀ (j : List St) (st i : Nat), st < j.length → ¬ wy + 1 < ways (j.getD st (0, 0, 0)) → mutGo (st + i) wy j i = j.eraseIdx st
  | [], st, i, h, _ => absurd h (Nat.not_lt_zero _)
  | s :: r, 0, i, h, hw => by
    have hw' : ¬ wy + 1 < ways s := hw
    rw [mutGo, if_pos (by omega), if_neg hw', mutGo_no _ _ _ _ (by omega)]
    rfl
  | s :: r, st + 1, i, h, hw => by
    rw [mutGo, if_neg (by omega), show st + 1 + i = st + (i + 1) by omega, mutGo_er wy r st (i + 1) (by rw [List.length_cons] at h; omega) hw]
    rfl
theorem mutAt_w : ∀ {j : List St} {k : Nat}, k < jMut j → (mutAt j k).1 < j.length ∧ (mutAt j k).2 < ways (j.getD (mutAt j k).1 (0, 0, 0))
  | [], k, h => absurd h (Nat.not_lt_zero _)
  | s :: r, k, h => by
    rw [mutAt]
    by_cases c : k < ways s
    · rw [if_pos c]
      exact ⟨Nat.zero_lt_succ _, c⟩
    · rw [if_neg c]
      have h2 : k - ways s < jMut r := by rw [jMut] at h; omega
      have ih := mutAt_w h2
      exact ⟨by rw [List.length_cons]; exact Nat.succ_lt_succ ih.1, ih.2⟩
theorem pa_cg {a kd L : Nat} {α : Type} {f : α → Value} {xs ys : List α} {h : px_H} (hc : px_pa h a kd L f xs) (e : xs.map f = ys.map f) : px_pa h a kd L f ys := by
  obtain ⟨h1, ws, e1, e2⟩ := hc
  have el : xs.length = ys.length := by have := congrArg List.length e; rwa [List.length_map, List.length_map] at this
  exact ⟨h1, ws, by rw [← e]; exact e1, by rw [← el]; exact e2⟩
theorem map_set_f {α β : Type} {f : α → β} {xs : List α} {k : Nat} {d x : α} (h : f x = f (xs.getD k d)) (hk : k < xs.length) : xs.map f = (xs.set k x).map f := by
  rw [List.map_set, h, getD_lt d hk, ← List.getElem_map f (h := by rw [List.length_map]; exact hk), List.set_getElem_self]
theorem set_stS {j : List St} {k : Nat} {a : Nat} {n : Int32} (hk : k < j.length) : j.map stS = (j.set k ((j.getD k (0, 0, 0)).1, a, n)).map stS := map_set_f (d := (0, 0, 0)) (by unfold stS; rfl) hk
theorem set_stA {j : List St} {k : Nat} {n : Int32} (hk : k < j.length) : j.map stA = (j.set k ((j.getD k (0, 0, 0)).1, (j.getD k (0, 0, 0)).2.1, n)).map stA := map_set_f (d := (0, 0, 0)) (by unfold stA; rfl) hk
theorem set_stN {j : List St} {k : Nat} {a : Nat} (hk : k < j.length) : j.map stN = (j.set k ((j.getD k (0, 0, 0)).1, a, (j.getD k (0, 0, 0)).2.2)).map stN := map_set_f (d := (0, 0, 0)) (by unfold stN; rfl) hk
def sgF (s i : Nat) : Nat := if s = 102 then (if i = 0 then 60 else if i = 1 then 61 else 62) else (if i = 0 then 43 else if i = 1 then 45 else if i = 2 then 42 else 47)

set_option maxRecDepth 20000 in
set_option maxHeartbeats 4000000 in
theorem cc_Md_sgo {h : px_H} {s i : Nat}  (p0 : s < 65536) (p1 : i < 4) : px_wp 196 [.int (nI s), .int (nI i)] h (fun h1 r => r = some (.int (nI (sgF s i))) ∧ h1 = h) := by
  show px_to 196 0 [some (.int (nI s)), some (.int (nI i))] [] h _
  refine e_iload_n f_196_0 rfl rfl ?_
  refine e_bipush (v := nI 102) f_196_1 (by decide) rfl ?_
  refine e_icmp_ne f_196_3 rfl (fun c_3 => ?_) (fun c_3 => ?_)
  · skip
    have c_3 : s ≠ 102 := cv_ne c_3
    refine e_iload_n f_196_28 rfl rfl ?_
    refine e_if_ne f_196_29 rfl (fun c_29 => ?_) (fun c_29 => ?_)
    · skip
      rw [← nI_0] at c_29
      have c_29 : i ≠ 0 := cv_ne c_29
      refine e_iload_n f_196_37 rfl rfl ?_
      refine e_iconst (v := nI 1) f_196_38 (by decide) rfl ?_
      refine e_icmp_ne f_196_39 rfl (fun c_39 => ?_) (fun c_39 => ?_)
      · skip
        have c_39 : i ≠ 1 := cv_ne c_39
        refine e_iload_n f_196_47 rfl rfl ?_
        refine e_iconst (v := nI 2) f_196_48 (by decide) rfl ?_
        refine e_icmp_ne f_196_49 rfl (fun c_49 => ?_) (fun c_49 => ?_)
        · skip
          have c_49 : i ≠ 2 := cv_ne c_49
          refine e_bipush (v := nI 47) f_196_57 (by decide) rfl ?_
          refine e_iret f_196_59 rfl (rfl) ?_
          exact ⟨congrArg (fun z => some (Value.int (nI z))) (show 47 = sgF s i by unfold sgF; rw [if_neg c_3, if_neg c_29, if_neg c_39, if_neg c_49]), rfl⟩
        · skip
          have c_49 : i = 2 := cv_nne (by omega) (by omega) c_49
          refine e_bipush (v := nI 42) f_196_52 (by decide) rfl ?_
          refine e_goto f_196_54 ?_
          refine e_iret f_196_59 rfl (rfl) ?_
          exact ⟨congrArg (fun z => some (Value.int (nI z))) (show 42 = sgF s i by unfold sgF; rw [if_neg c_3, if_neg c_29, if_neg c_39, if_pos c_49]), rfl⟩
      · skip
        have c_39 : i = 1 := cv_nne (by omega) (by omega) c_39
        refine e_bipush (v := nI 45) f_196_42 (by decide) rfl ?_
        refine e_goto f_196_44 ?_
        refine e_iret f_196_59 rfl (rfl) ?_
        exact ⟨congrArg (fun z => some (Value.int (nI z))) (show 45 = sgF s i by unfold sgF; rw [if_neg c_3, if_neg c_29, if_pos c_39]), rfl⟩
    · skip
      rw [← nI_0] at c_29
      have c_29 : i = 0 := cv_nne (by omega) (by omega) c_29
      refine e_bipush (v := nI 43) f_196_32 (by decide) rfl ?_
      refine e_goto f_196_34 ?_
      refine e_iret f_196_59 rfl (rfl) ?_
      exact ⟨congrArg (fun z => some (Value.int (nI z))) (show 43 = sgF s i by unfold sgF; rw [if_neg c_3, if_pos c_29]), rfl⟩
  · skip
    have c_3 : s = 102 := cv_nne (by omega) (by omega) c_3
    refine e_iload_n f_196_6 rfl rfl ?_
    refine e_if_ne f_196_7 rfl (fun c_7 => ?_) (fun c_7 => ?_)
    · skip
      rw [← nI_0] at c_7
      have c_7 : i ≠ 0 := cv_ne c_7
      refine e_iload_n f_196_15 rfl rfl ?_
      refine e_iconst (v := nI 1) f_196_16 (by decide) rfl ?_
      refine e_icmp_ne f_196_17 rfl (fun c_17 => ?_) (fun c_17 => ?_)
      · skip
        have c_17 : i ≠ 1 := cv_ne c_17
        refine e_bipush (v := nI 62) f_196_25 (by decide) rfl ?_
        refine e_iret f_196_27 rfl (rfl) ?_
        exact ⟨congrArg (fun z => some (Value.int (nI z))) (show 62 = sgF s i by unfold sgF; rw [if_pos c_3, if_neg c_7, if_neg c_17]), rfl⟩
      · skip
        have c_17 : i = 1 := cv_nne (by omega) (by omega) c_17
        refine e_bipush (v := nI 61) f_196_20 (by decide) rfl ?_
        refine e_goto f_196_22 ?_
        refine e_iret f_196_27 rfl (rfl) ?_
        exact ⟨congrArg (fun z => some (Value.int (nI z))) (show 61 = sgF s i by unfold sgF; rw [if_pos c_3, if_neg c_7, if_pos c_17]), rfl⟩
    · skip
      rw [← nI_0] at c_7
      have c_7 : i = 0 := cv_nne (by omega) (by omega) c_7
      refine e_bipush (v := nI 60) f_196_10 (by decide) rfl ?_
      refine e_goto f_196_12 ?_
      refine e_iret f_196_27 rfl (rfl) ?_
      exact ⟨congrArg (fun z => some (Value.int (nI z))) (show 60 = sgF s i by unfold sgF; rw [if_pos c_3, if_pos c_7]), rfl⟩

set_option maxRecDepth 20000 in
set_option maxHeartbeats 4000000 in
theorem ll_Md_sks {h0 : px_H} {k : Nat} {j : List St} {A : Nat × Nat} {ga : gA} {gp : gP} {gq : gQ} {gh : gH} {gw : gW} {gu : gU} {gv : gV} (H1 : px_pa h0 271 52 6 stS j) (hok : ∀ s ∈ j, s.1 < 65536) (h6 : j.length ≤ 6) : ∀ (d : Nat) (st : Nat) (pl : Nat) (g : px_H), (j.length ≤ st + d) → (pl < jMut (j.drop st)) → (((mutAt (j.drop st) pl).1 + st, (mutAt (j.drop st) pl).2) = A) → g.2.2 269 = some (12, mB ga gp gq gh gw gu (gv.1, gv.2.1, gv.2.2.1, gv.2.2.2.1, gv.2.2.2.2.1, gv.2.2.2.2.2.1, gv.2.2.2.2.2.2.1, nI st, nI pl)) → px_fi 269 1 h0 g → px_to 197 10 [some (.ref (269)), some (.int (nI k))] [] g (fun h1 r => r = none ∧ h1.2.2 269 = some (12, mB ga gp gq gh gw gu (gv.1, gv.2.1, gv.2.2.1, gv.2.2.2.1, gv.2.2.2.2.1, gv.2.2.2.2.2.1, gv.2.2.2.2.2.2.1, nI A.1, nI A.2)) ∧ px_fi 269 1 h0 h1) := by
  intro d
  induction d using Nat.strongRecOn with
  | ind d ih =>
    intro st pl g q0 q1 q2 G0 frg
    have hst : st < j.length := by
      apply Classical.byContradiction
      intro z
      rw [List.drop_eq_nil_of_le (by omega)] at q1
      exact absurd q1 (Nat.not_lt_zero _)
    have hj30 : jMut (j.drop st) ≤ 5 * (j.drop st).length := jMut_le _
    rw [List.length_drop] at hj30
    have hws := ways_le (j.getD st (0, 0, 0))
    refine e_aload_n f_197_10 rfl rfl ?_
    refine e_getf f_197_11 G0 rfl rfl ?_
    show px_to 197 14 [some (.ref (269)), some (.int (nI k))] [.int (nI pl)] g _
    refine e_aload_n f_197_14 rfl rfl ?_
    refine e_aload_n f_197_15 rfl rfl ?_
    refine e_getf f_197_16 G0 rfl rfl ?_
    show px_to 197 19 [some (.ref (269)), some (.int (nI k))] [.int (nI st), .ref (269), .int (nI pl)] g _
    have g1 : px_pa g 271 52 6 stS j := pa_fi H1 frg (by omega)
    refine e_callV (As := [.int (nI st)]) (rest := [.int (nI pl)]) f_197_19 rfl rfl rfl (Nat.le_of_ble_eq_true rfl) (Nat.le_of_ble_eq_true rfl) G0 rfl (Nat.le_of_ble_eq_true rfl) (cc_Md_mutOf (i := st) (j := j) (ga := ga) (gp := gp) (gq := gq) (gh := gh) (gw := gw) (gu := gu) (gv := (gv.1, gv.2.1, gv.2.2.1, gv.2.2.2.1, gv.2.2.2.2.1, gv.2.2.2.2.2.1, gv.2.2.2.2.2.2.1, nI st, nI pl)) G0 g1 (hst) (hok _ (getD_mem _ hst))) rfl (fun h2 r3 q4 => ?_)
    obtain ⟨rfl, qe⟩ := q4
    have qe := qe.symm
    subst qe
    show px_to 197 22 [some (.ref (269)), some (.int (nI k))] [.int (nI (ways (j.getD st (0, 0, 0)))), .int (nI pl)] g _
    refine e_icmp_lt f_197_22 rfl (fun c_22 => ?_) (fun c_22 => ?_)
    · skip
      have c_22 : pl < ways (j.getD st (0, 0, 0)) := cv_lt (by omega) (by omega) c_22
      refine e_vret f_197_55 rfl ?_
      rw [drop_step (0, 0, 0) hst, mutAt, if_pos (by omega)] at q2
      have e1 : st = A.1 := (Nat.zero_add st).symm.trans (congrArg Prod.fst q2)
      have e2 : pl = A.2 := congrArg Prod.snd q2
      rw [e1, e2] at G0
      exact ⟨rfl, G0, frg⟩
    · skip
      have c_22 : ways (j.getD st (0, 0, 0)) ≤ pl := cv_nlt (by omega) (by omega) c_22
      refine e_aload_n f_197_25 rfl rfl ?_
      refine e_dup f_197_26 rfl rfl ?_
      refine e_getf f_197_27 G0 rfl rfl ?_
      show px_to 197 30 [some (.ref (269)), some (.int (nI k))] [.int (nI pl), .ref (269)] g _
      refine e_aload_n f_197_30 rfl rfl ?_
      refine e_aload_n f_197_31 rfl rfl ?_
      refine e_getf f_197_32 G0 rfl rfl ?_
      show px_to 197 35 [some (.ref (269)), some (.int (nI k))] [.int (nI st), .ref (269), .int (nI pl), .ref (269)] g _
      refine e_callV (As := [.int (nI st)]) (rest := [.int (nI pl), .ref (269)]) f_197_35 rfl rfl rfl (Nat.le_of_ble_eq_true rfl) (Nat.le_of_ble_eq_true rfl) G0 rfl (Nat.le_of_ble_eq_true rfl) (cc_Md_mutOf (i := st) (j := j) (ga := ga) (gp := gp) (gq := gq) (gh := gh) (gw := gw) (gu := gu) (gv := (gv.1, gv.2.1, gv.2.2.1, gv.2.2.2.1, gv.2.2.2.2.1, gv.2.2.2.2.2.1, gv.2.2.2.2.2.2.1, nI st, nI pl)) G0 g1 (hst) (hok _ (getD_mem _ hst))) rfl (fun h5 r6 q7 => ?_)
      obtain ⟨rfl, qe⟩ := q7
      have qe := qe.symm
      subst qe
      show px_to 197 38 [some (.ref (269)), some (.int (nI k))] [.int (nI (ways (j.getD st (0, 0, 0)))), .int (nI pl), .ref (269)] g _
      refine e_isub (z := nI (pl - ways (j.getD st (0, 0, 0)))) f_197_38 (pk_sub (by omega)) rfl ?_
      refine e_putp (vs' := mB ga gp gq gh gw gu (gv.1, gv.2.1, gv.2.2.1, gv.2.2.2.1, gv.2.2.2.2.1, gv.2.2.2.2.2.1, gv.2.2.2.2.2.2.1, nI st, nI (pl - ways (j.getD st (0, 0, 0))))) f_197_39 G0 (Nat.le_of_ble_eq_true rfl) (rfl) (rfl) rfl rfl (fun h8 g9 fx10 => ?_)
      have fr11 : px_fi 269 1 h0 h8 := fi_tr frg fx10 (by omega)
      refine e_aload_n f_197_42 rfl rfl ?_
      refine e_dup f_197_43 rfl rfl ?_
      refine e_getf f_197_44 g9 rfl rfl ?_
      show px_to 197 47 [some (.ref (269)), some (.int (nI k))] [.int (nI st), .ref (269)] h8 _
      refine e_iconst (v := nI 1) f_197_47 (by decide) rfl ?_
      refine e_iadd (z := nI (st + 1)) f_197_48 (nI_add _ _) rfl ?_
      refine e_putp (vs' := mB ga gp gq gh gw gu (gv.1, gv.2.1, gv.2.2.1, gv.2.2.2.1, gv.2.2.2.2.1, gv.2.2.2.2.2.1, gv.2.2.2.2.2.2.1, nI (st + 1), nI (pl - ways (j.getD st (0, 0, 0))))) f_197_49 g9 (Nat.le_of_ble_eq_true rfl) (rfl) (rfl) rfl rfl (fun h12 g13 fx14 => ?_)
      have fr15 : px_fi 269 1 h0 h12 := fi_tr fr11 fx14 (by omega)
      refine e_goto f_197_52 ?_
      rw [drop_step (0, 0, 0) hst, mutAt, if_neg (by omega)] at q2
      rw [drop_step (0, 0, 0) hst, jMut] at q1
      first | (exfalso; omega) | exact ih (d - 1) (by omega) (st + 1) (pl - ways (j.getD st (0, 0, 0))) h12 (by omega) (by omega) (by rw [← q2]; show (_ + (st + 1), _) = (_ + 1 + st, _); rw [show ∀ a : Nat, a + (st + 1) = a + 1 + st from fun a => by omega]) g13 fr15

set_option maxRecDepth 20000 in
set_option maxHeartbeats 4000000 in
theorem cc_Md_sks {h : px_H} {k : Nat} {j : List St} {ga : gA} {gp : gP} {gq : gQ} {gh : gH} {gw : gW} {gu : gU} {gv : gV} (H0 : h.2.2 269 = some (12, mB ga gp gq gh gw gu gv)) (H1 : px_pa h 271 52 6 stS j) (p0 : k < jMut j) (p1 : ∀ s ∈ j, s.1 < 65536) (p2 : j.length ≤ 6) : px_wp 197 [.ref (269), .int (nI k)] h (fun h1 r => r = none ∧ h1.2.2 269 = some (12, mB ga gp gq gh gw gu (gv.1, gv.2.1, gv.2.2.1, gv.2.2.2.1, gv.2.2.2.2.1, gv.2.2.2.2.2.1, gv.2.2.2.2.2.2.1, nI ((mutAt j k).1), nI ((mutAt j k).2))) ∧ px_fi 269 1 h h1) := by
  have fr0 : px_fi 269 1 h h := fi_rf _ _ _
  show px_to 197 0 [some (.ref (269)), some (.int (nI k))] [] h _
  refine e_aload_n f_197_0 rfl rfl ?_
  refine e_iconst (v := nI 0) f_197_1 (by decide) rfl ?_
  refine e_putp (vs' := mB ga gp gq gh gw gu (gv.1, gv.2.1, gv.2.2.1, gv.2.2.2.1, gv.2.2.2.2.1, gv.2.2.2.2.2.1, gv.2.2.2.2.2.2.1, nI 0, gv.2.2.2.2.2.2.2.2)) f_197_2 H0 (Nat.le_of_ble_eq_true rfl) (rfl) (rfl) rfl rfl (fun h1 g2 fx3 => ?_)
  have fr4 : px_fi 269 1 h h1 := fi_tr fr0 fx3 (by omega)
  refine e_aload_n f_197_5 rfl rfl ?_
  refine e_iload_n f_197_6 rfl rfl ?_
  refine e_putp (vs' := mB ga gp gq gh gw gu (gv.1, gv.2.1, gv.2.2.1, gv.2.2.2.1, gv.2.2.2.2.1, gv.2.2.2.2.2.1, gv.2.2.2.2.2.2.1, nI 0, nI k)) f_197_7 g2 (Nat.le_of_ble_eq_true rfl) (rfl) (rfl) rfl rfl (fun h5 g6 fx7 => ?_)
  have fr8 : px_fi 269 1 h h5 := fi_tr fr4 fx7 (by omega)
  exact ll_Md_sks (h0 := h) (A := mutAt j k) H1 p1 p2 j.length 0 k h5 (by omega) p0 (by rw [List.drop_zero]; rfl) g6 fr8

set_option maxRecDepth 20000 in
set_option maxHeartbeats 4000000 in
theorem cc_Md_ilo {h : px_H} {st wy : Nat} {j : List St} {ga : gA} {gp : gP} {gq : gQ} {gh : gH} {gw : gW} {gu : gU} {gv : gV} (H0 : h.2.2 269 = some (12, mB ga gp gq gh gw gu (gv.1, gv.2.1, gv.2.2.1, gv.2.2.2.1, gv.2.2.2.2.1, gv.2.2.2.2.2.1, gv.2.2.2.2.2.2.1, nI st, nI wy))) (H1 : px_pa h 271 52 6 stS j) (p0 : st < j.length) (p1 : ∀ s ∈ j, s.1 < 65536) (p2 : wy < 100) : px_wp 198 [.ref (269)] h (fun h1 r => r = some (.int (bI (decide (wy + 1 = ways (j.getD st (0, 0, 0)))))) ∧ h1 = h) := by
  have hws := ways_le (j.getD st (0, 0, 0))
  show px_to 198 0 [some (.ref (269))] [] h _
  refine e_aload_n f_198_0 rfl rfl ?_
  refine e_getf f_198_1 H0 rfl rfl ?_
  show px_to 198 4 [some (.ref (269))] [.int (nI wy)] h _
  refine e_aload_n f_198_4 rfl rfl ?_
  refine e_aload_n f_198_5 rfl rfl ?_
  refine e_getf f_198_6 H0 rfl rfl ?_
  show px_to 198 9 [some (.ref (269))] [.int (nI st), .ref (269), .int (nI wy)] h _
  refine e_callV (As := [.int (nI st)]) (rest := [.int (nI wy)]) f_198_9 rfl rfl rfl (Nat.le_of_ble_eq_true rfl) (Nat.le_of_ble_eq_true rfl) H0 rfl (Nat.le_of_ble_eq_true rfl) (cc_Md_mutOf (i := st) (j := j) (ga := ga) (gp := gp) (gq := gq) (gh := gh) (gw := gw) (gu := gu) (gv := (gv.1, gv.2.1, gv.2.2.1, gv.2.2.2.1, gv.2.2.2.2.1, gv.2.2.2.2.2.1, gv.2.2.2.2.2.2.1, nI st, nI wy)) H0 H1 (p0) (p1 _ (getD_mem _ p0))) rfl (fun h1 r2 q3 => ?_)
  obtain ⟨rfl, qe⟩ := q3
  have qe := qe.symm
  subst qe
  show px_to 198 12 [some (.ref (269))] [.int (nI (ways (j.getD st (0, 0, 0)))), .int (nI wy)] h _
  refine e_iconst (v := nI 1) f_198_12 (by decide) rfl ?_
  refine e_isub (z := nI (ways (j.getD st (0, 0, 0)) - 1)) f_198_13 (pk_sub (by omega)) rfl ?_
  refine e_icmp_ne f_198_14 rfl (fun c_14 => ?_) (fun c_14 => ?_)
  · skip
    have c_14 : wy ≠ ways (j.getD st (0, 0, 0)) - 1 := cv_ne c_14
    refine e_iconst (v := nI 0) f_198_21 (by decide) rfl ?_
    refine e_iret f_198_22 rfl (rfl) ?_
    exact ⟨congrArg (fun z => some (Value.int z)) (b0 (decide_eq_false (by omega))), rfl⟩
  · skip
    have c_14 : wy = ways (j.getD st (0, 0, 0)) - 1 := cv_nne (by omega) (by omega) c_14
    refine e_iconst (v := nI 1) f_198_17 (by decide) rfl ?_
    refine e_goto f_198_18 ?_
    refine e_iret f_198_22 rfl (rfl) ?_
    exact ⟨congrArg (fun z => some (Value.int z)) (b1 (decide_eq_true (by omega))), rfl⟩

set_option maxRecDepth 20000 in
set_option maxHeartbeats 4000000 in
theorem ll_Md_mtaE {h0 : px_H} {st wy : Nat} {L cn : Int32} {j : List St} {gp : gP} {gq : gQ} {gh : gH} {gw : gW} {gu : gU} {gv : gV} (HM : h0.2.2 269 = some (12, mB (L, nI j.length, cn) gp (nI (j.length - 1), gq.2.1, gq.2.2.1, gq.2.2.2.1, gq.2.2.2.2.1, gq.2.2.2.2.2.1, gq.2.2.2.2.2.2) gh gw gu (gv.1, gv.2.1, gv.2.2.1, gv.2.2.2.1, gv.2.2.2.2.1, gv.2.2.2.2.2.1, gv.2.2.2.2.2.2.1, nI st, nI wy))) (hk : st < j.length) (h6 : j.length ≤ 6) (hok : ∀ s ∈ j, s.1 < 65536 ∧ s.2.1 < 65536) : ∀ (d : Nat) (q : Nat) (g : px_H), (j.length ≤ q + d + 1) → (st ≤ q ∧ q + 1 ≤ j.length) → px_pa g 284 52 6 stS (sfG j st q) → px_pa g 285 52 6 stA (sfG j st q) → px_pa g 286 50 6 stN (sfG j st q) → px_fi 284 3 h0 g → px_to 199 28 [some (.ref (269)), some (.int (nI st)), some (.int (nI q)), none, none, none] [] g (fun h1 r => r = none ∧ px_pa h1 284 52 6 stS (j.eraseIdx st) ∧ px_pa h1 285 52 6 stA (j.eraseIdx st) ∧ px_pa h1 286 50 6 stN (j.eraseIdx st) ∧ px_fi 284 3 h0 h1) := by
  intro d
  induction d using Nat.strongRecOn with
  | ind d ih =>
    intro q g q0 q1 G0 G1 G2 frg
    refine e_iload_n f_199_28 rfl rfl ?_
    refine e_aload_n f_199_29 rfl rfl ?_
    have g1 : g.2.2 269 = some (12, mB (L, nI j.length, cn) gp (nI (j.length - 1), gq.2.1, gq.2.2.1, gq.2.2.2.1, gq.2.2.2.2.1, gq.2.2.2.2.2.1, gq.2.2.2.2.2.2) gh gw gu (gv.1, gv.2.1, gv.2.2.1, gv.2.2.2.1, gv.2.2.2.2.1, gv.2.2.2.2.2.1, gv.2.2.2.2.2.2.1, nI st, nI wy)) := fi_at HM frg (by omega)
    refine e_getf f_199_30 g1 rfl rfl ?_
    show px_to 199 33 [some (.ref (269)), some (.int (nI st)), some (.int (nI q)), none, none, none] [.int (nI (j.length - 1)), .int (nI q)] g _
    refine e_icmp_ge f_199_33 rfl (fun c_33 => ?_) (fun c_33 => ?_)
    · skip
      have c_33 : j.length - 1 ≤ q := cv_le (by omega) (by omega) c_33
      refine e_vret f_199_84 rfl ?_
      have eq : q = j.length - 1 := by omega
      rw [eq, sfG_end hk] at G0 G1 G2
      exact ⟨rfl, pa_pre G0, pa_pre G1, pa_pre G2, frg⟩
    · skip
      have c_33 : q < j.length - 1 := cv_nle (by omega) (by omega) c_33
      have hsl := sfG_len (q := q) hk (show q < j.length by omega)
      have hso := hok _ (getD_mem (0, 0, 0) (show q + 1 < j.length by omega))
      refine e_aload_n f_199_36 rfl rfl ?_
      refine e_getf f_199_37 g1 rfl rfl ?_
      refine e_iload_n f_199_40 rfl rfl ?_
      refine e_aload_n f_199_41 rfl rfl ?_
      refine e_getf f_199_42 g1 rfl rfl ?_
      refine e_iload_n f_199_45 rfl rfl ?_
      refine e_iconst (v := nI 1) f_199_46 (by decide) rfl ?_
      refine e_iadd (z := nI (q + 1)) f_199_47 (nI_add _ _) rfl ?_
      refine e_caload_p (xs := sfG j st q) f_199_48 G0 (d := (0, 0, 0)) (by omega) rfl ?_
      show px_to 199 49 [some (.ref (269)), some (.int (nI st)), some (.int (nI q)), none, none, none] [.int (nI (((sfG j st q).getD (q + 1) (0, 0, 0)).1)), .int (nI q), .ref (284)] g _
      rw [sfG_get hk (by omega)]
      refine e_castore_p (xs := sfG j st q) (x := j.getD (q + 1) (0, 0, 0)) f_199_49 G0 (by omega) (by omega) (nw_ch (by omega)) rfl (fun h2 g3 fx4 => ?_)
      have fr5 : px_fi 284 3 h0 h2 := fi_tr frg fx4 (by omega)
      refine e_aload_n f_199_50 rfl rfl ?_
      have g6 : h2.2.2 269 = some (12, mB (L, nI j.length, cn) gp (nI (j.length - 1), gq.2.1, gq.2.2.1, gq.2.2.2.1, gq.2.2.2.2.1, gq.2.2.2.2.2.1, gq.2.2.2.2.2.2) gh gw gu (gv.1, gv.2.1, gv.2.2.1, gv.2.2.2.1, gv.2.2.2.2.1, gv.2.2.2.2.2.1, gv.2.2.2.2.2.2.1, nI st, nI wy)) := fi_at HM fr5 (by omega)
      refine e_getf f_199_51 g6 rfl rfl ?_
      refine e_iload_n f_199_54 rfl rfl ?_
      refine e_aload_n f_199_55 rfl rfl ?_
      refine e_getf f_199_56 g6 rfl rfl ?_
      refine e_iload_n f_199_59 rfl rfl ?_
      refine e_iconst (v := nI 1) f_199_60 (by decide) rfl ?_
      refine e_iadd (z := nI (q + 1)) f_199_61 (nI_add _ _) rfl ?_
      have g7 : px_pa h2 285 52 6 stA (sfG j st q) := pa_fi G1 fx4 (by omega)
      refine e_caload_p (xs := sfG j st q) f_199_62 g7 (d := (0, 0, 0)) (by omega) rfl ?_
      show px_to 199 63 [some (.ref (269)), some (.int (nI st)), some (.int (nI q)), none, none, none] [.int (nI (((sfG j st q).getD (q + 1) (0, 0, 0)).2.1)), .int (nI q), .ref (285)] h2 _
      rw [sfG_get hk (by omega)]
      refine e_castore_p (xs := sfG j st q) (x := j.getD (q + 1) (0, 0, 0)) f_199_63 g7 (by omega) (by omega) (nw_ch (by omega)) rfl (fun h8 g9 fx10 => ?_)
      have fr11 : px_fi 284 3 h0 h8 := fi_tr fr5 fx10 (by omega)
      refine e_aload_n f_199_64 rfl rfl ?_
      have g12 : h8.2.2 269 = some (12, mB (L, nI j.length, cn) gp (nI (j.length - 1), gq.2.1, gq.2.2.1, gq.2.2.2.1, gq.2.2.2.2.1, gq.2.2.2.2.2.1, gq.2.2.2.2.2.2) gh gw gu (gv.1, gv.2.1, gv.2.2.1, gv.2.2.2.1, gv.2.2.2.2.1, gv.2.2.2.2.2.1, gv.2.2.2.2.2.2.1, nI st, nI wy)) := fi_at HM fr11 (by omega)
      refine e_getf f_199_65 g12 rfl rfl ?_
      refine e_iload_n f_199_68 rfl rfl ?_
      refine e_aload_n f_199_69 rfl rfl ?_
      refine e_getf f_199_70 g12 rfl rfl ?_
      refine e_iload_n f_199_73 rfl rfl ?_
      refine e_iconst (v := nI 1) f_199_74 (by decide) rfl ?_
      refine e_iadd (z := nI (q + 1)) f_199_75 (nI_add _ _) rfl ?_
      have g13 : px_pa h2 286 50 6 stN (sfG j st q) := pa_fi G2 fx4 (by omega)
      have g14 : px_pa h8 286 50 6 stN (sfG j st q) := pa_fi g13 fx10 (by omega)
      refine e_iaload_p (xs := sfG j st q) f_199_76 g14 (d := (0, 0, 0)) (by omega) rfl ?_
      show px_to 199 77 [some (.ref (269)), some (.int (nI st)), some (.int (nI q)), none, none, none] [.int (((sfG j st q).getD (q + 1) (0, 0, 0)).2.2), .int (nI q), .ref (286)] h8 _
      rw [sfG_get hk (by omega)]
      refine e_iastore_p (xs := sfG j st q) (x := j.getD (q + 1) (0, 0, 0)) f_199_77 g14 (by omega) (by omega) (rfl) rfl (fun h15 g16 fx17 => ?_)
      have fr18 : px_fi 284 3 h0 h15 := fi_tr fr11 fx17 (by omega)
      refine e_iinc (y := nI (q + 1)) (L' := [some (.ref (269)), some (.int (nI st)), some (.int (nI (q + 1))), none, none, none]) f_199_78 rfl (by rw [show Int32.ofInt 1 = nI 1 by decide]; exact (nI_add _ _)) rfl rfl ?_
      refine e_goto f_199_81 ?_
      have g19 : px_pa h8 284 52 6 stS ((sfG j st q).set q (j.getD (q + 1) (0, 0, 0))) := pa_fi g3 fx10 (by omega)
      have g20 : px_pa h15 284 52 6 stS ((sfG j st q).set q (j.getD (q + 1) (0, 0, 0))) := pa_fi g19 fx17 (by omega)
      have g21 : px_pa h15 284 52 6 stS (sfG j st (q + 1)) := pa_eq g20 (sfG_s q1.1 (by omega))
      have g22 : px_pa h15 285 52 6 stA ((sfG j st q).set q (j.getD (q + 1) (0, 0, 0))) := pa_fi g9 fx17 (by omega)
      have g23 : px_pa h15 285 52 6 stA (sfG j st (q + 1)) := pa_eq g22 (sfG_s q1.1 (by omega))
      have g24 : px_pa h15 286 50 6 stN (sfG j st (q + 1)) := pa_eq g16 (sfG_s q1.1 (by omega))
      first | (exfalso; omega) | exact ih (d - 1) (by omega) (q + 1) h15 (by omega) (by omega) g21 g23 g24 fr18

set_option maxRecDepth 20000 in
set_option maxHeartbeats 4000000 in
theorem cc_Md_mta {h : px_H} {st wy : Nat} {L cn : Int32} {j jn : List St} {gp : gP} {gq : gQ} {gh : gH} {gw : gW} {gu : gU} {gv : gV} (H0 : h.2.2 269 = some (12, mB (L, nI j.length, cn) gp gq gh gw gu (gv.1, gv.2.1, gv.2.2.1, gv.2.2.2.1, gv.2.2.2.2.1, gv.2.2.2.2.2.1, gv.2.2.2.2.2.2.1, nI st, nI wy))) (H1 : px_pa h 271 52 6 stS j) (H2 : px_pa h 272 52 6 stA j) (H3 : px_pa h 273 50 6 stN j) (H4 : px_pa h 284 52 6 stS jn) (H5 : px_pa h 285 52 6 stA jn) (H6 : px_pa h 286 50 6 stN jn) (p0 : okB j) (p1 : st < j.length) (p2 : wy < ways (j.getD st (0, 0, 0))) : px_wp 199 [.ref (269)] h (fun h1 r => r = none ∧ h1.2.2 269 = some (12, mB (L, nI j.length, cn) gp (nI ((mutGo st wy j 0).length), gq.2.1, gq.2.2.1, gq.2.2.2.1, gq.2.2.2.2.1, gq.2.2.2.2.2.1, gq.2.2.2.2.2.2) gh gw gu (gv.1, gv.2.1, gv.2.2.1, gv.2.2.2.1, gv.2.2.2.2.1, gv.2.2.2.2.2.1, gv.2.2.2.2.2.2.1, nI st, nI wy)) ∧ px_pa h1 284 52 6 stS (mutGo st wy j 0) ∧ px_pa h1 285 52 6 stA (mutGo st wy j 0) ∧ px_pa h1 286 50 6 stN (mutGo st wy j 0) ∧ px_fj 269 1 284 3 h h1) := by
  have fr0 : px_fj 269 1 284 3 h h := fj_rf _ _ _ _ _
  have h6 := p0.1.1
  have hsm := getD_mem (0, 0, 0) p1
  have hj2 : ∀ s ∈ j, s.1 < 65536 ∧ s.2.1 < 65536 := fun s hs => ⟨by have := (p0.1.2 s hs).1; omega, (p0.1.2 s hs).2.1⟩
  have hws := ways_le (j.getD st (0, 0, 0))
  have hsk := hj2 _ hsm
  have hj1 : ∀ s ∈ j, s.1 < 65536 := fun s hs => (hj2 s hs).1
  show px_to 199 0 [some (.ref (269)), none, none, none, none, none] [] h _
  refine e_aload_n f_199_0 rfl rfl ?_
  refine e_callV (As := []) (rest := []) f_199_1 rfl rfl rfl (Nat.le_of_ble_eq_true rfl) (Nat.le_of_ble_eq_true rfl) H0 rfl (Nat.le_of_ble_eq_true rfl) (cc_Md_asT (L := L) (cn := cn) (j := j) (jn := jn) (gp := gp) (gq := gq) (gh := gh) (gw := gw) (gu := gu) (gv := (gv.1, gv.2.1, gv.2.2.1, gv.2.2.2.1, gv.2.2.2.2.1, gv.2.2.2.2.2.1, gv.2.2.2.2.2.2.1, nI st, nI wy)) H0 H1 H2 H3 H4 H5 H6 (hj2)) rfl (fun h1 r2 q3 => ?_)
  obtain ⟨rfl, g4, g5, g6, g7, fx8⟩ := q3
  obtain ⟨hm9, fa10, fb11⟩ := fj_mid fx8
  have fr12 : px_fj 269 1 284 3 h hm9 := fj_tr fr0 fa10 (by omega)
  have fr13 : px_fj 269 1 284 3 h h1 := fj_tr fr12 fb11 (by omega)
  show px_to 199 4 [some (.ref (269)), none, none, none, none, none] [] h1 _
  refine e_aload_n f_199_4 rfl rfl ?_
  refine e_getf f_199_5 g4 rfl rfl ?_
  show px_to 199 8 [some (.ref (269)), none, none, none, none, none] [.int (nI st)] h1 _
  refine e_istore_n (L' := [some (.ref (269)), some (.int (nI st)), none, none, none, none]) f_199_8 (Nat.le_of_ble_eq_true rfl) rfl rfl ?_
  refine e_aload_n f_199_9 rfl rfl ?_
  obtain ⟨hm15, fa16, fb17⟩ := fj_mid fr13
  have g14 : px_pa h1 271 52 6 stS j := pa_fi (pa_fi H1 fa16 (by omega)) fb17 (by omega)
  refine e_callV (As := []) (rest := []) f_199_10 rfl rfl rfl (Nat.le_of_ble_eq_true rfl) (Nat.le_of_ble_eq_true rfl) g4 rfl (Nat.le_of_ble_eq_true rfl) (cc_Md_ilo (st := st) (wy := wy) (j := j) (ga := (L, nI j.length, cn)) (gp := gp) (gq := (nI j.length, gq.2.1, gq.2.2.1, gq.2.2.2.1, gq.2.2.2.2.1, gq.2.2.2.2.2.1, gq.2.2.2.2.2.2)) (gh := gh) (gw := gw) (gu := gu) (gv := (gv.1, gv.2.1, gv.2.2.1, gv.2.2.2.1, gv.2.2.2.2.1, gv.2.2.2.2.2.1, gv.2.2.2.2.2.2.1, nI st, nI wy)) g4 g14 (p1) (hj1) (by omega)) rfl (fun h18 r19 q20 => ?_)
  obtain ⟨rfl, qe⟩ := q20
  have qe := qe.symm
  subst qe
  show px_to 199 13 [some (.ref (269)), some (.int (nI st)), none, none, none, none] [.int (bI (decide (wy + 1 = ways (j.getD st (0, 0, 0)))))] h1 _
  refine e_if_eq f_199_13 rfl (fun c_13 => ?_) (fun c_13 => ?_)
  · skip
    have c_13 : (decide (wy + 1 = ways (j.getD st (0, 0, 0)))) = false := bI_f c_13
    refine e_aload_n f_199_85 rfl rfl ?_
    refine e_getf f_199_86 g4 rfl rfl ?_
    refine e_iload_n f_199_89 rfl rfl ?_
    refine e_caload_p (xs := j) f_199_90 g14 (d := (0, 0, 0)) (by first | omega | (simp only [List.length_set]; omega)) rfl ?_
    show px_to 199 91 [some (.ref (269)), some (.int (nI st)), none, none, none, none] [.int (nI ((j.getD st (0, 0, 0)).1))] h1 _
    refine e_istore_n (L' := [some (.ref (269)), some (.int (nI st)), some (.int (nI ((j.getD st (0, 0, 0)).1))), none, none, none]) f_199_91 (Nat.le_of_ble_eq_true rfl) rfl rfl ?_
    refine e_iload_n f_199_92 rfl rfl ?_
    refine e_bipush (v := nI 102) f_199_93 (by decide) rfl ?_
    refine e_icmp_ne f_199_95 rfl (fun c_95 => ?_) (fun c_95 => ?_)
    · skip
      have c_95 : (j.getD st (0, 0, 0)).1 ≠ 102 := cv_ne c_95
      refine e_iload_n f_199_102 rfl rfl ?_
      refine e_bipush (v := nI 109) f_199_103 (by decide) rfl ?_
      refine e_icmp_ne f_199_105 rfl (fun c_105 => ?_) (fun c_105 => ?_)
      · skip
        have c_105 : (j.getD st (0, 0, 0)).1 ≠ 109 := cv_ne c_105
        refine e_iconst (v := nI 1) f_199_112 (by decide) rfl ?_
        refine e_istore_n (L' := [some (.ref (269)), some (.int (nI st)), some (.int (nI ((j.getD st (0, 0, 0)).1))), some (.int (nI 1)), none, none]) f_199_113 (Nat.le_of_ble_eq_true rfl) rfl rfl ?_
        refine e_aload_n f_199_114 rfl rfl ?_
        refine e_getf f_199_115 g4 rfl rfl ?_
        show px_to 199 118 [some (.ref (269)), some (.int (nI st)), some (.int (nI ((j.getD st (0, 0, 0)).1))), some (.int (nI 1)), none, none] [.int (nI wy)] h1 _
        refine e_iload_n f_199_118 rfl rfl ?_
        refine e_iconst (v := nI 1) f_199_119 (by decide) rfl ?_
        refine e_isub (z := nI (1 - 1)) f_199_120 (pk_sub (by omega)) rfl ?_
        refine e_icmp_ge f_199_121 rfl (fun c_121 => ?_) (fun c_121 => ?_)
        · skip
          have c_121 : 1 - 1 ≤ wy := cv_le (by omega) (by omega) c_121
          refine e_aload_n f_199_193 rfl rfl ?_
          refine e_getf f_199_194 g4 rfl rfl ?_
          refine e_iload_n f_199_197 rfl rfl ?_
          refine e_dup2 f_199_198 rfl rfl rfl ?_
          refine e_iaload_p (xs := j) f_199_199 g7 (d := (0, 0, 0)) (by first | omega | (simp only [List.length_set]; omega)) rfl ?_
          show px_to 199 200 [some (.ref (269)), some (.int (nI st)), some (.int (nI ((j.getD st (0, 0, 0)).1))), some (.int (nI 1)), none, none] [.int ((j.getD st (0, 0, 0)).2.2), .int (nI st), .ref (286)] h1 _
          refine e_aload_n f_199_200 rfl rfl ?_
          refine e_getf f_199_201 g4 rfl rfl ?_
          show px_to 199 204 [some (.ref (269)), some (.int (nI st)), some (.int (nI ((j.getD st (0, 0, 0)).1))), some (.int (nI 1)), none, none] [.int (nI wy), .int ((j.getD st (0, 0, 0)).2.2), .int (nI st), .ref (286)] h1 _
          refine e_iload_n f_199_204 rfl rfl ?_
          refine e_iconst (v := nI 1) f_199_205 (by decide) rfl ?_
          refine e_isub (z := nI (1 - 1)) f_199_206 (pk_sub (by omega)) rfl ?_
          refine e_icmp_ne f_199_207 rfl (fun c_207 => ?_) (fun c_207 => ?_)
          · skip
            have c_207 : wy ≠ 1 - 1 := cv_ne c_207
            refine e_iconst (v := (-1)) f_199_214 (by decide) rfl ?_
            refine e_iadd (z := ((j.getD st (0, 0, 0)).2.2) + (-1)) f_199_215 rfl rfl ?_
            refine e_iastore_p (xs := j) (x := ((j.getD st (0, 0, 0)).1, (j.getD st (0, 0, 0)).2.1, ((j.getD st (0, 0, 0)).2.2) + (-1))) f_199_216 g7 (by omega) (by first | omega | (simp only [List.length_set]; omega)) (rfl) rfl (fun h21 g22 fx23 => ?_)
            have fr24 : px_fj 269 1 284 3 h h21 := fj_tr fr13 fx23 (by omega)
            refine e_vret f_199_217 rfl ?_
            have hnl := of_decide_eq_false c_13
            have em : mutGo st wy j 0 = j.set st (chg (j.getD st (0, 0, 0)) wy) := mutGo_set wy j st 0 p1 (by omega)
            rw [em]
            have g25 : h21.2.2 269 = some (12, mB (L, nI j.length, cn) gp (nI j.length, gq.2.1, gq.2.2.1, gq.2.2.2.1, gq.2.2.2.2.1, gq.2.2.2.2.2.1, gq.2.2.2.2.2.2) gh gw gu (gv.1, gv.2.1, gv.2.2.1, gv.2.2.2.1, gv.2.2.2.2.1, gv.2.2.2.2.2.1, gv.2.2.2.2.2.2.1, nI st, nI wy)) := fi_at g4 fx23 (by omega)
            have g26 : px_pa h21 284 52 6 stS j := pa_fi g5 fx23 (by omega)
            have g27 : px_pa h21 285 52 6 stA j := pa_fi g6 fx23 (by omega)
            have ho : othN (j.getD st (0, 0, 0)) = 0 := by unfold othN; rw [if_neg c_95, if_neg c_105]
            have hc : chg (j.getD st (0, 0, 0)) wy = ((j.getD st (0, 0, 0)).1, (j.getD st (0, 0, 0)).2.1, (j.getD st (0, 0, 0)).2.2 + (-1)) := by unfold chg; rw [if_neg (by omega), if_neg (by omega)]
            rw [hc]
            exact ⟨rfl, by rw [List.length_set]; exact g25, pa_cg g26 (set_stS p1), pa_cg g27 (set_stA p1), g22, fr24⟩
          · skip
            have c_207 : wy = 1 - 1 := cv_nne (by omega) (by omega) c_207
            refine e_iconst (v := nI 1) f_199_210 (by decide) rfl ?_
            refine e_goto f_199_211 ?_
            refine e_iadd (z := ((j.getD st (0, 0, 0)).2.2) + (nI 1)) f_199_215 rfl rfl ?_
            refine e_iastore_p (xs := j) (x := ((j.getD st (0, 0, 0)).1, (j.getD st (0, 0, 0)).2.1, ((j.getD st (0, 0, 0)).2.2) + (nI 1))) f_199_216 g7 (by omega) (by first | omega | (simp only [List.length_set]; omega)) (rfl) rfl (fun h28 g29 fx30 => ?_)
            have fr31 : px_fj 269 1 284 3 h h28 := fj_tr fr13 fx30 (by omega)
            refine e_vret f_199_217 rfl ?_
            have hnl := of_decide_eq_false c_13
            have em : mutGo st wy j 0 = j.set st (chg (j.getD st (0, 0, 0)) wy) := mutGo_set wy j st 0 p1 (by omega)
            rw [em]
            have g32 : h28.2.2 269 = some (12, mB (L, nI j.length, cn) gp (nI j.length, gq.2.1, gq.2.2.1, gq.2.2.2.1, gq.2.2.2.2.1, gq.2.2.2.2.2.1, gq.2.2.2.2.2.2) gh gw gu (gv.1, gv.2.1, gv.2.2.1, gv.2.2.2.1, gv.2.2.2.2.1, gv.2.2.2.2.2.1, gv.2.2.2.2.2.2.1, nI st, nI wy)) := fi_at g4 fx30 (by omega)
            have g33 : px_pa h28 284 52 6 stS j := pa_fi g5 fx30 (by omega)
            have g34 : px_pa h28 285 52 6 stA j := pa_fi g6 fx30 (by omega)
            have ho : othN (j.getD st (0, 0, 0)) = 0 := by unfold othN; rw [if_neg c_95, if_neg c_105]
            have hc : chg (j.getD st (0, 0, 0)) wy = ((j.getD st (0, 0, 0)).1, (j.getD st (0, 0, 0)).2.1, (j.getD st (0, 0, 0)).2.2 + nI 1) := by unfold chg; rw [if_neg (by omega), if_pos (by omega)]
            rw [hc]
            exact ⟨rfl, by rw [List.length_set]; exact g32, pa_cg g33 (set_stS p1), pa_cg g34 (set_stA p1), g29, fr31⟩
        · skip
          have c_121 : wy < 1 - 1 := cv_nle (by omega) (by omega) c_121
          exfalso
          omega
      · skip
        have c_105 : (j.getD st (0, 0, 0)).1 = 109 := cv_nne (by omega) (by omega) c_105
        refine e_iconst (v := nI 4) f_199_108 (by decide) rfl ?_
        refine e_goto f_199_109 ?_
        refine e_istore_n (L' := [some (.ref (269)), some (.int (nI st)), some (.int (nI ((j.getD st (0, 0, 0)).1))), some (.int (nI 4)), none, none]) f_199_113 (Nat.le_of_ble_eq_true rfl) rfl rfl ?_
        refine e_aload_n f_199_114 rfl rfl ?_
        refine e_getf f_199_115 g4 rfl rfl ?_
        show px_to 199 118 [some (.ref (269)), some (.int (nI st)), some (.int (nI ((j.getD st (0, 0, 0)).1))), some (.int (nI 4)), none, none] [.int (nI wy)] h1 _
        refine e_iload_n f_199_118 rfl rfl ?_
        refine e_iconst (v := nI 1) f_199_119 (by decide) rfl ?_
        refine e_isub (z := nI (4 - 1)) f_199_120 (pk_sub (by omega)) rfl ?_
        refine e_icmp_ge f_199_121 rfl (fun c_121 => ?_) (fun c_121 => ?_)
        · skip
          have c_121 : 4 - 1 ≤ wy := cv_le (by omega) (by omega) c_121
          refine e_aload_n f_199_193 rfl rfl ?_
          refine e_getf f_199_194 g4 rfl rfl ?_
          refine e_iload_n f_199_197 rfl rfl ?_
          refine e_dup2 f_199_198 rfl rfl rfl ?_
          refine e_iaload_p (xs := j) f_199_199 g7 (d := (0, 0, 0)) (by first | omega | (simp only [List.length_set]; omega)) rfl ?_
          show px_to 199 200 [some (.ref (269)), some (.int (nI st)), some (.int (nI ((j.getD st (0, 0, 0)).1))), some (.int (nI 4)), none, none] [.int ((j.getD st (0, 0, 0)).2.2), .int (nI st), .ref (286)] h1 _
          refine e_aload_n f_199_200 rfl rfl ?_
          refine e_getf f_199_201 g4 rfl rfl ?_
          show px_to 199 204 [some (.ref (269)), some (.int (nI st)), some (.int (nI ((j.getD st (0, 0, 0)).1))), some (.int (nI 4)), none, none] [.int (nI wy), .int ((j.getD st (0, 0, 0)).2.2), .int (nI st), .ref (286)] h1 _
          refine e_iload_n f_199_204 rfl rfl ?_
          refine e_iconst (v := nI 1) f_199_205 (by decide) rfl ?_
          refine e_isub (z := nI (4 - 1)) f_199_206 (pk_sub (by omega)) rfl ?_
          refine e_icmp_ne f_199_207 rfl (fun c_207 => ?_) (fun c_207 => ?_)
          · skip
            have c_207 : wy ≠ 4 - 1 := cv_ne c_207
            refine e_iconst (v := (-1)) f_199_214 (by decide) rfl ?_
            refine e_iadd (z := ((j.getD st (0, 0, 0)).2.2) + (-1)) f_199_215 rfl rfl ?_
            refine e_iastore_p (xs := j) (x := ((j.getD st (0, 0, 0)).1, (j.getD st (0, 0, 0)).2.1, ((j.getD st (0, 0, 0)).2.2) + (-1))) f_199_216 g7 (by omega) (by first | omega | (simp only [List.length_set]; omega)) (rfl) rfl (fun h35 g36 fx37 => ?_)
            have fr38 : px_fj 269 1 284 3 h h35 := fj_tr fr13 fx37 (by omega)
            refine e_vret f_199_217 rfl ?_
            have hnl := of_decide_eq_false c_13
            have em : mutGo st wy j 0 = j.set st (chg (j.getD st (0, 0, 0)) wy) := mutGo_set wy j st 0 p1 (by omega)
            rw [em]
            have g39 : h35.2.2 269 = some (12, mB (L, nI j.length, cn) gp (nI j.length, gq.2.1, gq.2.2.1, gq.2.2.2.1, gq.2.2.2.2.1, gq.2.2.2.2.2.1, gq.2.2.2.2.2.2) gh gw gu (gv.1, gv.2.1, gv.2.2.1, gv.2.2.2.1, gv.2.2.2.2.1, gv.2.2.2.2.2.1, gv.2.2.2.2.2.2.1, nI st, nI wy)) := fi_at g4 fx37 (by omega)
            have g40 : px_pa h35 284 52 6 stS j := pa_fi g5 fx37 (by omega)
            have g41 : px_pa h35 285 52 6 stA j := pa_fi g6 fx37 (by omega)
            have ho : othN (j.getD st (0, 0, 0)) = 3 := by unfold othN; rw [if_neg c_95, if_pos c_105]
            have hc : chg (j.getD st (0, 0, 0)) wy = ((j.getD st (0, 0, 0)).1, (j.getD st (0, 0, 0)).2.1, (j.getD st (0, 0, 0)).2.2 + (-1)) := by unfold chg; rw [if_neg (by omega), if_neg (by omega)]
            rw [hc]
            exact ⟨rfl, by rw [List.length_set]; exact g39, pa_cg g40 (set_stS p1), pa_cg g41 (set_stA p1), g36, fr38⟩
          · skip
            have c_207 : wy = 4 - 1 := cv_nne (by omega) (by omega) c_207
            refine e_iconst (v := nI 1) f_199_210 (by decide) rfl ?_
            refine e_goto f_199_211 ?_
            refine e_iadd (z := ((j.getD st (0, 0, 0)).2.2) + (nI 1)) f_199_215 rfl rfl ?_
            refine e_iastore_p (xs := j) (x := ((j.getD st (0, 0, 0)).1, (j.getD st (0, 0, 0)).2.1, ((j.getD st (0, 0, 0)).2.2) + (nI 1))) f_199_216 g7 (by omega) (by first | omega | (simp only [List.length_set]; omega)) (rfl) rfl (fun h42 g43 fx44 => ?_)
            have fr45 : px_fj 269 1 284 3 h h42 := fj_tr fr13 fx44 (by omega)
            refine e_vret f_199_217 rfl ?_
            have hnl := of_decide_eq_false c_13
            have em : mutGo st wy j 0 = j.set st (chg (j.getD st (0, 0, 0)) wy) := mutGo_set wy j st 0 p1 (by omega)
            rw [em]
            have g46 : h42.2.2 269 = some (12, mB (L, nI j.length, cn) gp (nI j.length, gq.2.1, gq.2.2.1, gq.2.2.2.1, gq.2.2.2.2.1, gq.2.2.2.2.2.1, gq.2.2.2.2.2.2) gh gw gu (gv.1, gv.2.1, gv.2.2.1, gv.2.2.2.1, gv.2.2.2.2.1, gv.2.2.2.2.2.1, gv.2.2.2.2.2.2.1, nI st, nI wy)) := fi_at g4 fx44 (by omega)
            have g47 : px_pa h42 284 52 6 stS j := pa_fi g5 fx44 (by omega)
            have g48 : px_pa h42 285 52 6 stA j := pa_fi g6 fx44 (by omega)
            have ho : othN (j.getD st (0, 0, 0)) = 3 := by unfold othN; rw [if_neg c_95, if_pos c_105]
            have hc : chg (j.getD st (0, 0, 0)) wy = ((j.getD st (0, 0, 0)).1, (j.getD st (0, 0, 0)).2.1, (j.getD st (0, 0, 0)).2.2 + nI 1) := by unfold chg; rw [if_neg (by omega), if_pos (by omega)]
            rw [hc]
            exact ⟨rfl, by rw [List.length_set]; exact g46, pa_cg g47 (set_stS p1), pa_cg g48 (set_stA p1), g43, fr45⟩
        · skip
          have c_121 : wy < 4 - 1 := cv_nle (by omega) (by omega) c_121
          have hact : (j.getD st (0, 0, 0)).2.1 = 43 ∨ (j.getD st (0, 0, 0)).2.1 = 45 ∨ (j.getD st (0, 0, 0)).2.1 = 42 ∨ (j.getD st (0, 0, 0)).2.1 = 47 := by
            have z := (p0.2 _ hsm).2.1 (by omega)
            rw [c_105] at z
            have z2 : (j.getD st (0, 0, 0)).2.1 ∈ [43, 45, 42, 47] := z
            simp only [List.mem_cons, List.not_mem_nil, or_false] at z2
            exact z2
          rcases hact with ha | ha | ha | ha
          · skip
            rcases (show wy = 0 ∨ wy = 1 ∨ wy = 2 by omega) with hw | hw | hw
            · skip
              refine e_iconst (v := nI 0) f_199_124 (by decide) rfl ?_
              refine e_istore (L' := [some (.ref (269)), some (.int (nI st)), some (.int (nI ((j.getD st (0, 0, 0)).1))), some (.int (nI 4)), some (.int (nI 0)), none]) f_199_125 (Nat.le_of_ble_eq_true rfl) rfl rfl ?_
              refine e_iconst (v := nI 0) f_199_127 (by decide) rfl ?_
              refine e_istore (L' := [some (.ref (269)), some (.int (nI st)), some (.int (nI ((j.getD st (0, 0, 0)).1))), some (.int (nI 4)), some (.int (nI 0)), some (.int (nI 0))]) f_199_128 (Nat.le_of_ble_eq_true rfl) rfl rfl ?_
              refine e_iload f_199_130 rfl rfl ?_
              refine e_iload_n f_199_132 rfl rfl ?_
              refine e_icmp_ge_f f_199_133 (by decide) rfl ?_
              refine e_iload_n f_199_136 rfl rfl ?_
              refine e_iload f_199_137 rfl rfl ?_
              refine e_callS (As := [.int (nI ((j.getD st (0, 0, 0)).1)), .int (nI 0)]) (rest := []) f_199_139 rfl rfl rfl (Nat.le_of_ble_eq_true rfl) (Nat.le_of_ble_eq_true rfl) (cc_Md_sgo (s := (j.getD st (0, 0, 0)).1) (i := 0)  (by omega) (by omega)) rfl (fun h49 r50 q51 => ?_)
              obtain ⟨rfl, qe⟩ := q51
              have qe := qe.symm
              subst qe
              show px_to 199 142 [some (.ref (269)), some (.int (nI st)), some (.int (nI ((j.getD st (0, 0, 0)).1))), some (.int (nI 4)), some (.int (nI 0)), some (.int (nI 0))] [.int (nI (sgF ((j.getD st (0, 0, 0)).1) 0))] h1 _
              rw [show sgF (j.getD st (0, 0, 0)).1 0 = 43 by rw [c_105]; rfl]
              refine e_aload_n f_199_142 rfl rfl ?_
              refine e_getf f_199_143 g4 rfl rfl ?_
              refine e_iload_n f_199_146 rfl rfl ?_
              obtain ⟨hm53, fa54, fb55⟩ := fj_mid fr13
              have g52 : px_pa h1 272 52 6 stA j := pa_fi (pa_fi H2 fa54 (by omega)) fb55 (by omega)
              refine e_caload_p (xs := j) f_199_147 g52 (d := (0, 0, 0)) (by first | omega | (simp only [List.length_set]; omega)) rfl ?_
              show px_to 199 148 [some (.ref (269)), some (.int (nI st)), some (.int (nI ((j.getD st (0, 0, 0)).1))), some (.int (nI 4)), some (.int (nI 0)), some (.int (nI 0))] [.int (nI ((j.getD st (0, 0, 0)).2.1)), .int (nI 43)] h1 _
              rw [ha]
              refine e_icmp_eq_t f_199_148 (by decide) ?_
              refine e_iinc (y := nI 1) (L' := [some (.ref (269)), some (.int (nI st)), some (.int (nI ((j.getD st (0, 0, 0)).1))), some (.int (nI 4)), some (.int (nI 0)), some (.int (nI 1))]) f_199_184 rfl (by rw [show Int32.ofInt 1 = nI 1 by decide]; exact (nI_add _ _).trans (congrArg nI (by omega))) rfl rfl ?_
              refine e_goto f_199_187 ?_
              refine e_iload f_199_130 rfl rfl ?_
              refine e_iload_n f_199_132 rfl rfl ?_
              refine e_icmp_ge_f f_199_133 (by decide) rfl ?_
              refine e_iload_n f_199_136 rfl rfl ?_
              refine e_iload f_199_137 rfl rfl ?_
              refine e_callS (As := [.int (nI ((j.getD st (0, 0, 0)).1)), .int (nI 1)]) (rest := []) f_199_139 rfl rfl rfl (Nat.le_of_ble_eq_true rfl) (Nat.le_of_ble_eq_true rfl) (cc_Md_sgo (s := (j.getD st (0, 0, 0)).1) (i := 1)  (by omega) (by omega)) rfl (fun h56 r57 q58 => ?_)
              obtain ⟨rfl, qe⟩ := q58
              have qe := qe.symm
              subst qe
              show px_to 199 142 [some (.ref (269)), some (.int (nI st)), some (.int (nI ((j.getD st (0, 0, 0)).1))), some (.int (nI 4)), some (.int (nI 0)), some (.int (nI 1))] [.int (nI (sgF ((j.getD st (0, 0, 0)).1) 1))] h1 _
              rw [show sgF (j.getD st (0, 0, 0)).1 1 = 45 by rw [c_105]; rfl]
              refine e_aload_n f_199_142 rfl rfl ?_
              refine e_getf f_199_143 g4 rfl rfl ?_
              refine e_iload_n f_199_146 rfl rfl ?_
              refine e_caload_p (xs := j) f_199_147 g52 (d := (0, 0, 0)) (by first | omega | (simp only [List.length_set]; omega)) rfl ?_
              show px_to 199 148 [some (.ref (269)), some (.int (nI st)), some (.int (nI ((j.getD st (0, 0, 0)).1))), some (.int (nI 4)), some (.int (nI 0)), some (.int (nI 1))] [.int (nI ((j.getD st (0, 0, 0)).2.1)), .int (nI 45)] h1 _
              rw [ha]
              refine e_icmp_eq_f f_199_148 (by decide) rfl ?_
              refine e_aload_n f_199_151 rfl rfl ?_
              refine e_getf f_199_152 g4 rfl rfl ?_
              refine e_iload_n f_199_155 rfl rfl ?_
              refine e_iload f_199_156 rfl rfl ?_
              refine e_aload_n f_199_158 rfl rfl ?_
              refine e_getf f_199_159 g4 rfl rfl ?_
              show px_to 199 162 [some (.ref (269)), some (.int (nI st)), some (.int (nI ((j.getD st (0, 0, 0)).1))), some (.int (nI 4)), some (.int (nI 0)), some (.int (nI 1))] [.int (nI wy), .int (nI 0), .int (nI st), .ref (285)] h1 _
              refine e_icmp_ne_f f_199_162 (by rw [hw]; decide) rfl ?_
              refine e_iload_n f_199_165 rfl rfl ?_
              refine e_iload f_199_166 rfl rfl ?_
              refine e_callS (As := [.int (nI ((j.getD st (0, 0, 0)).1)), .int (nI 1)]) (rest := [.int (nI st), .ref (285)]) f_199_168 rfl rfl rfl (Nat.le_of_ble_eq_true rfl) (Nat.le_of_ble_eq_true rfl) (cc_Md_sgo (s := (j.getD st (0, 0, 0)).1) (i := 1)  (by omega) (by omega)) rfl (fun h59 r60 q61 => ?_)
              obtain ⟨rfl, qe⟩ := q61
              have qe := qe.symm
              subst qe
              show px_to 199 171 [some (.ref (269)), some (.int (nI st)), some (.int (nI ((j.getD st (0, 0, 0)).1))), some (.int (nI 4)), some (.int (nI 0)), some (.int (nI 1))] [.int (nI (sgF ((j.getD st (0, 0, 0)).1) 1)), .int (nI st), .ref (285)] h1 _
              rw [show sgF (j.getD st (0, 0, 0)).1 1 = 45 by rw [c_105]; rfl]
              refine e_goto f_199_171 ?_
              refine e_castore_p (xs := j) (x := ((j.getD st (0, 0, 0)).1, 45, (j.getD st (0, 0, 0)).2.2)) f_199_180 g6 (by omega) (by first | omega | (simp only [List.length_set]; omega)) (nw_ch (n := 45) (by decide)) rfl (fun h62 g63 fx64 => ?_)
              have fr65 : px_fj 269 1 284 3 h h62 := fj_tr fr13 fx64 (by omega)
              refine e_iinc (y := nI 1) (L' := [some (.ref (269)), some (.int (nI st)), some (.int (nI ((j.getD st (0, 0, 0)).1))), some (.int (nI 4)), some (.int (nI 1)), some (.int (nI 1))]) f_199_181 rfl (by rw [show Int32.ofInt 1 = nI 1 by decide]; exact (nI_add _ _).trans (congrArg nI (by omega))) rfl rfl ?_
              refine e_iinc (y := nI 2) (L' := [some (.ref (269)), some (.int (nI st)), some (.int (nI ((j.getD st (0, 0, 0)).1))), some (.int (nI 4)), some (.int (nI 1)), some (.int (nI 2))]) f_199_184 rfl (by rw [show Int32.ofInt 1 = nI 1 by decide]; exact (nI_add _ _).trans (congrArg nI (by omega))) rfl rfl ?_
              refine e_goto f_199_187 ?_
              refine e_iload f_199_130 rfl rfl ?_
              refine e_iload_n f_199_132 rfl rfl ?_
              refine e_icmp_ge_f f_199_133 (by decide) rfl ?_
              refine e_iload_n f_199_136 rfl rfl ?_
              refine e_iload f_199_137 rfl rfl ?_
              refine e_callS (As := [.int (nI ((j.getD st (0, 0, 0)).1)), .int (nI 2)]) (rest := []) f_199_139 rfl rfl rfl (Nat.le_of_ble_eq_true rfl) (Nat.le_of_ble_eq_true rfl) (cc_Md_sgo (s := (j.getD st (0, 0, 0)).1) (i := 2)  (by omega) (by omega)) rfl (fun h66 r67 q68 => ?_)
              obtain ⟨rfl, qe⟩ := q68
              have qe := qe.symm
              subst qe
              show px_to 199 142 [some (.ref (269)), some (.int (nI st)), some (.int (nI ((j.getD st (0, 0, 0)).1))), some (.int (nI 4)), some (.int (nI 1)), some (.int (nI 2))] [.int (nI (sgF ((j.getD st (0, 0, 0)).1) 2))] h62 _
              rw [show sgF (j.getD st (0, 0, 0)).1 2 = 42 by rw [c_105]; rfl]
              refine e_aload_n f_199_142 rfl rfl ?_
              have g69 : h62.2.2 269 = some (12, mB (L, nI j.length, cn) gp (nI j.length, gq.2.1, gq.2.2.1, gq.2.2.2.1, gq.2.2.2.2.1, gq.2.2.2.2.2.1, gq.2.2.2.2.2.2) gh gw gu (gv.1, gv.2.1, gv.2.2.1, gv.2.2.2.1, gv.2.2.2.2.1, gv.2.2.2.2.2.1, gv.2.2.2.2.2.2.1, nI st, nI wy)) := fi_at g4 fx64 (by omega)
              refine e_getf f_199_143 g69 rfl rfl ?_
              refine e_iload_n f_199_146 rfl rfl ?_
              obtain ⟨hm71, fa72, fb73⟩ := fj_mid fr65
              have g70 : px_pa h62 272 52 6 stA j := pa_fi (pa_fi H2 fa72 (by omega)) fb73 (by omega)
              refine e_caload_p (xs := j) f_199_147 g70 (d := (0, 0, 0)) (by first | omega | (simp only [List.length_set]; omega)) rfl ?_
              show px_to 199 148 [some (.ref (269)), some (.int (nI st)), some (.int (nI ((j.getD st (0, 0, 0)).1))), some (.int (nI 4)), some (.int (nI 1)), some (.int (nI 2))] [.int (nI ((j.getD st (0, 0, 0)).2.1)), .int (nI 42)] h62 _
              rw [ha]
              refine e_icmp_eq_f f_199_148 (by decide) rfl ?_
              refine e_aload_n f_199_151 rfl rfl ?_
              refine e_getf f_199_152 g69 rfl rfl ?_
              refine e_iload_n f_199_155 rfl rfl ?_
              refine e_iload f_199_156 rfl rfl ?_
              refine e_aload_n f_199_158 rfl rfl ?_
              refine e_getf f_199_159 g69 rfl rfl ?_
              show px_to 199 162 [some (.ref (269)), some (.int (nI st)), some (.int (nI ((j.getD st (0, 0, 0)).1))), some (.int (nI 4)), some (.int (nI 1)), some (.int (nI 2))] [.int (nI wy), .int (nI 1), .int (nI st), .ref (285)] h62 _
              refine e_icmp_ne_t f_199_162 (by rw [hw]; decide) ?_
              refine e_aload_n f_199_174 rfl rfl ?_
              refine e_getf f_199_175 g69 rfl rfl ?_
              refine e_iload_n f_199_178 rfl rfl ?_
              refine e_caload_p (xs := j.set st ((j.getD st (0, 0, 0)).1, 45, (j.getD st (0, 0, 0)).2.2)) f_199_179 g63 (d := (0, 0, 0)) (by first | omega | (simp only [List.length_set]; omega)) rfl ?_
              show px_to 199 180 [some (.ref (269)), some (.int (nI st)), some (.int (nI ((j.getD st (0, 0, 0)).1))), some (.int (nI 4)), some (.int (nI 1)), some (.int (nI 2))] [.int (nI (((j.set st ((j.getD st (0, 0, 0)).1, 45, (j.getD st (0, 0, 0)).2.2)).getD st (0, 0, 0)).2.1)), .int (nI st), .ref (285)] h62 _
              rw [getD_set_same (by first | omega | (simp only [List.length_set]; omega))]
              refine e_castore_p (xs := j.set st ((j.getD st (0, 0, 0)).1, 45, (j.getD st (0, 0, 0)).2.2)) (x := ((j.getD st (0, 0, 0)).1, 45, (j.getD st (0, 0, 0)).2.2)) f_199_180 g63 (by omega) (by first | omega | (simp only [List.length_set]; omega)) (nw_ch (n := 45) (by decide)) rfl (fun h74 g75 fx76 => ?_)
              have fr77 : px_fj 269 1 284 3 h h74 := fj_tr fr65 fx76 (by omega)
              refine e_iinc (y := nI 2) (L' := [some (.ref (269)), some (.int (nI st)), some (.int (nI ((j.getD st (0, 0, 0)).1))), some (.int (nI 4)), some (.int (nI 2)), some (.int (nI 2))]) f_199_181 rfl (by rw [show Int32.ofInt 1 = nI 1 by decide]; exact (nI_add _ _).trans (congrArg nI (by omega))) rfl rfl ?_
              refine e_iinc (y := nI 3) (L' := [some (.ref (269)), some (.int (nI st)), some (.int (nI ((j.getD st (0, 0, 0)).1))), some (.int (nI 4)), some (.int (nI 2)), some (.int (nI 3))]) f_199_184 rfl (by rw [show Int32.ofInt 1 = nI 1 by decide]; exact (nI_add _ _).trans (congrArg nI (by omega))) rfl rfl ?_
              refine e_goto f_199_187 ?_
              refine e_iload f_199_130 rfl rfl ?_
              refine e_iload_n f_199_132 rfl rfl ?_
              refine e_icmp_ge_f f_199_133 (by decide) rfl ?_
              refine e_iload_n f_199_136 rfl rfl ?_
              refine e_iload f_199_137 rfl rfl ?_
              refine e_callS (As := [.int (nI ((j.getD st (0, 0, 0)).1)), .int (nI 3)]) (rest := []) f_199_139 rfl rfl rfl (Nat.le_of_ble_eq_true rfl) (Nat.le_of_ble_eq_true rfl) (cc_Md_sgo (s := (j.getD st (0, 0, 0)).1) (i := 3)  (by omega) (by omega)) rfl (fun h78 r79 q80 => ?_)
              obtain ⟨rfl, qe⟩ := q80
              have qe := qe.symm
              subst qe
              show px_to 199 142 [some (.ref (269)), some (.int (nI st)), some (.int (nI ((j.getD st (0, 0, 0)).1))), some (.int (nI 4)), some (.int (nI 2)), some (.int (nI 3))] [.int (nI (sgF ((j.getD st (0, 0, 0)).1) 3))] h74 _
              rw [show sgF (j.getD st (0, 0, 0)).1 3 = 47 by rw [c_105]; rfl]
              refine e_aload_n f_199_142 rfl rfl ?_
              have g81 : h74.2.2 269 = some (12, mB (L, nI j.length, cn) gp (nI j.length, gq.2.1, gq.2.2.1, gq.2.2.2.1, gq.2.2.2.2.1, gq.2.2.2.2.2.1, gq.2.2.2.2.2.2) gh gw gu (gv.1, gv.2.1, gv.2.2.1, gv.2.2.2.1, gv.2.2.2.2.1, gv.2.2.2.2.2.1, gv.2.2.2.2.2.2.1, nI st, nI wy)) := fi_at g69 fx76 (by omega)
              refine e_getf f_199_143 g81 rfl rfl ?_
              refine e_iload_n f_199_146 rfl rfl ?_
              obtain ⟨hm83, fa84, fb85⟩ := fj_mid fr77
              have g82 : px_pa h74 272 52 6 stA j := pa_fi (pa_fi H2 fa84 (by omega)) fb85 (by omega)
              refine e_caload_p (xs := j) f_199_147 g82 (d := (0, 0, 0)) (by first | omega | (simp only [List.length_set]; omega)) rfl ?_
              show px_to 199 148 [some (.ref (269)), some (.int (nI st)), some (.int (nI ((j.getD st (0, 0, 0)).1))), some (.int (nI 4)), some (.int (nI 2)), some (.int (nI 3))] [.int (nI ((j.getD st (0, 0, 0)).2.1)), .int (nI 47)] h74 _
              rw [ha]
              refine e_icmp_eq_f f_199_148 (by decide) rfl ?_
              refine e_aload_n f_199_151 rfl rfl ?_
              refine e_getf f_199_152 g81 rfl rfl ?_
              refine e_iload_n f_199_155 rfl rfl ?_
              refine e_iload f_199_156 rfl rfl ?_
              refine e_aload_n f_199_158 rfl rfl ?_
              refine e_getf f_199_159 g81 rfl rfl ?_
              show px_to 199 162 [some (.ref (269)), some (.int (nI st)), some (.int (nI ((j.getD st (0, 0, 0)).1))), some (.int (nI 4)), some (.int (nI 2)), some (.int (nI 3))] [.int (nI wy), .int (nI 2), .int (nI st), .ref (285)] h74 _
              refine e_icmp_ne_t f_199_162 (by rw [hw]; decide) ?_
              refine e_aload_n f_199_174 rfl rfl ?_
              refine e_getf f_199_175 g81 rfl rfl ?_
              refine e_iload_n f_199_178 rfl rfl ?_
              refine e_caload_p (xs := (j.set st ((j.getD st (0, 0, 0)).1, 45, (j.getD st (0, 0, 0)).2.2)).set st ((j.getD st (0, 0, 0)).1, 45, (j.getD st (0, 0, 0)).2.2)) f_199_179 g75 (d := (0, 0, 0)) (by first | omega | (simp only [List.length_set]; omega)) rfl ?_
              show px_to 199 180 [some (.ref (269)), some (.int (nI st)), some (.int (nI ((j.getD st (0, 0, 0)).1))), some (.int (nI 4)), some (.int (nI 2)), some (.int (nI 3))] [.int (nI ((((j.set st ((j.getD st (0, 0, 0)).1, 45, (j.getD st (0, 0, 0)).2.2)).set st ((j.getD st (0, 0, 0)).1, 45, (j.getD st (0, 0, 0)).2.2)).getD st (0, 0, 0)).2.1)), .int (nI st), .ref (285)] h74 _
              rw [getD_set_same (by first | omega | (simp only [List.length_set]; omega))]
              refine e_castore_p (xs := (j.set st ((j.getD st (0, 0, 0)).1, 45, (j.getD st (0, 0, 0)).2.2)).set st ((j.getD st (0, 0, 0)).1, 45, (j.getD st (0, 0, 0)).2.2)) (x := ((j.getD st (0, 0, 0)).1, 45, (j.getD st (0, 0, 0)).2.2)) f_199_180 g75 (by omega) (by first | omega | (simp only [List.length_set]; omega)) (nw_ch (n := 45) (by decide)) rfl (fun h86 g87 fx88 => ?_)
              have fr89 : px_fj 269 1 284 3 h h86 := fj_tr fr77 fx88 (by omega)
              refine e_iinc (y := nI 3) (L' := [some (.ref (269)), some (.int (nI st)), some (.int (nI ((j.getD st (0, 0, 0)).1))), some (.int (nI 4)), some (.int (nI 3)), some (.int (nI 3))]) f_199_181 rfl (by rw [show Int32.ofInt 1 = nI 1 by decide]; exact (nI_add _ _).trans (congrArg nI (by omega))) rfl rfl ?_
              refine e_iinc (y := nI 4) (L' := [some (.ref (269)), some (.int (nI st)), some (.int (nI ((j.getD st (0, 0, 0)).1))), some (.int (nI 4)), some (.int (nI 3)), some (.int (nI 4))]) f_199_184 rfl (by rw [show Int32.ofInt 1 = nI 1 by decide]; exact (nI_add _ _).trans (congrArg nI (by omega))) rfl rfl ?_
              refine e_goto f_199_187 ?_
              refine e_iload f_199_130 rfl rfl ?_
              refine e_iload_n f_199_132 rfl rfl ?_
              refine e_icmp_ge_t f_199_133 (by decide) ?_
              refine e_goto f_199_190 ?_
              refine e_vret f_199_217 rfl ?_
              have hnl := of_decide_eq_false c_13
              have em : mutGo st wy j 0 = j.set st (chg (j.getD st (0, 0, 0)) wy) := mutGo_set wy j st 0 p1 (by omega)
              rw [em]
              have g90 : h86.2.2 269 = some (12, mB (L, nI j.length, cn) gp (nI j.length, gq.2.1, gq.2.2.1, gq.2.2.2.1, gq.2.2.2.2.1, gq.2.2.2.2.2.1, gq.2.2.2.2.2.2) gh gw gu (gv.1, gv.2.1, gv.2.2.1, gv.2.2.2.1, gv.2.2.2.2.1, gv.2.2.2.2.2.1, gv.2.2.2.2.2.2.1, nI st, nI wy)) := fi_at g81 fx88 (by omega)
              have g91 : px_pa h62 284 52 6 stS j := pa_fi g5 fx64 (by omega)
              have g92 : px_pa h74 284 52 6 stS j := pa_fi g91 fx76 (by omega)
              have g93 : px_pa h86 284 52 6 stS j := pa_fi g92 fx88 (by omega)
              have g94 : px_pa h62 286 50 6 stN j := pa_fi g7 fx64 (by omega)
              have g95 : px_pa h74 286 50 6 stN j := pa_fi g94 fx76 (by omega)
              have g96 : px_pa h86 286 50 6 stN j := pa_fi g95 fx88 (by omega)
              have ho : othN (j.getD st (0, 0, 0)) = 3 := by unfold othN; rw [if_neg c_95, if_pos c_105]
              have hc : chg (j.getD st (0, 0, 0)) wy = ((j.getD st (0, 0, 0)).1, 45, (j.getD st (0, 0, 0)).2.2) := by unfold chg; rw [if_pos (by omega), ha, hw, c_105]; rfl
              rw [hc]
              have hset : ((j.set st ((j.getD st (0, 0, 0)).1, 45, (j.getD st (0, 0, 0)).2.2)).set st ((j.getD st (0, 0, 0)).1, 45, (j.getD st (0, 0, 0)).2.2)).set st ((j.getD st (0, 0, 0)).1, 45, (j.getD st (0, 0, 0)).2.2) = j.set st ((j.getD st (0, 0, 0)).1, 45, (j.getD st (0, 0, 0)).2.2) := by simp only [List.set_set]
              exact ⟨rfl, by rw [List.length_set]; exact g90, pa_cg g93 (set_stS p1), pa_eq g87 hset, pa_cg g96 (set_stN p1), fr89⟩
            · skip
              refine e_iconst (v := nI 0) f_199_124 (by decide) rfl ?_
              refine e_istore (L' := [some (.ref (269)), some (.int (nI st)), some (.int (nI ((j.getD st (0, 0, 0)).1))), some (.int (nI 4)), some (.int (nI 0)), none]) f_199_125 (Nat.le_of_ble_eq_true rfl) rfl rfl ?_
              refine e_iconst (v := nI 0) f_199_127 (by decide) rfl ?_
              refine e_istore (L' := [some (.ref (269)), some (.int (nI st)), some (.int (nI ((j.getD st (0, 0, 0)).1))), some (.int (nI 4)), some (.int (nI 0)), some (.int (nI 0))]) f_199_128 (Nat.le_of_ble_eq_true rfl) rfl rfl ?_
              refine e_iload f_199_130 rfl rfl ?_
              refine e_iload_n f_199_132 rfl rfl ?_
              refine e_icmp_ge_f f_199_133 (by decide) rfl ?_
              refine e_iload_n f_199_136 rfl rfl ?_
              refine e_iload f_199_137 rfl rfl ?_
              refine e_callS (As := [.int (nI ((j.getD st (0, 0, 0)).1)), .int (nI 0)]) (rest := []) f_199_139 rfl rfl rfl (Nat.le_of_ble_eq_true rfl) (Nat.le_of_ble_eq_true rfl) (cc_Md_sgo (s := (j.getD st (0, 0, 0)).1) (i := 0)  (by omega) (by omega)) rfl (fun h97 r98 q99 => ?_)
              obtain ⟨rfl, qe⟩ := q99
              have qe := qe.symm
              subst qe
              show px_to 199 142 [some (.ref (269)), some (.int (nI st)), some (.int (nI ((j.getD st (0, 0, 0)).1))), some (.int (nI 4)), some (.int (nI 0)), some (.int (nI 0))] [.int (nI (sgF ((j.getD st (0, 0, 0)).1) 0))] h1 _
              rw [show sgF (j.getD st (0, 0, 0)).1 0 = 43 by rw [c_105]; rfl]
              refine e_aload_n f_199_142 rfl rfl ?_
              refine e_getf f_199_143 g4 rfl rfl ?_
              refine e_iload_n f_199_146 rfl rfl ?_
              obtain ⟨hm101, fa102, fb103⟩ := fj_mid fr13
              have g100 : px_pa h1 272 52 6 stA j := pa_fi (pa_fi H2 fa102 (by omega)) fb103 (by omega)
              refine e_caload_p (xs := j) f_199_147 g100 (d := (0, 0, 0)) (by first | omega | (simp only [List.length_set]; omega)) rfl ?_
              show px_to 199 148 [some (.ref (269)), some (.int (nI st)), some (.int (nI ((j.getD st (0, 0, 0)).1))), some (.int (nI 4)), some (.int (nI 0)), some (.int (nI 0))] [.int (nI ((j.getD st (0, 0, 0)).2.1)), .int (nI 43)] h1 _
              rw [ha]
              refine e_icmp_eq_t f_199_148 (by decide) ?_
              refine e_iinc (y := nI 1) (L' := [some (.ref (269)), some (.int (nI st)), some (.int (nI ((j.getD st (0, 0, 0)).1))), some (.int (nI 4)), some (.int (nI 0)), some (.int (nI 1))]) f_199_184 rfl (by rw [show Int32.ofInt 1 = nI 1 by decide]; exact (nI_add _ _).trans (congrArg nI (by omega))) rfl rfl ?_
              refine e_goto f_199_187 ?_
              refine e_iload f_199_130 rfl rfl ?_
              refine e_iload_n f_199_132 rfl rfl ?_
              refine e_icmp_ge_f f_199_133 (by decide) rfl ?_
              refine e_iload_n f_199_136 rfl rfl ?_
              refine e_iload f_199_137 rfl rfl ?_
              refine e_callS (As := [.int (nI ((j.getD st (0, 0, 0)).1)), .int (nI 1)]) (rest := []) f_199_139 rfl rfl rfl (Nat.le_of_ble_eq_true rfl) (Nat.le_of_ble_eq_true rfl) (cc_Md_sgo (s := (j.getD st (0, 0, 0)).1) (i := 1)  (by omega) (by omega)) rfl (fun h104 r105 q106 => ?_)
              obtain ⟨rfl, qe⟩ := q106
              have qe := qe.symm
              subst qe
              show px_to 199 142 [some (.ref (269)), some (.int (nI st)), some (.int (nI ((j.getD st (0, 0, 0)).1))), some (.int (nI 4)), some (.int (nI 0)), some (.int (nI 1))] [.int (nI (sgF ((j.getD st (0, 0, 0)).1) 1))] h1 _
              rw [show sgF (j.getD st (0, 0, 0)).1 1 = 45 by rw [c_105]; rfl]
              refine e_aload_n f_199_142 rfl rfl ?_
              refine e_getf f_199_143 g4 rfl rfl ?_
              refine e_iload_n f_199_146 rfl rfl ?_
              refine e_caload_p (xs := j) f_199_147 g100 (d := (0, 0, 0)) (by first | omega | (simp only [List.length_set]; omega)) rfl ?_
              show px_to 199 148 [some (.ref (269)), some (.int (nI st)), some (.int (nI ((j.getD st (0, 0, 0)).1))), some (.int (nI 4)), some (.int (nI 0)), some (.int (nI 1))] [.int (nI ((j.getD st (0, 0, 0)).2.1)), .int (nI 45)] h1 _
              rw [ha]
              refine e_icmp_eq_f f_199_148 (by decide) rfl ?_
              refine e_aload_n f_199_151 rfl rfl ?_
              refine e_getf f_199_152 g4 rfl rfl ?_
              refine e_iload_n f_199_155 rfl rfl ?_
              refine e_iload f_199_156 rfl rfl ?_
              refine e_aload_n f_199_158 rfl rfl ?_
              refine e_getf f_199_159 g4 rfl rfl ?_
              show px_to 199 162 [some (.ref (269)), some (.int (nI st)), some (.int (nI ((j.getD st (0, 0, 0)).1))), some (.int (nI 4)), some (.int (nI 0)), some (.int (nI 1))] [.int (nI wy), .int (nI 0), .int (nI st), .ref (285)] h1 _
              refine e_icmp_ne_t f_199_162 (by rw [hw]; decide) ?_
              refine e_aload_n f_199_174 rfl rfl ?_
              refine e_getf f_199_175 g4 rfl rfl ?_
              refine e_iload_n f_199_178 rfl rfl ?_
              refine e_caload_p (xs := j) f_199_179 g6 (d := (0, 0, 0)) (by first | omega | (simp only [List.length_set]; omega)) rfl ?_
              show px_to 199 180 [some (.ref (269)), some (.int (nI st)), some (.int (nI ((j.getD st (0, 0, 0)).1))), some (.int (nI 4)), some (.int (nI 0)), some (.int (nI 1))] [.int (nI ((j.getD st (0, 0, 0)).2.1)), .int (nI st), .ref (285)] h1 _
              rw [ha]
              refine e_castore_p (xs := j) (x := ((j.getD st (0, 0, 0)).1, 43, (j.getD st (0, 0, 0)).2.2)) f_199_180 g6 (by omega) (by first | omega | (simp only [List.length_set]; omega)) (nw_ch (n := 43) (by decide)) rfl (fun h107 g108 fx109 => ?_)
              have fr110 : px_fj 269 1 284 3 h h107 := fj_tr fr13 fx109 (by omega)
              refine e_iinc (y := nI 1) (L' := [some (.ref (269)), some (.int (nI st)), some (.int (nI ((j.getD st (0, 0, 0)).1))), some (.int (nI 4)), some (.int (nI 1)), some (.int (nI 1))]) f_199_181 rfl (by rw [show Int32.ofInt 1 = nI 1 by decide]; exact (nI_add _ _).trans (congrArg nI (by omega))) rfl rfl ?_
              refine e_iinc (y := nI 2) (L' := [some (.ref (269)), some (.int (nI st)), some (.int (nI ((j.getD st (0, 0, 0)).1))), some (.int (nI 4)), some (.int (nI 1)), some (.int (nI 2))]) f_199_184 rfl (by rw [show Int32.ofInt 1 = nI 1 by decide]; exact (nI_add _ _).trans (congrArg nI (by omega))) rfl rfl ?_
              refine e_goto f_199_187 ?_
              refine e_iload f_199_130 rfl rfl ?_
              refine e_iload_n f_199_132 rfl rfl ?_
              refine e_icmp_ge_f f_199_133 (by decide) rfl ?_
              refine e_iload_n f_199_136 rfl rfl ?_
              refine e_iload f_199_137 rfl rfl ?_
              refine e_callS (As := [.int (nI ((j.getD st (0, 0, 0)).1)), .int (nI 2)]) (rest := []) f_199_139 rfl rfl rfl (Nat.le_of_ble_eq_true rfl) (Nat.le_of_ble_eq_true rfl) (cc_Md_sgo (s := (j.getD st (0, 0, 0)).1) (i := 2)  (by omega) (by omega)) rfl (fun h111 r112 q113 => ?_)
              obtain ⟨rfl, qe⟩ := q113
              have qe := qe.symm
              subst qe
              show px_to 199 142 [some (.ref (269)), some (.int (nI st)), some (.int (nI ((j.getD st (0, 0, 0)).1))), some (.int (nI 4)), some (.int (nI 1)), some (.int (nI 2))] [.int (nI (sgF ((j.getD st (0, 0, 0)).1) 2))] h107 _
              rw [show sgF (j.getD st (0, 0, 0)).1 2 = 42 by rw [c_105]; rfl]
              refine e_aload_n f_199_142 rfl rfl ?_
              have g114 : h107.2.2 269 = some (12, mB (L, nI j.length, cn) gp (nI j.length, gq.2.1, gq.2.2.1, gq.2.2.2.1, gq.2.2.2.2.1, gq.2.2.2.2.2.1, gq.2.2.2.2.2.2) gh gw gu (gv.1, gv.2.1, gv.2.2.1, gv.2.2.2.1, gv.2.2.2.2.1, gv.2.2.2.2.2.1, gv.2.2.2.2.2.2.1, nI st, nI wy)) := fi_at g4 fx109 (by omega)
              refine e_getf f_199_143 g114 rfl rfl ?_
              refine e_iload_n f_199_146 rfl rfl ?_
              obtain ⟨hm116, fa117, fb118⟩ := fj_mid fr110
              have g115 : px_pa h107 272 52 6 stA j := pa_fi (pa_fi H2 fa117 (by omega)) fb118 (by omega)
              refine e_caload_p (xs := j) f_199_147 g115 (d := (0, 0, 0)) (by first | omega | (simp only [List.length_set]; omega)) rfl ?_
              show px_to 199 148 [some (.ref (269)), some (.int (nI st)), some (.int (nI ((j.getD st (0, 0, 0)).1))), some (.int (nI 4)), some (.int (nI 1)), some (.int (nI 2))] [.int (nI ((j.getD st (0, 0, 0)).2.1)), .int (nI 42)] h107 _
              rw [ha]
              refine e_icmp_eq_f f_199_148 (by decide) rfl ?_
              refine e_aload_n f_199_151 rfl rfl ?_
              refine e_getf f_199_152 g114 rfl rfl ?_
              refine e_iload_n f_199_155 rfl rfl ?_
              refine e_iload f_199_156 rfl rfl ?_
              refine e_aload_n f_199_158 rfl rfl ?_
              refine e_getf f_199_159 g114 rfl rfl ?_
              show px_to 199 162 [some (.ref (269)), some (.int (nI st)), some (.int (nI ((j.getD st (0, 0, 0)).1))), some (.int (nI 4)), some (.int (nI 1)), some (.int (nI 2))] [.int (nI wy), .int (nI 1), .int (nI st), .ref (285)] h107 _
              refine e_icmp_ne_f f_199_162 (by rw [hw]; decide) rfl ?_
              refine e_iload_n f_199_165 rfl rfl ?_
              refine e_iload f_199_166 rfl rfl ?_
              refine e_callS (As := [.int (nI ((j.getD st (0, 0, 0)).1)), .int (nI 2)]) (rest := [.int (nI st), .ref (285)]) f_199_168 rfl rfl rfl (Nat.le_of_ble_eq_true rfl) (Nat.le_of_ble_eq_true rfl) (cc_Md_sgo (s := (j.getD st (0, 0, 0)).1) (i := 2)  (by omega) (by omega)) rfl (fun h119 r120 q121 => ?_)
              obtain ⟨rfl, qe⟩ := q121
              have qe := qe.symm
              subst qe
              show px_to 199 171 [some (.ref (269)), some (.int (nI st)), some (.int (nI ((j.getD st (0, 0, 0)).1))), some (.int (nI 4)), some (.int (nI 1)), some (.int (nI 2))] [.int (nI (sgF ((j.getD st (0, 0, 0)).1) 2)), .int (nI st), .ref (285)] h107 _
              rw [show sgF (j.getD st (0, 0, 0)).1 2 = 42 by rw [c_105]; rfl]
              refine e_goto f_199_171 ?_
              refine e_castore_p (xs := j.set st ((j.getD st (0, 0, 0)).1, 43, (j.getD st (0, 0, 0)).2.2)) (x := ((j.getD st (0, 0, 0)).1, 42, (j.getD st (0, 0, 0)).2.2)) f_199_180 g108 (by omega) (by first | omega | (simp only [List.length_set]; omega)) (nw_ch (n := 42) (by decide)) rfl (fun h122 g123 fx124 => ?_)
              have fr125 : px_fj 269 1 284 3 h h122 := fj_tr fr110 fx124 (by omega)
              refine e_iinc (y := nI 2) (L' := [some (.ref (269)), some (.int (nI st)), some (.int (nI ((j.getD st (0, 0, 0)).1))), some (.int (nI 4)), some (.int (nI 2)), some (.int (nI 2))]) f_199_181 rfl (by rw [show Int32.ofInt 1 = nI 1 by decide]; exact (nI_add _ _).trans (congrArg nI (by omega))) rfl rfl ?_
              refine e_iinc (y := nI 3) (L' := [some (.ref (269)), some (.int (nI st)), some (.int (nI ((j.getD st (0, 0, 0)).1))), some (.int (nI 4)), some (.int (nI 2)), some (.int (nI 3))]) f_199_184 rfl (by rw [show Int32.ofInt 1 = nI 1 by decide]; exact (nI_add _ _).trans (congrArg nI (by omega))) rfl rfl ?_
              refine e_goto f_199_187 ?_
              refine e_iload f_199_130 rfl rfl ?_
              refine e_iload_n f_199_132 rfl rfl ?_
              refine e_icmp_ge_f f_199_133 (by decide) rfl ?_
              refine e_iload_n f_199_136 rfl rfl ?_
              refine e_iload f_199_137 rfl rfl ?_
              refine e_callS (As := [.int (nI ((j.getD st (0, 0, 0)).1)), .int (nI 3)]) (rest := []) f_199_139 rfl rfl rfl (Nat.le_of_ble_eq_true rfl) (Nat.le_of_ble_eq_true rfl) (cc_Md_sgo (s := (j.getD st (0, 0, 0)).1) (i := 3)  (by omega) (by omega)) rfl (fun h126 r127 q128 => ?_)
              obtain ⟨rfl, qe⟩ := q128
              have qe := qe.symm
              subst qe
              show px_to 199 142 [some (.ref (269)), some (.int (nI st)), some (.int (nI ((j.getD st (0, 0, 0)).1))), some (.int (nI 4)), some (.int (nI 2)), some (.int (nI 3))] [.int (nI (sgF ((j.getD st (0, 0, 0)).1) 3))] h122 _
              rw [show sgF (j.getD st (0, 0, 0)).1 3 = 47 by rw [c_105]; rfl]
              refine e_aload_n f_199_142 rfl rfl ?_
              have g129 : h122.2.2 269 = some (12, mB (L, nI j.length, cn) gp (nI j.length, gq.2.1, gq.2.2.1, gq.2.2.2.1, gq.2.2.2.2.1, gq.2.2.2.2.2.1, gq.2.2.2.2.2.2) gh gw gu (gv.1, gv.2.1, gv.2.2.1, gv.2.2.2.1, gv.2.2.2.2.1, gv.2.2.2.2.2.1, gv.2.2.2.2.2.2.1, nI st, nI wy)) := fi_at g114 fx124 (by omega)
              refine e_getf f_199_143 g129 rfl rfl ?_
              refine e_iload_n f_199_146 rfl rfl ?_
              obtain ⟨hm131, fa132, fb133⟩ := fj_mid fr125
              have g130 : px_pa h122 272 52 6 stA j := pa_fi (pa_fi H2 fa132 (by omega)) fb133 (by omega)
              refine e_caload_p (xs := j) f_199_147 g130 (d := (0, 0, 0)) (by first | omega | (simp only [List.length_set]; omega)) rfl ?_
              show px_to 199 148 [some (.ref (269)), some (.int (nI st)), some (.int (nI ((j.getD st (0, 0, 0)).1))), some (.int (nI 4)), some (.int (nI 2)), some (.int (nI 3))] [.int (nI ((j.getD st (0, 0, 0)).2.1)), .int (nI 47)] h122 _
              rw [ha]
              refine e_icmp_eq_f f_199_148 (by decide) rfl ?_
              refine e_aload_n f_199_151 rfl rfl ?_
              refine e_getf f_199_152 g129 rfl rfl ?_
              refine e_iload_n f_199_155 rfl rfl ?_
              refine e_iload f_199_156 rfl rfl ?_
              refine e_aload_n f_199_158 rfl rfl ?_
              refine e_getf f_199_159 g129 rfl rfl ?_
              show px_to 199 162 [some (.ref (269)), some (.int (nI st)), some (.int (nI ((j.getD st (0, 0, 0)).1))), some (.int (nI 4)), some (.int (nI 2)), some (.int (nI 3))] [.int (nI wy), .int (nI 2), .int (nI st), .ref (285)] h122 _
              refine e_icmp_ne_t f_199_162 (by rw [hw]; decide) ?_
              refine e_aload_n f_199_174 rfl rfl ?_
              refine e_getf f_199_175 g129 rfl rfl ?_
              refine e_iload_n f_199_178 rfl rfl ?_
              refine e_caload_p (xs := (j.set st ((j.getD st (0, 0, 0)).1, 43, (j.getD st (0, 0, 0)).2.2)).set st ((j.getD st (0, 0, 0)).1, 42, (j.getD st (0, 0, 0)).2.2)) f_199_179 g123 (d := (0, 0, 0)) (by first | omega | (simp only [List.length_set]; omega)) rfl ?_
              show px_to 199 180 [some (.ref (269)), some (.int (nI st)), some (.int (nI ((j.getD st (0, 0, 0)).1))), some (.int (nI 4)), some (.int (nI 2)), some (.int (nI 3))] [.int (nI ((((j.set st ((j.getD st (0, 0, 0)).1, 43, (j.getD st (0, 0, 0)).2.2)).set st ((j.getD st (0, 0, 0)).1, 42, (j.getD st (0, 0, 0)).2.2)).getD st (0, 0, 0)).2.1)), .int (nI st), .ref (285)] h122 _
              rw [getD_set_same (by first | omega | (simp only [List.length_set]; omega))]
              refine e_castore_p (xs := (j.set st ((j.getD st (0, 0, 0)).1, 43, (j.getD st (0, 0, 0)).2.2)).set st ((j.getD st (0, 0, 0)).1, 42, (j.getD st (0, 0, 0)).2.2)) (x := ((j.getD st (0, 0, 0)).1, 42, (j.getD st (0, 0, 0)).2.2)) f_199_180 g123 (by omega) (by first | omega | (simp only [List.length_set]; omega)) (nw_ch (n := 42) (by decide)) rfl (fun h134 g135 fx136 => ?_)
              have fr137 : px_fj 269 1 284 3 h h134 := fj_tr fr125 fx136 (by omega)
              refine e_iinc (y := nI 3) (L' := [some (.ref (269)), some (.int (nI st)), some (.int (nI ((j.getD st (0, 0, 0)).1))), some (.int (nI 4)), some (.int (nI 3)), some (.int (nI 3))]) f_199_181 rfl (by rw [show Int32.ofInt 1 = nI 1 by decide]; exact (nI_add _ _).trans (congrArg nI (by omega))) rfl rfl ?_
              refine e_iinc (y := nI 4) (L' := [some (.ref (269)), some (.int (nI st)), some (.int (nI ((j.getD st (0, 0, 0)).1))), some (.int (nI 4)), some (.int (nI 3)), some (.int (nI 4))]) f_199_184 rfl (by rw [show Int32.ofInt 1 = nI 1 by decide]; exact (nI_add _ _).trans (congrArg nI (by omega))) rfl rfl ?_
              refine e_goto f_199_187 ?_
              refine e_iload f_199_130 rfl rfl ?_
              refine e_iload_n f_199_132 rfl rfl ?_
              refine e_icmp_ge_t f_199_133 (by decide) ?_
              refine e_goto f_199_190 ?_
              refine e_vret f_199_217 rfl ?_
              have hnl := of_decide_eq_false c_13
              have em : mutGo st wy j 0 = j.set st (chg (j.getD st (0, 0, 0)) wy) := mutGo_set wy j st 0 p1 (by omega)
              rw [em]
              have g138 : h134.2.2 269 = some (12, mB (L, nI j.length, cn) gp (nI j.length, gq.2.1, gq.2.2.1, gq.2.2.2.1, gq.2.2.2.2.1, gq.2.2.2.2.2.1, gq.2.2.2.2.2.2) gh gw gu (gv.1, gv.2.1, gv.2.2.1, gv.2.2.2.1, gv.2.2.2.2.1, gv.2.2.2.2.2.1, gv.2.2.2.2.2.2.1, nI st, nI wy)) := fi_at g129 fx136 (by omega)
              have g139 : px_pa h107 284 52 6 stS j := pa_fi g5 fx109 (by omega)
              have g140 : px_pa h122 284 52 6 stS j := pa_fi g139 fx124 (by omega)
              have g141 : px_pa h134 284 52 6 stS j := pa_fi g140 fx136 (by omega)
              have g142 : px_pa h107 286 50 6 stN j := pa_fi g7 fx109 (by omega)
              have g143 : px_pa h122 286 50 6 stN j := pa_fi g142 fx124 (by omega)
              have g144 : px_pa h134 286 50 6 stN j := pa_fi g143 fx136 (by omega)
              have ho : othN (j.getD st (0, 0, 0)) = 3 := by unfold othN; rw [if_neg c_95, if_pos c_105]
              have hc : chg (j.getD st (0, 0, 0)) wy = ((j.getD st (0, 0, 0)).1, 42, (j.getD st (0, 0, 0)).2.2) := by unfold chg; rw [if_pos (by omega), ha, hw, c_105]; rfl
              rw [hc]
              have hset : ((j.set st ((j.getD st (0, 0, 0)).1, 43, (j.getD st (0, 0, 0)).2.2)).set st ((j.getD st (0, 0, 0)).1, 42, (j.getD st (0, 0, 0)).2.2)).set st ((j.getD st (0, 0, 0)).1, 42, (j.getD st (0, 0, 0)).2.2) = j.set st ((j.getD st (0, 0, 0)).1, 42, (j.getD st (0, 0, 0)).2.2) := by simp only [List.set_set]
              exact ⟨rfl, by rw [List.length_set]; exact g138, pa_cg g141 (set_stS p1), pa_eq g135 hset, pa_cg g144 (set_stN p1), fr137⟩
            · skip
              refine e_iconst (v := nI 0) f_199_124 (by decide) rfl ?_
              refine e_istore (L' := [some (.ref (269)), some (.int (nI st)), some (.int (nI ((j.getD st (0, 0, 0)).1))), some (.int (nI 4)), some (.int (nI 0)), none]) f_199_125 (Nat.le_of_ble_eq_true rfl) rfl rfl ?_
              refine e_iconst (v := nI 0) f_199_127 (by decide) rfl ?_
              refine e_istore (L' := [some (.ref (269)), some (.int (nI st)), some (.int (nI ((j.getD st (0, 0, 0)).1))), some (.int (nI 4)), some (.int (nI 0)), some (.int (nI 0))]) f_199_128 (Nat.le_of_ble_eq_true rfl) rfl rfl ?_
              refine e_iload f_199_130 rfl rfl ?_
              refine e_iload_n f_199_132 rfl rfl ?_
              refine e_icmp_ge_f f_199_133 (by decide) rfl ?_
              refine e_iload_n f_199_136 rfl rfl ?_
              refine e_iload f_199_137 rfl rfl ?_
              refine e_callS (As := [.int (nI ((j.getD st (0, 0, 0)).1)), .int (nI 0)]) (rest := []) f_199_139 rfl rfl rfl (Nat.le_of_ble_eq_true rfl) (Nat.le_of_ble_eq_true rfl) (cc_Md_sgo (s := (j.getD st (0, 0, 0)).1) (i := 0)  (by omega) (by omega)) rfl (fun h145 r146 q147 => ?_)
              obtain ⟨rfl, qe⟩ := q147
              have qe := qe.symm
              subst qe
              show px_to 199 142 [some (.ref (269)), some (.int (nI st)), some (.int (nI ((j.getD st (0, 0, 0)).1))), some (.int (nI 4)), some (.int (nI 0)), some (.int (nI 0))] [.int (nI (sgF ((j.getD st (0, 0, 0)).1) 0))] h1 _
              rw [show sgF (j.getD st (0, 0, 0)).1 0 = 43 by rw [c_105]; rfl]
              refine e_aload_n f_199_142 rfl rfl ?_
              refine e_getf f_199_143 g4 rfl rfl ?_
              refine e_iload_n f_199_146 rfl rfl ?_
              obtain ⟨hm149, fa150, fb151⟩ := fj_mid fr13
              have g148 : px_pa h1 272 52 6 stA j := pa_fi (pa_fi H2 fa150 (by omega)) fb151 (by omega)
              refine e_caload_p (xs := j) f_199_147 g148 (d := (0, 0, 0)) (by first | omega | (simp only [List.length_set]; omega)) rfl ?_
              show px_to 199 148 [some (.ref (269)), some (.int (nI st)), some (.int (nI ((j.getD st (0, 0, 0)).1))), some (.int (nI 4)), some (.int (nI 0)), some (.int (nI 0))] [.int (nI ((j.getD st (0, 0, 0)).2.1)), .int (nI 43)] h1 _
              rw [ha]
              refine e_icmp_eq_t f_199_148 (by decide) ?_
              refine e_iinc (y := nI 1) (L' := [some (.ref (269)), some (.int (nI st)), some (.int (nI ((j.getD st (0, 0, 0)).1))), some (.int (nI 4)), some (.int (nI 0)), some (.int (nI 1))]) f_199_184 rfl (by rw [show Int32.ofInt 1 = nI 1 by decide]; exact (nI_add _ _).trans (congrArg nI (by omega))) rfl rfl ?_
              refine e_goto f_199_187 ?_
              refine e_iload f_199_130 rfl rfl ?_
              refine e_iload_n f_199_132 rfl rfl ?_
              refine e_icmp_ge_f f_199_133 (by decide) rfl ?_
              refine e_iload_n f_199_136 rfl rfl ?_
              refine e_iload f_199_137 rfl rfl ?_
              refine e_callS (As := [.int (nI ((j.getD st (0, 0, 0)).1)), .int (nI 1)]) (rest := []) f_199_139 rfl rfl rfl (Nat.le_of_ble_eq_true rfl) (Nat.le_of_ble_eq_true rfl) (cc_Md_sgo (s := (j.getD st (0, 0, 0)).1) (i := 1)  (by omega) (by omega)) rfl (fun h152 r153 q154 => ?_)
              obtain ⟨rfl, qe⟩ := q154
              have qe := qe.symm
              subst qe
              show px_to 199 142 [some (.ref (269)), some (.int (nI st)), some (.int (nI ((j.getD st (0, 0, 0)).1))), some (.int (nI 4)), some (.int (nI 0)), some (.int (nI 1))] [.int (nI (sgF ((j.getD st (0, 0, 0)).1) 1))] h1 _
              rw [show sgF (j.getD st (0, 0, 0)).1 1 = 45 by rw [c_105]; rfl]
              refine e_aload_n f_199_142 rfl rfl ?_
              refine e_getf f_199_143 g4 rfl rfl ?_
              refine e_iload_n f_199_146 rfl rfl ?_
              refine e_caload_p (xs := j) f_199_147 g148 (d := (0, 0, 0)) (by first | omega | (simp only [List.length_set]; omega)) rfl ?_
              show px_to 199 148 [some (.ref (269)), some (.int (nI st)), some (.int (nI ((j.getD st (0, 0, 0)).1))), some (.int (nI 4)), some (.int (nI 0)), some (.int (nI 1))] [.int (nI ((j.getD st (0, 0, 0)).2.1)), .int (nI 45)] h1 _
              rw [ha]
              refine e_icmp_eq_f f_199_148 (by decide) rfl ?_
              refine e_aload_n f_199_151 rfl rfl ?_
              refine e_getf f_199_152 g4 rfl rfl ?_
              refine e_iload_n f_199_155 rfl rfl ?_
              refine e_iload f_199_156 rfl rfl ?_
              refine e_aload_n f_199_158 rfl rfl ?_
              refine e_getf f_199_159 g4 rfl rfl ?_
              show px_to 199 162 [some (.ref (269)), some (.int (nI st)), some (.int (nI ((j.getD st (0, 0, 0)).1))), some (.int (nI 4)), some (.int (nI 0)), some (.int (nI 1))] [.int (nI wy), .int (nI 0), .int (nI st), .ref (285)] h1 _
              refine e_icmp_ne_t f_199_162 (by rw [hw]; decide) ?_
              refine e_aload_n f_199_174 rfl rfl ?_
              refine e_getf f_199_175 g4 rfl rfl ?_
              refine e_iload_n f_199_178 rfl rfl ?_
              refine e_caload_p (xs := j) f_199_179 g6 (d := (0, 0, 0)) (by first | omega | (simp only [List.length_set]; omega)) rfl ?_
              show px_to 199 180 [some (.ref (269)), some (.int (nI st)), some (.int (nI ((j.getD st (0, 0, 0)).1))), some (.int (nI 4)), some (.int (nI 0)), some (.int (nI 1))] [.int (nI ((j.getD st (0, 0, 0)).2.1)), .int (nI st), .ref (285)] h1 _
              rw [ha]
              refine e_castore_p (xs := j) (x := ((j.getD st (0, 0, 0)).1, 43, (j.getD st (0, 0, 0)).2.2)) f_199_180 g6 (by omega) (by first | omega | (simp only [List.length_set]; omega)) (nw_ch (n := 43) (by decide)) rfl (fun h155 g156 fx157 => ?_)
              have fr158 : px_fj 269 1 284 3 h h155 := fj_tr fr13 fx157 (by omega)
              refine e_iinc (y := nI 1) (L' := [some (.ref (269)), some (.int (nI st)), some (.int (nI ((j.getD st (0, 0, 0)).1))), some (.int (nI 4)), some (.int (nI 1)), some (.int (nI 1))]) f_199_181 rfl (by rw [show Int32.ofInt 1 = nI 1 by decide]; exact (nI_add _ _).trans (congrArg nI (by omega))) rfl rfl ?_
              refine e_iinc (y := nI 2) (L' := [some (.ref (269)), some (.int (nI st)), some (.int (nI ((j.getD st (0, 0, 0)).1))), some (.int (nI 4)), some (.int (nI 1)), some (.int (nI 2))]) f_199_184 rfl (by rw [show Int32.ofInt 1 = nI 1 by decide]; exact (nI_add _ _).trans (congrArg nI (by omega))) rfl rfl ?_
              refine e_goto f_199_187 ?_
              refine e_iload f_199_130 rfl rfl ?_
              refine e_iload_n f_199_132 rfl rfl ?_
              refine e_icmp_ge_f f_199_133 (by decide) rfl ?_
              refine e_iload_n f_199_136 rfl rfl ?_
              refine e_iload f_199_137 rfl rfl ?_
              refine e_callS (As := [.int (nI ((j.getD st (0, 0, 0)).1)), .int (nI 2)]) (rest := []) f_199_139 rfl rfl rfl (Nat.le_of_ble_eq_true rfl) (Nat.le_of_ble_eq_true rfl) (cc_Md_sgo (s := (j.getD st (0, 0, 0)).1) (i := 2)  (by omega) (by omega)) rfl (fun h159 r160 q161 => ?_)
              obtain ⟨rfl, qe⟩ := q161
              have qe := qe.symm
              subst qe
              show px_to 199 142 [some (.ref (269)), some (.int (nI st)), some (.int (nI ((j.getD st (0, 0, 0)).1))), some (.int (nI 4)), some (.int (nI 1)), some (.int (nI 2))] [.int (nI (sgF ((j.getD st (0, 0, 0)).1) 2))] h155 _
              rw [show sgF (j.getD st (0, 0, 0)).1 2 = 42 by rw [c_105]; rfl]
              refine e_aload_n f_199_142 rfl rfl ?_
              have g162 : h155.2.2 269 = some (12, mB (L, nI j.length, cn) gp (nI j.length, gq.2.1, gq.2.2.1, gq.2.2.2.1, gq.2.2.2.2.1, gq.2.2.2.2.2.1, gq.2.2.2.2.2.2) gh gw gu (gv.1, gv.2.1, gv.2.2.1, gv.2.2.2.1, gv.2.2.2.2.1, gv.2.2.2.2.2.1, gv.2.2.2.2.2.2.1, nI st, nI wy)) := fi_at g4 fx157 (by omega)
              refine e_getf f_199_143 g162 rfl rfl ?_
              refine e_iload_n f_199_146 rfl rfl ?_
              obtain ⟨hm164, fa165, fb166⟩ := fj_mid fr158
              have g163 : px_pa h155 272 52 6 stA j := pa_fi (pa_fi H2 fa165 (by omega)) fb166 (by omega)
              refine e_caload_p (xs := j) f_199_147 g163 (d := (0, 0, 0)) (by first | omega | (simp only [List.length_set]; omega)) rfl ?_
              show px_to 199 148 [some (.ref (269)), some (.int (nI st)), some (.int (nI ((j.getD st (0, 0, 0)).1))), some (.int (nI 4)), some (.int (nI 1)), some (.int (nI 2))] [.int (nI ((j.getD st (0, 0, 0)).2.1)), .int (nI 42)] h155 _
              rw [ha]
              refine e_icmp_eq_f f_199_148 (by decide) rfl ?_
              refine e_aload_n f_199_151 rfl rfl ?_
              refine e_getf f_199_152 g162 rfl rfl ?_
              refine e_iload_n f_199_155 rfl rfl ?_
              refine e_iload f_199_156 rfl rfl ?_
              refine e_aload_n f_199_158 rfl rfl ?_
              refine e_getf f_199_159 g162 rfl rfl ?_
              show px_to 199 162 [some (.ref (269)), some (.int (nI st)), some (.int (nI ((j.getD st (0, 0, 0)).1))), some (.int (nI 4)), some (.int (nI 1)), some (.int (nI 2))] [.int (nI wy), .int (nI 1), .int (nI st), .ref (285)] h155 _
              refine e_icmp_ne_t f_199_162 (by rw [hw]; decide) ?_
              refine e_aload_n f_199_174 rfl rfl ?_
              refine e_getf f_199_175 g162 rfl rfl ?_
              refine e_iload_n f_199_178 rfl rfl ?_
              refine e_caload_p (xs := j.set st ((j.getD st (0, 0, 0)).1, 43, (j.getD st (0, 0, 0)).2.2)) f_199_179 g156 (d := (0, 0, 0)) (by first | omega | (simp only [List.length_set]; omega)) rfl ?_
              show px_to 199 180 [some (.ref (269)), some (.int (nI st)), some (.int (nI ((j.getD st (0, 0, 0)).1))), some (.int (nI 4)), some (.int (nI 1)), some (.int (nI 2))] [.int (nI (((j.set st ((j.getD st (0, 0, 0)).1, 43, (j.getD st (0, 0, 0)).2.2)).getD st (0, 0, 0)).2.1)), .int (nI st), .ref (285)] h155 _
              rw [getD_set_same (by first | omega | (simp only [List.length_set]; omega))]
              refine e_castore_p (xs := j.set st ((j.getD st (0, 0, 0)).1, 43, (j.getD st (0, 0, 0)).2.2)) (x := ((j.getD st (0, 0, 0)).1, 43, (j.getD st (0, 0, 0)).2.2)) f_199_180 g156 (by omega) (by first | omega | (simp only [List.length_set]; omega)) (nw_ch (n := 43) (by decide)) rfl (fun h167 g168 fx169 => ?_)
              have fr170 : px_fj 269 1 284 3 h h167 := fj_tr fr158 fx169 (by omega)
              refine e_iinc (y := nI 2) (L' := [some (.ref (269)), some (.int (nI st)), some (.int (nI ((j.getD st (0, 0, 0)).1))), some (.int (nI 4)), some (.int (nI 2)), some (.int (nI 2))]) f_199_181 rfl (by rw [show Int32.ofInt 1 = nI 1 by decide]; exact (nI_add _ _).trans (congrArg nI (by omega))) rfl rfl ?_
              refine e_iinc (y := nI 3) (L' := [some (.ref (269)), some (.int (nI st)), some (.int (nI ((j.getD st (0, 0, 0)).1))), some (.int (nI 4)), some (.int (nI 2)), some (.int (nI 3))]) f_199_184 rfl (by rw [show Int32.ofInt 1 = nI 1 by decide]; exact (nI_add _ _).trans (congrArg nI (by omega))) rfl rfl ?_
              refine e_goto f_199_187 ?_
              refine e_iload f_199_130 rfl rfl ?_
              refine e_iload_n f_199_132 rfl rfl ?_
              refine e_icmp_ge_f f_199_133 (by decide) rfl ?_
              refine e_iload_n f_199_136 rfl rfl ?_
              refine e_iload f_199_137 rfl rfl ?_
              refine e_callS (As := [.int (nI ((j.getD st (0, 0, 0)).1)), .int (nI 3)]) (rest := []) f_199_139 rfl rfl rfl (Nat.le_of_ble_eq_true rfl) (Nat.le_of_ble_eq_true rfl) (cc_Md_sgo (s := (j.getD st (0, 0, 0)).1) (i := 3)  (by omega) (by omega)) rfl (fun h171 r172 q173 => ?_)
              obtain ⟨rfl, qe⟩ := q173
              have qe := qe.symm
              subst qe
              show px_to 199 142 [some (.ref (269)), some (.int (nI st)), some (.int (nI ((j.getD st (0, 0, 0)).1))), some (.int (nI 4)), some (.int (nI 2)), some (.int (nI 3))] [.int (nI (sgF ((j.getD st (0, 0, 0)).1) 3))] h167 _
              rw [show sgF (j.getD st (0, 0, 0)).1 3 = 47 by rw [c_105]; rfl]
              refine e_aload_n f_199_142 rfl rfl ?_
              have g174 : h167.2.2 269 = some (12, mB (L, nI j.length, cn) gp (nI j.length, gq.2.1, gq.2.2.1, gq.2.2.2.1, gq.2.2.2.2.1, gq.2.2.2.2.2.1, gq.2.2.2.2.2.2) gh gw gu (gv.1, gv.2.1, gv.2.2.1, gv.2.2.2.1, gv.2.2.2.2.1, gv.2.2.2.2.2.1, gv.2.2.2.2.2.2.1, nI st, nI wy)) := fi_at g162 fx169 (by omega)
              refine e_getf f_199_143 g174 rfl rfl ?_
              refine e_iload_n f_199_146 rfl rfl ?_
              obtain ⟨hm176, fa177, fb178⟩ := fj_mid fr170
              have g175 : px_pa h167 272 52 6 stA j := pa_fi (pa_fi H2 fa177 (by omega)) fb178 (by omega)
              refine e_caload_p (xs := j) f_199_147 g175 (d := (0, 0, 0)) (by first | omega | (simp only [List.length_set]; omega)) rfl ?_
              show px_to 199 148 [some (.ref (269)), some (.int (nI st)), some (.int (nI ((j.getD st (0, 0, 0)).1))), some (.int (nI 4)), some (.int (nI 2)), some (.int (nI 3))] [.int (nI ((j.getD st (0, 0, 0)).2.1)), .int (nI 47)] h167 _
              rw [ha]
              refine e_icmp_eq_f f_199_148 (by decide) rfl ?_
              refine e_aload_n f_199_151 rfl rfl ?_
              refine e_getf f_199_152 g174 rfl rfl ?_
              refine e_iload_n f_199_155 rfl rfl ?_
              refine e_iload f_199_156 rfl rfl ?_
              refine e_aload_n f_199_158 rfl rfl ?_
              refine e_getf f_199_159 g174 rfl rfl ?_
              show px_to 199 162 [some (.ref (269)), some (.int (nI st)), some (.int (nI ((j.getD st (0, 0, 0)).1))), some (.int (nI 4)), some (.int (nI 2)), some (.int (nI 3))] [.int (nI wy), .int (nI 2), .int (nI st), .ref (285)] h167 _
              refine e_icmp_ne_f f_199_162 (by rw [hw]; decide) rfl ?_
              refine e_iload_n f_199_165 rfl rfl ?_
              refine e_iload f_199_166 rfl rfl ?_
              refine e_callS (As := [.int (nI ((j.getD st (0, 0, 0)).1)), .int (nI 3)]) (rest := [.int (nI st), .ref (285)]) f_199_168 rfl rfl rfl (Nat.le_of_ble_eq_true rfl) (Nat.le_of_ble_eq_true rfl) (cc_Md_sgo (s := (j.getD st (0, 0, 0)).1) (i := 3)  (by omega) (by omega)) rfl (fun h179 r180 q181 => ?_)
              obtain ⟨rfl, qe⟩ := q181
              have qe := qe.symm
              subst qe
              show px_to 199 171 [some (.ref (269)), some (.int (nI st)), some (.int (nI ((j.getD st (0, 0, 0)).1))), some (.int (nI 4)), some (.int (nI 2)), some (.int (nI 3))] [.int (nI (sgF ((j.getD st (0, 0, 0)).1) 3)), .int (nI st), .ref (285)] h167 _
              rw [show sgF (j.getD st (0, 0, 0)).1 3 = 47 by rw [c_105]; rfl]
              refine e_goto f_199_171 ?_
              refine e_castore_p (xs := (j.set st ((j.getD st (0, 0, 0)).1, 43, (j.getD st (0, 0, 0)).2.2)).set st ((j.getD st (0, 0, 0)).1, 43, (j.getD st (0, 0, 0)).2.2)) (x := ((j.getD st (0, 0, 0)).1, 47, (j.getD st (0, 0, 0)).2.2)) f_199_180 g168 (by omega) (by first | omega | (simp only [List.length_set]; omega)) (nw_ch (n := 47) (by decide)) rfl (fun h182 g183 fx184 => ?_)
              have fr185 : px_fj 269 1 284 3 h h182 := fj_tr fr170 fx184 (by omega)
              refine e_iinc (y := nI 3) (L' := [some (.ref (269)), some (.int (nI st)), some (.int (nI ((j.getD st (0, 0, 0)).1))), some (.int (nI 4)), some (.int (nI 3)), some (.int (nI 3))]) f_199_181 rfl (by rw [show Int32.ofInt 1 = nI 1 by decide]; exact (nI_add _ _).trans (congrArg nI (by omega))) rfl rfl ?_
              refine e_iinc (y := nI 4) (L' := [some (.ref (269)), some (.int (nI st)), some (.int (nI ((j.getD st (0, 0, 0)).1))), some (.int (nI 4)), some (.int (nI 3)), some (.int (nI 4))]) f_199_184 rfl (by rw [show Int32.ofInt 1 = nI 1 by decide]; exact (nI_add _ _).trans (congrArg nI (by omega))) rfl rfl ?_
              refine e_goto f_199_187 ?_
              refine e_iload f_199_130 rfl rfl ?_
              refine e_iload_n f_199_132 rfl rfl ?_
              refine e_icmp_ge_t f_199_133 (by decide) ?_
              refine e_goto f_199_190 ?_
              refine e_vret f_199_217 rfl ?_
              have hnl := of_decide_eq_false c_13
              have em : mutGo st wy j 0 = j.set st (chg (j.getD st (0, 0, 0)) wy) := mutGo_set wy j st 0 p1 (by omega)
              rw [em]
              have g186 : h182.2.2 269 = some (12, mB (L, nI j.length, cn) gp (nI j.length, gq.2.1, gq.2.2.1, gq.2.2.2.1, gq.2.2.2.2.1, gq.2.2.2.2.2.1, gq.2.2.2.2.2.2) gh gw gu (gv.1, gv.2.1, gv.2.2.1, gv.2.2.2.1, gv.2.2.2.2.1, gv.2.2.2.2.2.1, gv.2.2.2.2.2.2.1, nI st, nI wy)) := fi_at g174 fx184 (by omega)
              have g187 : px_pa h155 284 52 6 stS j := pa_fi g5 fx157 (by omega)
              have g188 : px_pa h167 284 52 6 stS j := pa_fi g187 fx169 (by omega)
              have g189 : px_pa h182 284 52 6 stS j := pa_fi g188 fx184 (by omega)
              have g190 : px_pa h155 286 50 6 stN j := pa_fi g7 fx157 (by omega)
              have g191 : px_pa h167 286 50 6 stN j := pa_fi g190 fx169 (by omega)
              have g192 : px_pa h182 286 50 6 stN j := pa_fi g191 fx184 (by omega)
              have ho : othN (j.getD st (0, 0, 0)) = 3 := by unfold othN; rw [if_neg c_95, if_pos c_105]
              have hc : chg (j.getD st (0, 0, 0)) wy = ((j.getD st (0, 0, 0)).1, 47, (j.getD st (0, 0, 0)).2.2) := by unfold chg; rw [if_pos (by omega), ha, hw, c_105]; rfl
              rw [hc]
              have hset : ((j.set st ((j.getD st (0, 0, 0)).1, 43, (j.getD st (0, 0, 0)).2.2)).set st ((j.getD st (0, 0, 0)).1, 43, (j.getD st (0, 0, 0)).2.2)).set st ((j.getD st (0, 0, 0)).1, 47, (j.getD st (0, 0, 0)).2.2) = j.set st ((j.getD st (0, 0, 0)).1, 47, (j.getD st (0, 0, 0)).2.2) := by simp only [List.set_set]
              exact ⟨rfl, by rw [List.length_set]; exact g186, pa_cg g189 (set_stS p1), pa_eq g183 hset, pa_cg g192 (set_stN p1), fr185⟩
          · skip
            rcases (show wy = 0 ∨ wy = 1 ∨ wy = 2 by omega) with hw | hw | hw
            · skip
              refine e_iconst (v := nI 0) f_199_124 (by decide) rfl ?_
              refine e_istore (L' := [some (.ref (269)), some (.int (nI st)), some (.int (nI ((j.getD st (0, 0, 0)).1))), some (.int (nI 4)), some (.int (nI 0)), none]) f_199_125 (Nat.le_of_ble_eq_true rfl) rfl rfl ?_
              refine e_iconst (v := nI 0) f_199_127 (by decide) rfl ?_
              refine e_istore (L' := [some (.ref (269)), some (.int (nI st)), some (.int (nI ((j.getD st (0, 0, 0)).1))), some (.int (nI 4)), some (.int (nI 0)), some (.int (nI 0))]) f_199_128 (Nat.le_of_ble_eq_true rfl) rfl rfl ?_
              refine e_iload f_199_130 rfl rfl ?_
              refine e_iload_n f_199_132 rfl rfl ?_
              refine e_icmp_ge_f f_199_133 (by decide) rfl ?_
              refine e_iload_n f_199_136 rfl rfl ?_
              refine e_iload f_199_137 rfl rfl ?_
              refine e_callS (As := [.int (nI ((j.getD st (0, 0, 0)).1)), .int (nI 0)]) (rest := []) f_199_139 rfl rfl rfl (Nat.le_of_ble_eq_true rfl) (Nat.le_of_ble_eq_true rfl) (cc_Md_sgo (s := (j.getD st (0, 0, 0)).1) (i := 0)  (by omega) (by omega)) rfl (fun h193 r194 q195 => ?_)
              obtain ⟨rfl, qe⟩ := q195
              have qe := qe.symm
              subst qe
              show px_to 199 142 [some (.ref (269)), some (.int (nI st)), some (.int (nI ((j.getD st (0, 0, 0)).1))), some (.int (nI 4)), some (.int (nI 0)), some (.int (nI 0))] [.int (nI (sgF ((j.getD st (0, 0, 0)).1) 0))] h1 _
              rw [show sgF (j.getD st (0, 0, 0)).1 0 = 43 by rw [c_105]; rfl]
              refine e_aload_n f_199_142 rfl rfl ?_
              refine e_getf f_199_143 g4 rfl rfl ?_
              refine e_iload_n f_199_146 rfl rfl ?_
              obtain ⟨hm197, fa198, fb199⟩ := fj_mid fr13
              have g196 : px_pa h1 272 52 6 stA j := pa_fi (pa_fi H2 fa198 (by omega)) fb199 (by omega)
              refine e_caload_p (xs := j) f_199_147 g196 (d := (0, 0, 0)) (by first | omega | (simp only [List.length_set]; omega)) rfl ?_
              show px_to 199 148 [some (.ref (269)), some (.int (nI st)), some (.int (nI ((j.getD st (0, 0, 0)).1))), some (.int (nI 4)), some (.int (nI 0)), some (.int (nI 0))] [.int (nI ((j.getD st (0, 0, 0)).2.1)), .int (nI 43)] h1 _
              rw [ha]
              refine e_icmp_eq_f f_199_148 (by decide) rfl ?_
              refine e_aload_n f_199_151 rfl rfl ?_
              refine e_getf f_199_152 g4 rfl rfl ?_
              refine e_iload_n f_199_155 rfl rfl ?_
              refine e_iload f_199_156 rfl rfl ?_
              refine e_aload_n f_199_158 rfl rfl ?_
              refine e_getf f_199_159 g4 rfl rfl ?_
              show px_to 199 162 [some (.ref (269)), some (.int (nI st)), some (.int (nI ((j.getD st (0, 0, 0)).1))), some (.int (nI 4)), some (.int (nI 0)), some (.int (nI 0))] [.int (nI wy), .int (nI 0), .int (nI st), .ref (285)] h1 _
              refine e_icmp_ne_f f_199_162 (by rw [hw]; decide) rfl ?_
              refine e_iload_n f_199_165 rfl rfl ?_
              refine e_iload f_199_166 rfl rfl ?_
              refine e_callS (As := [.int (nI ((j.getD st (0, 0, 0)).1)), .int (nI 0)]) (rest := [.int (nI st), .ref (285)]) f_199_168 rfl rfl rfl (Nat.le_of_ble_eq_true rfl) (Nat.le_of_ble_eq_true rfl) (cc_Md_sgo (s := (j.getD st (0, 0, 0)).1) (i := 0)  (by omega) (by omega)) rfl (fun h200 r201 q202 => ?_)
              obtain ⟨rfl, qe⟩ := q202
              have qe := qe.symm
              subst qe
              show px_to 199 171 [some (.ref (269)), some (.int (nI st)), some (.int (nI ((j.getD st (0, 0, 0)).1))), some (.int (nI 4)), some (.int (nI 0)), some (.int (nI 0))] [.int (nI (sgF ((j.getD st (0, 0, 0)).1) 0)), .int (nI st), .ref (285)] h1 _
              rw [show sgF (j.getD st (0, 0, 0)).1 0 = 43 by rw [c_105]; rfl]
              refine e_goto f_199_171 ?_
              refine e_castore_p (xs := j) (x := ((j.getD st (0, 0, 0)).1, 43, (j.getD st (0, 0, 0)).2.2)) f_199_180 g6 (by omega) (by first | omega | (simp only [List.length_set]; omega)) (nw_ch (n := 43) (by decide)) rfl (fun h203 g204 fx205 => ?_)
              have fr206 : px_fj 269 1 284 3 h h203 := fj_tr fr13 fx205 (by omega)
              refine e_iinc (y := nI 1) (L' := [some (.ref (269)), some (.int (nI st)), some (.int (nI ((j.getD st (0, 0, 0)).1))), some (.int (nI 4)), some (.int (nI 1)), some (.int (nI 0))]) f_199_181 rfl (by rw [show Int32.ofInt 1 = nI 1 by decide]; exact (nI_add _ _).trans (congrArg nI (by omega))) rfl rfl ?_
              refine e_iinc (y := nI 1) (L' := [some (.ref (269)), some (.int (nI st)), some (.int (nI ((j.getD st (0, 0, 0)).1))), some (.int (nI 4)), some (.int (nI 1)), some (.int (nI 1))]) f_199_184 rfl (by rw [show Int32.ofInt 1 = nI 1 by decide]; exact (nI_add _ _).trans (congrArg nI (by omega))) rfl rfl ?_
              refine e_goto f_199_187 ?_
              refine e_iload f_199_130 rfl rfl ?_
              refine e_iload_n f_199_132 rfl rfl ?_
              refine e_icmp_ge_f f_199_133 (by decide) rfl ?_
              refine e_iload_n f_199_136 rfl rfl ?_
              refine e_iload f_199_137 rfl rfl ?_
              refine e_callS (As := [.int (nI ((j.getD st (0, 0, 0)).1)), .int (nI 1)]) (rest := []) f_199_139 rfl rfl rfl (Nat.le_of_ble_eq_true rfl) (Nat.le_of_ble_eq_true rfl) (cc_Md_sgo (s := (j.getD st (0, 0, 0)).1) (i := 1)  (by omega) (by omega)) rfl (fun h207 r208 q209 => ?_)
              obtain ⟨rfl, qe⟩ := q209
              have qe := qe.symm
              subst qe
              show px_to 199 142 [some (.ref (269)), some (.int (nI st)), some (.int (nI ((j.getD st (0, 0, 0)).1))), some (.int (nI 4)), some (.int (nI 1)), some (.int (nI 1))] [.int (nI (sgF ((j.getD st (0, 0, 0)).1) 1))] h203 _
              rw [show sgF (j.getD st (0, 0, 0)).1 1 = 45 by rw [c_105]; rfl]
              refine e_aload_n f_199_142 rfl rfl ?_
              have g210 : h203.2.2 269 = some (12, mB (L, nI j.length, cn) gp (nI j.length, gq.2.1, gq.2.2.1, gq.2.2.2.1, gq.2.2.2.2.1, gq.2.2.2.2.2.1, gq.2.2.2.2.2.2) gh gw gu (gv.1, gv.2.1, gv.2.2.1, gv.2.2.2.1, gv.2.2.2.2.1, gv.2.2.2.2.2.1, gv.2.2.2.2.2.2.1, nI st, nI wy)) := fi_at g4 fx205 (by omega)
              refine e_getf f_199_143 g210 rfl rfl ?_
              refine e_iload_n f_199_146 rfl rfl ?_
              obtain ⟨hm212, fa213, fb214⟩ := fj_mid fr206
              have g211 : px_pa h203 272 52 6 stA j := pa_fi (pa_fi H2 fa213 (by omega)) fb214 (by omega)
              refine e_caload_p (xs := j) f_199_147 g211 (d := (0, 0, 0)) (by first | omega | (simp only [List.length_set]; omega)) rfl ?_
              show px_to 199 148 [some (.ref (269)), some (.int (nI st)), some (.int (nI ((j.getD st (0, 0, 0)).1))), some (.int (nI 4)), some (.int (nI 1)), some (.int (nI 1))] [.int (nI ((j.getD st (0, 0, 0)).2.1)), .int (nI 45)] h203 _
              rw [ha]
              refine e_icmp_eq_t f_199_148 (by decide) ?_
              refine e_iinc (y := nI 2) (L' := [some (.ref (269)), some (.int (nI st)), some (.int (nI ((j.getD st (0, 0, 0)).1))), some (.int (nI 4)), some (.int (nI 1)), some (.int (nI 2))]) f_199_184 rfl (by rw [show Int32.ofInt 1 = nI 1 by decide]; exact (nI_add _ _).trans (congrArg nI (by omega))) rfl rfl ?_
              refine e_goto f_199_187 ?_
              refine e_iload f_199_130 rfl rfl ?_
              refine e_iload_n f_199_132 rfl rfl ?_
              refine e_icmp_ge_f f_199_133 (by decide) rfl ?_
              refine e_iload_n f_199_136 rfl rfl ?_
              refine e_iload f_199_137 rfl rfl ?_
              refine e_callS (As := [.int (nI ((j.getD st (0, 0, 0)).1)), .int (nI 2)]) (rest := []) f_199_139 rfl rfl rfl (Nat.le_of_ble_eq_true rfl) (Nat.le_of_ble_eq_true rfl) (cc_Md_sgo (s := (j.getD st (0, 0, 0)).1) (i := 2)  (by omega) (by omega)) rfl (fun h215 r216 q217 => ?_)
              obtain ⟨rfl, qe⟩ := q217
              have qe := qe.symm
              subst qe
              show px_to 199 142 [some (.ref (269)), some (.int (nI st)), some (.int (nI ((j.getD st (0, 0, 0)).1))), some (.int (nI 4)), some (.int (nI 1)), some (.int (nI 2))] [.int (nI (sgF ((j.getD st (0, 0, 0)).1) 2))] h203 _
              rw [show sgF (j.getD st (0, 0, 0)).1 2 = 42 by rw [c_105]; rfl]
              refine e_aload_n f_199_142 rfl rfl ?_
              refine e_getf f_199_143 g210 rfl rfl ?_
              refine e_iload_n f_199_146 rfl rfl ?_
              refine e_caload_p (xs := j) f_199_147 g211 (d := (0, 0, 0)) (by first | omega | (simp only [List.length_set]; omega)) rfl ?_
              show px_to 199 148 [some (.ref (269)), some (.int (nI st)), some (.int (nI ((j.getD st (0, 0, 0)).1))), some (.int (nI 4)), some (.int (nI 1)), some (.int (nI 2))] [.int (nI ((j.getD st (0, 0, 0)).2.1)), .int (nI 42)] h203 _
              rw [ha]
              refine e_icmp_eq_f f_199_148 (by decide) rfl ?_
              refine e_aload_n f_199_151 rfl rfl ?_
              refine e_getf f_199_152 g210 rfl rfl ?_
              refine e_iload_n f_199_155 rfl rfl ?_
              refine e_iload f_199_156 rfl rfl ?_
              refine e_aload_n f_199_158 rfl rfl ?_
              refine e_getf f_199_159 g210 rfl rfl ?_
              show px_to 199 162 [some (.ref (269)), some (.int (nI st)), some (.int (nI ((j.getD st (0, 0, 0)).1))), some (.int (nI 4)), some (.int (nI 1)), some (.int (nI 2))] [.int (nI wy), .int (nI 1), .int (nI st), .ref (285)] h203 _
              refine e_icmp_ne_t f_199_162 (by rw [hw]; decide) ?_
              refine e_aload_n f_199_174 rfl rfl ?_
              refine e_getf f_199_175 g210 rfl rfl ?_
              refine e_iload_n f_199_178 rfl rfl ?_
              refine e_caload_p (xs := j.set st ((j.getD st (0, 0, 0)).1, 43, (j.getD st (0, 0, 0)).2.2)) f_199_179 g204 (d := (0, 0, 0)) (by first | omega | (simp only [List.length_set]; omega)) rfl ?_
              show px_to 199 180 [some (.ref (269)), some (.int (nI st)), some (.int (nI ((j.getD st (0, 0, 0)).1))), some (.int (nI 4)), some (.int (nI 1)), some (.int (nI 2))] [.int (nI (((j.set st ((j.getD st (0, 0, 0)).1, 43, (j.getD st (0, 0, 0)).2.2)).getD st (0, 0, 0)).2.1)), .int (nI st), .ref (285)] h203 _
              rw [getD_set_same (by first | omega | (simp only [List.length_set]; omega))]
              refine e_castore_p (xs := j.set st ((j.getD st (0, 0, 0)).1, 43, (j.getD st (0, 0, 0)).2.2)) (x := ((j.getD st (0, 0, 0)).1, 43, (j.getD st (0, 0, 0)).2.2)) f_199_180 g204 (by omega) (by first | omega | (simp only [List.length_set]; omega)) (nw_ch (n := 43) (by decide)) rfl (fun h218 g219 fx220 => ?_)
              have fr221 : px_fj 269 1 284 3 h h218 := fj_tr fr206 fx220 (by omega)
              refine e_iinc (y := nI 2) (L' := [some (.ref (269)), some (.int (nI st)), some (.int (nI ((j.getD st (0, 0, 0)).1))), some (.int (nI 4)), some (.int (nI 2)), some (.int (nI 2))]) f_199_181 rfl (by rw [show Int32.ofInt 1 = nI 1 by decide]; exact (nI_add _ _).trans (congrArg nI (by omega))) rfl rfl ?_
              refine e_iinc (y := nI 3) (L' := [some (.ref (269)), some (.int (nI st)), some (.int (nI ((j.getD st (0, 0, 0)).1))), some (.int (nI 4)), some (.int (nI 2)), some (.int (nI 3))]) f_199_184 rfl (by rw [show Int32.ofInt 1 = nI 1 by decide]; exact (nI_add _ _).trans (congrArg nI (by omega))) rfl rfl ?_
              refine e_goto f_199_187 ?_
              refine e_iload f_199_130 rfl rfl ?_
              refine e_iload_n f_199_132 rfl rfl ?_
              refine e_icmp_ge_f f_199_133 (by decide) rfl ?_
              refine e_iload_n f_199_136 rfl rfl ?_
              refine e_iload f_199_137 rfl rfl ?_
              refine e_callS (As := [.int (nI ((j.getD st (0, 0, 0)).1)), .int (nI 3)]) (rest := []) f_199_139 rfl rfl rfl (Nat.le_of_ble_eq_true rfl) (Nat.le_of_ble_eq_true rfl) (cc_Md_sgo (s := (j.getD st (0, 0, 0)).1) (i := 3)  (by omega) (by omega)) rfl (fun h222 r223 q224 => ?_)
              obtain ⟨rfl, qe⟩ := q224
              have qe := qe.symm
              subst qe
              show px_to 199 142 [some (.ref (269)), some (.int (nI st)), some (.int (nI ((j.getD st (0, 0, 0)).1))), some (.int (nI 4)), some (.int (nI 2)), some (.int (nI 3))] [.int (nI (sgF ((j.getD st (0, 0, 0)).1) 3))] h218 _
              rw [show sgF (j.getD st (0, 0, 0)).1 3 = 47 by rw [c_105]; rfl]
              refine e_aload_n f_199_142 rfl rfl ?_
              have g225 : h218.2.2 269 = some (12, mB (L, nI j.length, cn) gp (nI j.length, gq.2.1, gq.2.2.1, gq.2.2.2.1, gq.2.2.2.2.1, gq.2.2.2.2.2.1, gq.2.2.2.2.2.2) gh gw gu (gv.1, gv.2.1, gv.2.2.1, gv.2.2.2.1, gv.2.2.2.2.1, gv.2.2.2.2.2.1, gv.2.2.2.2.2.2.1, nI st, nI wy)) := fi_at g210 fx220 (by omega)
              refine e_getf f_199_143 g225 rfl rfl ?_
              refine e_iload_n f_199_146 rfl rfl ?_
              obtain ⟨hm227, fa228, fb229⟩ := fj_mid fr221
              have g226 : px_pa h218 272 52 6 stA j := pa_fi (pa_fi H2 fa228 (by omega)) fb229 (by omega)
              refine e_caload_p (xs := j) f_199_147 g226 (d := (0, 0, 0)) (by first | omega | (simp only [List.length_set]; omega)) rfl ?_
              show px_to 199 148 [some (.ref (269)), some (.int (nI st)), some (.int (nI ((j.getD st (0, 0, 0)).1))), some (.int (nI 4)), some (.int (nI 2)), some (.int (nI 3))] [.int (nI ((j.getD st (0, 0, 0)).2.1)), .int (nI 47)] h218 _
              rw [ha]
              refine e_icmp_eq_f f_199_148 (by decide) rfl ?_
              refine e_aload_n f_199_151 rfl rfl ?_
              refine e_getf f_199_152 g225 rfl rfl ?_
              refine e_iload_n f_199_155 rfl rfl ?_
              refine e_iload f_199_156 rfl rfl ?_
              refine e_aload_n f_199_158 rfl rfl ?_
              refine e_getf f_199_159 g225 rfl rfl ?_
              show px_to 199 162 [some (.ref (269)), some (.int (nI st)), some (.int (nI ((j.getD st (0, 0, 0)).1))), some (.int (nI 4)), some (.int (nI 2)), some (.int (nI 3))] [.int (nI wy), .int (nI 2), .int (nI st), .ref (285)] h218 _
              refine e_icmp_ne_t f_199_162 (by rw [hw]; decide) ?_
              refine e_aload_n f_199_174 rfl rfl ?_
              refine e_getf f_199_175 g225 rfl rfl ?_
              refine e_iload_n f_199_178 rfl rfl ?_
              refine e_caload_p (xs := (j.set st ((j.getD st (0, 0, 0)).1, 43, (j.getD st (0, 0, 0)).2.2)).set st ((j.getD st (0, 0, 0)).1, 43, (j.getD st (0, 0, 0)).2.2)) f_199_179 g219 (d := (0, 0, 0)) (by first | omega | (simp only [List.length_set]; omega)) rfl ?_
              show px_to 199 180 [some (.ref (269)), some (.int (nI st)), some (.int (nI ((j.getD st (0, 0, 0)).1))), some (.int (nI 4)), some (.int (nI 2)), some (.int (nI 3))] [.int (nI ((((j.set st ((j.getD st (0, 0, 0)).1, 43, (j.getD st (0, 0, 0)).2.2)).set st ((j.getD st (0, 0, 0)).1, 43, (j.getD st (0, 0, 0)).2.2)).getD st (0, 0, 0)).2.1)), .int (nI st), .ref (285)] h218 _
              rw [getD_set_same (by first | omega | (simp only [List.length_set]; omega))]
              refine e_castore_p (xs := (j.set st ((j.getD st (0, 0, 0)).1, 43, (j.getD st (0, 0, 0)).2.2)).set st ((j.getD st (0, 0, 0)).1, 43, (j.getD st (0, 0, 0)).2.2)) (x := ((j.getD st (0, 0, 0)).1, 43, (j.getD st (0, 0, 0)).2.2)) f_199_180 g219 (by omega) (by first | omega | (simp only [List.length_set]; omega)) (nw_ch (n := 43) (by decide)) rfl (fun h230 g231 fx232 => ?_)
              have fr233 : px_fj 269 1 284 3 h h230 := fj_tr fr221 fx232 (by omega)
              refine e_iinc (y := nI 3) (L' := [some (.ref (269)), some (.int (nI st)), some (.int (nI ((j.getD st (0, 0, 0)).1))), some (.int (nI 4)), some (.int (nI 3)), some (.int (nI 3))]) f_199_181 rfl (by rw [show Int32.ofInt 1 = nI 1 by decide]; exact (nI_add _ _).trans (congrArg nI (by omega))) rfl rfl ?_
              refine e_iinc (y := nI 4) (L' := [some (.ref (269)), some (.int (nI st)), some (.int (nI ((j.getD st (0, 0, 0)).1))), some (.int (nI 4)), some (.int (nI 3)), some (.int (nI 4))]) f_199_184 rfl (by rw [show Int32.ofInt 1 = nI 1 by decide]; exact (nI_add _ _).trans (congrArg nI (by omega))) rfl rfl ?_
              refine e_goto f_199_187 ?_
              refine e_iload f_199_130 rfl rfl ?_
              refine e_iload_n f_199_132 rfl rfl ?_
              refine e_icmp_ge_t f_199_133 (by decide) ?_
              refine e_goto f_199_190 ?_
              refine e_vret f_199_217 rfl ?_
              have hnl := of_decide_eq_false c_13
              have em : mutGo st wy j 0 = j.set st (chg (j.getD st (0, 0, 0)) wy) := mutGo_set wy j st 0 p1 (by omega)
              rw [em]
              have g234 : h230.2.2 269 = some (12, mB (L, nI j.length, cn) gp (nI j.length, gq.2.1, gq.2.2.1, gq.2.2.2.1, gq.2.2.2.2.1, gq.2.2.2.2.2.1, gq.2.2.2.2.2.2) gh gw gu (gv.1, gv.2.1, gv.2.2.1, gv.2.2.2.1, gv.2.2.2.2.1, gv.2.2.2.2.2.1, gv.2.2.2.2.2.2.1, nI st, nI wy)) := fi_at g225 fx232 (by omega)
              have g235 : px_pa h203 284 52 6 stS j := pa_fi g5 fx205 (by omega)
              have g236 : px_pa h218 284 52 6 stS j := pa_fi g235 fx220 (by omega)
              have g237 : px_pa h230 284 52 6 stS j := pa_fi g236 fx232 (by omega)
              have g238 : px_pa h203 286 50 6 stN j := pa_fi g7 fx205 (by omega)
              have g239 : px_pa h218 286 50 6 stN j := pa_fi g238 fx220 (by omega)
              have g240 : px_pa h230 286 50 6 stN j := pa_fi g239 fx232 (by omega)
              have ho : othN (j.getD st (0, 0, 0)) = 3 := by unfold othN; rw [if_neg c_95, if_pos c_105]
              have hc : chg (j.getD st (0, 0, 0)) wy = ((j.getD st (0, 0, 0)).1, 43, (j.getD st (0, 0, 0)).2.2) := by unfold chg; rw [if_pos (by omega), ha, hw, c_105]; rfl
              rw [hc]
              have hset : ((j.set st ((j.getD st (0, 0, 0)).1, 43, (j.getD st (0, 0, 0)).2.2)).set st ((j.getD st (0, 0, 0)).1, 43, (j.getD st (0, 0, 0)).2.2)).set st ((j.getD st (0, 0, 0)).1, 43, (j.getD st (0, 0, 0)).2.2) = j.set st ((j.getD st (0, 0, 0)).1, 43, (j.getD st (0, 0, 0)).2.2) := by simp only [List.set_set]
              exact ⟨rfl, by rw [List.length_set]; exact g234, pa_cg g237 (set_stS p1), pa_eq g231 hset, pa_cg g240 (set_stN p1), fr233⟩
            · skip
              refine e_iconst (v := nI 0) f_199_124 (by decide) rfl ?_
              refine e_istore (L' := [some (.ref (269)), some (.int (nI st)), some (.int (nI ((j.getD st (0, 0, 0)).1))), some (.int (nI 4)), some (.int (nI 0)), none]) f_199_125 (Nat.le_of_ble_eq_true rfl) rfl rfl ?_
              refine e_iconst (v := nI 0) f_199_127 (by decide) rfl ?_
              refine e_istore (L' := [some (.ref (269)), some (.int (nI st)), some (.int (nI ((j.getD st (0, 0, 0)).1))), some (.int (nI 4)), some (.int (nI 0)), some (.int (nI 0))]) f_199_128 (Nat.le_of_ble_eq_true rfl) rfl rfl ?_
              refine e_iload f_199_130 rfl rfl ?_
              refine e_iload_n f_199_132 rfl rfl ?_
              refine e_icmp_ge_f f_199_133 (by decide) rfl ?_
              refine e_iload_n f_199_136 rfl rfl ?_
              refine e_iload f_199_137 rfl rfl ?_
              refine e_callS (As := [.int (nI ((j.getD st (0, 0, 0)).1)), .int (nI 0)]) (rest := []) f_199_139 rfl rfl rfl (Nat.le_of_ble_eq_true rfl) (Nat.le_of_ble_eq_true rfl) (cc_Md_sgo (s := (j.getD st (0, 0, 0)).1) (i := 0)  (by omega) (by omega)) rfl (fun h241 r242 q243 => ?_)
              obtain ⟨rfl, qe⟩ := q243
              have qe := qe.symm
              subst qe
              show px_to 199 142 [some (.ref (269)), some (.int (nI st)), some (.int (nI ((j.getD st (0, 0, 0)).1))), some (.int (nI 4)), some (.int (nI 0)), some (.int (nI 0))] [.int (nI (sgF ((j.getD st (0, 0, 0)).1) 0))] h1 _
              rw [show sgF (j.getD st (0, 0, 0)).1 0 = 43 by rw [c_105]; rfl]
              refine e_aload_n f_199_142 rfl rfl ?_
              refine e_getf f_199_143 g4 rfl rfl ?_
              refine e_iload_n f_199_146 rfl rfl ?_
              obtain ⟨hm245, fa246, fb247⟩ := fj_mid fr13
              have g244 : px_pa h1 272 52 6 stA j := pa_fi (pa_fi H2 fa246 (by omega)) fb247 (by omega)
              refine e_caload_p (xs := j) f_199_147 g244 (d := (0, 0, 0)) (by first | omega | (simp only [List.length_set]; omega)) rfl ?_
              show px_to 199 148 [some (.ref (269)), some (.int (nI st)), some (.int (nI ((j.getD st (0, 0, 0)).1))), some (.int (nI 4)), some (.int (nI 0)), some (.int (nI 0))] [.int (nI ((j.getD st (0, 0, 0)).2.1)), .int (nI 43)] h1 _
              rw [ha]
              refine e_icmp_eq_f f_199_148 (by decide) rfl ?_
              refine e_aload_n f_199_151 rfl rfl ?_
              refine e_getf f_199_152 g4 rfl rfl ?_
              refine e_iload_n f_199_155 rfl rfl ?_
              refine e_iload f_199_156 rfl rfl ?_
              refine e_aload_n f_199_158 rfl rfl ?_
              refine e_getf f_199_159 g4 rfl rfl ?_
              show px_to 199 162 [some (.ref (269)), some (.int (nI st)), some (.int (nI ((j.getD st (0, 0, 0)).1))), some (.int (nI 4)), some (.int (nI 0)), some (.int (nI 0))] [.int (nI wy), .int (nI 0), .int (nI st), .ref (285)] h1 _
              refine e_icmp_ne_t f_199_162 (by rw [hw]; decide) ?_
              refine e_aload_n f_199_174 rfl rfl ?_
              refine e_getf f_199_175 g4 rfl rfl ?_
              refine e_iload_n f_199_178 rfl rfl ?_
              refine e_caload_p (xs := j) f_199_179 g6 (d := (0, 0, 0)) (by first | omega | (simp only [List.length_set]; omega)) rfl ?_
              show px_to 199 180 [some (.ref (269)), some (.int (nI st)), some (.int (nI ((j.getD st (0, 0, 0)).1))), some (.int (nI 4)), some (.int (nI 0)), some (.int (nI 0))] [.int (nI ((j.getD st (0, 0, 0)).2.1)), .int (nI st), .ref (285)] h1 _
              rw [ha]
              refine e_castore_p (xs := j) (x := ((j.getD st (0, 0, 0)).1, 45, (j.getD st (0, 0, 0)).2.2)) f_199_180 g6 (by omega) (by first | omega | (simp only [List.length_set]; omega)) (nw_ch (n := 45) (by decide)) rfl (fun h248 g249 fx250 => ?_)
              have fr251 : px_fj 269 1 284 3 h h248 := fj_tr fr13 fx250 (by omega)
              refine e_iinc (y := nI 1) (L' := [some (.ref (269)), some (.int (nI st)), some (.int (nI ((j.getD st (0, 0, 0)).1))), some (.int (nI 4)), some (.int (nI 1)), some (.int (nI 0))]) f_199_181 rfl (by rw [show Int32.ofInt 1 = nI 1 by decide]; exact (nI_add _ _).trans (congrArg nI (by omega))) rfl rfl ?_
              refine e_iinc (y := nI 1) (L' := [some (.ref (269)), some (.int (nI st)), some (.int (nI ((j.getD st (0, 0, 0)).1))), some (.int (nI 4)), some (.int (nI 1)), some (.int (nI 1))]) f_199_184 rfl (by rw [show Int32.ofInt 1 = nI 1 by decide]; exact (nI_add _ _).trans (congrArg nI (by omega))) rfl rfl ?_
              refine e_goto f_199_187 ?_
              refine e_iload f_199_130 rfl rfl ?_
              refine e_iload_n f_199_132 rfl rfl ?_
              refine e_icmp_ge_f f_199_133 (by decide) rfl ?_
              refine e_iload_n f_199_136 rfl rfl ?_
              refine e_iload f_199_137 rfl rfl ?_
              refine e_callS (As := [.int (nI ((j.getD st (0, 0, 0)).1)), .int (nI 1)]) (rest := []) f_199_139 rfl rfl rfl (Nat.le_of_ble_eq_true rfl) (Nat.le_of_ble_eq_true rfl) (cc_Md_sgo (s := (j.getD st (0, 0, 0)).1) (i := 1)  (by omega) (by omega)) rfl (fun h252 r253 q254 => ?_)
              obtain ⟨rfl, qe⟩ := q254
              have qe := qe.symm
              subst qe
              show px_to 199 142 [some (.ref (269)), some (.int (nI st)), some (.int (nI ((j.getD st (0, 0, 0)).1))), some (.int (nI 4)), some (.int (nI 1)), some (.int (nI 1))] [.int (nI (sgF ((j.getD st (0, 0, 0)).1) 1))] h248 _
              rw [show sgF (j.getD st (0, 0, 0)).1 1 = 45 by rw [c_105]; rfl]
              refine e_aload_n f_199_142 rfl rfl ?_
              have g255 : h248.2.2 269 = some (12, mB (L, nI j.length, cn) gp (nI j.length, gq.2.1, gq.2.2.1, gq.2.2.2.1, gq.2.2.2.2.1, gq.2.2.2.2.2.1, gq.2.2.2.2.2.2) gh gw gu (gv.1, gv.2.1, gv.2.2.1, gv.2.2.2.1, gv.2.2.2.2.1, gv.2.2.2.2.2.1, gv.2.2.2.2.2.2.1, nI st, nI wy)) := fi_at g4 fx250 (by omega)
              refine e_getf f_199_143 g255 rfl rfl ?_
              refine e_iload_n f_199_146 rfl rfl ?_
              obtain ⟨hm257, fa258, fb259⟩ := fj_mid fr251
              have g256 : px_pa h248 272 52 6 stA j := pa_fi (pa_fi H2 fa258 (by omega)) fb259 (by omega)
              refine e_caload_p (xs := j) f_199_147 g256 (d := (0, 0, 0)) (by first | omega | (simp only [List.length_set]; omega)) rfl ?_
              show px_to 199 148 [some (.ref (269)), some (.int (nI st)), some (.int (nI ((j.getD st (0, 0, 0)).1))), some (.int (nI 4)), some (.int (nI 1)), some (.int (nI 1))] [.int (nI ((j.getD st (0, 0, 0)).2.1)), .int (nI 45)] h248 _
              rw [ha]
              refine e_icmp_eq_t f_199_148 (by decide) ?_
              refine e_iinc (y := nI 2) (L' := [some (.ref (269)), some (.int (nI st)), some (.int (nI ((j.getD st (0, 0, 0)).1))), some (.int (nI 4)), some (.int (nI 1)), some (.int (nI 2))]) f_199_184 rfl (by rw [show Int32.ofInt 1 = nI 1 by decide]; exact (nI_add _ _).trans (congrArg nI (by omega))) rfl rfl ?_
              refine e_goto f_199_187 ?_
              refine e_iload f_199_130 rfl rfl ?_
              refine e_iload_n f_199_132 rfl rfl ?_
              refine e_icmp_ge_f f_199_133 (by decide) rfl ?_
              refine e_iload_n f_199_136 rfl rfl ?_
              refine e_iload f_199_137 rfl rfl ?_
              refine e_callS (As := [.int (nI ((j.getD st (0, 0, 0)).1)), .int (nI 2)]) (rest := []) f_199_139 rfl rfl rfl (Nat.le_of_ble_eq_true rfl) (Nat.le_of_ble_eq_true rfl) (cc_Md_sgo (s := (j.getD st (0, 0, 0)).1) (i := 2)  (by omega) (by omega)) rfl (fun h260 r261 q262 => ?_)
              obtain ⟨rfl, qe⟩ := q262
              have qe := qe.symm
              subst qe
              show px_to 199 142 [some (.ref (269)), some (.int (nI st)), some (.int (nI ((j.getD st (0, 0, 0)).1))), some (.int (nI 4)), some (.int (nI 1)), some (.int (nI 2))] [.int (nI (sgF ((j.getD st (0, 0, 0)).1) 2))] h248 _
              rw [show sgF (j.getD st (0, 0, 0)).1 2 = 42 by rw [c_105]; rfl]
              refine e_aload_n f_199_142 rfl rfl ?_
              refine e_getf f_199_143 g255 rfl rfl ?_
              refine e_iload_n f_199_146 rfl rfl ?_
              refine e_caload_p (xs := j) f_199_147 g256 (d := (0, 0, 0)) (by first | omega | (simp only [List.length_set]; omega)) rfl ?_
              show px_to 199 148 [some (.ref (269)), some (.int (nI st)), some (.int (nI ((j.getD st (0, 0, 0)).1))), some (.int (nI 4)), some (.int (nI 1)), some (.int (nI 2))] [.int (nI ((j.getD st (0, 0, 0)).2.1)), .int (nI 42)] h248 _
              rw [ha]
              refine e_icmp_eq_f f_199_148 (by decide) rfl ?_
              refine e_aload_n f_199_151 rfl rfl ?_
              refine e_getf f_199_152 g255 rfl rfl ?_
              refine e_iload_n f_199_155 rfl rfl ?_
              refine e_iload f_199_156 rfl rfl ?_
              refine e_aload_n f_199_158 rfl rfl ?_
              refine e_getf f_199_159 g255 rfl rfl ?_
              show px_to 199 162 [some (.ref (269)), some (.int (nI st)), some (.int (nI ((j.getD st (0, 0, 0)).1))), some (.int (nI 4)), some (.int (nI 1)), some (.int (nI 2))] [.int (nI wy), .int (nI 1), .int (nI st), .ref (285)] h248 _
              refine e_icmp_ne_f f_199_162 (by rw [hw]; decide) rfl ?_
              refine e_iload_n f_199_165 rfl rfl ?_
              refine e_iload f_199_166 rfl rfl ?_
              refine e_callS (As := [.int (nI ((j.getD st (0, 0, 0)).1)), .int (nI 2)]) (rest := [.int (nI st), .ref (285)]) f_199_168 rfl rfl rfl (Nat.le_of_ble_eq_true rfl) (Nat.le_of_ble_eq_true rfl) (cc_Md_sgo (s := (j.getD st (0, 0, 0)).1) (i := 2)  (by omega) (by omega)) rfl (fun h263 r264 q265 => ?_)
              obtain ⟨rfl, qe⟩ := q265
              have qe := qe.symm
              subst qe
              show px_to 199 171 [some (.ref (269)), some (.int (nI st)), some (.int (nI ((j.getD st (0, 0, 0)).1))), some (.int (nI 4)), some (.int (nI 1)), some (.int (nI 2))] [.int (nI (sgF ((j.getD st (0, 0, 0)).1) 2)), .int (nI st), .ref (285)] h248 _
              rw [show sgF (j.getD st (0, 0, 0)).1 2 = 42 by rw [c_105]; rfl]
              refine e_goto f_199_171 ?_
              refine e_castore_p (xs := j.set st ((j.getD st (0, 0, 0)).1, 45, (j.getD st (0, 0, 0)).2.2)) (x := ((j.getD st (0, 0, 0)).1, 42, (j.getD st (0, 0, 0)).2.2)) f_199_180 g249 (by omega) (by first | omega | (simp only [List.length_set]; omega)) (nw_ch (n := 42) (by decide)) rfl (fun h266 g267 fx268 => ?_)
              have fr269 : px_fj 269 1 284 3 h h266 := fj_tr fr251 fx268 (by omega)
              refine e_iinc (y := nI 2) (L' := [some (.ref (269)), some (.int (nI st)), some (.int (nI ((j.getD st (0, 0, 0)).1))), some (.int (nI 4)), some (.int (nI 2)), some (.int (nI 2))]) f_199_181 rfl (by rw [show Int32.ofInt 1 = nI 1 by decide]; exact (nI_add _ _).trans (congrArg nI (by omega))) rfl rfl ?_
              refine e_iinc (y := nI 3) (L' := [some (.ref (269)), some (.int (nI st)), some (.int (nI ((j.getD st (0, 0, 0)).1))), some (.int (nI 4)), some (.int (nI 2)), some (.int (nI 3))]) f_199_184 rfl (by rw [show Int32.ofInt 1 = nI 1 by decide]; exact (nI_add _ _).trans (congrArg nI (by omega))) rfl rfl ?_
              refine e_goto f_199_187 ?_
              refine e_iload f_199_130 rfl rfl ?_
              refine e_iload_n f_199_132 rfl rfl ?_
              refine e_icmp_ge_f f_199_133 (by decide) rfl ?_
              refine e_iload_n f_199_136 rfl rfl ?_
              refine e_iload f_199_137 rfl rfl ?_
              refine e_callS (As := [.int (nI ((j.getD st (0, 0, 0)).1)), .int (nI 3)]) (rest := []) f_199_139 rfl rfl rfl (Nat.le_of_ble_eq_true rfl) (Nat.le_of_ble_eq_true rfl) (cc_Md_sgo (s := (j.getD st (0, 0, 0)).1) (i := 3)  (by omega) (by omega)) rfl (fun h270 r271 q272 => ?_)
              obtain ⟨rfl, qe⟩ := q272
              have qe := qe.symm
              subst qe
              show px_to 199 142 [some (.ref (269)), some (.int (nI st)), some (.int (nI ((j.getD st (0, 0, 0)).1))), some (.int (nI 4)), some (.int (nI 2)), some (.int (nI 3))] [.int (nI (sgF ((j.getD st (0, 0, 0)).1) 3))] h266 _
              rw [show sgF (j.getD st (0, 0, 0)).1 3 = 47 by rw [c_105]; rfl]
              refine e_aload_n f_199_142 rfl rfl ?_
              have g273 : h266.2.2 269 = some (12, mB (L, nI j.length, cn) gp (nI j.length, gq.2.1, gq.2.2.1, gq.2.2.2.1, gq.2.2.2.2.1, gq.2.2.2.2.2.1, gq.2.2.2.2.2.2) gh gw gu (gv.1, gv.2.1, gv.2.2.1, gv.2.2.2.1, gv.2.2.2.2.1, gv.2.2.2.2.2.1, gv.2.2.2.2.2.2.1, nI st, nI wy)) := fi_at g255 fx268 (by omega)
              refine e_getf f_199_143 g273 rfl rfl ?_
              refine e_iload_n f_199_146 rfl rfl ?_
              obtain ⟨hm275, fa276, fb277⟩ := fj_mid fr269
              have g274 : px_pa h266 272 52 6 stA j := pa_fi (pa_fi H2 fa276 (by omega)) fb277 (by omega)
              refine e_caload_p (xs := j) f_199_147 g274 (d := (0, 0, 0)) (by first | omega | (simp only [List.length_set]; omega)) rfl ?_
              show px_to 199 148 [some (.ref (269)), some (.int (nI st)), some (.int (nI ((j.getD st (0, 0, 0)).1))), some (.int (nI 4)), some (.int (nI 2)), some (.int (nI 3))] [.int (nI ((j.getD st (0, 0, 0)).2.1)), .int (nI 47)] h266 _
              rw [ha]
              refine e_icmp_eq_f f_199_148 (by decide) rfl ?_
              refine e_aload_n f_199_151 rfl rfl ?_
              refine e_getf f_199_152 g273 rfl rfl ?_
              refine e_iload_n f_199_155 rfl rfl ?_
              refine e_iload f_199_156 rfl rfl ?_
              refine e_aload_n f_199_158 rfl rfl ?_
              refine e_getf f_199_159 g273 rfl rfl ?_
              show px_to 199 162 [some (.ref (269)), some (.int (nI st)), some (.int (nI ((j.getD st (0, 0, 0)).1))), some (.int (nI 4)), some (.int (nI 2)), some (.int (nI 3))] [.int (nI wy), .int (nI 2), .int (nI st), .ref (285)] h266 _
              refine e_icmp_ne_t f_199_162 (by rw [hw]; decide) ?_
              refine e_aload_n f_199_174 rfl rfl ?_
              refine e_getf f_199_175 g273 rfl rfl ?_
              refine e_iload_n f_199_178 rfl rfl ?_
              refine e_caload_p (xs := (j.set st ((j.getD st (0, 0, 0)).1, 45, (j.getD st (0, 0, 0)).2.2)).set st ((j.getD st (0, 0, 0)).1, 42, (j.getD st (0, 0, 0)).2.2)) f_199_179 g267 (d := (0, 0, 0)) (by first | omega | (simp only [List.length_set]; omega)) rfl ?_
              show px_to 199 180 [some (.ref (269)), some (.int (nI st)), some (.int (nI ((j.getD st (0, 0, 0)).1))), some (.int (nI 4)), some (.int (nI 2)), some (.int (nI 3))] [.int (nI ((((j.set st ((j.getD st (0, 0, 0)).1, 45, (j.getD st (0, 0, 0)).2.2)).set st ((j.getD st (0, 0, 0)).1, 42, (j.getD st (0, 0, 0)).2.2)).getD st (0, 0, 0)).2.1)), .int (nI st), .ref (285)] h266 _
              rw [getD_set_same (by first | omega | (simp only [List.length_set]; omega))]
              refine e_castore_p (xs := (j.set st ((j.getD st (0, 0, 0)).1, 45, (j.getD st (0, 0, 0)).2.2)).set st ((j.getD st (0, 0, 0)).1, 42, (j.getD st (0, 0, 0)).2.2)) (x := ((j.getD st (0, 0, 0)).1, 42, (j.getD st (0, 0, 0)).2.2)) f_199_180 g267 (by omega) (by first | omega | (simp only [List.length_set]; omega)) (nw_ch (n := 42) (by decide)) rfl (fun h278 g279 fx280 => ?_)
              have fr281 : px_fj 269 1 284 3 h h278 := fj_tr fr269 fx280 (by omega)
              refine e_iinc (y := nI 3) (L' := [some (.ref (269)), some (.int (nI st)), some (.int (nI ((j.getD st (0, 0, 0)).1))), some (.int (nI 4)), some (.int (nI 3)), some (.int (nI 3))]) f_199_181 rfl (by rw [show Int32.ofInt 1 = nI 1 by decide]; exact (nI_add _ _).trans (congrArg nI (by omega))) rfl rfl ?_
              refine e_iinc (y := nI 4) (L' := [some (.ref (269)), some (.int (nI st)), some (.int (nI ((j.getD st (0, 0, 0)).1))), some (.int (nI 4)), some (.int (nI 3)), some (.int (nI 4))]) f_199_184 rfl (by rw [show Int32.ofInt 1 = nI 1 by decide]; exact (nI_add _ _).trans (congrArg nI (by omega))) rfl rfl ?_
              refine e_goto f_199_187 ?_
              refine e_iload f_199_130 rfl rfl ?_
              refine e_iload_n f_199_132 rfl rfl ?_
              refine e_icmp_ge_t f_199_133 (by decide) ?_
              refine e_goto f_199_190 ?_
              refine e_vret f_199_217 rfl ?_
              have hnl := of_decide_eq_false c_13
              have em : mutGo st wy j 0 = j.set st (chg (j.getD st (0, 0, 0)) wy) := mutGo_set wy j st 0 p1 (by omega)
              rw [em]
              have g282 : h278.2.2 269 = some (12, mB (L, nI j.length, cn) gp (nI j.length, gq.2.1, gq.2.2.1, gq.2.2.2.1, gq.2.2.2.2.1, gq.2.2.2.2.2.1, gq.2.2.2.2.2.2) gh gw gu (gv.1, gv.2.1, gv.2.2.1, gv.2.2.2.1, gv.2.2.2.2.1, gv.2.2.2.2.2.1, gv.2.2.2.2.2.2.1, nI st, nI wy)) := fi_at g273 fx280 (by omega)
              have g283 : px_pa h248 284 52 6 stS j := pa_fi g5 fx250 (by omega)
              have g284 : px_pa h266 284 52 6 stS j := pa_fi g283 fx268 (by omega)
              have g285 : px_pa h278 284 52 6 stS j := pa_fi g284 fx280 (by omega)
              have g286 : px_pa h248 286 50 6 stN j := pa_fi g7 fx250 (by omega)
              have g287 : px_pa h266 286 50 6 stN j := pa_fi g286 fx268 (by omega)
              have g288 : px_pa h278 286 50 6 stN j := pa_fi g287 fx280 (by omega)
              have ho : othN (j.getD st (0, 0, 0)) = 3 := by unfold othN; rw [if_neg c_95, if_pos c_105]
              have hc : chg (j.getD st (0, 0, 0)) wy = ((j.getD st (0, 0, 0)).1, 42, (j.getD st (0, 0, 0)).2.2) := by unfold chg; rw [if_pos (by omega), ha, hw, c_105]; rfl
              rw [hc]
              have hset : ((j.set st ((j.getD st (0, 0, 0)).1, 45, (j.getD st (0, 0, 0)).2.2)).set st ((j.getD st (0, 0, 0)).1, 42, (j.getD st (0, 0, 0)).2.2)).set st ((j.getD st (0, 0, 0)).1, 42, (j.getD st (0, 0, 0)).2.2) = j.set st ((j.getD st (0, 0, 0)).1, 42, (j.getD st (0, 0, 0)).2.2) := by simp only [List.set_set]
              exact ⟨rfl, by rw [List.length_set]; exact g282, pa_cg g285 (set_stS p1), pa_eq g279 hset, pa_cg g288 (set_stN p1), fr281⟩
            · skip
              refine e_iconst (v := nI 0) f_199_124 (by decide) rfl ?_
              refine e_istore (L' := [some (.ref (269)), some (.int (nI st)), some (.int (nI ((j.getD st (0, 0, 0)).1))), some (.int (nI 4)), some (.int (nI 0)), none]) f_199_125 (Nat.le_of_ble_eq_true rfl) rfl rfl ?_
              refine e_iconst (v := nI 0) f_199_127 (by decide) rfl ?_
              refine e_istore (L' := [some (.ref (269)), some (.int (nI st)), some (.int (nI ((j.getD st (0, 0, 0)).1))), some (.int (nI 4)), some (.int (nI 0)), some (.int (nI 0))]) f_199_128 (Nat.le_of_ble_eq_true rfl) rfl rfl ?_
              refine e_iload f_199_130 rfl rfl ?_
              refine e_iload_n f_199_132 rfl rfl ?_
              refine e_icmp_ge_f f_199_133 (by decide) rfl ?_
              refine e_iload_n f_199_136 rfl rfl ?_
              refine e_iload f_199_137 rfl rfl ?_
              refine e_callS (As := [.int (nI ((j.getD st (0, 0, 0)).1)), .int (nI 0)]) (rest := []) f_199_139 rfl rfl rfl (Nat.le_of_ble_eq_true rfl) (Nat.le_of_ble_eq_true rfl) (cc_Md_sgo (s := (j.getD st (0, 0, 0)).1) (i := 0)  (by omega) (by omega)) rfl (fun h289 r290 q291 => ?_)
              obtain ⟨rfl, qe⟩ := q291
              have qe := qe.symm
              subst qe
              show px_to 199 142 [some (.ref (269)), some (.int (nI st)), some (.int (nI ((j.getD st (0, 0, 0)).1))), some (.int (nI 4)), some (.int (nI 0)), some (.int (nI 0))] [.int (nI (sgF ((j.getD st (0, 0, 0)).1) 0))] h1 _
              rw [show sgF (j.getD st (0, 0, 0)).1 0 = 43 by rw [c_105]; rfl]
              refine e_aload_n f_199_142 rfl rfl ?_
              refine e_getf f_199_143 g4 rfl rfl ?_
              refine e_iload_n f_199_146 rfl rfl ?_
              obtain ⟨hm293, fa294, fb295⟩ := fj_mid fr13
              have g292 : px_pa h1 272 52 6 stA j := pa_fi (pa_fi H2 fa294 (by omega)) fb295 (by omega)
              refine e_caload_p (xs := j) f_199_147 g292 (d := (0, 0, 0)) (by first | omega | (simp only [List.length_set]; omega)) rfl ?_
              show px_to 199 148 [some (.ref (269)), some (.int (nI st)), some (.int (nI ((j.getD st (0, 0, 0)).1))), some (.int (nI 4)), some (.int (nI 0)), some (.int (nI 0))] [.int (nI ((j.getD st (0, 0, 0)).2.1)), .int (nI 43)] h1 _
              rw [ha]
              refine e_icmp_eq_f f_199_148 (by decide) rfl ?_
              refine e_aload_n f_199_151 rfl rfl ?_
              refine e_getf f_199_152 g4 rfl rfl ?_
              refine e_iload_n f_199_155 rfl rfl ?_
              refine e_iload f_199_156 rfl rfl ?_
              refine e_aload_n f_199_158 rfl rfl ?_
              refine e_getf f_199_159 g4 rfl rfl ?_
              show px_to 199 162 [some (.ref (269)), some (.int (nI st)), some (.int (nI ((j.getD st (0, 0, 0)).1))), some (.int (nI 4)), some (.int (nI 0)), some (.int (nI 0))] [.int (nI wy), .int (nI 0), .int (nI st), .ref (285)] h1 _
              refine e_icmp_ne_t f_199_162 (by rw [hw]; decide) ?_
              refine e_aload_n f_199_174 rfl rfl ?_
              refine e_getf f_199_175 g4 rfl rfl ?_
              refine e_iload_n f_199_178 rfl rfl ?_
              refine e_caload_p (xs := j) f_199_179 g6 (d := (0, 0, 0)) (by first | omega | (simp only [List.length_set]; omega)) rfl ?_
              show px_to 199 180 [some (.ref (269)), some (.int (nI st)), some (.int (nI ((j.getD st (0, 0, 0)).1))), some (.int (nI 4)), some (.int (nI 0)), some (.int (nI 0))] [.int (nI ((j.getD st (0, 0, 0)).2.1)), .int (nI st), .ref (285)] h1 _
              rw [ha]
              refine e_castore_p (xs := j) (x := ((j.getD st (0, 0, 0)).1, 45, (j.getD st (0, 0, 0)).2.2)) f_199_180 g6 (by omega) (by first | omega | (simp only [List.length_set]; omega)) (nw_ch (n := 45) (by decide)) rfl (fun h296 g297 fx298 => ?_)
              have fr299 : px_fj 269 1 284 3 h h296 := fj_tr fr13 fx298 (by omega)
              refine e_iinc (y := nI 1) (L' := [some (.ref (269)), some (.int (nI st)), some (.int (nI ((j.getD st (0, 0, 0)).1))), some (.int (nI 4)), some (.int (nI 1)), some (.int (nI 0))]) f_199_181 rfl (by rw [show Int32.ofInt 1 = nI 1 by decide]; exact (nI_add _ _).trans (congrArg nI (by omega))) rfl rfl ?_
              refine e_iinc (y := nI 1) (L' := [some (.ref (269)), some (.int (nI st)), some (.int (nI ((j.getD st (0, 0, 0)).1))), some (.int (nI 4)), some (.int (nI 1)), some (.int (nI 1))]) f_199_184 rfl (by rw [show Int32.ofInt 1 = nI 1 by decide]; exact (nI_add _ _).trans (congrArg nI (by omega))) rfl rfl ?_
              refine e_goto f_199_187 ?_
              refine e_iload f_199_130 rfl rfl ?_
              refine e_iload_n f_199_132 rfl rfl ?_
              refine e_icmp_ge_f f_199_133 (by decide) rfl ?_
              refine e_iload_n f_199_136 rfl rfl ?_
              refine e_iload f_199_137 rfl rfl ?_
              refine e_callS (As := [.int (nI ((j.getD st (0, 0, 0)).1)), .int (nI 1)]) (rest := []) f_199_139 rfl rfl rfl (Nat.le_of_ble_eq_true rfl) (Nat.le_of_ble_eq_true rfl) (cc_Md_sgo (s := (j.getD st (0, 0, 0)).1) (i := 1)  (by omega) (by omega)) rfl (fun h300 r301 q302 => ?_)
              obtain ⟨rfl, qe⟩ := q302
              have qe := qe.symm
              subst qe
              show px_to 199 142 [some (.ref (269)), some (.int (nI st)), some (.int (nI ((j.getD st (0, 0, 0)).1))), some (.int (nI 4)), some (.int (nI 1)), some (.int (nI 1))] [.int (nI (sgF ((j.getD st (0, 0, 0)).1) 1))] h296 _
              rw [show sgF (j.getD st (0, 0, 0)).1 1 = 45 by rw [c_105]; rfl]
              refine e_aload_n f_199_142 rfl rfl ?_
              have g303 : h296.2.2 269 = some (12, mB (L, nI j.length, cn) gp (nI j.length, gq.2.1, gq.2.2.1, gq.2.2.2.1, gq.2.2.2.2.1, gq.2.2.2.2.2.1, gq.2.2.2.2.2.2) gh gw gu (gv.1, gv.2.1, gv.2.2.1, gv.2.2.2.1, gv.2.2.2.2.1, gv.2.2.2.2.2.1, gv.2.2.2.2.2.2.1, nI st, nI wy)) := fi_at g4 fx298 (by omega)
              refine e_getf f_199_143 g303 rfl rfl ?_
              refine e_iload_n f_199_146 rfl rfl ?_
              obtain ⟨hm305, fa306, fb307⟩ := fj_mid fr299
              have g304 : px_pa h296 272 52 6 stA j := pa_fi (pa_fi H2 fa306 (by omega)) fb307 (by omega)
              refine e_caload_p (xs := j) f_199_147 g304 (d := (0, 0, 0)) (by first | omega | (simp only [List.length_set]; omega)) rfl ?_
              show px_to 199 148 [some (.ref (269)), some (.int (nI st)), some (.int (nI ((j.getD st (0, 0, 0)).1))), some (.int (nI 4)), some (.int (nI 1)), some (.int (nI 1))] [.int (nI ((j.getD st (0, 0, 0)).2.1)), .int (nI 45)] h296 _
              rw [ha]
              refine e_icmp_eq_t f_199_148 (by decide) ?_
              refine e_iinc (y := nI 2) (L' := [some (.ref (269)), some (.int (nI st)), some (.int (nI ((j.getD st (0, 0, 0)).1))), some (.int (nI 4)), some (.int (nI 1)), some (.int (nI 2))]) f_199_184 rfl (by rw [show Int32.ofInt 1 = nI 1 by decide]; exact (nI_add _ _).trans (congrArg nI (by omega))) rfl rfl ?_
              refine e_goto f_199_187 ?_
              refine e_iload f_199_130 rfl rfl ?_
              refine e_iload_n f_199_132 rfl rfl ?_
              refine e_icmp_ge_f f_199_133 (by decide) rfl ?_
              refine e_iload_n f_199_136 rfl rfl ?_
              refine e_iload f_199_137 rfl rfl ?_
              refine e_callS (As := [.int (nI ((j.getD st (0, 0, 0)).1)), .int (nI 2)]) (rest := []) f_199_139 rfl rfl rfl (Nat.le_of_ble_eq_true rfl) (Nat.le_of_ble_eq_true rfl) (cc_Md_sgo (s := (j.getD st (0, 0, 0)).1) (i := 2)  (by omega) (by omega)) rfl (fun h308 r309 q310 => ?_)
              obtain ⟨rfl, qe⟩ := q310
              have qe := qe.symm
              subst qe
              show px_to 199 142 [some (.ref (269)), some (.int (nI st)), some (.int (nI ((j.getD st (0, 0, 0)).1))), some (.int (nI 4)), some (.int (nI 1)), some (.int (nI 2))] [.int (nI (sgF ((j.getD st (0, 0, 0)).1) 2))] h296 _
              rw [show sgF (j.getD st (0, 0, 0)).1 2 = 42 by rw [c_105]; rfl]
              refine e_aload_n f_199_142 rfl rfl ?_
              refine e_getf f_199_143 g303 rfl rfl ?_
              refine e_iload_n f_199_146 rfl rfl ?_
              refine e_caload_p (xs := j) f_199_147 g304 (d := (0, 0, 0)) (by first | omega | (simp only [List.length_set]; omega)) rfl ?_
              show px_to 199 148 [some (.ref (269)), some (.int (nI st)), some (.int (nI ((j.getD st (0, 0, 0)).1))), some (.int (nI 4)), some (.int (nI 1)), some (.int (nI 2))] [.int (nI ((j.getD st (0, 0, 0)).2.1)), .int (nI 42)] h296 _
              rw [ha]
              refine e_icmp_eq_f f_199_148 (by decide) rfl ?_
              refine e_aload_n f_199_151 rfl rfl ?_
              refine e_getf f_199_152 g303 rfl rfl ?_
              refine e_iload_n f_199_155 rfl rfl ?_
              refine e_iload f_199_156 rfl rfl ?_
              refine e_aload_n f_199_158 rfl rfl ?_
              refine e_getf f_199_159 g303 rfl rfl ?_
              show px_to 199 162 [some (.ref (269)), some (.int (nI st)), some (.int (nI ((j.getD st (0, 0, 0)).1))), some (.int (nI 4)), some (.int (nI 1)), some (.int (nI 2))] [.int (nI wy), .int (nI 1), .int (nI st), .ref (285)] h296 _
              refine e_icmp_ne_t f_199_162 (by rw [hw]; decide) ?_
              refine e_aload_n f_199_174 rfl rfl ?_
              refine e_getf f_199_175 g303 rfl rfl ?_
              refine e_iload_n f_199_178 rfl rfl ?_
              refine e_caload_p (xs := j.set st ((j.getD st (0, 0, 0)).1, 45, (j.getD st (0, 0, 0)).2.2)) f_199_179 g297 (d := (0, 0, 0)) (by first | omega | (simp only [List.length_set]; omega)) rfl ?_
              show px_to 199 180 [some (.ref (269)), some (.int (nI st)), some (.int (nI ((j.getD st (0, 0, 0)).1))), some (.int (nI 4)), some (.int (nI 1)), some (.int (nI 2))] [.int (nI (((j.set st ((j.getD st (0, 0, 0)).1, 45, (j.getD st (0, 0, 0)).2.2)).getD st (0, 0, 0)).2.1)), .int (nI st), .ref (285)] h296 _
              rw [getD_set_same (by first | omega | (simp only [List.length_set]; omega))]
              refine e_castore_p (xs := j.set st ((j.getD st (0, 0, 0)).1, 45, (j.getD st (0, 0, 0)).2.2)) (x := ((j.getD st (0, 0, 0)).1, 45, (j.getD st (0, 0, 0)).2.2)) f_199_180 g297 (by omega) (by first | omega | (simp only [List.length_set]; omega)) (nw_ch (n := 45) (by decide)) rfl (fun h311 g312 fx313 => ?_)
              have fr314 : px_fj 269 1 284 3 h h311 := fj_tr fr299 fx313 (by omega)
              refine e_iinc (y := nI 2) (L' := [some (.ref (269)), some (.int (nI st)), some (.int (nI ((j.getD st (0, 0, 0)).1))), some (.int (nI 4)), some (.int (nI 2)), some (.int (nI 2))]) f_199_181 rfl (by rw [show Int32.ofInt 1 = nI 1 by decide]; exact (nI_add _ _).trans (congrArg nI (by omega))) rfl rfl ?_
              refine e_iinc (y := nI 3) (L' := [some (.ref (269)), some (.int (nI st)), some (.int (nI ((j.getD st (0, 0, 0)).1))), some (.int (nI 4)), some (.int (nI 2)), some (.int (nI 3))]) f_199_184 rfl (by rw [show Int32.ofInt 1 = nI 1 by decide]; exact (nI_add _ _).trans (congrArg nI (by omega))) rfl rfl ?_
              refine e_goto f_199_187 ?_
              refine e_iload f_199_130 rfl rfl ?_
              refine e_iload_n f_199_132 rfl rfl ?_
              refine e_icmp_ge_f f_199_133 (by decide) rfl ?_
              refine e_iload_n f_199_136 rfl rfl ?_
              refine e_iload f_199_137 rfl rfl ?_
              refine e_callS (As := [.int (nI ((j.getD st (0, 0, 0)).1)), .int (nI 3)]) (rest := []) f_199_139 rfl rfl rfl (Nat.le_of_ble_eq_true rfl) (Nat.le_of_ble_eq_true rfl) (cc_Md_sgo (s := (j.getD st (0, 0, 0)).1) (i := 3)  (by omega) (by omega)) rfl (fun h315 r316 q317 => ?_)
              obtain ⟨rfl, qe⟩ := q317
              have qe := qe.symm
              subst qe
              show px_to 199 142 [some (.ref (269)), some (.int (nI st)), some (.int (nI ((j.getD st (0, 0, 0)).1))), some (.int (nI 4)), some (.int (nI 2)), some (.int (nI 3))] [.int (nI (sgF ((j.getD st (0, 0, 0)).1) 3))] h311 _
              rw [show sgF (j.getD st (0, 0, 0)).1 3 = 47 by rw [c_105]; rfl]
              refine e_aload_n f_199_142 rfl rfl ?_
              have g318 : h311.2.2 269 = some (12, mB (L, nI j.length, cn) gp (nI j.length, gq.2.1, gq.2.2.1, gq.2.2.2.1, gq.2.2.2.2.1, gq.2.2.2.2.2.1, gq.2.2.2.2.2.2) gh gw gu (gv.1, gv.2.1, gv.2.2.1, gv.2.2.2.1, gv.2.2.2.2.1, gv.2.2.2.2.2.1, gv.2.2.2.2.2.2.1, nI st, nI wy)) := fi_at g303 fx313 (by omega)
              refine e_getf f_199_143 g318 rfl rfl ?_
              refine e_iload_n f_199_146 rfl rfl ?_
              obtain ⟨hm320, fa321, fb322⟩ := fj_mid fr314
              have g319 : px_pa h311 272 52 6 stA j := pa_fi (pa_fi H2 fa321 (by omega)) fb322 (by omega)
              refine e_caload_p (xs := j) f_199_147 g319 (d := (0, 0, 0)) (by first | omega | (simp only [List.length_set]; omega)) rfl ?_
              show px_to 199 148 [some (.ref (269)), some (.int (nI st)), some (.int (nI ((j.getD st (0, 0, 0)).1))), some (.int (nI 4)), some (.int (nI 2)), some (.int (nI 3))] [.int (nI ((j.getD st (0, 0, 0)).2.1)), .int (nI 47)] h311 _
              rw [ha]
              refine e_icmp_eq_f f_199_148 (by decide) rfl ?_
              refine e_aload_n f_199_151 rfl rfl ?_
              refine e_getf f_199_152 g318 rfl rfl ?_
              refine e_iload_n f_199_155 rfl rfl ?_
              refine e_iload f_199_156 rfl rfl ?_
              refine e_aload_n f_199_158 rfl rfl ?_
              refine e_getf f_199_159 g318 rfl rfl ?_
              show px_to 199 162 [some (.ref (269)), some (.int (nI st)), some (.int (nI ((j.getD st (0, 0, 0)).1))), some (.int (nI 4)), some (.int (nI 2)), some (.int (nI 3))] [.int (nI wy), .int (nI 2), .int (nI st), .ref (285)] h311 _
              refine e_icmp_ne_f f_199_162 (by rw [hw]; decide) rfl ?_
              refine e_iload_n f_199_165 rfl rfl ?_
              refine e_iload f_199_166 rfl rfl ?_
              refine e_callS (As := [.int (nI ((j.getD st (0, 0, 0)).1)), .int (nI 3)]) (rest := [.int (nI st), .ref (285)]) f_199_168 rfl rfl rfl (Nat.le_of_ble_eq_true rfl) (Nat.le_of_ble_eq_true rfl) (cc_Md_sgo (s := (j.getD st (0, 0, 0)).1) (i := 3)  (by omega) (by omega)) rfl (fun h323 r324 q325 => ?_)
              obtain ⟨rfl, qe⟩ := q325
              have qe := qe.symm
              subst qe
              show px_to 199 171 [some (.ref (269)), some (.int (nI st)), some (.int (nI ((j.getD st (0, 0, 0)).1))), some (.int (nI 4)), some (.int (nI 2)), some (.int (nI 3))] [.int (nI (sgF ((j.getD st (0, 0, 0)).1) 3)), .int (nI st), .ref (285)] h311 _
              rw [show sgF (j.getD st (0, 0, 0)).1 3 = 47 by rw [c_105]; rfl]
              refine e_goto f_199_171 ?_
              refine e_castore_p (xs := (j.set st ((j.getD st (0, 0, 0)).1, 45, (j.getD st (0, 0, 0)).2.2)).set st ((j.getD st (0, 0, 0)).1, 45, (j.getD st (0, 0, 0)).2.2)) (x := ((j.getD st (0, 0, 0)).1, 47, (j.getD st (0, 0, 0)).2.2)) f_199_180 g312 (by omega) (by first | omega | (simp only [List.length_set]; omega)) (nw_ch (n := 47) (by decide)) rfl (fun h326 g327 fx328 => ?_)
              have fr329 : px_fj 269 1 284 3 h h326 := fj_tr fr314 fx328 (by omega)
              refine e_iinc (y := nI 3) (L' := [some (.ref (269)), some (.int (nI st)), some (.int (nI ((j.getD st (0, 0, 0)).1))), some (.int (nI 4)), some (.int (nI 3)), some (.int (nI 3))]) f_199_181 rfl (by rw [show Int32.ofInt 1 = nI 1 by decide]; exact (nI_add _ _).trans (congrArg nI (by omega))) rfl rfl ?_
              refine e_iinc (y := nI 4) (L' := [some (.ref (269)), some (.int (nI st)), some (.int (nI ((j.getD st (0, 0, 0)).1))), some (.int (nI 4)), some (.int (nI 3)), some (.int (nI 4))]) f_199_184 rfl (by rw [show Int32.ofInt 1 = nI 1 by decide]; exact (nI_add _ _).trans (congrArg nI (by omega))) rfl rfl ?_
              refine e_goto f_199_187 ?_
              refine e_iload f_199_130 rfl rfl ?_
              refine e_iload_n f_199_132 rfl rfl ?_
              refine e_icmp_ge_t f_199_133 (by decide) ?_
              refine e_goto f_199_190 ?_
              refine e_vret f_199_217 rfl ?_
              have hnl := of_decide_eq_false c_13
              have em : mutGo st wy j 0 = j.set st (chg (j.getD st (0, 0, 0)) wy) := mutGo_set wy j st 0 p1 (by omega)
              rw [em]
              have g330 : h326.2.2 269 = some (12, mB (L, nI j.length, cn) gp (nI j.length, gq.2.1, gq.2.2.1, gq.2.2.2.1, gq.2.2.2.2.1, gq.2.2.2.2.2.1, gq.2.2.2.2.2.2) gh gw gu (gv.1, gv.2.1, gv.2.2.1, gv.2.2.2.1, gv.2.2.2.2.1, gv.2.2.2.2.2.1, gv.2.2.2.2.2.2.1, nI st, nI wy)) := fi_at g318 fx328 (by omega)
              have g331 : px_pa h296 284 52 6 stS j := pa_fi g5 fx298 (by omega)
              have g332 : px_pa h311 284 52 6 stS j := pa_fi g331 fx313 (by omega)
              have g333 : px_pa h326 284 52 6 stS j := pa_fi g332 fx328 (by omega)
              have g334 : px_pa h296 286 50 6 stN j := pa_fi g7 fx298 (by omega)
              have g335 : px_pa h311 286 50 6 stN j := pa_fi g334 fx313 (by omega)
              have g336 : px_pa h326 286 50 6 stN j := pa_fi g335 fx328 (by omega)
              have ho : othN (j.getD st (0, 0, 0)) = 3 := by unfold othN; rw [if_neg c_95, if_pos c_105]
              have hc : chg (j.getD st (0, 0, 0)) wy = ((j.getD st (0, 0, 0)).1, 47, (j.getD st (0, 0, 0)).2.2) := by unfold chg; rw [if_pos (by omega), ha, hw, c_105]; rfl
              rw [hc]
              have hset : ((j.set st ((j.getD st (0, 0, 0)).1, 45, (j.getD st (0, 0, 0)).2.2)).set st ((j.getD st (0, 0, 0)).1, 45, (j.getD st (0, 0, 0)).2.2)).set st ((j.getD st (0, 0, 0)).1, 47, (j.getD st (0, 0, 0)).2.2) = j.set st ((j.getD st (0, 0, 0)).1, 47, (j.getD st (0, 0, 0)).2.2) := by simp only [List.set_set]
              exact ⟨rfl, by rw [List.length_set]; exact g330, pa_cg g333 (set_stS p1), pa_eq g327 hset, pa_cg g336 (set_stN p1), fr329⟩
          · skip
            rcases (show wy = 0 ∨ wy = 1 ∨ wy = 2 by omega) with hw | hw | hw
            · skip
              refine e_iconst (v := nI 0) f_199_124 (by decide) rfl ?_
              refine e_istore (L' := [some (.ref (269)), some (.int (nI st)), some (.int (nI ((j.getD st (0, 0, 0)).1))), some (.int (nI 4)), some (.int (nI 0)), none]) f_199_125 (Nat.le_of_ble_eq_true rfl) rfl rfl ?_
              refine e_iconst (v := nI 0) f_199_127 (by decide) rfl ?_
              refine e_istore (L' := [some (.ref (269)), some (.int (nI st)), some (.int (nI ((j.getD st (0, 0, 0)).1))), some (.int (nI 4)), some (.int (nI 0)), some (.int (nI 0))]) f_199_128 (Nat.le_of_ble_eq_true rfl) rfl rfl ?_
              refine e_iload f_199_130 rfl rfl ?_
              refine e_iload_n f_199_132 rfl rfl ?_
              refine e_icmp_ge_f f_199_133 (by decide) rfl ?_
              refine e_iload_n f_199_136 rfl rfl ?_
              refine e_iload f_199_137 rfl rfl ?_
              refine e_callS (As := [.int (nI ((j.getD st (0, 0, 0)).1)), .int (nI 0)]) (rest := []) f_199_139 rfl rfl rfl (Nat.le_of_ble_eq_true rfl) (Nat.le_of_ble_eq_true rfl) (cc_Md_sgo (s := (j.getD st (0, 0, 0)).1) (i := 0)  (by omega) (by omega)) rfl (fun h337 r338 q339 => ?_)
              obtain ⟨rfl, qe⟩ := q339
              have qe := qe.symm
              subst qe
              show px_to 199 142 [some (.ref (269)), some (.int (nI st)), some (.int (nI ((j.getD st (0, 0, 0)).1))), some (.int (nI 4)), some (.int (nI 0)), some (.int (nI 0))] [.int (nI (sgF ((j.getD st (0, 0, 0)).1) 0))] h1 _
              rw [show sgF (j.getD st (0, 0, 0)).1 0 = 43 by rw [c_105]; rfl]
              refine e_aload_n f_199_142 rfl rfl ?_
              refine e_getf f_199_143 g4 rfl rfl ?_
              refine e_iload_n f_199_146 rfl rfl ?_
              obtain ⟨hm341, fa342, fb343⟩ := fj_mid fr13
              have g340 : px_pa h1 272 52 6 stA j := pa_fi (pa_fi H2 fa342 (by omega)) fb343 (by omega)
              refine e_caload_p (xs := j) f_199_147 g340 (d := (0, 0, 0)) (by first | omega | (simp only [List.length_set]; omega)) rfl ?_
              show px_to 199 148 [some (.ref (269)), some (.int (nI st)), some (.int (nI ((j.getD st (0, 0, 0)).1))), some (.int (nI 4)), some (.int (nI 0)), some (.int (nI 0))] [.int (nI ((j.getD st (0, 0, 0)).2.1)), .int (nI 43)] h1 _
              rw [ha]
              refine e_icmp_eq_f f_199_148 (by decide) rfl ?_
              refine e_aload_n f_199_151 rfl rfl ?_
              refine e_getf f_199_152 g4 rfl rfl ?_
              refine e_iload_n f_199_155 rfl rfl ?_
              refine e_iload f_199_156 rfl rfl ?_
              refine e_aload_n f_199_158 rfl rfl ?_
              refine e_getf f_199_159 g4 rfl rfl ?_
              show px_to 199 162 [some (.ref (269)), some (.int (nI st)), some (.int (nI ((j.getD st (0, 0, 0)).1))), some (.int (nI 4)), some (.int (nI 0)), some (.int (nI 0))] [.int (nI wy), .int (nI 0), .int (nI st), .ref (285)] h1 _
              refine e_icmp_ne_f f_199_162 (by rw [hw]; decide) rfl ?_
              refine e_iload_n f_199_165 rfl rfl ?_
              refine e_iload f_199_166 rfl rfl ?_
              refine e_callS (As := [.int (nI ((j.getD st (0, 0, 0)).1)), .int (nI 0)]) (rest := [.int (nI st), .ref (285)]) f_199_168 rfl rfl rfl (Nat.le_of_ble_eq_true rfl) (Nat.le_of_ble_eq_true rfl) (cc_Md_sgo (s := (j.getD st (0, 0, 0)).1) (i := 0)  (by omega) (by omega)) rfl (fun h344 r345 q346 => ?_)
              obtain ⟨rfl, qe⟩ := q346
              have qe := qe.symm
              subst qe
              show px_to 199 171 [some (.ref (269)), some (.int (nI st)), some (.int (nI ((j.getD st (0, 0, 0)).1))), some (.int (nI 4)), some (.int (nI 0)), some (.int (nI 0))] [.int (nI (sgF ((j.getD st (0, 0, 0)).1) 0)), .int (nI st), .ref (285)] h1 _
              rw [show sgF (j.getD st (0, 0, 0)).1 0 = 43 by rw [c_105]; rfl]
              refine e_goto f_199_171 ?_
              refine e_castore_p (xs := j) (x := ((j.getD st (0, 0, 0)).1, 43, (j.getD st (0, 0, 0)).2.2)) f_199_180 g6 (by omega) (by first | omega | (simp only [List.length_set]; omega)) (nw_ch (n := 43) (by decide)) rfl (fun h347 g348 fx349 => ?_)
              have fr350 : px_fj 269 1 284 3 h h347 := fj_tr fr13 fx349 (by omega)
              refine e_iinc (y := nI 1) (L' := [some (.ref (269)), some (.int (nI st)), some (.int (nI ((j.getD st (0, 0, 0)).1))), some (.int (nI 4)), some (.int (nI 1)), some (.int (nI 0))]) f_199_181 rfl (by rw [show Int32.ofInt 1 = nI 1 by decide]; exact (nI_add _ _).trans (congrArg nI (by omega))) rfl rfl ?_
              refine e_iinc (y := nI 1) (L' := [some (.ref (269)), some (.int (nI st)), some (.int (nI ((j.getD st (0, 0, 0)).1))), some (.int (nI 4)), some (.int (nI 1)), some (.int (nI 1))]) f_199_184 rfl (by rw [show Int32.ofInt 1 = nI 1 by decide]; exact (nI_add _ _).trans (congrArg nI (by omega))) rfl rfl ?_
              refine e_goto f_199_187 ?_
              refine e_iload f_199_130 rfl rfl ?_
              refine e_iload_n f_199_132 rfl rfl ?_
              refine e_icmp_ge_f f_199_133 (by decide) rfl ?_
              refine e_iload_n f_199_136 rfl rfl ?_
              refine e_iload f_199_137 rfl rfl ?_
              refine e_callS (As := [.int (nI ((j.getD st (0, 0, 0)).1)), .int (nI 1)]) (rest := []) f_199_139 rfl rfl rfl (Nat.le_of_ble_eq_true rfl) (Nat.le_of_ble_eq_true rfl) (cc_Md_sgo (s := (j.getD st (0, 0, 0)).1) (i := 1)  (by omega) (by omega)) rfl (fun h351 r352 q353 => ?_)
              obtain ⟨rfl, qe⟩ := q353
              have qe := qe.symm
              subst qe
              show px_to 199 142 [some (.ref (269)), some (.int (nI st)), some (.int (nI ((j.getD st (0, 0, 0)).1))), some (.int (nI 4)), some (.int (nI 1)), some (.int (nI 1))] [.int (nI (sgF ((j.getD st (0, 0, 0)).1) 1))] h347 _
              rw [show sgF (j.getD st (0, 0, 0)).1 1 = 45 by rw [c_105]; rfl]
              refine e_aload_n f_199_142 rfl rfl ?_
              have g354 : h347.2.2 269 = some (12, mB (L, nI j.length, cn) gp (nI j.length, gq.2.1, gq.2.2.1, gq.2.2.2.1, gq.2.2.2.2.1, gq.2.2.2.2.2.1, gq.2.2.2.2.2.2) gh gw gu (gv.1, gv.2.1, gv.2.2.1, gv.2.2.2.1, gv.2.2.2.2.1, gv.2.2.2.2.2.1, gv.2.2.2.2.2.2.1, nI st, nI wy)) := fi_at g4 fx349 (by omega)
              refine e_getf f_199_143 g354 rfl rfl ?_
              refine e_iload_n f_199_146 rfl rfl ?_
              obtain ⟨hm356, fa357, fb358⟩ := fj_mid fr350
              have g355 : px_pa h347 272 52 6 stA j := pa_fi (pa_fi H2 fa357 (by omega)) fb358 (by omega)
              refine e_caload_p (xs := j) f_199_147 g355 (d := (0, 0, 0)) (by first | omega | (simp only [List.length_set]; omega)) rfl ?_
              show px_to 199 148 [some (.ref (269)), some (.int (nI st)), some (.int (nI ((j.getD st (0, 0, 0)).1))), some (.int (nI 4)), some (.int (nI 1)), some (.int (nI 1))] [.int (nI ((j.getD st (0, 0, 0)).2.1)), .int (nI 45)] h347 _
              rw [ha]
              refine e_icmp_eq_f f_199_148 (by decide) rfl ?_
              refine e_aload_n f_199_151 rfl rfl ?_
              refine e_getf f_199_152 g354 rfl rfl ?_
              refine e_iload_n f_199_155 rfl rfl ?_
              refine e_iload f_199_156 rfl rfl ?_
              refine e_aload_n f_199_158 rfl rfl ?_
              refine e_getf f_199_159 g354 rfl rfl ?_
              show px_to 199 162 [some (.ref (269)), some (.int (nI st)), some (.int (nI ((j.getD st (0, 0, 0)).1))), some (.int (nI 4)), some (.int (nI 1)), some (.int (nI 1))] [.int (nI wy), .int (nI 1), .int (nI st), .ref (285)] h347 _
              refine e_icmp_ne_t f_199_162 (by rw [hw]; decide) ?_
              refine e_aload_n f_199_174 rfl rfl ?_
              refine e_getf f_199_175 g354 rfl rfl ?_
              refine e_iload_n f_199_178 rfl rfl ?_
              refine e_caload_p (xs := j.set st ((j.getD st (0, 0, 0)).1, 43, (j.getD st (0, 0, 0)).2.2)) f_199_179 g348 (d := (0, 0, 0)) (by first | omega | (simp only [List.length_set]; omega)) rfl ?_
              show px_to 199 180 [some (.ref (269)), some (.int (nI st)), some (.int (nI ((j.getD st (0, 0, 0)).1))), some (.int (nI 4)), some (.int (nI 1)), some (.int (nI 1))] [.int (nI (((j.set st ((j.getD st (0, 0, 0)).1, 43, (j.getD st (0, 0, 0)).2.2)).getD st (0, 0, 0)).2.1)), .int (nI st), .ref (285)] h347 _
              rw [getD_set_same (by first | omega | (simp only [List.length_set]; omega))]
              refine e_castore_p (xs := j.set st ((j.getD st (0, 0, 0)).1, 43, (j.getD st (0, 0, 0)).2.2)) (x := ((j.getD st (0, 0, 0)).1, 43, (j.getD st (0, 0, 0)).2.2)) f_199_180 g348 (by omega) (by first | omega | (simp only [List.length_set]; omega)) (nw_ch (n := 43) (by decide)) rfl (fun h359 g360 fx361 => ?_)
              have fr362 : px_fj 269 1 284 3 h h359 := fj_tr fr350 fx361 (by omega)
              refine e_iinc (y := nI 2) (L' := [some (.ref (269)), some (.int (nI st)), some (.int (nI ((j.getD st (0, 0, 0)).1))), some (.int (nI 4)), some (.int (nI 2)), some (.int (nI 1))]) f_199_181 rfl (by rw [show Int32.ofInt 1 = nI 1 by decide]; exact (nI_add _ _).trans (congrArg nI (by omega))) rfl rfl ?_
              refine e_iinc (y := nI 2) (L' := [some (.ref (269)), some (.int (nI st)), some (.int (nI ((j.getD st (0, 0, 0)).1))), some (.int (nI 4)), some (.int (nI 2)), some (.int (nI 2))]) f_199_184 rfl (by rw [show Int32.ofInt 1 = nI 1 by decide]; exact (nI_add _ _).trans (congrArg nI (by omega))) rfl rfl ?_
              refine e_goto f_199_187 ?_
              refine e_iload f_199_130 rfl rfl ?_
              refine e_iload_n f_199_132 rfl rfl ?_
              refine e_icmp_ge_f f_199_133 (by decide) rfl ?_
              refine e_iload_n f_199_136 rfl rfl ?_
              refine e_iload f_199_137 rfl rfl ?_
              refine e_callS (As := [.int (nI ((j.getD st (0, 0, 0)).1)), .int (nI 2)]) (rest := []) f_199_139 rfl rfl rfl (Nat.le_of_ble_eq_true rfl) (Nat.le_of_ble_eq_true rfl) (cc_Md_sgo (s := (j.getD st (0, 0, 0)).1) (i := 2)  (by omega) (by omega)) rfl (fun h363 r364 q365 => ?_)
              obtain ⟨rfl, qe⟩ := q365
              have qe := qe.symm
              subst qe
              show px_to 199 142 [some (.ref (269)), some (.int (nI st)), some (.int (nI ((j.getD st (0, 0, 0)).1))), some (.int (nI 4)), some (.int (nI 2)), some (.int (nI 2))] [.int (nI (sgF ((j.getD st (0, 0, 0)).1) 2))] h359 _
              rw [show sgF (j.getD st (0, 0, 0)).1 2 = 42 by rw [c_105]; rfl]
              refine e_aload_n f_199_142 rfl rfl ?_
              have g366 : h359.2.2 269 = some (12, mB (L, nI j.length, cn) gp (nI j.length, gq.2.1, gq.2.2.1, gq.2.2.2.1, gq.2.2.2.2.1, gq.2.2.2.2.2.1, gq.2.2.2.2.2.2) gh gw gu (gv.1, gv.2.1, gv.2.2.1, gv.2.2.2.1, gv.2.2.2.2.1, gv.2.2.2.2.2.1, gv.2.2.2.2.2.2.1, nI st, nI wy)) := fi_at g354 fx361 (by omega)
              refine e_getf f_199_143 g366 rfl rfl ?_
              refine e_iload_n f_199_146 rfl rfl ?_
              obtain ⟨hm368, fa369, fb370⟩ := fj_mid fr362
              have g367 : px_pa h359 272 52 6 stA j := pa_fi (pa_fi H2 fa369 (by omega)) fb370 (by omega)
              refine e_caload_p (xs := j) f_199_147 g367 (d := (0, 0, 0)) (by first | omega | (simp only [List.length_set]; omega)) rfl ?_
              show px_to 199 148 [some (.ref (269)), some (.int (nI st)), some (.int (nI ((j.getD st (0, 0, 0)).1))), some (.int (nI 4)), some (.int (nI 2)), some (.int (nI 2))] [.int (nI ((j.getD st (0, 0, 0)).2.1)), .int (nI 42)] h359 _
              rw [ha]
              refine e_icmp_eq_t f_199_148 (by decide) ?_
              refine e_iinc (y := nI 3) (L' := [some (.ref (269)), some (.int (nI st)), some (.int (nI ((j.getD st (0, 0, 0)).1))), some (.int (nI 4)), some (.int (nI 2)), some (.int (nI 3))]) f_199_184 rfl (by rw [show Int32.ofInt 1 = nI 1 by decide]; exact (nI_add _ _).trans (congrArg nI (by omega))) rfl rfl ?_
              refine e_goto f_199_187 ?_
              refine e_iload f_199_130 rfl rfl ?_
              refine e_iload_n f_199_132 rfl rfl ?_
              refine e_icmp_ge_f f_199_133 (by decide) rfl ?_
              refine e_iload_n f_199_136 rfl rfl ?_
              refine e_iload f_199_137 rfl rfl ?_
              refine e_callS (As := [.int (nI ((j.getD st (0, 0, 0)).1)), .int (nI 3)]) (rest := []) f_199_139 rfl rfl rfl (Nat.le_of_ble_eq_true rfl) (Nat.le_of_ble_eq_true rfl) (cc_Md_sgo (s := (j.getD st (0, 0, 0)).1) (i := 3)  (by omega) (by omega)) rfl (fun h371 r372 q373 => ?_)
              obtain ⟨rfl, qe⟩ := q373
              have qe := qe.symm
              subst qe
              show px_to 199 142 [some (.ref (269)), some (.int (nI st)), some (.int (nI ((j.getD st (0, 0, 0)).1))), some (.int (nI 4)), some (.int (nI 2)), some (.int (nI 3))] [.int (nI (sgF ((j.getD st (0, 0, 0)).1) 3))] h359 _
              rw [show sgF (j.getD st (0, 0, 0)).1 3 = 47 by rw [c_105]; rfl]
              refine e_aload_n f_199_142 rfl rfl ?_
              refine e_getf f_199_143 g366 rfl rfl ?_
              refine e_iload_n f_199_146 rfl rfl ?_
              refine e_caload_p (xs := j) f_199_147 g367 (d := (0, 0, 0)) (by first | omega | (simp only [List.length_set]; omega)) rfl ?_
              show px_to 199 148 [some (.ref (269)), some (.int (nI st)), some (.int (nI ((j.getD st (0, 0, 0)).1))), some (.int (nI 4)), some (.int (nI 2)), some (.int (nI 3))] [.int (nI ((j.getD st (0, 0, 0)).2.1)), .int (nI 47)] h359 _
              rw [ha]
              refine e_icmp_eq_f f_199_148 (by decide) rfl ?_
              refine e_aload_n f_199_151 rfl rfl ?_
              refine e_getf f_199_152 g366 rfl rfl ?_
              refine e_iload_n f_199_155 rfl rfl ?_
              refine e_iload f_199_156 rfl rfl ?_
              refine e_aload_n f_199_158 rfl rfl ?_
              refine e_getf f_199_159 g366 rfl rfl ?_
              show px_to 199 162 [some (.ref (269)), some (.int (nI st)), some (.int (nI ((j.getD st (0, 0, 0)).1))), some (.int (nI 4)), some (.int (nI 2)), some (.int (nI 3))] [.int (nI wy), .int (nI 2), .int (nI st), .ref (285)] h359 _
              refine e_icmp_ne_t f_199_162 (by rw [hw]; decide) ?_
              refine e_aload_n f_199_174 rfl rfl ?_
              refine e_getf f_199_175 g366 rfl rfl ?_
              refine e_iload_n f_199_178 rfl rfl ?_
              refine e_caload_p (xs := (j.set st ((j.getD st (0, 0, 0)).1, 43, (j.getD st (0, 0, 0)).2.2)).set st ((j.getD st (0, 0, 0)).1, 43, (j.getD st (0, 0, 0)).2.2)) f_199_179 g360 (d := (0, 0, 0)) (by first | omega | (simp only [List.length_set]; omega)) rfl ?_
              show px_to 199 180 [some (.ref (269)), some (.int (nI st)), some (.int (nI ((j.getD st (0, 0, 0)).1))), some (.int (nI 4)), some (.int (nI 2)), some (.int (nI 3))] [.int (nI ((((j.set st ((j.getD st (0, 0, 0)).1, 43, (j.getD st (0, 0, 0)).2.2)).set st ((j.getD st (0, 0, 0)).1, 43, (j.getD st (0, 0, 0)).2.2)).getD st (0, 0, 0)).2.1)), .int (nI st), .ref (285)] h359 _
              rw [getD_set_same (by first | omega | (simp only [List.length_set]; omega))]
              refine e_castore_p (xs := (j.set st ((j.getD st (0, 0, 0)).1, 43, (j.getD st (0, 0, 0)).2.2)).set st ((j.getD st (0, 0, 0)).1, 43, (j.getD st (0, 0, 0)).2.2)) (x := ((j.getD st (0, 0, 0)).1, 43, (j.getD st (0, 0, 0)).2.2)) f_199_180 g360 (by omega) (by first | omega | (simp only [List.length_set]; omega)) (nw_ch (n := 43) (by decide)) rfl (fun h374 g375 fx376 => ?_)
              have fr377 : px_fj 269 1 284 3 h h374 := fj_tr fr362 fx376 (by omega)
              refine e_iinc (y := nI 3) (L' := [some (.ref (269)), some (.int (nI st)), some (.int (nI ((j.getD st (0, 0, 0)).1))), some (.int (nI 4)), some (.int (nI 3)), some (.int (nI 3))]) f_199_181 rfl (by rw [show Int32.ofInt 1 = nI 1 by decide]; exact (nI_add _ _).trans (congrArg nI (by omega))) rfl rfl ?_
              refine e_iinc (y := nI 4) (L' := [some (.ref (269)), some (.int (nI st)), some (.int (nI ((j.getD st (0, 0, 0)).1))), some (.int (nI 4)), some (.int (nI 3)), some (.int (nI 4))]) f_199_184 rfl (by rw [show Int32.ofInt 1 = nI 1 by decide]; exact (nI_add _ _).trans (congrArg nI (by omega))) rfl rfl ?_
              refine e_goto f_199_187 ?_
              refine e_iload f_199_130 rfl rfl ?_
              refine e_iload_n f_199_132 rfl rfl ?_
              refine e_icmp_ge_t f_199_133 (by decide) ?_
              refine e_goto f_199_190 ?_
              refine e_vret f_199_217 rfl ?_
              have hnl := of_decide_eq_false c_13
              have em : mutGo st wy j 0 = j.set st (chg (j.getD st (0, 0, 0)) wy) := mutGo_set wy j st 0 p1 (by omega)
              rw [em]
              have g378 : h374.2.2 269 = some (12, mB (L, nI j.length, cn) gp (nI j.length, gq.2.1, gq.2.2.1, gq.2.2.2.1, gq.2.2.2.2.1, gq.2.2.2.2.2.1, gq.2.2.2.2.2.2) gh gw gu (gv.1, gv.2.1, gv.2.2.1, gv.2.2.2.1, gv.2.2.2.2.1, gv.2.2.2.2.2.1, gv.2.2.2.2.2.2.1, nI st, nI wy)) := fi_at g366 fx376 (by omega)
              have g379 : px_pa h347 284 52 6 stS j := pa_fi g5 fx349 (by omega)
              have g380 : px_pa h359 284 52 6 stS j := pa_fi g379 fx361 (by omega)
              have g381 : px_pa h374 284 52 6 stS j := pa_fi g380 fx376 (by omega)
              have g382 : px_pa h347 286 50 6 stN j := pa_fi g7 fx349 (by omega)
              have g383 : px_pa h359 286 50 6 stN j := pa_fi g382 fx361 (by omega)
              have g384 : px_pa h374 286 50 6 stN j := pa_fi g383 fx376 (by omega)
              have ho : othN (j.getD st (0, 0, 0)) = 3 := by unfold othN; rw [if_neg c_95, if_pos c_105]
              have hc : chg (j.getD st (0, 0, 0)) wy = ((j.getD st (0, 0, 0)).1, 43, (j.getD st (0, 0, 0)).2.2) := by unfold chg; rw [if_pos (by omega), ha, hw, c_105]; rfl
              rw [hc]
              have hset : ((j.set st ((j.getD st (0, 0, 0)).1, 43, (j.getD st (0, 0, 0)).2.2)).set st ((j.getD st (0, 0, 0)).1, 43, (j.getD st (0, 0, 0)).2.2)).set st ((j.getD st (0, 0, 0)).1, 43, (j.getD st (0, 0, 0)).2.2) = j.set st ((j.getD st (0, 0, 0)).1, 43, (j.getD st (0, 0, 0)).2.2) := by simp only [List.set_set]
              exact ⟨rfl, by rw [List.length_set]; exact g378, pa_cg g381 (set_stS p1), pa_eq g375 hset, pa_cg g384 (set_stN p1), fr377⟩
            · skip
              refine e_iconst (v := nI 0) f_199_124 (by decide) rfl ?_
              refine e_istore (L' := [some (.ref (269)), some (.int (nI st)), some (.int (nI ((j.getD st (0, 0, 0)).1))), some (.int (nI 4)), some (.int (nI 0)), none]) f_199_125 (Nat.le_of_ble_eq_true rfl) rfl rfl ?_
              refine e_iconst (v := nI 0) f_199_127 (by decide) rfl ?_
              refine e_istore (L' := [some (.ref (269)), some (.int (nI st)), some (.int (nI ((j.getD st (0, 0, 0)).1))), some (.int (nI 4)), some (.int (nI 0)), some (.int (nI 0))]) f_199_128 (Nat.le_of_ble_eq_true rfl) rfl rfl ?_
              refine e_iload f_199_130 rfl rfl ?_
              refine e_iload_n f_199_132 rfl rfl ?_
              refine e_icmp_ge_f f_199_133 (by decide) rfl ?_
              refine e_iload_n f_199_136 rfl rfl ?_
              refine e_iload f_199_137 rfl rfl ?_
              refine e_callS (As := [.int (nI ((j.getD st (0, 0, 0)).1)), .int (nI 0)]) (rest := []) f_199_139 rfl rfl rfl (Nat.le_of_ble_eq_true rfl) (Nat.le_of_ble_eq_true rfl) (cc_Md_sgo (s := (j.getD st (0, 0, 0)).1) (i := 0)  (by omega) (by omega)) rfl (fun h385 r386 q387 => ?_)
              obtain ⟨rfl, qe⟩ := q387
              have qe := qe.symm
              subst qe
              show px_to 199 142 [some (.ref (269)), some (.int (nI st)), some (.int (nI ((j.getD st (0, 0, 0)).1))), some (.int (nI 4)), some (.int (nI 0)), some (.int (nI 0))] [.int (nI (sgF ((j.getD st (0, 0, 0)).1) 0))] h1 _
              rw [show sgF (j.getD st (0, 0, 0)).1 0 = 43 by rw [c_105]; rfl]
              refine e_aload_n f_199_142 rfl rfl ?_
              refine e_getf f_199_143 g4 rfl rfl ?_
              refine e_iload_n f_199_146 rfl rfl ?_
              obtain ⟨hm389, fa390, fb391⟩ := fj_mid fr13
              have g388 : px_pa h1 272 52 6 stA j := pa_fi (pa_fi H2 fa390 (by omega)) fb391 (by omega)
              refine e_caload_p (xs := j) f_199_147 g388 (d := (0, 0, 0)) (by first | omega | (simp only [List.length_set]; omega)) rfl ?_
              show px_to 199 148 [some (.ref (269)), some (.int (nI st)), some (.int (nI ((j.getD st (0, 0, 0)).1))), some (.int (nI 4)), some (.int (nI 0)), some (.int (nI 0))] [.int (nI ((j.getD st (0, 0, 0)).2.1)), .int (nI 43)] h1 _
              rw [ha]
              refine e_icmp_eq_f f_199_148 (by decide) rfl ?_
              refine e_aload_n f_199_151 rfl rfl ?_
              refine e_getf f_199_152 g4 rfl rfl ?_
              refine e_iload_n f_199_155 rfl rfl ?_
              refine e_iload f_199_156 rfl rfl ?_
              refine e_aload_n f_199_158 rfl rfl ?_
              refine e_getf f_199_159 g4 rfl rfl ?_
              show px_to 199 162 [some (.ref (269)), some (.int (nI st)), some (.int (nI ((j.getD st (0, 0, 0)).1))), some (.int (nI 4)), some (.int (nI 0)), some (.int (nI 0))] [.int (nI wy), .int (nI 0), .int (nI st), .ref (285)] h1 _
              refine e_icmp_ne_t f_199_162 (by rw [hw]; decide) ?_
              refine e_aload_n f_199_174 rfl rfl ?_
              refine e_getf f_199_175 g4 rfl rfl ?_
              refine e_iload_n f_199_178 rfl rfl ?_
              refine e_caload_p (xs := j) f_199_179 g6 (d := (0, 0, 0)) (by first | omega | (simp only [List.length_set]; omega)) rfl ?_
              show px_to 199 180 [some (.ref (269)), some (.int (nI st)), some (.int (nI ((j.getD st (0, 0, 0)).1))), some (.int (nI 4)), some (.int (nI 0)), some (.int (nI 0))] [.int (nI ((j.getD st (0, 0, 0)).2.1)), .int (nI st), .ref (285)] h1 _
              rw [ha]
              refine e_castore_p (xs := j) (x := ((j.getD st (0, 0, 0)).1, 42, (j.getD st (0, 0, 0)).2.2)) f_199_180 g6 (by omega) (by first | omega | (simp only [List.length_set]; omega)) (nw_ch (n := 42) (by decide)) rfl (fun h392 g393 fx394 => ?_)
              have fr395 : px_fj 269 1 284 3 h h392 := fj_tr fr13 fx394 (by omega)
              refine e_iinc (y := nI 1) (L' := [some (.ref (269)), some (.int (nI st)), some (.int (nI ((j.getD st (0, 0, 0)).1))), some (.int (nI 4)), some (.int (nI 1)), some (.int (nI 0))]) f_199_181 rfl (by rw [show Int32.ofInt 1 = nI 1 by decide]; exact (nI_add _ _).trans (congrArg nI (by omega))) rfl rfl ?_
              refine e_iinc (y := nI 1) (L' := [some (.ref (269)), some (.int (nI st)), some (.int (nI ((j.getD st (0, 0, 0)).1))), some (.int (nI 4)), some (.int (nI 1)), some (.int (nI 1))]) f_199_184 rfl (by rw [show Int32.ofInt 1 = nI 1 by decide]; exact (nI_add _ _).trans (congrArg nI (by omega))) rfl rfl ?_
              refine e_goto f_199_187 ?_
              refine e_iload f_199_130 rfl rfl ?_
              refine e_iload_n f_199_132 rfl rfl ?_
              refine e_icmp_ge_f f_199_133 (by decide) rfl ?_
              refine e_iload_n f_199_136 rfl rfl ?_
              refine e_iload f_199_137 rfl rfl ?_
              refine e_callS (As := [.int (nI ((j.getD st (0, 0, 0)).1)), .int (nI 1)]) (rest := []) f_199_139 rfl rfl rfl (Nat.le_of_ble_eq_true rfl) (Nat.le_of_ble_eq_true rfl) (cc_Md_sgo (s := (j.getD st (0, 0, 0)).1) (i := 1)  (by omega) (by omega)) rfl (fun h396 r397 q398 => ?_)
              obtain ⟨rfl, qe⟩ := q398
              have qe := qe.symm
              subst qe
              show px_to 199 142 [some (.ref (269)), some (.int (nI st)), some (.int (nI ((j.getD st (0, 0, 0)).1))), some (.int (nI 4)), some (.int (nI 1)), some (.int (nI 1))] [.int (nI (sgF ((j.getD st (0, 0, 0)).1) 1))] h392 _
              rw [show sgF (j.getD st (0, 0, 0)).1 1 = 45 by rw [c_105]; rfl]
              refine e_aload_n f_199_142 rfl rfl ?_
              have g399 : h392.2.2 269 = some (12, mB (L, nI j.length, cn) gp (nI j.length, gq.2.1, gq.2.2.1, gq.2.2.2.1, gq.2.2.2.2.1, gq.2.2.2.2.2.1, gq.2.2.2.2.2.2) gh gw gu (gv.1, gv.2.1, gv.2.2.1, gv.2.2.2.1, gv.2.2.2.2.1, gv.2.2.2.2.2.1, gv.2.2.2.2.2.2.1, nI st, nI wy)) := fi_at g4 fx394 (by omega)
              refine e_getf f_199_143 g399 rfl rfl ?_
              refine e_iload_n f_199_146 rfl rfl ?_
              obtain ⟨hm401, fa402, fb403⟩ := fj_mid fr395
              have g400 : px_pa h392 272 52 6 stA j := pa_fi (pa_fi H2 fa402 (by omega)) fb403 (by omega)
              refine e_caload_p (xs := j) f_199_147 g400 (d := (0, 0, 0)) (by first | omega | (simp only [List.length_set]; omega)) rfl ?_
              show px_to 199 148 [some (.ref (269)), some (.int (nI st)), some (.int (nI ((j.getD st (0, 0, 0)).1))), some (.int (nI 4)), some (.int (nI 1)), some (.int (nI 1))] [.int (nI ((j.getD st (0, 0, 0)).2.1)), .int (nI 45)] h392 _
              rw [ha]
              refine e_icmp_eq_f f_199_148 (by decide) rfl ?_
              refine e_aload_n f_199_151 rfl rfl ?_
              refine e_getf f_199_152 g399 rfl rfl ?_
              refine e_iload_n f_199_155 rfl rfl ?_
              refine e_iload f_199_156 rfl rfl ?_
              refine e_aload_n f_199_158 rfl rfl ?_
              refine e_getf f_199_159 g399 rfl rfl ?_
              show px_to 199 162 [some (.ref (269)), some (.int (nI st)), some (.int (nI ((j.getD st (0, 0, 0)).1))), some (.int (nI 4)), some (.int (nI 1)), some (.int (nI 1))] [.int (nI wy), .int (nI 1), .int (nI st), .ref (285)] h392 _
              refine e_icmp_ne_f f_199_162 (by rw [hw]; decide) rfl ?_
              refine e_iload_n f_199_165 rfl rfl ?_
              refine e_iload f_199_166 rfl rfl ?_
              refine e_callS (As := [.int (nI ((j.getD st (0, 0, 0)).1)), .int (nI 1)]) (rest := [.int (nI st), .ref (285)]) f_199_168 rfl rfl rfl (Nat.le_of_ble_eq_true rfl) (Nat.le_of_ble_eq_true rfl) (cc_Md_sgo (s := (j.getD st (0, 0, 0)).1) (i := 1)  (by omega) (by omega)) rfl (fun h404 r405 q406 => ?_)
              obtain ⟨rfl, qe⟩ := q406
              have qe := qe.symm
              subst qe
              show px_to 199 171 [some (.ref (269)), some (.int (nI st)), some (.int (nI ((j.getD st (0, 0, 0)).1))), some (.int (nI 4)), some (.int (nI 1)), some (.int (nI 1))] [.int (nI (sgF ((j.getD st (0, 0, 0)).1) 1)), .int (nI st), .ref (285)] h392 _
              rw [show sgF (j.getD st (0, 0, 0)).1 1 = 45 by rw [c_105]; rfl]
              refine e_goto f_199_171 ?_
              refine e_castore_p (xs := j.set st ((j.getD st (0, 0, 0)).1, 42, (j.getD st (0, 0, 0)).2.2)) (x := ((j.getD st (0, 0, 0)).1, 45, (j.getD st (0, 0, 0)).2.2)) f_199_180 g393 (by omega) (by first | omega | (simp only [List.length_set]; omega)) (nw_ch (n := 45) (by decide)) rfl (fun h407 g408 fx409 => ?_)
              have fr410 : px_fj 269 1 284 3 h h407 := fj_tr fr395 fx409 (by omega)
              refine e_iinc (y := nI 2) (L' := [some (.ref (269)), some (.int (nI st)), some (.int (nI ((j.getD st (0, 0, 0)).1))), some (.int (nI 4)), some (.int (nI 2)), some (.int (nI 1))]) f_199_181 rfl (by rw [show Int32.ofInt 1 = nI 1 by decide]; exact (nI_add _ _).trans (congrArg nI (by omega))) rfl rfl ?_
              refine e_iinc (y := nI 2) (L' := [some (.ref (269)), some (.int (nI st)), some (.int (nI ((j.getD st (0, 0, 0)).1))), some (.int (nI 4)), some (.int (nI 2)), some (.int (nI 2))]) f_199_184 rfl (by rw [show Int32.ofInt 1 = nI 1 by decide]; exact (nI_add _ _).trans (congrArg nI (by omega))) rfl rfl ?_
              refine e_goto f_199_187 ?_
              refine e_iload f_199_130 rfl rfl ?_
              refine e_iload_n f_199_132 rfl rfl ?_
              refine e_icmp_ge_f f_199_133 (by decide) rfl ?_
              refine e_iload_n f_199_136 rfl rfl ?_
              refine e_iload f_199_137 rfl rfl ?_
              refine e_callS (As := [.int (nI ((j.getD st (0, 0, 0)).1)), .int (nI 2)]) (rest := []) f_199_139 rfl rfl rfl (Nat.le_of_ble_eq_true rfl) (Nat.le_of_ble_eq_true rfl) (cc_Md_sgo (s := (j.getD st (0, 0, 0)).1) (i := 2)  (by omega) (by omega)) rfl (fun h411 r412 q413 => ?_)
              obtain ⟨rfl, qe⟩ := q413
              have qe := qe.symm
              subst qe
              show px_to 199 142 [some (.ref (269)), some (.int (nI st)), some (.int (nI ((j.getD st (0, 0, 0)).1))), some (.int (nI 4)), some (.int (nI 2)), some (.int (nI 2))] [.int (nI (sgF ((j.getD st (0, 0, 0)).1) 2))] h407 _
              rw [show sgF (j.getD st (0, 0, 0)).1 2 = 42 by rw [c_105]; rfl]
              refine e_aload_n f_199_142 rfl rfl ?_
              have g414 : h407.2.2 269 = some (12, mB (L, nI j.length, cn) gp (nI j.length, gq.2.1, gq.2.2.1, gq.2.2.2.1, gq.2.2.2.2.1, gq.2.2.2.2.2.1, gq.2.2.2.2.2.2) gh gw gu (gv.1, gv.2.1, gv.2.2.1, gv.2.2.2.1, gv.2.2.2.2.1, gv.2.2.2.2.2.1, gv.2.2.2.2.2.2.1, nI st, nI wy)) := fi_at g399 fx409 (by omega)
              refine e_getf f_199_143 g414 rfl rfl ?_
              refine e_iload_n f_199_146 rfl rfl ?_
              obtain ⟨hm416, fa417, fb418⟩ := fj_mid fr410
              have g415 : px_pa h407 272 52 6 stA j := pa_fi (pa_fi H2 fa417 (by omega)) fb418 (by omega)
              refine e_caload_p (xs := j) f_199_147 g415 (d := (0, 0, 0)) (by first | omega | (simp only [List.length_set]; omega)) rfl ?_
              show px_to 199 148 [some (.ref (269)), some (.int (nI st)), some (.int (nI ((j.getD st (0, 0, 0)).1))), some (.int (nI 4)), some (.int (nI 2)), some (.int (nI 2))] [.int (nI ((j.getD st (0, 0, 0)).2.1)), .int (nI 42)] h407 _
              rw [ha]
              refine e_icmp_eq_t f_199_148 (by decide) ?_
              refine e_iinc (y := nI 3) (L' := [some (.ref (269)), some (.int (nI st)), some (.int (nI ((j.getD st (0, 0, 0)).1))), some (.int (nI 4)), some (.int (nI 2)), some (.int (nI 3))]) f_199_184 rfl (by rw [show Int32.ofInt 1 = nI 1 by decide]; exact (nI_add _ _).trans (congrArg nI (by omega))) rfl rfl ?_
              refine e_goto f_199_187 ?_
              refine e_iload f_199_130 rfl rfl ?_
              refine e_iload_n f_199_132 rfl rfl ?_
              refine e_icmp_ge_f f_199_133 (by decide) rfl ?_
              refine e_iload_n f_199_136 rfl rfl ?_
              refine e_iload f_199_137 rfl rfl ?_
              refine e_callS (As := [.int (nI ((j.getD st (0, 0, 0)).1)), .int (nI 3)]) (rest := []) f_199_139 rfl rfl rfl (Nat.le_of_ble_eq_true rfl) (Nat.le_of_ble_eq_true rfl) (cc_Md_sgo (s := (j.getD st (0, 0, 0)).1) (i := 3)  (by omega) (by omega)) rfl (fun h419 r420 q421 => ?_)
              obtain ⟨rfl, qe⟩ := q421
              have qe := qe.symm
              subst qe
              show px_to 199 142 [some (.ref (269)), some (.int (nI st)), some (.int (nI ((j.getD st (0, 0, 0)).1))), some (.int (nI 4)), some (.int (nI 2)), some (.int (nI 3))] [.int (nI (sgF ((j.getD st (0, 0, 0)).1) 3))] h407 _
              rw [show sgF (j.getD st (0, 0, 0)).1 3 = 47 by rw [c_105]; rfl]
              refine e_aload_n f_199_142 rfl rfl ?_
              refine e_getf f_199_143 g414 rfl rfl ?_
              refine e_iload_n f_199_146 rfl rfl ?_
              refine e_caload_p (xs := j) f_199_147 g415 (d := (0, 0, 0)) (by first | omega | (simp only [List.length_set]; omega)) rfl ?_
              show px_to 199 148 [some (.ref (269)), some (.int (nI st)), some (.int (nI ((j.getD st (0, 0, 0)).1))), some (.int (nI 4)), some (.int (nI 2)), some (.int (nI 3))] [.int (nI ((j.getD st (0, 0, 0)).2.1)), .int (nI 47)] h407 _
              rw [ha]
              refine e_icmp_eq_f f_199_148 (by decide) rfl ?_
              refine e_aload_n f_199_151 rfl rfl ?_
              refine e_getf f_199_152 g414 rfl rfl ?_
              refine e_iload_n f_199_155 rfl rfl ?_
              refine e_iload f_199_156 rfl rfl ?_
              refine e_aload_n f_199_158 rfl rfl ?_
              refine e_getf f_199_159 g414 rfl rfl ?_
              show px_to 199 162 [some (.ref (269)), some (.int (nI st)), some (.int (nI ((j.getD st (0, 0, 0)).1))), some (.int (nI 4)), some (.int (nI 2)), some (.int (nI 3))] [.int (nI wy), .int (nI 2), .int (nI st), .ref (285)] h407 _
              refine e_icmp_ne_t f_199_162 (by rw [hw]; decide) ?_
              refine e_aload_n f_199_174 rfl rfl ?_
              refine e_getf f_199_175 g414 rfl rfl ?_
              refine e_iload_n f_199_178 rfl rfl ?_
              refine e_caload_p (xs := (j.set st ((j.getD st (0, 0, 0)).1, 42, (j.getD st (0, 0, 0)).2.2)).set st ((j.getD st (0, 0, 0)).1, 45, (j.getD st (0, 0, 0)).2.2)) f_199_179 g408 (d := (0, 0, 0)) (by first | omega | (simp only [List.length_set]; omega)) rfl ?_
              show px_to 199 180 [some (.ref (269)), some (.int (nI st)), some (.int (nI ((j.getD st (0, 0, 0)).1))), some (.int (nI 4)), some (.int (nI 2)), some (.int (nI 3))] [.int (nI ((((j.set st ((j.getD st (0, 0, 0)).1, 42, (j.getD st (0, 0, 0)).2.2)).set st ((j.getD st (0, 0, 0)).1, 45, (j.getD st (0, 0, 0)).2.2)).getD st (0, 0, 0)).2.1)), .int (nI st), .ref (285)] h407 _
              rw [getD_set_same (by first | omega | (simp only [List.length_set]; omega))]
              refine e_castore_p (xs := (j.set st ((j.getD st (0, 0, 0)).1, 42, (j.getD st (0, 0, 0)).2.2)).set st ((j.getD st (0, 0, 0)).1, 45, (j.getD st (0, 0, 0)).2.2)) (x := ((j.getD st (0, 0, 0)).1, 45, (j.getD st (0, 0, 0)).2.2)) f_199_180 g408 (by omega) (by first | omega | (simp only [List.length_set]; omega)) (nw_ch (n := 45) (by decide)) rfl (fun h422 g423 fx424 => ?_)
              have fr425 : px_fj 269 1 284 3 h h422 := fj_tr fr410 fx424 (by omega)
              refine e_iinc (y := nI 3) (L' := [some (.ref (269)), some (.int (nI st)), some (.int (nI ((j.getD st (0, 0, 0)).1))), some (.int (nI 4)), some (.int (nI 3)), some (.int (nI 3))]) f_199_181 rfl (by rw [show Int32.ofInt 1 = nI 1 by decide]; exact (nI_add _ _).trans (congrArg nI (by omega))) rfl rfl ?_
              refine e_iinc (y := nI 4) (L' := [some (.ref (269)), some (.int (nI st)), some (.int (nI ((j.getD st (0, 0, 0)).1))), some (.int (nI 4)), some (.int (nI 3)), some (.int (nI 4))]) f_199_184 rfl (by rw [show Int32.ofInt 1 = nI 1 by decide]; exact (nI_add _ _).trans (congrArg nI (by omega))) rfl rfl ?_
              refine e_goto f_199_187 ?_
              refine e_iload f_199_130 rfl rfl ?_
              refine e_iload_n f_199_132 rfl rfl ?_
              refine e_icmp_ge_t f_199_133 (by decide) ?_
              refine e_goto f_199_190 ?_
              refine e_vret f_199_217 rfl ?_
              have hnl := of_decide_eq_false c_13
              have em : mutGo st wy j 0 = j.set st (chg (j.getD st (0, 0, 0)) wy) := mutGo_set wy j st 0 p1 (by omega)
              rw [em]
              have g426 : h422.2.2 269 = some (12, mB (L, nI j.length, cn) gp (nI j.length, gq.2.1, gq.2.2.1, gq.2.2.2.1, gq.2.2.2.2.1, gq.2.2.2.2.2.1, gq.2.2.2.2.2.2) gh gw gu (gv.1, gv.2.1, gv.2.2.1, gv.2.2.2.1, gv.2.2.2.2.1, gv.2.2.2.2.2.1, gv.2.2.2.2.2.2.1, nI st, nI wy)) := fi_at g414 fx424 (by omega)
              have g427 : px_pa h392 284 52 6 stS j := pa_fi g5 fx394 (by omega)
              have g428 : px_pa h407 284 52 6 stS j := pa_fi g427 fx409 (by omega)
              have g429 : px_pa h422 284 52 6 stS j := pa_fi g428 fx424 (by omega)
              have g430 : px_pa h392 286 50 6 stN j := pa_fi g7 fx394 (by omega)
              have g431 : px_pa h407 286 50 6 stN j := pa_fi g430 fx409 (by omega)
              have g432 : px_pa h422 286 50 6 stN j := pa_fi g431 fx424 (by omega)
              have ho : othN (j.getD st (0, 0, 0)) = 3 := by unfold othN; rw [if_neg c_95, if_pos c_105]
              have hc : chg (j.getD st (0, 0, 0)) wy = ((j.getD st (0, 0, 0)).1, 45, (j.getD st (0, 0, 0)).2.2) := by unfold chg; rw [if_pos (by omega), ha, hw, c_105]; rfl
              rw [hc]
              have hset : ((j.set st ((j.getD st (0, 0, 0)).1, 42, (j.getD st (0, 0, 0)).2.2)).set st ((j.getD st (0, 0, 0)).1, 45, (j.getD st (0, 0, 0)).2.2)).set st ((j.getD st (0, 0, 0)).1, 45, (j.getD st (0, 0, 0)).2.2) = j.set st ((j.getD st (0, 0, 0)).1, 45, (j.getD st (0, 0, 0)).2.2) := by simp only [List.set_set]
              exact ⟨rfl, by rw [List.length_set]; exact g426, pa_cg g429 (set_stS p1), pa_eq g423 hset, pa_cg g432 (set_stN p1), fr425⟩
            · skip
              refine e_iconst (v := nI 0) f_199_124 (by decide) rfl ?_
              refine e_istore (L' := [some (.ref (269)), some (.int (nI st)), some (.int (nI ((j.getD st (0, 0, 0)).1))), some (.int (nI 4)), some (.int (nI 0)), none]) f_199_125 (Nat.le_of_ble_eq_true rfl) rfl rfl ?_
              refine e_iconst (v := nI 0) f_199_127 (by decide) rfl ?_
              refine e_istore (L' := [some (.ref (269)), some (.int (nI st)), some (.int (nI ((j.getD st (0, 0, 0)).1))), some (.int (nI 4)), some (.int (nI 0)), some (.int (nI 0))]) f_199_128 (Nat.le_of_ble_eq_true rfl) rfl rfl ?_
              refine e_iload f_199_130 rfl rfl ?_
              refine e_iload_n f_199_132 rfl rfl ?_
              refine e_icmp_ge_f f_199_133 (by decide) rfl ?_
              refine e_iload_n f_199_136 rfl rfl ?_
              refine e_iload f_199_137 rfl rfl ?_
              refine e_callS (As := [.int (nI ((j.getD st (0, 0, 0)).1)), .int (nI 0)]) (rest := []) f_199_139 rfl rfl rfl (Nat.le_of_ble_eq_true rfl) (Nat.le_of_ble_eq_true rfl) (cc_Md_sgo (s := (j.getD st (0, 0, 0)).1) (i := 0)  (by omega) (by omega)) rfl (fun h433 r434 q435 => ?_)
              obtain ⟨rfl, qe⟩ := q435
              have qe := qe.symm
              subst qe
              show px_to 199 142 [some (.ref (269)), some (.int (nI st)), some (.int (nI ((j.getD st (0, 0, 0)).1))), some (.int (nI 4)), some (.int (nI 0)), some (.int (nI 0))] [.int (nI (sgF ((j.getD st (0, 0, 0)).1) 0))] h1 _
              rw [show sgF (j.getD st (0, 0, 0)).1 0 = 43 by rw [c_105]; rfl]
              refine e_aload_n f_199_142 rfl rfl ?_
              refine e_getf f_199_143 g4 rfl rfl ?_
              refine e_iload_n f_199_146 rfl rfl ?_
              obtain ⟨hm437, fa438, fb439⟩ := fj_mid fr13
              have g436 : px_pa h1 272 52 6 stA j := pa_fi (pa_fi H2 fa438 (by omega)) fb439 (by omega)
              refine e_caload_p (xs := j) f_199_147 g436 (d := (0, 0, 0)) (by first | omega | (simp only [List.length_set]; omega)) rfl ?_
              show px_to 199 148 [some (.ref (269)), some (.int (nI st)), some (.int (nI ((j.getD st (0, 0, 0)).1))), some (.int (nI 4)), some (.int (nI 0)), some (.int (nI 0))] [.int (nI ((j.getD st (0, 0, 0)).2.1)), .int (nI 43)] h1 _
              rw [ha]
              refine e_icmp_eq_f f_199_148 (by decide) rfl ?_
              refine e_aload_n f_199_151 rfl rfl ?_
              refine e_getf f_199_152 g4 rfl rfl ?_
              refine e_iload_n f_199_155 rfl rfl ?_
              refine e_iload f_199_156 rfl rfl ?_
              refine e_aload_n f_199_158 rfl rfl ?_
              refine e_getf f_199_159 g4 rfl rfl ?_
              show px_to 199 162 [some (.ref (269)), some (.int (nI st)), some (.int (nI ((j.getD st (0, 0, 0)).1))), some (.int (nI 4)), some (.int (nI 0)), some (.int (nI 0))] [.int (nI wy), .int (nI 0), .int (nI st), .ref (285)] h1 _
              refine e_icmp_ne_t f_199_162 (by rw [hw]; decide) ?_
              refine e_aload_n f_199_174 rfl rfl ?_
              refine e_getf f_199_175 g4 rfl rfl ?_
              refine e_iload_n f_199_178 rfl rfl ?_
              refine e_caload_p (xs := j) f_199_179 g6 (d := (0, 0, 0)) (by first | omega | (simp only [List.length_set]; omega)) rfl ?_
              show px_to 199 180 [some (.ref (269)), some (.int (nI st)), some (.int (nI ((j.getD st (0, 0, 0)).1))), some (.int (nI 4)), some (.int (nI 0)), some (.int (nI 0))] [.int (nI ((j.getD st (0, 0, 0)).2.1)), .int (nI st), .ref (285)] h1 _
              rw [ha]
              refine e_castore_p (xs := j) (x := ((j.getD st (0, 0, 0)).1, 42, (j.getD st (0, 0, 0)).2.2)) f_199_180 g6 (by omega) (by first | omega | (simp only [List.length_set]; omega)) (nw_ch (n := 42) (by decide)) rfl (fun h440 g441 fx442 => ?_)
              have fr443 : px_fj 269 1 284 3 h h440 := fj_tr fr13 fx442 (by omega)
              refine e_iinc (y := nI 1) (L' := [some (.ref (269)), some (.int (nI st)), some (.int (nI ((j.getD st (0, 0, 0)).1))), some (.int (nI 4)), some (.int (nI 1)), some (.int (nI 0))]) f_199_181 rfl (by rw [show Int32.ofInt 1 = nI 1 by decide]; exact (nI_add _ _).trans (congrArg nI (by omega))) rfl rfl ?_
              refine e_iinc (y := nI 1) (L' := [some (.ref (269)), some (.int (nI st)), some (.int (nI ((j.getD st (0, 0, 0)).1))), some (.int (nI 4)), some (.int (nI 1)), some (.int (nI 1))]) f_199_184 rfl (by rw [show Int32.ofInt 1 = nI 1 by decide]; exact (nI_add _ _).trans (congrArg nI (by omega))) rfl rfl ?_
              refine e_goto f_199_187 ?_
              refine e_iload f_199_130 rfl rfl ?_
              refine e_iload_n f_199_132 rfl rfl ?_
              refine e_icmp_ge_f f_199_133 (by decide) rfl ?_
              refine e_iload_n f_199_136 rfl rfl ?_
              refine e_iload f_199_137 rfl rfl ?_
              refine e_callS (As := [.int (nI ((j.getD st (0, 0, 0)).1)), .int (nI 1)]) (rest := []) f_199_139 rfl rfl rfl (Nat.le_of_ble_eq_true rfl) (Nat.le_of_ble_eq_true rfl) (cc_Md_sgo (s := (j.getD st (0, 0, 0)).1) (i := 1)  (by omega) (by omega)) rfl (fun h444 r445 q446 => ?_)
              obtain ⟨rfl, qe⟩ := q446
              have qe := qe.symm
              subst qe
              show px_to 199 142 [some (.ref (269)), some (.int (nI st)), some (.int (nI ((j.getD st (0, 0, 0)).1))), some (.int (nI 4)), some (.int (nI 1)), some (.int (nI 1))] [.int (nI (sgF ((j.getD st (0, 0, 0)).1) 1))] h440 _
              rw [show sgF (j.getD st (0, 0, 0)).1 1 = 45 by rw [c_105]; rfl]
              refine e_aload_n f_199_142 rfl rfl ?_
              have g447 : h440.2.2 269 = some (12, mB (L, nI j.length, cn) gp (nI j.length, gq.2.1, gq.2.2.1, gq.2.2.2.1, gq.2.2.2.2.1, gq.2.2.2.2.2.1, gq.2.2.2.2.2.2) gh gw gu (gv.1, gv.2.1, gv.2.2.1, gv.2.2.2.1, gv.2.2.2.2.1, gv.2.2.2.2.2.1, gv.2.2.2.2.2.2.1, nI st, nI wy)) := fi_at g4 fx442 (by omega)
              refine e_getf f_199_143 g447 rfl rfl ?_
              refine e_iload_n f_199_146 rfl rfl ?_
              obtain ⟨hm449, fa450, fb451⟩ := fj_mid fr443
              have g448 : px_pa h440 272 52 6 stA j := pa_fi (pa_fi H2 fa450 (by omega)) fb451 (by omega)
              refine e_caload_p (xs := j) f_199_147 g448 (d := (0, 0, 0)) (by first | omega | (simp only [List.length_set]; omega)) rfl ?_
              show px_to 199 148 [some (.ref (269)), some (.int (nI st)), some (.int (nI ((j.getD st (0, 0, 0)).1))), some (.int (nI 4)), some (.int (nI 1)), some (.int (nI 1))] [.int (nI ((j.getD st (0, 0, 0)).2.1)), .int (nI 45)] h440 _
              rw [ha]
              refine e_icmp_eq_f f_199_148 (by decide) rfl ?_
              refine e_aload_n f_199_151 rfl rfl ?_
              refine e_getf f_199_152 g447 rfl rfl ?_
              refine e_iload_n f_199_155 rfl rfl ?_
              refine e_iload f_199_156 rfl rfl ?_
              refine e_aload_n f_199_158 rfl rfl ?_
              refine e_getf f_199_159 g447 rfl rfl ?_
              show px_to 199 162 [some (.ref (269)), some (.int (nI st)), some (.int (nI ((j.getD st (0, 0, 0)).1))), some (.int (nI 4)), some (.int (nI 1)), some (.int (nI 1))] [.int (nI wy), .int (nI 1), .int (nI st), .ref (285)] h440 _
              refine e_icmp_ne_t f_199_162 (by rw [hw]; decide) ?_
              refine e_aload_n f_199_174 rfl rfl ?_
              refine e_getf f_199_175 g447 rfl rfl ?_
              refine e_iload_n f_199_178 rfl rfl ?_
              refine e_caload_p (xs := j.set st ((j.getD st (0, 0, 0)).1, 42, (j.getD st (0, 0, 0)).2.2)) f_199_179 g441 (d := (0, 0, 0)) (by first | omega | (simp only [List.length_set]; omega)) rfl ?_
              show px_to 199 180 [some (.ref (269)), some (.int (nI st)), some (.int (nI ((j.getD st (0, 0, 0)).1))), some (.int (nI 4)), some (.int (nI 1)), some (.int (nI 1))] [.int (nI (((j.set st ((j.getD st (0, 0, 0)).1, 42, (j.getD st (0, 0, 0)).2.2)).getD st (0, 0, 0)).2.1)), .int (nI st), .ref (285)] h440 _
              rw [getD_set_same (by first | omega | (simp only [List.length_set]; omega))]
              refine e_castore_p (xs := j.set st ((j.getD st (0, 0, 0)).1, 42, (j.getD st (0, 0, 0)).2.2)) (x := ((j.getD st (0, 0, 0)).1, 42, (j.getD st (0, 0, 0)).2.2)) f_199_180 g441 (by omega) (by first | omega | (simp only [List.length_set]; omega)) (nw_ch (n := 42) (by decide)) rfl (fun h452 g453 fx454 => ?_)
              have fr455 : px_fj 269 1 284 3 h h452 := fj_tr fr443 fx454 (by omega)
              refine e_iinc (y := nI 2) (L' := [some (.ref (269)), some (.int (nI st)), some (.int (nI ((j.getD st (0, 0, 0)).1))), some (.int (nI 4)), some (.int (nI 2)), some (.int (nI 1))]) f_199_181 rfl (by rw [show Int32.ofInt 1 = nI 1 by decide]; exact (nI_add _ _).trans (congrArg nI (by omega))) rfl rfl ?_
              refine e_iinc (y := nI 2) (L' := [some (.ref (269)), some (.int (nI st)), some (.int (nI ((j.getD st (0, 0, 0)).1))), some (.int (nI 4)), some (.int (nI 2)), some (.int (nI 2))]) f_199_184 rfl (by rw [show Int32.ofInt 1 = nI 1 by decide]; exact (nI_add _ _).trans (congrArg nI (by omega))) rfl rfl ?_
              refine e_goto f_199_187 ?_
              refine e_iload f_199_130 rfl rfl ?_
              refine e_iload_n f_199_132 rfl rfl ?_
              refine e_icmp_ge_f f_199_133 (by decide) rfl ?_
              refine e_iload_n f_199_136 rfl rfl ?_
              refine e_iload f_199_137 rfl rfl ?_
              refine e_callS (As := [.int (nI ((j.getD st (0, 0, 0)).1)), .int (nI 2)]) (rest := []) f_199_139 rfl rfl rfl (Nat.le_of_ble_eq_true rfl) (Nat.le_of_ble_eq_true rfl) (cc_Md_sgo (s := (j.getD st (0, 0, 0)).1) (i := 2)  (by omega) (by omega)) rfl (fun h456 r457 q458 => ?_)
              obtain ⟨rfl, qe⟩ := q458
              have qe := qe.symm
              subst qe
              show px_to 199 142 [some (.ref (269)), some (.int (nI st)), some (.int (nI ((j.getD st (0, 0, 0)).1))), some (.int (nI 4)), some (.int (nI 2)), some (.int (nI 2))] [.int (nI (sgF ((j.getD st (0, 0, 0)).1) 2))] h452 _
              rw [show sgF (j.getD st (0, 0, 0)).1 2 = 42 by rw [c_105]; rfl]
              refine e_aload_n f_199_142 rfl rfl ?_
              have g459 : h452.2.2 269 = some (12, mB (L, nI j.length, cn) gp (nI j.length, gq.2.1, gq.2.2.1, gq.2.2.2.1, gq.2.2.2.2.1, gq.2.2.2.2.2.1, gq.2.2.2.2.2.2) gh gw gu (gv.1, gv.2.1, gv.2.2.1, gv.2.2.2.1, gv.2.2.2.2.1, gv.2.2.2.2.2.1, gv.2.2.2.2.2.2.1, nI st, nI wy)) := fi_at g447 fx454 (by omega)
              refine e_getf f_199_143 g459 rfl rfl ?_
              refine e_iload_n f_199_146 rfl rfl ?_
              obtain ⟨hm461, fa462, fb463⟩ := fj_mid fr455
              have g460 : px_pa h452 272 52 6 stA j := pa_fi (pa_fi H2 fa462 (by omega)) fb463 (by omega)
              refine e_caload_p (xs := j) f_199_147 g460 (d := (0, 0, 0)) (by first | omega | (simp only [List.length_set]; omega)) rfl ?_
              show px_to 199 148 [some (.ref (269)), some (.int (nI st)), some (.int (nI ((j.getD st (0, 0, 0)).1))), some (.int (nI 4)), some (.int (nI 2)), some (.int (nI 2))] [.int (nI ((j.getD st (0, 0, 0)).2.1)), .int (nI 42)] h452 _
              rw [ha]
              refine e_icmp_eq_t f_199_148 (by decide) ?_
              refine e_iinc (y := nI 3) (L' := [some (.ref (269)), some (.int (nI st)), some (.int (nI ((j.getD st (0, 0, 0)).1))), some (.int (nI 4)), some (.int (nI 2)), some (.int (nI 3))]) f_199_184 rfl (by rw [show Int32.ofInt 1 = nI 1 by decide]; exact (nI_add _ _).trans (congrArg nI (by omega))) rfl rfl ?_
              refine e_goto f_199_187 ?_
              refine e_iload f_199_130 rfl rfl ?_
              refine e_iload_n f_199_132 rfl rfl ?_
              refine e_icmp_ge_f f_199_133 (by decide) rfl ?_
              refine e_iload_n f_199_136 rfl rfl ?_
              refine e_iload f_199_137 rfl rfl ?_
              refine e_callS (As := [.int (nI ((j.getD st (0, 0, 0)).1)), .int (nI 3)]) (rest := []) f_199_139 rfl rfl rfl (Nat.le_of_ble_eq_true rfl) (Nat.le_of_ble_eq_true rfl) (cc_Md_sgo (s := (j.getD st (0, 0, 0)).1) (i := 3)  (by omega) (by omega)) rfl (fun h464 r465 q466 => ?_)
              obtain ⟨rfl, qe⟩ := q466
              have qe := qe.symm
              subst qe
              show px_to 199 142 [some (.ref (269)), some (.int (nI st)), some (.int (nI ((j.getD st (0, 0, 0)).1))), some (.int (nI 4)), some (.int (nI 2)), some (.int (nI 3))] [.int (nI (sgF ((j.getD st (0, 0, 0)).1) 3))] h452 _
              rw [show sgF (j.getD st (0, 0, 0)).1 3 = 47 by rw [c_105]; rfl]
              refine e_aload_n f_199_142 rfl rfl ?_
              refine e_getf f_199_143 g459 rfl rfl ?_
              refine e_iload_n f_199_146 rfl rfl ?_
              refine e_caload_p (xs := j) f_199_147 g460 (d := (0, 0, 0)) (by first | omega | (simp only [List.length_set]; omega)) rfl ?_
              show px_to 199 148 [some (.ref (269)), some (.int (nI st)), some (.int (nI ((j.getD st (0, 0, 0)).1))), some (.int (nI 4)), some (.int (nI 2)), some (.int (nI 3))] [.int (nI ((j.getD st (0, 0, 0)).2.1)), .int (nI 47)] h452 _
              rw [ha]
              refine e_icmp_eq_f f_199_148 (by decide) rfl ?_
              refine e_aload_n f_199_151 rfl rfl ?_
              refine e_getf f_199_152 g459 rfl rfl ?_
              refine e_iload_n f_199_155 rfl rfl ?_
              refine e_iload f_199_156 rfl rfl ?_
              refine e_aload_n f_199_158 rfl rfl ?_
              refine e_getf f_199_159 g459 rfl rfl ?_
              show px_to 199 162 [some (.ref (269)), some (.int (nI st)), some (.int (nI ((j.getD st (0, 0, 0)).1))), some (.int (nI 4)), some (.int (nI 2)), some (.int (nI 3))] [.int (nI wy), .int (nI 2), .int (nI st), .ref (285)] h452 _
              refine e_icmp_ne_f f_199_162 (by rw [hw]; decide) rfl ?_
              refine e_iload_n f_199_165 rfl rfl ?_
              refine e_iload f_199_166 rfl rfl ?_
              refine e_callS (As := [.int (nI ((j.getD st (0, 0, 0)).1)), .int (nI 3)]) (rest := [.int (nI st), .ref (285)]) f_199_168 rfl rfl rfl (Nat.le_of_ble_eq_true rfl) (Nat.le_of_ble_eq_true rfl) (cc_Md_sgo (s := (j.getD st (0, 0, 0)).1) (i := 3)  (by omega) (by omega)) rfl (fun h467 r468 q469 => ?_)
              obtain ⟨rfl, qe⟩ := q469
              have qe := qe.symm
              subst qe
              show px_to 199 171 [some (.ref (269)), some (.int (nI st)), some (.int (nI ((j.getD st (0, 0, 0)).1))), some (.int (nI 4)), some (.int (nI 2)), some (.int (nI 3))] [.int (nI (sgF ((j.getD st (0, 0, 0)).1) 3)), .int (nI st), .ref (285)] h452 _
              rw [show sgF (j.getD st (0, 0, 0)).1 3 = 47 by rw [c_105]; rfl]
              refine e_goto f_199_171 ?_
              refine e_castore_p (xs := (j.set st ((j.getD st (0, 0, 0)).1, 42, (j.getD st (0, 0, 0)).2.2)).set st ((j.getD st (0, 0, 0)).1, 42, (j.getD st (0, 0, 0)).2.2)) (x := ((j.getD st (0, 0, 0)).1, 47, (j.getD st (0, 0, 0)).2.2)) f_199_180 g453 (by omega) (by first | omega | (simp only [List.length_set]; omega)) (nw_ch (n := 47) (by decide)) rfl (fun h470 g471 fx472 => ?_)
              have fr473 : px_fj 269 1 284 3 h h470 := fj_tr fr455 fx472 (by omega)
              refine e_iinc (y := nI 3) (L' := [some (.ref (269)), some (.int (nI st)), some (.int (nI ((j.getD st (0, 0, 0)).1))), some (.int (nI 4)), some (.int (nI 3)), some (.int (nI 3))]) f_199_181 rfl (by rw [show Int32.ofInt 1 = nI 1 by decide]; exact (nI_add _ _).trans (congrArg nI (by omega))) rfl rfl ?_
              refine e_iinc (y := nI 4) (L' := [some (.ref (269)), some (.int (nI st)), some (.int (nI ((j.getD st (0, 0, 0)).1))), some (.int (nI 4)), some (.int (nI 3)), some (.int (nI 4))]) f_199_184 rfl (by rw [show Int32.ofInt 1 = nI 1 by decide]; exact (nI_add _ _).trans (congrArg nI (by omega))) rfl rfl ?_
              refine e_goto f_199_187 ?_
              refine e_iload f_199_130 rfl rfl ?_
              refine e_iload_n f_199_132 rfl rfl ?_
              refine e_icmp_ge_t f_199_133 (by decide) ?_
              refine e_goto f_199_190 ?_
              refine e_vret f_199_217 rfl ?_
              have hnl := of_decide_eq_false c_13
              have em : mutGo st wy j 0 = j.set st (chg (j.getD st (0, 0, 0)) wy) := mutGo_set wy j st 0 p1 (by omega)
              rw [em]
              have g474 : h470.2.2 269 = some (12, mB (L, nI j.length, cn) gp (nI j.length, gq.2.1, gq.2.2.1, gq.2.2.2.1, gq.2.2.2.2.1, gq.2.2.2.2.2.1, gq.2.2.2.2.2.2) gh gw gu (gv.1, gv.2.1, gv.2.2.1, gv.2.2.2.1, gv.2.2.2.2.1, gv.2.2.2.2.2.1, gv.2.2.2.2.2.2.1, nI st, nI wy)) := fi_at g459 fx472 (by omega)
              have g475 : px_pa h440 284 52 6 stS j := pa_fi g5 fx442 (by omega)
              have g476 : px_pa h452 284 52 6 stS j := pa_fi g475 fx454 (by omega)
              have g477 : px_pa h470 284 52 6 stS j := pa_fi g476 fx472 (by omega)
              have g478 : px_pa h440 286 50 6 stN j := pa_fi g7 fx442 (by omega)
              have g479 : px_pa h452 286 50 6 stN j := pa_fi g478 fx454 (by omega)
              have g480 : px_pa h470 286 50 6 stN j := pa_fi g479 fx472 (by omega)
              have ho : othN (j.getD st (0, 0, 0)) = 3 := by unfold othN; rw [if_neg c_95, if_pos c_105]
              have hc : chg (j.getD st (0, 0, 0)) wy = ((j.getD st (0, 0, 0)).1, 47, (j.getD st (0, 0, 0)).2.2) := by unfold chg; rw [if_pos (by omega), ha, hw, c_105]; rfl
              rw [hc]
              have hset : ((j.set st ((j.getD st (0, 0, 0)).1, 42, (j.getD st (0, 0, 0)).2.2)).set st ((j.getD st (0, 0, 0)).1, 42, (j.getD st (0, 0, 0)).2.2)).set st ((j.getD st (0, 0, 0)).1, 47, (j.getD st (0, 0, 0)).2.2) = j.set st ((j.getD st (0, 0, 0)).1, 47, (j.getD st (0, 0, 0)).2.2) := by simp only [List.set_set]
              exact ⟨rfl, by rw [List.length_set]; exact g474, pa_cg g477 (set_stS p1), pa_eq g471 hset, pa_cg g480 (set_stN p1), fr473⟩
          · skip
            rcases (show wy = 0 ∨ wy = 1 ∨ wy = 2 by omega) with hw | hw | hw
            · skip
              refine e_iconst (v := nI 0) f_199_124 (by decide) rfl ?_
              refine e_istore (L' := [some (.ref (269)), some (.int (nI st)), some (.int (nI ((j.getD st (0, 0, 0)).1))), some (.int (nI 4)), some (.int (nI 0)), none]) f_199_125 (Nat.le_of_ble_eq_true rfl) rfl rfl ?_
              refine e_iconst (v := nI 0) f_199_127 (by decide) rfl ?_
              refine e_istore (L' := [some (.ref (269)), some (.int (nI st)), some (.int (nI ((j.getD st (0, 0, 0)).1))), some (.int (nI 4)), some (.int (nI 0)), some (.int (nI 0))]) f_199_128 (Nat.le_of_ble_eq_true rfl) rfl rfl ?_
              refine e_iload f_199_130 rfl rfl ?_
              refine e_iload_n f_199_132 rfl rfl ?_
              refine e_icmp_ge_f f_199_133 (by decide) rfl ?_
              refine e_iload_n f_199_136 rfl rfl ?_
              refine e_iload f_199_137 rfl rfl ?_
              refine e_callS (As := [.int (nI ((j.getD st (0, 0, 0)).1)), .int (nI 0)]) (rest := []) f_199_139 rfl rfl rfl (Nat.le_of_ble_eq_true rfl) (Nat.le_of_ble_eq_true rfl) (cc_Md_sgo (s := (j.getD st (0, 0, 0)).1) (i := 0)  (by omega) (by omega)) rfl (fun h481 r482 q483 => ?_)
              obtain ⟨rfl, qe⟩ := q483
              have qe := qe.symm
              subst qe
              show px_to 199 142 [some (.ref (269)), some (.int (nI st)), some (.int (nI ((j.getD st (0, 0, 0)).1))), some (.int (nI 4)), some (.int (nI 0)), some (.int (nI 0))] [.int (nI (sgF ((j.getD st (0, 0, 0)).1) 0))] h1 _
              rw [show sgF (j.getD st (0, 0, 0)).1 0 = 43 by rw [c_105]; rfl]
              refine e_aload_n f_199_142 rfl rfl ?_
              refine e_getf f_199_143 g4 rfl rfl ?_
              refine e_iload_n f_199_146 rfl rfl ?_
              obtain ⟨hm485, fa486, fb487⟩ := fj_mid fr13
              have g484 : px_pa h1 272 52 6 stA j := pa_fi (pa_fi H2 fa486 (by omega)) fb487 (by omega)
              refine e_caload_p (xs := j) f_199_147 g484 (d := (0, 0, 0)) (by first | omega | (simp only [List.length_set]; omega)) rfl ?_
              show px_to 199 148 [some (.ref (269)), some (.int (nI st)), some (.int (nI ((j.getD st (0, 0, 0)).1))), some (.int (nI 4)), some (.int (nI 0)), some (.int (nI 0))] [.int (nI ((j.getD st (0, 0, 0)).2.1)), .int (nI 43)] h1 _
              rw [ha]
              refine e_icmp_eq_f f_199_148 (by decide) rfl ?_
              refine e_aload_n f_199_151 rfl rfl ?_
              refine e_getf f_199_152 g4 rfl rfl ?_
              refine e_iload_n f_199_155 rfl rfl ?_
              refine e_iload f_199_156 rfl rfl ?_
              refine e_aload_n f_199_158 rfl rfl ?_
              refine e_getf f_199_159 g4 rfl rfl ?_
              show px_to 199 162 [some (.ref (269)), some (.int (nI st)), some (.int (nI ((j.getD st (0, 0, 0)).1))), some (.int (nI 4)), some (.int (nI 0)), some (.int (nI 0))] [.int (nI wy), .int (nI 0), .int (nI st), .ref (285)] h1 _
              refine e_icmp_ne_f f_199_162 (by rw [hw]; decide) rfl ?_
              refine e_iload_n f_199_165 rfl rfl ?_
              refine e_iload f_199_166 rfl rfl ?_
              refine e_callS (As := [.int (nI ((j.getD st (0, 0, 0)).1)), .int (nI 0)]) (rest := [.int (nI st), .ref (285)]) f_199_168 rfl rfl rfl (Nat.le_of_ble_eq_true rfl) (Nat.le_of_ble_eq_true rfl) (cc_Md_sgo (s := (j.getD st (0, 0, 0)).1) (i := 0)  (by omega) (by omega)) rfl (fun h488 r489 q490 => ?_)
              obtain ⟨rfl, qe⟩ := q490
              have qe := qe.symm
              subst qe
              show px_to 199 171 [some (.ref (269)), some (.int (nI st)), some (.int (nI ((j.getD st (0, 0, 0)).1))), some (.int (nI 4)), some (.int (nI 0)), some (.int (nI 0))] [.int (nI (sgF ((j.getD st (0, 0, 0)).1) 0)), .int (nI st), .ref (285)] h1 _
              rw [show sgF (j.getD st (0, 0, 0)).1 0 = 43 by rw [c_105]; rfl]
              refine e_goto f_199_171 ?_
              refine e_castore_p (xs := j) (x := ((j.getD st (0, 0, 0)).1, 43, (j.getD st (0, 0, 0)).2.2)) f_199_180 g6 (by omega) (by first | omega | (simp only [List.length_set]; omega)) (nw_ch (n := 43) (by decide)) rfl (fun h491 g492 fx493 => ?_)
              have fr494 : px_fj 269 1 284 3 h h491 := fj_tr fr13 fx493 (by omega)
              refine e_iinc (y := nI 1) (L' := [some (.ref (269)), some (.int (nI st)), some (.int (nI ((j.getD st (0, 0, 0)).1))), some (.int (nI 4)), some (.int (nI 1)), some (.int (nI 0))]) f_199_181 rfl (by rw [show Int32.ofInt 1 = nI 1 by decide]; exact (nI_add _ _).trans (congrArg nI (by omega))) rfl rfl ?_
              refine e_iinc (y := nI 1) (L' := [some (.ref (269)), some (.int (nI st)), some (.int (nI ((j.getD st (0, 0, 0)).1))), some (.int (nI 4)), some (.int (nI 1)), some (.int (nI 1))]) f_199_184 rfl (by rw [show Int32.ofInt 1 = nI 1 by decide]; exact (nI_add _ _).trans (congrArg nI (by omega))) rfl rfl ?_
              refine e_goto f_199_187 ?_
              refine e_iload f_199_130 rfl rfl ?_
              refine e_iload_n f_199_132 rfl rfl ?_
              refine e_icmp_ge_f f_199_133 (by decide) rfl ?_
              refine e_iload_n f_199_136 rfl rfl ?_
              refine e_iload f_199_137 rfl rfl ?_
              refine e_callS (As := [.int (nI ((j.getD st (0, 0, 0)).1)), .int (nI 1)]) (rest := []) f_199_139 rfl rfl rfl (Nat.le_of_ble_eq_true rfl) (Nat.le_of_ble_eq_true rfl) (cc_Md_sgo (s := (j.getD st (0, 0, 0)).1) (i := 1)  (by omega) (by omega)) rfl (fun h495 r496 q497 => ?_)
              obtain ⟨rfl, qe⟩ := q497
              have qe := qe.symm
              subst qe
              show px_to 199 142 [some (.ref (269)), some (.int (nI st)), some (.int (nI ((j.getD st (0, 0, 0)).1))), some (.int (nI 4)), some (.int (nI 1)), some (.int (nI 1))] [.int (nI (sgF ((j.getD st (0, 0, 0)).1) 1))] h491 _
              rw [show sgF (j.getD st (0, 0, 0)).1 1 = 45 by rw [c_105]; rfl]
              refine e_aload_n f_199_142 rfl rfl ?_
              have g498 : h491.2.2 269 = some (12, mB (L, nI j.length, cn) gp (nI j.length, gq.2.1, gq.2.2.1, gq.2.2.2.1, gq.2.2.2.2.1, gq.2.2.2.2.2.1, gq.2.2.2.2.2.2) gh gw gu (gv.1, gv.2.1, gv.2.2.1, gv.2.2.2.1, gv.2.2.2.2.1, gv.2.2.2.2.2.1, gv.2.2.2.2.2.2.1, nI st, nI wy)) := fi_at g4 fx493 (by omega)
              refine e_getf f_199_143 g498 rfl rfl ?_
              refine e_iload_n f_199_146 rfl rfl ?_
              obtain ⟨hm500, fa501, fb502⟩ := fj_mid fr494
              have g499 : px_pa h491 272 52 6 stA j := pa_fi (pa_fi H2 fa501 (by omega)) fb502 (by omega)
              refine e_caload_p (xs := j) f_199_147 g499 (d := (0, 0, 0)) (by first | omega | (simp only [List.length_set]; omega)) rfl ?_
              show px_to 199 148 [some (.ref (269)), some (.int (nI st)), some (.int (nI ((j.getD st (0, 0, 0)).1))), some (.int (nI 4)), some (.int (nI 1)), some (.int (nI 1))] [.int (nI ((j.getD st (0, 0, 0)).2.1)), .int (nI 45)] h491 _
              rw [ha]
              refine e_icmp_eq_f f_199_148 (by decide) rfl ?_
              refine e_aload_n f_199_151 rfl rfl ?_
              refine e_getf f_199_152 g498 rfl rfl ?_
              refine e_iload_n f_199_155 rfl rfl ?_
              refine e_iload f_199_156 rfl rfl ?_
              refine e_aload_n f_199_158 rfl rfl ?_
              refine e_getf f_199_159 g498 rfl rfl ?_
              show px_to 199 162 [some (.ref (269)), some (.int (nI st)), some (.int (nI ((j.getD st (0, 0, 0)).1))), some (.int (nI 4)), some (.int (nI 1)), some (.int (nI 1))] [.int (nI wy), .int (nI 1), .int (nI st), .ref (285)] h491 _
              refine e_icmp_ne_t f_199_162 (by rw [hw]; decide) ?_
              refine e_aload_n f_199_174 rfl rfl ?_
              refine e_getf f_199_175 g498 rfl rfl ?_
              refine e_iload_n f_199_178 rfl rfl ?_
              refine e_caload_p (xs := j.set st ((j.getD st (0, 0, 0)).1, 43, (j.getD st (0, 0, 0)).2.2)) f_199_179 g492 (d := (0, 0, 0)) (by first | omega | (simp only [List.length_set]; omega)) rfl ?_
              show px_to 199 180 [some (.ref (269)), some (.int (nI st)), some (.int (nI ((j.getD st (0, 0, 0)).1))), some (.int (nI 4)), some (.int (nI 1)), some (.int (nI 1))] [.int (nI (((j.set st ((j.getD st (0, 0, 0)).1, 43, (j.getD st (0, 0, 0)).2.2)).getD st (0, 0, 0)).2.1)), .int (nI st), .ref (285)] h491 _
              rw [getD_set_same (by first | omega | (simp only [List.length_set]; omega))]
              refine e_castore_p (xs := j.set st ((j.getD st (0, 0, 0)).1, 43, (j.getD st (0, 0, 0)).2.2)) (x := ((j.getD st (0, 0, 0)).1, 43, (j.getD st (0, 0, 0)).2.2)) f_199_180 g492 (by omega) (by first | omega | (simp only [List.length_set]; omega)) (nw_ch (n := 43) (by decide)) rfl (fun h503 g504 fx505 => ?_)
              have fr506 : px_fj 269 1 284 3 h h503 := fj_tr fr494 fx505 (by omega)
              refine e_iinc (y := nI 2) (L' := [some (.ref (269)), some (.int (nI st)), some (.int (nI ((j.getD st (0, 0, 0)).1))), some (.int (nI 4)), some (.int (nI 2)), some (.int (nI 1))]) f_199_181 rfl (by rw [show Int32.ofInt 1 = nI 1 by decide]; exact (nI_add _ _).trans (congrArg nI (by omega))) rfl rfl ?_
              refine e_iinc (y := nI 2) (L' := [some (.ref (269)), some (.int (nI st)), some (.int (nI ((j.getD st (0, 0, 0)).1))), some (.int (nI 4)), some (.int (nI 2)), some (.int (nI 2))]) f_199_184 rfl (by rw [show Int32.ofInt 1 = nI 1 by decide]; exact (nI_add _ _).trans (congrArg nI (by omega))) rfl rfl ?_
              refine e_goto f_199_187 ?_
              refine e_iload f_199_130 rfl rfl ?_
              refine e_iload_n f_199_132 rfl rfl ?_
              refine e_icmp_ge_f f_199_133 (by decide) rfl ?_
              refine e_iload_n f_199_136 rfl rfl ?_
              refine e_iload f_199_137 rfl rfl ?_
              refine e_callS (As := [.int (nI ((j.getD st (0, 0, 0)).1)), .int (nI 2)]) (rest := []) f_199_139 rfl rfl rfl (Nat.le_of_ble_eq_true rfl) (Nat.le_of_ble_eq_true rfl) (cc_Md_sgo (s := (j.getD st (0, 0, 0)).1) (i := 2)  (by omega) (by omega)) rfl (fun h507 r508 q509 => ?_)
              obtain ⟨rfl, qe⟩ := q509
              have qe := qe.symm
              subst qe
              show px_to 199 142 [some (.ref (269)), some (.int (nI st)), some (.int (nI ((j.getD st (0, 0, 0)).1))), some (.int (nI 4)), some (.int (nI 2)), some (.int (nI 2))] [.int (nI (sgF ((j.getD st (0, 0, 0)).1) 2))] h503 _
              rw [show sgF (j.getD st (0, 0, 0)).1 2 = 42 by rw [c_105]; rfl]
              refine e_aload_n f_199_142 rfl rfl ?_
              have g510 : h503.2.2 269 = some (12, mB (L, nI j.length, cn) gp (nI j.length, gq.2.1, gq.2.2.1, gq.2.2.2.1, gq.2.2.2.2.1, gq.2.2.2.2.2.1, gq.2.2.2.2.2.2) gh gw gu (gv.1, gv.2.1, gv.2.2.1, gv.2.2.2.1, gv.2.2.2.2.1, gv.2.2.2.2.2.1, gv.2.2.2.2.2.2.1, nI st, nI wy)) := fi_at g498 fx505 (by omega)
              refine e_getf f_199_143 g510 rfl rfl ?_
              refine e_iload_n f_199_146 rfl rfl ?_
              obtain ⟨hm512, fa513, fb514⟩ := fj_mid fr506
              have g511 : px_pa h503 272 52 6 stA j := pa_fi (pa_fi H2 fa513 (by omega)) fb514 (by omega)
              refine e_caload_p (xs := j) f_199_147 g511 (d := (0, 0, 0)) (by first | omega | (simp only [List.length_set]; omega)) rfl ?_
              show px_to 199 148 [some (.ref (269)), some (.int (nI st)), some (.int (nI ((j.getD st (0, 0, 0)).1))), some (.int (nI 4)), some (.int (nI 2)), some (.int (nI 2))] [.int (nI ((j.getD st (0, 0, 0)).2.1)), .int (nI 42)] h503 _
              rw [ha]
              refine e_icmp_eq_f f_199_148 (by decide) rfl ?_
              refine e_aload_n f_199_151 rfl rfl ?_
              refine e_getf f_199_152 g510 rfl rfl ?_
              refine e_iload_n f_199_155 rfl rfl ?_
              refine e_iload f_199_156 rfl rfl ?_
              refine e_aload_n f_199_158 rfl rfl ?_
              refine e_getf f_199_159 g510 rfl rfl ?_
              show px_to 199 162 [some (.ref (269)), some (.int (nI st)), some (.int (nI ((j.getD st (0, 0, 0)).1))), some (.int (nI 4)), some (.int (nI 2)), some (.int (nI 2))] [.int (nI wy), .int (nI 2), .int (nI st), .ref (285)] h503 _
              refine e_icmp_ne_t f_199_162 (by rw [hw]; decide) ?_
              refine e_aload_n f_199_174 rfl rfl ?_
              refine e_getf f_199_175 g510 rfl rfl ?_
              refine e_iload_n f_199_178 rfl rfl ?_
              refine e_caload_p (xs := (j.set st ((j.getD st (0, 0, 0)).1, 43, (j.getD st (0, 0, 0)).2.2)).set st ((j.getD st (0, 0, 0)).1, 43, (j.getD st (0, 0, 0)).2.2)) f_199_179 g504 (d := (0, 0, 0)) (by first | omega | (simp only [List.length_set]; omega)) rfl ?_
              show px_to 199 180 [some (.ref (269)), some (.int (nI st)), some (.int (nI ((j.getD st (0, 0, 0)).1))), some (.int (nI 4)), some (.int (nI 2)), some (.int (nI 2))] [.int (nI ((((j.set st ((j.getD st (0, 0, 0)).1, 43, (j.getD st (0, 0, 0)).2.2)).set st ((j.getD st (0, 0, 0)).1, 43, (j.getD st (0, 0, 0)).2.2)).getD st (0, 0, 0)).2.1)), .int (nI st), .ref (285)] h503 _
              rw [getD_set_same (by first | omega | (simp only [List.length_set]; omega))]
              refine e_castore_p (xs := (j.set st ((j.getD st (0, 0, 0)).1, 43, (j.getD st (0, 0, 0)).2.2)).set st ((j.getD st (0, 0, 0)).1, 43, (j.getD st (0, 0, 0)).2.2)) (x := ((j.getD st (0, 0, 0)).1, 43, (j.getD st (0, 0, 0)).2.2)) f_199_180 g504 (by omega) (by first | omega | (simp only [List.length_set]; omega)) (nw_ch (n := 43) (by decide)) rfl (fun h515 g516 fx517 => ?_)
              have fr518 : px_fj 269 1 284 3 h h515 := fj_tr fr506 fx517 (by omega)
              refine e_iinc (y := nI 3) (L' := [some (.ref (269)), some (.int (nI st)), some (.int (nI ((j.getD st (0, 0, 0)).1))), some (.int (nI 4)), some (.int (nI 3)), some (.int (nI 2))]) f_199_181 rfl (by rw [show Int32.ofInt 1 = nI 1 by decide]; exact (nI_add _ _).trans (congrArg nI (by omega))) rfl rfl ?_
              refine e_iinc (y := nI 3) (L' := [some (.ref (269)), some (.int (nI st)), some (.int (nI ((j.getD st (0, 0, 0)).1))), some (.int (nI 4)), some (.int (nI 3)), some (.int (nI 3))]) f_199_184 rfl (by rw [show Int32.ofInt 1 = nI 1 by decide]; exact (nI_add _ _).trans (congrArg nI (by omega))) rfl rfl ?_
              refine e_goto f_199_187 ?_
              refine e_iload f_199_130 rfl rfl ?_
              refine e_iload_n f_199_132 rfl rfl ?_
              refine e_icmp_ge_f f_199_133 (by decide) rfl ?_
              refine e_iload_n f_199_136 rfl rfl ?_
              refine e_iload f_199_137 rfl rfl ?_
              refine e_callS (As := [.int (nI ((j.getD st (0, 0, 0)).1)), .int (nI 3)]) (rest := []) f_199_139 rfl rfl rfl (Nat.le_of_ble_eq_true rfl) (Nat.le_of_ble_eq_true rfl) (cc_Md_sgo (s := (j.getD st (0, 0, 0)).1) (i := 3)  (by omega) (by omega)) rfl (fun h519 r520 q521 => ?_)
              obtain ⟨rfl, qe⟩ := q521
              have qe := qe.symm
              subst qe
              show px_to 199 142 [some (.ref (269)), some (.int (nI st)), some (.int (nI ((j.getD st (0, 0, 0)).1))), some (.int (nI 4)), some (.int (nI 3)), some (.int (nI 3))] [.int (nI (sgF ((j.getD st (0, 0, 0)).1) 3))] h515 _
              rw [show sgF (j.getD st (0, 0, 0)).1 3 = 47 by rw [c_105]; rfl]
              refine e_aload_n f_199_142 rfl rfl ?_
              have g522 : h515.2.2 269 = some (12, mB (L, nI j.length, cn) gp (nI j.length, gq.2.1, gq.2.2.1, gq.2.2.2.1, gq.2.2.2.2.1, gq.2.2.2.2.2.1, gq.2.2.2.2.2.2) gh gw gu (gv.1, gv.2.1, gv.2.2.1, gv.2.2.2.1, gv.2.2.2.2.1, gv.2.2.2.2.2.1, gv.2.2.2.2.2.2.1, nI st, nI wy)) := fi_at g510 fx517 (by omega)
              refine e_getf f_199_143 g522 rfl rfl ?_
              refine e_iload_n f_199_146 rfl rfl ?_
              obtain ⟨hm524, fa525, fb526⟩ := fj_mid fr518
              have g523 : px_pa h515 272 52 6 stA j := pa_fi (pa_fi H2 fa525 (by omega)) fb526 (by omega)
              refine e_caload_p (xs := j) f_199_147 g523 (d := (0, 0, 0)) (by first | omega | (simp only [List.length_set]; omega)) rfl ?_
              show px_to 199 148 [some (.ref (269)), some (.int (nI st)), some (.int (nI ((j.getD st (0, 0, 0)).1))), some (.int (nI 4)), some (.int (nI 3)), some (.int (nI 3))] [.int (nI ((j.getD st (0, 0, 0)).2.1)), .int (nI 47)] h515 _
              rw [ha]
              refine e_icmp_eq_t f_199_148 (by decide) ?_
              refine e_iinc (y := nI 4) (L' := [some (.ref (269)), some (.int (nI st)), some (.int (nI ((j.getD st (0, 0, 0)).1))), some (.int (nI 4)), some (.int (nI 3)), some (.int (nI 4))]) f_199_184 rfl (by rw [show Int32.ofInt 1 = nI 1 by decide]; exact (nI_add _ _).trans (congrArg nI (by omega))) rfl rfl ?_
              refine e_goto f_199_187 ?_
              refine e_iload f_199_130 rfl rfl ?_
              refine e_iload_n f_199_132 rfl rfl ?_
              refine e_icmp_ge_t f_199_133 (by decide) ?_
              refine e_goto f_199_190 ?_
              refine e_vret f_199_217 rfl ?_
              have hnl := of_decide_eq_false c_13
              have em : mutGo st wy j 0 = j.set st (chg (j.getD st (0, 0, 0)) wy) := mutGo_set wy j st 0 p1 (by omega)
              rw [em]
              have g527 : px_pa h491 284 52 6 stS j := pa_fi g5 fx493 (by omega)
              have g528 : px_pa h503 284 52 6 stS j := pa_fi g527 fx505 (by omega)
              have g529 : px_pa h515 284 52 6 stS j := pa_fi g528 fx517 (by omega)
              have g530 : px_pa h491 286 50 6 stN j := pa_fi g7 fx493 (by omega)
              have g531 : px_pa h503 286 50 6 stN j := pa_fi g530 fx505 (by omega)
              have g532 : px_pa h515 286 50 6 stN j := pa_fi g531 fx517 (by omega)
              have ho : othN (j.getD st (0, 0, 0)) = 3 := by unfold othN; rw [if_neg c_95, if_pos c_105]
              have hc : chg (j.getD st (0, 0, 0)) wy = ((j.getD st (0, 0, 0)).1, 43, (j.getD st (0, 0, 0)).2.2) := by unfold chg; rw [if_pos (by omega), ha, hw, c_105]; rfl
              rw [hc]
              have hset : ((j.set st ((j.getD st (0, 0, 0)).1, 43, (j.getD st (0, 0, 0)).2.2)).set st ((j.getD st (0, 0, 0)).1, 43, (j.getD st (0, 0, 0)).2.2)).set st ((j.getD st (0, 0, 0)).1, 43, (j.getD st (0, 0, 0)).2.2) = j.set st ((j.getD st (0, 0, 0)).1, 43, (j.getD st (0, 0, 0)).2.2) := by simp only [List.set_set]
              exact ⟨rfl, by rw [List.length_set]; exact g522, pa_cg g529 (set_stS p1), pa_eq g516 hset, pa_cg g532 (set_stN p1), fr518⟩
            · skip
              refine e_iconst (v := nI 0) f_199_124 (by decide) rfl ?_
              refine e_istore (L' := [some (.ref (269)), some (.int (nI st)), some (.int (nI ((j.getD st (0, 0, 0)).1))), some (.int (nI 4)), some (.int (nI 0)), none]) f_199_125 (Nat.le_of_ble_eq_true rfl) rfl rfl ?_
              refine e_iconst (v := nI 0) f_199_127 (by decide) rfl ?_
              refine e_istore (L' := [some (.ref (269)), some (.int (nI st)), some (.int (nI ((j.getD st (0, 0, 0)).1))), some (.int (nI 4)), some (.int (nI 0)), some (.int (nI 0))]) f_199_128 (Nat.le_of_ble_eq_true rfl) rfl rfl ?_
              refine e_iload f_199_130 rfl rfl ?_
              refine e_iload_n f_199_132 rfl rfl ?_
              refine e_icmp_ge_f f_199_133 (by decide) rfl ?_
              refine e_iload_n f_199_136 rfl rfl ?_
              refine e_iload f_199_137 rfl rfl ?_
              refine e_callS (As := [.int (nI ((j.getD st (0, 0, 0)).1)), .int (nI 0)]) (rest := []) f_199_139 rfl rfl rfl (Nat.le_of_ble_eq_true rfl) (Nat.le_of_ble_eq_true rfl) (cc_Md_sgo (s := (j.getD st (0, 0, 0)).1) (i := 0)  (by omega) (by omega)) rfl (fun h533 r534 q535 => ?_)
              obtain ⟨rfl, qe⟩ := q535
              have qe := qe.symm
              subst qe
              show px_to 199 142 [some (.ref (269)), some (.int (nI st)), some (.int (nI ((j.getD st (0, 0, 0)).1))), some (.int (nI 4)), some (.int (nI 0)), some (.int (nI 0))] [.int (nI (sgF ((j.getD st (0, 0, 0)).1) 0))] h1 _
              rw [show sgF (j.getD st (0, 0, 0)).1 0 = 43 by rw [c_105]; rfl]
              refine e_aload_n f_199_142 rfl rfl ?_
              refine e_getf f_199_143 g4 rfl rfl ?_
              refine e_iload_n f_199_146 rfl rfl ?_
              obtain ⟨hm537, fa538, fb539⟩ := fj_mid fr13
              have g536 : px_pa h1 272 52 6 stA j := pa_fi (pa_fi H2 fa538 (by omega)) fb539 (by omega)
              refine e_caload_p (xs := j) f_199_147 g536 (d := (0, 0, 0)) (by first | omega | (simp only [List.length_set]; omega)) rfl ?_
              show px_to 199 148 [some (.ref (269)), some (.int (nI st)), some (.int (nI ((j.getD st (0, 0, 0)).1))), some (.int (nI 4)), some (.int (nI 0)), some (.int (nI 0))] [.int (nI ((j.getD st (0, 0, 0)).2.1)), .int (nI 43)] h1 _
              rw [ha]
              refine e_icmp_eq_f f_199_148 (by decide) rfl ?_
              refine e_aload_n f_199_151 rfl rfl ?_
              refine e_getf f_199_152 g4 rfl rfl ?_
              refine e_iload_n f_199_155 rfl rfl ?_
              refine e_iload f_199_156 rfl rfl ?_
              refine e_aload_n f_199_158 rfl rfl ?_
              refine e_getf f_199_159 g4 rfl rfl ?_
              show px_to 199 162 [some (.ref (269)), some (.int (nI st)), some (.int (nI ((j.getD st (0, 0, 0)).1))), some (.int (nI 4)), some (.int (nI 0)), some (.int (nI 0))] [.int (nI wy), .int (nI 0), .int (nI st), .ref (285)] h1 _
              refine e_icmp_ne_t f_199_162 (by rw [hw]; decide) ?_
              refine e_aload_n f_199_174 rfl rfl ?_
              refine e_getf f_199_175 g4 rfl rfl ?_
              refine e_iload_n f_199_178 rfl rfl ?_
              refine e_caload_p (xs := j) f_199_179 g6 (d := (0, 0, 0)) (by first | omega | (simp only [List.length_set]; omega)) rfl ?_
              show px_to 199 180 [some (.ref (269)), some (.int (nI st)), some (.int (nI ((j.getD st (0, 0, 0)).1))), some (.int (nI 4)), some (.int (nI 0)), some (.int (nI 0))] [.int (nI ((j.getD st (0, 0, 0)).2.1)), .int (nI st), .ref (285)] h1 _
              rw [ha]
              refine e_castore_p (xs := j) (x := ((j.getD st (0, 0, 0)).1, 47, (j.getD st (0, 0, 0)).2.2)) f_199_180 g6 (by omega) (by first | omega | (simp only [List.length_set]; omega)) (nw_ch (n := 47) (by decide)) rfl (fun h540 g541 fx542 => ?_)
              have fr543 : px_fj 269 1 284 3 h h540 := fj_tr fr13 fx542 (by omega)
              refine e_iinc (y := nI 1) (L' := [some (.ref (269)), some (.int (nI st)), some (.int (nI ((j.getD st (0, 0, 0)).1))), some (.int (nI 4)), some (.int (nI 1)), some (.int (nI 0))]) f_199_181 rfl (by rw [show Int32.ofInt 1 = nI 1 by decide]; exact (nI_add _ _).trans (congrArg nI (by omega))) rfl rfl ?_
              refine e_iinc (y := nI 1) (L' := [some (.ref (269)), some (.int (nI st)), some (.int (nI ((j.getD st (0, 0, 0)).1))), some (.int (nI 4)), some (.int (nI 1)), some (.int (nI 1))]) f_199_184 rfl (by rw [show Int32.ofInt 1 = nI 1 by decide]; exact (nI_add _ _).trans (congrArg nI (by omega))) rfl rfl ?_
              refine e_goto f_199_187 ?_
              refine e_iload f_199_130 rfl rfl ?_
              refine e_iload_n f_199_132 rfl rfl ?_
              refine e_icmp_ge_f f_199_133 (by decide) rfl ?_
              refine e_iload_n f_199_136 rfl rfl ?_
              refine e_iload f_199_137 rfl rfl ?_
              refine e_callS (As := [.int (nI ((j.getD st (0, 0, 0)).1)), .int (nI 1)]) (rest := []) f_199_139 rfl rfl rfl (Nat.le_of_ble_eq_true rfl) (Nat.le_of_ble_eq_true rfl) (cc_Md_sgo (s := (j.getD st (0, 0, 0)).1) (i := 1)  (by omega) (by omega)) rfl (fun h544 r545 q546 => ?_)
              obtain ⟨rfl, qe⟩ := q546
              have qe := qe.symm
              subst qe
              show px_to 199 142 [some (.ref (269)), some (.int (nI st)), some (.int (nI ((j.getD st (0, 0, 0)).1))), some (.int (nI 4)), some (.int (nI 1)), some (.int (nI 1))] [.int (nI (sgF ((j.getD st (0, 0, 0)).1) 1))] h540 _
              rw [show sgF (j.getD st (0, 0, 0)).1 1 = 45 by rw [c_105]; rfl]
              refine e_aload_n f_199_142 rfl rfl ?_
              have g547 : h540.2.2 269 = some (12, mB (L, nI j.length, cn) gp (nI j.length, gq.2.1, gq.2.2.1, gq.2.2.2.1, gq.2.2.2.2.1, gq.2.2.2.2.2.1, gq.2.2.2.2.2.2) gh gw gu (gv.1, gv.2.1, gv.2.2.1, gv.2.2.2.1, gv.2.2.2.2.1, gv.2.2.2.2.2.1, gv.2.2.2.2.2.2.1, nI st, nI wy)) := fi_at g4 fx542 (by omega)
              refine e_getf f_199_143 g547 rfl rfl ?_
              refine e_iload_n f_199_146 rfl rfl ?_
              obtain ⟨hm549, fa550, fb551⟩ := fj_mid fr543
              have g548 : px_pa h540 272 52 6 stA j := pa_fi (pa_fi H2 fa550 (by omega)) fb551 (by omega)
              refine e_caload_p (xs := j) f_199_147 g548 (d := (0, 0, 0)) (by first | omega | (simp only [List.length_set]; omega)) rfl ?_
              show px_to 199 148 [some (.ref (269)), some (.int (nI st)), some (.int (nI ((j.getD st (0, 0, 0)).1))), some (.int (nI 4)), some (.int (nI 1)), some (.int (nI 1))] [.int (nI ((j.getD st (0, 0, 0)).2.1)), .int (nI 45)] h540 _
              rw [ha]
              refine e_icmp_eq_f f_199_148 (by decide) rfl ?_
              refine e_aload_n f_199_151 rfl rfl ?_
              refine e_getf f_199_152 g547 rfl rfl ?_
              refine e_iload_n f_199_155 rfl rfl ?_
              refine e_iload f_199_156 rfl rfl ?_
              refine e_aload_n f_199_158 rfl rfl ?_
              refine e_getf f_199_159 g547 rfl rfl ?_
              show px_to 199 162 [some (.ref (269)), some (.int (nI st)), some (.int (nI ((j.getD st (0, 0, 0)).1))), some (.int (nI 4)), some (.int (nI 1)), some (.int (nI 1))] [.int (nI wy), .int (nI 1), .int (nI st), .ref (285)] h540 _
              refine e_icmp_ne_f f_199_162 (by rw [hw]; decide) rfl ?_
              refine e_iload_n f_199_165 rfl rfl ?_
              refine e_iload f_199_166 rfl rfl ?_
              refine e_callS (As := [.int (nI ((j.getD st (0, 0, 0)).1)), .int (nI 1)]) (rest := [.int (nI st), .ref (285)]) f_199_168 rfl rfl rfl (Nat.le_of_ble_eq_true rfl) (Nat.le_of_ble_eq_true rfl) (cc_Md_sgo (s := (j.getD st (0, 0, 0)).1) (i := 1)  (by omega) (by omega)) rfl (fun h552 r553 q554 => ?_)
              obtain ⟨rfl, qe⟩ := q554
              have qe := qe.symm
              subst qe
              show px_to 199 171 [some (.ref (269)), some (.int (nI st)), some (.int (nI ((j.getD st (0, 0, 0)).1))), some (.int (nI 4)), some (.int (nI 1)), some (.int (nI 1))] [.int (nI (sgF ((j.getD st (0, 0, 0)).1) 1)), .int (nI st), .ref (285)] h540 _
              rw [show sgF (j.getD st (0, 0, 0)).1 1 = 45 by rw [c_105]; rfl]
              refine e_goto f_199_171 ?_
              refine e_castore_p (xs := j.set st ((j.getD st (0, 0, 0)).1, 47, (j.getD st (0, 0, 0)).2.2)) (x := ((j.getD st (0, 0, 0)).1, 45, (j.getD st (0, 0, 0)).2.2)) f_199_180 g541 (by omega) (by first | omega | (simp only [List.length_set]; omega)) (nw_ch (n := 45) (by decide)) rfl (fun h555 g556 fx557 => ?_)
              have fr558 : px_fj 269 1 284 3 h h555 := fj_tr fr543 fx557 (by omega)
              refine e_iinc (y := nI 2) (L' := [some (.ref (269)), some (.int (nI st)), some (.int (nI ((j.getD st (0, 0, 0)).1))), some (.int (nI 4)), some (.int (nI 2)), some (.int (nI 1))]) f_199_181 rfl (by rw [show Int32.ofInt 1 = nI 1 by decide]; exact (nI_add _ _).trans (congrArg nI (by omega))) rfl rfl ?_
              refine e_iinc (y := nI 2) (L' := [some (.ref (269)), some (.int (nI st)), some (.int (nI ((j.getD st (0, 0, 0)).1))), some (.int (nI 4)), some (.int (nI 2)), some (.int (nI 2))]) f_199_184 rfl (by rw [show Int32.ofInt 1 = nI 1 by decide]; exact (nI_add _ _).trans (congrArg nI (by omega))) rfl rfl ?_
              refine e_goto f_199_187 ?_
              refine e_iload f_199_130 rfl rfl ?_
              refine e_iload_n f_199_132 rfl rfl ?_
              refine e_icmp_ge_f f_199_133 (by decide) rfl ?_
              refine e_iload_n f_199_136 rfl rfl ?_
              refine e_iload f_199_137 rfl rfl ?_
              refine e_callS (As := [.int (nI ((j.getD st (0, 0, 0)).1)), .int (nI 2)]) (rest := []) f_199_139 rfl rfl rfl (Nat.le_of_ble_eq_true rfl) (Nat.le_of_ble_eq_true rfl) (cc_Md_sgo (s := (j.getD st (0, 0, 0)).1) (i := 2)  (by omega) (by omega)) rfl (fun h559 r560 q561 => ?_)
              obtain ⟨rfl, qe⟩ := q561
              have qe := qe.symm
              subst qe
              show px_to 199 142 [some (.ref (269)), some (.int (nI st)), some (.int (nI ((j.getD st (0, 0, 0)).1))), some (.int (nI 4)), some (.int (nI 2)), some (.int (nI 2))] [.int (nI (sgF ((j.getD st (0, 0, 0)).1) 2))] h555 _
              rw [show sgF (j.getD st (0, 0, 0)).1 2 = 42 by rw [c_105]; rfl]
              refine e_aload_n f_199_142 rfl rfl ?_
              have g562 : h555.2.2 269 = some (12, mB (L, nI j.length, cn) gp (nI j.length, gq.2.1, gq.2.2.1, gq.2.2.2.1, gq.2.2.2.2.1, gq.2.2.2.2.2.1, gq.2.2.2.2.2.2) gh gw gu (gv.1, gv.2.1, gv.2.2.1, gv.2.2.2.1, gv.2.2.2.2.1, gv.2.2.2.2.2.1, gv.2.2.2.2.2.2.1, nI st, nI wy)) := fi_at g547 fx557 (by omega)
              refine e_getf f_199_143 g562 rfl rfl ?_
              refine e_iload_n f_199_146 rfl rfl ?_
              obtain ⟨hm564, fa565, fb566⟩ := fj_mid fr558
              have g563 : px_pa h555 272 52 6 stA j := pa_fi (pa_fi H2 fa565 (by omega)) fb566 (by omega)
              refine e_caload_p (xs := j) f_199_147 g563 (d := (0, 0, 0)) (by first | omega | (simp only [List.length_set]; omega)) rfl ?_
              show px_to 199 148 [some (.ref (269)), some (.int (nI st)), some (.int (nI ((j.getD st (0, 0, 0)).1))), some (.int (nI 4)), some (.int (nI 2)), some (.int (nI 2))] [.int (nI ((j.getD st (0, 0, 0)).2.1)), .int (nI 42)] h555 _
              rw [ha]
              refine e_icmp_eq_f f_199_148 (by decide) rfl ?_
              refine e_aload_n f_199_151 rfl rfl ?_
              refine e_getf f_199_152 g562 rfl rfl ?_
              refine e_iload_n f_199_155 rfl rfl ?_
              refine e_iload f_199_156 rfl rfl ?_
              refine e_aload_n f_199_158 rfl rfl ?_
              refine e_getf f_199_159 g562 rfl rfl ?_
              show px_to 199 162 [some (.ref (269)), some (.int (nI st)), some (.int (nI ((j.getD st (0, 0, 0)).1))), some (.int (nI 4)), some (.int (nI 2)), some (.int (nI 2))] [.int (nI wy), .int (nI 2), .int (nI st), .ref (285)] h555 _
              refine e_icmp_ne_t f_199_162 (by rw [hw]; decide) ?_
              refine e_aload_n f_199_174 rfl rfl ?_
              refine e_getf f_199_175 g562 rfl rfl ?_
              refine e_iload_n f_199_178 rfl rfl ?_
              refine e_caload_p (xs := (j.set st ((j.getD st (0, 0, 0)).1, 47, (j.getD st (0, 0, 0)).2.2)).set st ((j.getD st (0, 0, 0)).1, 45, (j.getD st (0, 0, 0)).2.2)) f_199_179 g556 (d := (0, 0, 0)) (by first | omega | (simp only [List.length_set]; omega)) rfl ?_
              show px_to 199 180 [some (.ref (269)), some (.int (nI st)), some (.int (nI ((j.getD st (0, 0, 0)).1))), some (.int (nI 4)), some (.int (nI 2)), some (.int (nI 2))] [.int (nI ((((j.set st ((j.getD st (0, 0, 0)).1, 47, (j.getD st (0, 0, 0)).2.2)).set st ((j.getD st (0, 0, 0)).1, 45, (j.getD st (0, 0, 0)).2.2)).getD st (0, 0, 0)).2.1)), .int (nI st), .ref (285)] h555 _
              rw [getD_set_same (by first | omega | (simp only [List.length_set]; omega))]
              refine e_castore_p (xs := (j.set st ((j.getD st (0, 0, 0)).1, 47, (j.getD st (0, 0, 0)).2.2)).set st ((j.getD st (0, 0, 0)).1, 45, (j.getD st (0, 0, 0)).2.2)) (x := ((j.getD st (0, 0, 0)).1, 45, (j.getD st (0, 0, 0)).2.2)) f_199_180 g556 (by omega) (by first | omega | (simp only [List.length_set]; omega)) (nw_ch (n := 45) (by decide)) rfl (fun h567 g568 fx569 => ?_)
              have fr570 : px_fj 269 1 284 3 h h567 := fj_tr fr558 fx569 (by omega)
              refine e_iinc (y := nI 3) (L' := [some (.ref (269)), some (.int (nI st)), some (.int (nI ((j.getD st (0, 0, 0)).1))), some (.int (nI 4)), some (.int (nI 3)), some (.int (nI 2))]) f_199_181 rfl (by rw [show Int32.ofInt 1 = nI 1 by decide]; exact (nI_add _ _).trans (congrArg nI (by omega))) rfl rfl ?_
              refine e_iinc (y := nI 3) (L' := [some (.ref (269)), some (.int (nI st)), some (.int (nI ((j.getD st (0, 0, 0)).1))), some (.int (nI 4)), some (.int (nI 3)), some (.int (nI 3))]) f_199_184 rfl (by rw [show Int32.ofInt 1 = nI 1 by decide]; exact (nI_add _ _).trans (congrArg nI (by omega))) rfl rfl ?_
              refine e_goto f_199_187 ?_
              refine e_iload f_199_130 rfl rfl ?_
              refine e_iload_n f_199_132 rfl rfl ?_
              refine e_icmp_ge_f f_199_133 (by decide) rfl ?_
              refine e_iload_n f_199_136 rfl rfl ?_
              refine e_iload f_199_137 rfl rfl ?_
              refine e_callS (As := [.int (nI ((j.getD st (0, 0, 0)).1)), .int (nI 3)]) (rest := []) f_199_139 rfl rfl rfl (Nat.le_of_ble_eq_true rfl) (Nat.le_of_ble_eq_true rfl) (cc_Md_sgo (s := (j.getD st (0, 0, 0)).1) (i := 3)  (by omega) (by omega)) rfl (fun h571 r572 q573 => ?_)
              obtain ⟨rfl, qe⟩ := q573
              have qe := qe.symm
              subst qe
              show px_to 199 142 [some (.ref (269)), some (.int (nI st)), some (.int (nI ((j.getD st (0, 0, 0)).1))), some (.int (nI 4)), some (.int (nI 3)), some (.int (nI 3))] [.int (nI (sgF ((j.getD st (0, 0, 0)).1) 3))] h567 _
              rw [show sgF (j.getD st (0, 0, 0)).1 3 = 47 by rw [c_105]; rfl]
              refine e_aload_n f_199_142 rfl rfl ?_
              have g574 : h567.2.2 269 = some (12, mB (L, nI j.length, cn) gp (nI j.length, gq.2.1, gq.2.2.1, gq.2.2.2.1, gq.2.2.2.2.1, gq.2.2.2.2.2.1, gq.2.2.2.2.2.2) gh gw gu (gv.1, gv.2.1, gv.2.2.1, gv.2.2.2.1, gv.2.2.2.2.1, gv.2.2.2.2.2.1, gv.2.2.2.2.2.2.1, nI st, nI wy)) := fi_at g562 fx569 (by omega)
              refine e_getf f_199_143 g574 rfl rfl ?_
              refine e_iload_n f_199_146 rfl rfl ?_
              obtain ⟨hm576, fa577, fb578⟩ := fj_mid fr570
              have g575 : px_pa h567 272 52 6 stA j := pa_fi (pa_fi H2 fa577 (by omega)) fb578 (by omega)
              refine e_caload_p (xs := j) f_199_147 g575 (d := (0, 0, 0)) (by first | omega | (simp only [List.length_set]; omega)) rfl ?_
              show px_to 199 148 [some (.ref (269)), some (.int (nI st)), some (.int (nI ((j.getD st (0, 0, 0)).1))), some (.int (nI 4)), some (.int (nI 3)), some (.int (nI 3))] [.int (nI ((j.getD st (0, 0, 0)).2.1)), .int (nI 47)] h567 _
              rw [ha]
              refine e_icmp_eq_t f_199_148 (by decide) ?_
              refine e_iinc (y := nI 4) (L' := [some (.ref (269)), some (.int (nI st)), some (.int (nI ((j.getD st (0, 0, 0)).1))), some (.int (nI 4)), some (.int (nI 3)), some (.int (nI 4))]) f_199_184 rfl (by rw [show Int32.ofInt 1 = nI 1 by decide]; exact (nI_add _ _).trans (congrArg nI (by omega))) rfl rfl ?_
              refine e_goto f_199_187 ?_
              refine e_iload f_199_130 rfl rfl ?_
              refine e_iload_n f_199_132 rfl rfl ?_
              refine e_icmp_ge_t f_199_133 (by decide) ?_
              refine e_goto f_199_190 ?_
              refine e_vret f_199_217 rfl ?_
              have hnl := of_decide_eq_false c_13
              have em : mutGo st wy j 0 = j.set st (chg (j.getD st (0, 0, 0)) wy) := mutGo_set wy j st 0 p1 (by omega)
              rw [em]
              have g579 : px_pa h540 284 52 6 stS j := pa_fi g5 fx542 (by omega)
              have g580 : px_pa h555 284 52 6 stS j := pa_fi g579 fx557 (by omega)
              have g581 : px_pa h567 284 52 6 stS j := pa_fi g580 fx569 (by omega)
              have g582 : px_pa h540 286 50 6 stN j := pa_fi g7 fx542 (by omega)
              have g583 : px_pa h555 286 50 6 stN j := pa_fi g582 fx557 (by omega)
              have g584 : px_pa h567 286 50 6 stN j := pa_fi g583 fx569 (by omega)
              have ho : othN (j.getD st (0, 0, 0)) = 3 := by unfold othN; rw [if_neg c_95, if_pos c_105]
              have hc : chg (j.getD st (0, 0, 0)) wy = ((j.getD st (0, 0, 0)).1, 45, (j.getD st (0, 0, 0)).2.2) := by unfold chg; rw [if_pos (by omega), ha, hw, c_105]; rfl
              rw [hc]
              have hset : ((j.set st ((j.getD st (0, 0, 0)).1, 47, (j.getD st (0, 0, 0)).2.2)).set st ((j.getD st (0, 0, 0)).1, 45, (j.getD st (0, 0, 0)).2.2)).set st ((j.getD st (0, 0, 0)).1, 45, (j.getD st (0, 0, 0)).2.2) = j.set st ((j.getD st (0, 0, 0)).1, 45, (j.getD st (0, 0, 0)).2.2) := by simp only [List.set_set]
              exact ⟨rfl, by rw [List.length_set]; exact g574, pa_cg g581 (set_stS p1), pa_eq g568 hset, pa_cg g584 (set_stN p1), fr570⟩
            · skip
              refine e_iconst (v := nI 0) f_199_124 (by decide) rfl ?_
              refine e_istore (L' := [some (.ref (269)), some (.int (nI st)), some (.int (nI ((j.getD st (0, 0, 0)).1))), some (.int (nI 4)), some (.int (nI 0)), none]) f_199_125 (Nat.le_of_ble_eq_true rfl) rfl rfl ?_
              refine e_iconst (v := nI 0) f_199_127 (by decide) rfl ?_
              refine e_istore (L' := [some (.ref (269)), some (.int (nI st)), some (.int (nI ((j.getD st (0, 0, 0)).1))), some (.int (nI 4)), some (.int (nI 0)), some (.int (nI 0))]) f_199_128 (Nat.le_of_ble_eq_true rfl) rfl rfl ?_
              refine e_iload f_199_130 rfl rfl ?_
              refine e_iload_n f_199_132 rfl rfl ?_
              refine e_icmp_ge_f f_199_133 (by decide) rfl ?_
              refine e_iload_n f_199_136 rfl rfl ?_
              refine e_iload f_199_137 rfl rfl ?_
              refine e_callS (As := [.int (nI ((j.getD st (0, 0, 0)).1)), .int (nI 0)]) (rest := []) f_199_139 rfl rfl rfl (Nat.le_of_ble_eq_true rfl) (Nat.le_of_ble_eq_true rfl) (cc_Md_sgo (s := (j.getD st (0, 0, 0)).1) (i := 0)  (by omega) (by omega)) rfl (fun h585 r586 q587 => ?_)
              obtain ⟨rfl, qe⟩ := q587
              have qe := qe.symm
              subst qe
              show px_to 199 142 [some (.ref (269)), some (.int (nI st)), some (.int (nI ((j.getD st (0, 0, 0)).1))), some (.int (nI 4)), some (.int (nI 0)), some (.int (nI 0))] [.int (nI (sgF ((j.getD st (0, 0, 0)).1) 0))] h1 _
              rw [show sgF (j.getD st (0, 0, 0)).1 0 = 43 by rw [c_105]; rfl]
              refine e_aload_n f_199_142 rfl rfl ?_
              refine e_getf f_199_143 g4 rfl rfl ?_
              refine e_iload_n f_199_146 rfl rfl ?_
              obtain ⟨hm589, fa590, fb591⟩ := fj_mid fr13
              have g588 : px_pa h1 272 52 6 stA j := pa_fi (pa_fi H2 fa590 (by omega)) fb591 (by omega)
              refine e_caload_p (xs := j) f_199_147 g588 (d := (0, 0, 0)) (by first | omega | (simp only [List.length_set]; omega)) rfl ?_
              show px_to 199 148 [some (.ref (269)), some (.int (nI st)), some (.int (nI ((j.getD st (0, 0, 0)).1))), some (.int (nI 4)), some (.int (nI 0)), some (.int (nI 0))] [.int (nI ((j.getD st (0, 0, 0)).2.1)), .int (nI 43)] h1 _
              rw [ha]
              refine e_icmp_eq_f f_199_148 (by decide) rfl ?_
              refine e_aload_n f_199_151 rfl rfl ?_
              refine e_getf f_199_152 g4 rfl rfl ?_
              refine e_iload_n f_199_155 rfl rfl ?_
              refine e_iload f_199_156 rfl rfl ?_
              refine e_aload_n f_199_158 rfl rfl ?_
              refine e_getf f_199_159 g4 rfl rfl ?_
              show px_to 199 162 [some (.ref (269)), some (.int (nI st)), some (.int (nI ((j.getD st (0, 0, 0)).1))), some (.int (nI 4)), some (.int (nI 0)), some (.int (nI 0))] [.int (nI wy), .int (nI 0), .int (nI st), .ref (285)] h1 _
              refine e_icmp_ne_t f_199_162 (by rw [hw]; decide) ?_
              refine e_aload_n f_199_174 rfl rfl ?_
              refine e_getf f_199_175 g4 rfl rfl ?_
              refine e_iload_n f_199_178 rfl rfl ?_
              refine e_caload_p (xs := j) f_199_179 g6 (d := (0, 0, 0)) (by first | omega | (simp only [List.length_set]; omega)) rfl ?_
              show px_to 199 180 [some (.ref (269)), some (.int (nI st)), some (.int (nI ((j.getD st (0, 0, 0)).1))), some (.int (nI 4)), some (.int (nI 0)), some (.int (nI 0))] [.int (nI ((j.getD st (0, 0, 0)).2.1)), .int (nI st), .ref (285)] h1 _
              rw [ha]
              refine e_castore_p (xs := j) (x := ((j.getD st (0, 0, 0)).1, 47, (j.getD st (0, 0, 0)).2.2)) f_199_180 g6 (by omega) (by first | omega | (simp only [List.length_set]; omega)) (nw_ch (n := 47) (by decide)) rfl (fun h592 g593 fx594 => ?_)
              have fr595 : px_fj 269 1 284 3 h h592 := fj_tr fr13 fx594 (by omega)
              refine e_iinc (y := nI 1) (L' := [some (.ref (269)), some (.int (nI st)), some (.int (nI ((j.getD st (0, 0, 0)).1))), some (.int (nI 4)), some (.int (nI 1)), some (.int (nI 0))]) f_199_181 rfl (by rw [show Int32.ofInt 1 = nI 1 by decide]; exact (nI_add _ _).trans (congrArg nI (by omega))) rfl rfl ?_
              refine e_iinc (y := nI 1) (L' := [some (.ref (269)), some (.int (nI st)), some (.int (nI ((j.getD st (0, 0, 0)).1))), some (.int (nI 4)), some (.int (nI 1)), some (.int (nI 1))]) f_199_184 rfl (by rw [show Int32.ofInt 1 = nI 1 by decide]; exact (nI_add _ _).trans (congrArg nI (by omega))) rfl rfl ?_
              refine e_goto f_199_187 ?_
              refine e_iload f_199_130 rfl rfl ?_
              refine e_iload_n f_199_132 rfl rfl ?_
              refine e_icmp_ge_f f_199_133 (by decide) rfl ?_
              refine e_iload_n f_199_136 rfl rfl ?_
              refine e_iload f_199_137 rfl rfl ?_
              refine e_callS (As := [.int (nI ((j.getD st (0, 0, 0)).1)), .int (nI 1)]) (rest := []) f_199_139 rfl rfl rfl (Nat.le_of_ble_eq_true rfl) (Nat.le_of_ble_eq_true rfl) (cc_Md_sgo (s := (j.getD st (0, 0, 0)).1) (i := 1)  (by omega) (by omega)) rfl (fun h596 r597 q598 => ?_)
              obtain ⟨rfl, qe⟩ := q598
              have qe := qe.symm
              subst qe
              show px_to 199 142 [some (.ref (269)), some (.int (nI st)), some (.int (nI ((j.getD st (0, 0, 0)).1))), some (.int (nI 4)), some (.int (nI 1)), some (.int (nI 1))] [.int (nI (sgF ((j.getD st (0, 0, 0)).1) 1))] h592 _
              rw [show sgF (j.getD st (0, 0, 0)).1 1 = 45 by rw [c_105]; rfl]
              refine e_aload_n f_199_142 rfl rfl ?_
              have g599 : h592.2.2 269 = some (12, mB (L, nI j.length, cn) gp (nI j.length, gq.2.1, gq.2.2.1, gq.2.2.2.1, gq.2.2.2.2.1, gq.2.2.2.2.2.1, gq.2.2.2.2.2.2) gh gw gu (gv.1, gv.2.1, gv.2.2.1, gv.2.2.2.1, gv.2.2.2.2.1, gv.2.2.2.2.2.1, gv.2.2.2.2.2.2.1, nI st, nI wy)) := fi_at g4 fx594 (by omega)
              refine e_getf f_199_143 g599 rfl rfl ?_
              refine e_iload_n f_199_146 rfl rfl ?_
              obtain ⟨hm601, fa602, fb603⟩ := fj_mid fr595
              have g600 : px_pa h592 272 52 6 stA j := pa_fi (pa_fi H2 fa602 (by omega)) fb603 (by omega)
              refine e_caload_p (xs := j) f_199_147 g600 (d := (0, 0, 0)) (by first | omega | (simp only [List.length_set]; omega)) rfl ?_
              show px_to 199 148 [some (.ref (269)), some (.int (nI st)), some (.int (nI ((j.getD st (0, 0, 0)).1))), some (.int (nI 4)), some (.int (nI 1)), some (.int (nI 1))] [.int (nI ((j.getD st (0, 0, 0)).2.1)), .int (nI 45)] h592 _
              rw [ha]
              refine e_icmp_eq_f f_199_148 (by decide) rfl ?_
              refine e_aload_n f_199_151 rfl rfl ?_
              refine e_getf f_199_152 g599 rfl rfl ?_
              refine e_iload_n f_199_155 rfl rfl ?_
              refine e_iload f_199_156 rfl rfl ?_
              refine e_aload_n f_199_158 rfl rfl ?_
              refine e_getf f_199_159 g599 rfl rfl ?_
              show px_to 199 162 [some (.ref (269)), some (.int (nI st)), some (.int (nI ((j.getD st (0, 0, 0)).1))), some (.int (nI 4)), some (.int (nI 1)), some (.int (nI 1))] [.int (nI wy), .int (nI 1), .int (nI st), .ref (285)] h592 _
              refine e_icmp_ne_t f_199_162 (by rw [hw]; decide) ?_
              refine e_aload_n f_199_174 rfl rfl ?_
              refine e_getf f_199_175 g599 rfl rfl ?_
              refine e_iload_n f_199_178 rfl rfl ?_
              refine e_caload_p (xs := j.set st ((j.getD st (0, 0, 0)).1, 47, (j.getD st (0, 0, 0)).2.2)) f_199_179 g593 (d := (0, 0, 0)) (by first | omega | (simp only [List.length_set]; omega)) rfl ?_
              show px_to 199 180 [some (.ref (269)), some (.int (nI st)), some (.int (nI ((j.getD st (0, 0, 0)).1))), some (.int (nI 4)), some (.int (nI 1)), some (.int (nI 1))] [.int (nI (((j.set st ((j.getD st (0, 0, 0)).1, 47, (j.getD st (0, 0, 0)).2.2)).getD st (0, 0, 0)).2.1)), .int (nI st), .ref (285)] h592 _
              rw [getD_set_same (by first | omega | (simp only [List.length_set]; omega))]
              refine e_castore_p (xs := j.set st ((j.getD st (0, 0, 0)).1, 47, (j.getD st (0, 0, 0)).2.2)) (x := ((j.getD st (0, 0, 0)).1, 47, (j.getD st (0, 0, 0)).2.2)) f_199_180 g593 (by omega) (by first | omega | (simp only [List.length_set]; omega)) (nw_ch (n := 47) (by decide)) rfl (fun h604 g605 fx606 => ?_)
              have fr607 : px_fj 269 1 284 3 h h604 := fj_tr fr595 fx606 (by omega)
              refine e_iinc (y := nI 2) (L' := [some (.ref (269)), some (.int (nI st)), some (.int (nI ((j.getD st (0, 0, 0)).1))), some (.int (nI 4)), some (.int (nI 2)), some (.int (nI 1))]) f_199_181 rfl (by rw [show Int32.ofInt 1 = nI 1 by decide]; exact (nI_add _ _).trans (congrArg nI (by omega))) rfl rfl ?_
              refine e_iinc (y := nI 2) (L' := [some (.ref (269)), some (.int (nI st)), some (.int (nI ((j.getD st (0, 0, 0)).1))), some (.int (nI 4)), some (.int (nI 2)), some (.int (nI 2))]) f_199_184 rfl (by rw [show Int32.ofInt 1 = nI 1 by decide]; exact (nI_add _ _).trans (congrArg nI (by omega))) rfl rfl ?_
              refine e_goto f_199_187 ?_
              refine e_iload f_199_130 rfl rfl ?_
              refine e_iload_n f_199_132 rfl rfl ?_
              refine e_icmp_ge_f f_199_133 (by decide) rfl ?_
              refine e_iload_n f_199_136 rfl rfl ?_
              refine e_iload f_199_137 rfl rfl ?_
              refine e_callS (As := [.int (nI ((j.getD st (0, 0, 0)).1)), .int (nI 2)]) (rest := []) f_199_139 rfl rfl rfl (Nat.le_of_ble_eq_true rfl) (Nat.le_of_ble_eq_true rfl) (cc_Md_sgo (s := (j.getD st (0, 0, 0)).1) (i := 2)  (by omega) (by omega)) rfl (fun h608 r609 q610 => ?_)
              obtain ⟨rfl, qe⟩ := q610
              have qe := qe.symm
              subst qe
              show px_to 199 142 [some (.ref (269)), some (.int (nI st)), some (.int (nI ((j.getD st (0, 0, 0)).1))), some (.int (nI 4)), some (.int (nI 2)), some (.int (nI 2))] [.int (nI (sgF ((j.getD st (0, 0, 0)).1) 2))] h604 _
              rw [show sgF (j.getD st (0, 0, 0)).1 2 = 42 by rw [c_105]; rfl]
              refine e_aload_n f_199_142 rfl rfl ?_
              have g611 : h604.2.2 269 = some (12, mB (L, nI j.length, cn) gp (nI j.length, gq.2.1, gq.2.2.1, gq.2.2.2.1, gq.2.2.2.2.1, gq.2.2.2.2.2.1, gq.2.2.2.2.2.2) gh gw gu (gv.1, gv.2.1, gv.2.2.1, gv.2.2.2.1, gv.2.2.2.2.1, gv.2.2.2.2.2.1, gv.2.2.2.2.2.2.1, nI st, nI wy)) := fi_at g599 fx606 (by omega)
              refine e_getf f_199_143 g611 rfl rfl ?_
              refine e_iload_n f_199_146 rfl rfl ?_
              obtain ⟨hm613, fa614, fb615⟩ := fj_mid fr607
              have g612 : px_pa h604 272 52 6 stA j := pa_fi (pa_fi H2 fa614 (by omega)) fb615 (by omega)
              refine e_caload_p (xs := j) f_199_147 g612 (d := (0, 0, 0)) (by first | omega | (simp only [List.length_set]; omega)) rfl ?_
              show px_to 199 148 [some (.ref (269)), some (.int (nI st)), some (.int (nI ((j.getD st (0, 0, 0)).1))), some (.int (nI 4)), some (.int (nI 2)), some (.int (nI 2))] [.int (nI ((j.getD st (0, 0, 0)).2.1)), .int (nI 42)] h604 _
              rw [ha]
              refine e_icmp_eq_f f_199_148 (by decide) rfl ?_
              refine e_aload_n f_199_151 rfl rfl ?_
              refine e_getf f_199_152 g611 rfl rfl ?_
              refine e_iload_n f_199_155 rfl rfl ?_
              refine e_iload f_199_156 rfl rfl ?_
              refine e_aload_n f_199_158 rfl rfl ?_
              refine e_getf f_199_159 g611 rfl rfl ?_
              show px_to 199 162 [some (.ref (269)), some (.int (nI st)), some (.int (nI ((j.getD st (0, 0, 0)).1))), some (.int (nI 4)), some (.int (nI 2)), some (.int (nI 2))] [.int (nI wy), .int (nI 2), .int (nI st), .ref (285)] h604 _
              refine e_icmp_ne_f f_199_162 (by rw [hw]; decide) rfl ?_
              refine e_iload_n f_199_165 rfl rfl ?_
              refine e_iload f_199_166 rfl rfl ?_
              refine e_callS (As := [.int (nI ((j.getD st (0, 0, 0)).1)), .int (nI 2)]) (rest := [.int (nI st), .ref (285)]) f_199_168 rfl rfl rfl (Nat.le_of_ble_eq_true rfl) (Nat.le_of_ble_eq_true rfl) (cc_Md_sgo (s := (j.getD st (0, 0, 0)).1) (i := 2)  (by omega) (by omega)) rfl (fun h616 r617 q618 => ?_)
              obtain ⟨rfl, qe⟩ := q618
              have qe := qe.symm
              subst qe
              show px_to 199 171 [some (.ref (269)), some (.int (nI st)), some (.int (nI ((j.getD st (0, 0, 0)).1))), some (.int (nI 4)), some (.int (nI 2)), some (.int (nI 2))] [.int (nI (sgF ((j.getD st (0, 0, 0)).1) 2)), .int (nI st), .ref (285)] h604 _
              rw [show sgF (j.getD st (0, 0, 0)).1 2 = 42 by rw [c_105]; rfl]
              refine e_goto f_199_171 ?_
              refine e_castore_p (xs := (j.set st ((j.getD st (0, 0, 0)).1, 47, (j.getD st (0, 0, 0)).2.2)).set st ((j.getD st (0, 0, 0)).1, 47, (j.getD st (0, 0, 0)).2.2)) (x := ((j.getD st (0, 0, 0)).1, 42, (j.getD st (0, 0, 0)).2.2)) f_199_180 g605 (by omega) (by first | omega | (simp only [List.length_set]; omega)) (nw_ch (n := 42) (by decide)) rfl (fun h619 g620 fx621 => ?_)
              have fr622 : px_fj 269 1 284 3 h h619 := fj_tr fr607 fx621 (by omega)
              refine e_iinc (y := nI 3) (L' := [some (.ref (269)), some (.int (nI st)), some (.int (nI ((j.getD st (0, 0, 0)).1))), some (.int (nI 4)), some (.int (nI 3)), some (.int (nI 2))]) f_199_181 rfl (by rw [show Int32.ofInt 1 = nI 1 by decide]; exact (nI_add _ _).trans (congrArg nI (by omega))) rfl rfl ?_
              refine e_iinc (y := nI 3) (L' := [some (.ref (269)), some (.int (nI st)), some (.int (nI ((j.getD st (0, 0, 0)).1))), some (.int (nI 4)), some (.int (nI 3)), some (.int (nI 3))]) f_199_184 rfl (by rw [show Int32.ofInt 1 = nI 1 by decide]; exact (nI_add _ _).trans (congrArg nI (by omega))) rfl rfl ?_
              refine e_goto f_199_187 ?_
              refine e_iload f_199_130 rfl rfl ?_
              refine e_iload_n f_199_132 rfl rfl ?_
              refine e_icmp_ge_f f_199_133 (by decide) rfl ?_
              refine e_iload_n f_199_136 rfl rfl ?_
              refine e_iload f_199_137 rfl rfl ?_
              refine e_callS (As := [.int (nI ((j.getD st (0, 0, 0)).1)), .int (nI 3)]) (rest := []) f_199_139 rfl rfl rfl (Nat.le_of_ble_eq_true rfl) (Nat.le_of_ble_eq_true rfl) (cc_Md_sgo (s := (j.getD st (0, 0, 0)).1) (i := 3)  (by omega) (by omega)) rfl (fun h623 r624 q625 => ?_)
              obtain ⟨rfl, qe⟩ := q625
              have qe := qe.symm
              subst qe
              show px_to 199 142 [some (.ref (269)), some (.int (nI st)), some (.int (nI ((j.getD st (0, 0, 0)).1))), some (.int (nI 4)), some (.int (nI 3)), some (.int (nI 3))] [.int (nI (sgF ((j.getD st (0, 0, 0)).1) 3))] h619 _
              rw [show sgF (j.getD st (0, 0, 0)).1 3 = 47 by rw [c_105]; rfl]
              refine e_aload_n f_199_142 rfl rfl ?_
              have g626 : h619.2.2 269 = some (12, mB (L, nI j.length, cn) gp (nI j.length, gq.2.1, gq.2.2.1, gq.2.2.2.1, gq.2.2.2.2.1, gq.2.2.2.2.2.1, gq.2.2.2.2.2.2) gh gw gu (gv.1, gv.2.1, gv.2.2.1, gv.2.2.2.1, gv.2.2.2.2.1, gv.2.2.2.2.2.1, gv.2.2.2.2.2.2.1, nI st, nI wy)) := fi_at g611 fx621 (by omega)
              refine e_getf f_199_143 g626 rfl rfl ?_
              refine e_iload_n f_199_146 rfl rfl ?_
              obtain ⟨hm628, fa629, fb630⟩ := fj_mid fr622
              have g627 : px_pa h619 272 52 6 stA j := pa_fi (pa_fi H2 fa629 (by omega)) fb630 (by omega)
              refine e_caload_p (xs := j) f_199_147 g627 (d := (0, 0, 0)) (by first | omega | (simp only [List.length_set]; omega)) rfl ?_
              show px_to 199 148 [some (.ref (269)), some (.int (nI st)), some (.int (nI ((j.getD st (0, 0, 0)).1))), some (.int (nI 4)), some (.int (nI 3)), some (.int (nI 3))] [.int (nI ((j.getD st (0, 0, 0)).2.1)), .int (nI 47)] h619 _
              rw [ha]
              refine e_icmp_eq_t f_199_148 (by decide) ?_
              refine e_iinc (y := nI 4) (L' := [some (.ref (269)), some (.int (nI st)), some (.int (nI ((j.getD st (0, 0, 0)).1))), some (.int (nI 4)), some (.int (nI 3)), some (.int (nI 4))]) f_199_184 rfl (by rw [show Int32.ofInt 1 = nI 1 by decide]; exact (nI_add _ _).trans (congrArg nI (by omega))) rfl rfl ?_
              refine e_goto f_199_187 ?_
              refine e_iload f_199_130 rfl rfl ?_
              refine e_iload_n f_199_132 rfl rfl ?_
              refine e_icmp_ge_t f_199_133 (by decide) ?_
              refine e_goto f_199_190 ?_
              refine e_vret f_199_217 rfl ?_
              have hnl := of_decide_eq_false c_13
              have em : mutGo st wy j 0 = j.set st (chg (j.getD st (0, 0, 0)) wy) := mutGo_set wy j st 0 p1 (by omega)
              rw [em]
              have g631 : px_pa h592 284 52 6 stS j := pa_fi g5 fx594 (by omega)
              have g632 : px_pa h604 284 52 6 stS j := pa_fi g631 fx606 (by omega)
              have g633 : px_pa h619 284 52 6 stS j := pa_fi g632 fx621 (by omega)
              have g634 : px_pa h592 286 50 6 stN j := pa_fi g7 fx594 (by omega)
              have g635 : px_pa h604 286 50 6 stN j := pa_fi g634 fx606 (by omega)
              have g636 : px_pa h619 286 50 6 stN j := pa_fi g635 fx621 (by omega)
              have ho : othN (j.getD st (0, 0, 0)) = 3 := by unfold othN; rw [if_neg c_95, if_pos c_105]
              have hc : chg (j.getD st (0, 0, 0)) wy = ((j.getD st (0, 0, 0)).1, 42, (j.getD st (0, 0, 0)).2.2) := by unfold chg; rw [if_pos (by omega), ha, hw, c_105]; rfl
              rw [hc]
              have hset : ((j.set st ((j.getD st (0, 0, 0)).1, 47, (j.getD st (0, 0, 0)).2.2)).set st ((j.getD st (0, 0, 0)).1, 47, (j.getD st (0, 0, 0)).2.2)).set st ((j.getD st (0, 0, 0)).1, 42, (j.getD st (0, 0, 0)).2.2) = j.set st ((j.getD st (0, 0, 0)).1, 42, (j.getD st (0, 0, 0)).2.2) := by simp only [List.set_set]
              exact ⟨rfl, by rw [List.length_set]; exact g626, pa_cg g633 (set_stS p1), pa_eq g620 hset, pa_cg g636 (set_stN p1), fr622⟩
    · skip
      have c_95 : (j.getD st (0, 0, 0)).1 = 102 := cv_nne (by omega) (by omega) c_95
      refine e_iconst (v := nI 3) f_199_98 (by decide) rfl ?_
      refine e_goto f_199_99 ?_
      refine e_istore_n (L' := [some (.ref (269)), some (.int (nI st)), some (.int (nI ((j.getD st (0, 0, 0)).1))), some (.int (nI 3)), none, none]) f_199_113 (Nat.le_of_ble_eq_true rfl) rfl rfl ?_
      refine e_aload_n f_199_114 rfl rfl ?_
      refine e_getf f_199_115 g4 rfl rfl ?_
      show px_to 199 118 [some (.ref (269)), some (.int (nI st)), some (.int (nI ((j.getD st (0, 0, 0)).1))), some (.int (nI 3)), none, none] [.int (nI wy)] h1 _
      refine e_iload_n f_199_118 rfl rfl ?_
      refine e_iconst (v := nI 1) f_199_119 (by decide) rfl ?_
      refine e_isub (z := nI (3 - 1)) f_199_120 (pk_sub (by omega)) rfl ?_
      refine e_icmp_ge f_199_121 rfl (fun c_121 => ?_) (fun c_121 => ?_)
      · skip
        have c_121 : 3 - 1 ≤ wy := cv_le (by omega) (by omega) c_121
        refine e_aload_n f_199_193 rfl rfl ?_
        refine e_getf f_199_194 g4 rfl rfl ?_
        refine e_iload_n f_199_197 rfl rfl ?_
        refine e_dup2 f_199_198 rfl rfl rfl ?_
        refine e_iaload_p (xs := j) f_199_199 g7 (d := (0, 0, 0)) (by first | omega | (simp only [List.length_set]; omega)) rfl ?_
        show px_to 199 200 [some (.ref (269)), some (.int (nI st)), some (.int (nI ((j.getD st (0, 0, 0)).1))), some (.int (nI 3)), none, none] [.int ((j.getD st (0, 0, 0)).2.2), .int (nI st), .ref (286)] h1 _
        refine e_aload_n f_199_200 rfl rfl ?_
        refine e_getf f_199_201 g4 rfl rfl ?_
        show px_to 199 204 [some (.ref (269)), some (.int (nI st)), some (.int (nI ((j.getD st (0, 0, 0)).1))), some (.int (nI 3)), none, none] [.int (nI wy), .int ((j.getD st (0, 0, 0)).2.2), .int (nI st), .ref (286)] h1 _
        refine e_iload_n f_199_204 rfl rfl ?_
        refine e_iconst (v := nI 1) f_199_205 (by decide) rfl ?_
        refine e_isub (z := nI (3 - 1)) f_199_206 (pk_sub (by omega)) rfl ?_
        refine e_icmp_ne f_199_207 rfl (fun c_207 => ?_) (fun c_207 => ?_)
        · skip
          have c_207 : wy ≠ 3 - 1 := cv_ne c_207
          refine e_iconst (v := (-1)) f_199_214 (by decide) rfl ?_
          refine e_iadd (z := ((j.getD st (0, 0, 0)).2.2) + (-1)) f_199_215 rfl rfl ?_
          refine e_iastore_p (xs := j) (x := ((j.getD st (0, 0, 0)).1, (j.getD st (0, 0, 0)).2.1, ((j.getD st (0, 0, 0)).2.2) + (-1))) f_199_216 g7 (by omega) (by first | omega | (simp only [List.length_set]; omega)) (rfl) rfl (fun h637 g638 fx639 => ?_)
          have fr640 : px_fj 269 1 284 3 h h637 := fj_tr fr13 fx639 (by omega)
          refine e_vret f_199_217 rfl ?_
          have hnl := of_decide_eq_false c_13
          have em : mutGo st wy j 0 = j.set st (chg (j.getD st (0, 0, 0)) wy) := mutGo_set wy j st 0 p1 (by omega)
          rw [em]
          have g641 : h637.2.2 269 = some (12, mB (L, nI j.length, cn) gp (nI j.length, gq.2.1, gq.2.2.1, gq.2.2.2.1, gq.2.2.2.2.1, gq.2.2.2.2.2.1, gq.2.2.2.2.2.2) gh gw gu (gv.1, gv.2.1, gv.2.2.1, gv.2.2.2.1, gv.2.2.2.2.1, gv.2.2.2.2.2.1, gv.2.2.2.2.2.2.1, nI st, nI wy)) := fi_at g4 fx639 (by omega)
          have g642 : px_pa h637 284 52 6 stS j := pa_fi g5 fx639 (by omega)
          have g643 : px_pa h637 285 52 6 stA j := pa_fi g6 fx639 (by omega)
          have ho : othN (j.getD st (0, 0, 0)) = 2 := by unfold othN; rw [if_pos c_95]
          have hc : chg (j.getD st (0, 0, 0)) wy = ((j.getD st (0, 0, 0)).1, (j.getD st (0, 0, 0)).2.1, (j.getD st (0, 0, 0)).2.2 + (-1)) := by unfold chg; rw [if_neg (by omega), if_neg (by omega)]
          rw [hc]
          exact ⟨rfl, by rw [List.length_set]; exact g641, pa_cg g642 (set_stS p1), pa_cg g643 (set_stA p1), g638, fr640⟩
        · skip
          have c_207 : wy = 3 - 1 := cv_nne (by omega) (by omega) c_207
          refine e_iconst (v := nI 1) f_199_210 (by decide) rfl ?_
          refine e_goto f_199_211 ?_
          refine e_iadd (z := ((j.getD st (0, 0, 0)).2.2) + (nI 1)) f_199_215 rfl rfl ?_
          refine e_iastore_p (xs := j) (x := ((j.getD st (0, 0, 0)).1, (j.getD st (0, 0, 0)).2.1, ((j.getD st (0, 0, 0)).2.2) + (nI 1))) f_199_216 g7 (by omega) (by first | omega | (simp only [List.length_set]; omega)) (rfl) rfl (fun h644 g645 fx646 => ?_)
          have fr647 : px_fj 269 1 284 3 h h644 := fj_tr fr13 fx646 (by omega)
          refine e_vret f_199_217 rfl ?_
          have hnl := of_decide_eq_false c_13
          have em : mutGo st wy j 0 = j.set st (chg (j.getD st (0, 0, 0)) wy) := mutGo_set wy j st 0 p1 (by omega)
          rw [em]
          have g648 : h644.2.2 269 = some (12, mB (L, nI j.length, cn) gp (nI j.length, gq.2.1, gq.2.2.1, gq.2.2.2.1, gq.2.2.2.2.1, gq.2.2.2.2.2.1, gq.2.2.2.2.2.2) gh gw gu (gv.1, gv.2.1, gv.2.2.1, gv.2.2.2.1, gv.2.2.2.2.1, gv.2.2.2.2.2.1, gv.2.2.2.2.2.2.1, nI st, nI wy)) := fi_at g4 fx646 (by omega)
          have g649 : px_pa h644 284 52 6 stS j := pa_fi g5 fx646 (by omega)
          have g650 : px_pa h644 285 52 6 stA j := pa_fi g6 fx646 (by omega)
          have ho : othN (j.getD st (0, 0, 0)) = 2 := by unfold othN; rw [if_pos c_95]
          have hc : chg (j.getD st (0, 0, 0)) wy = ((j.getD st (0, 0, 0)).1, (j.getD st (0, 0, 0)).2.1, (j.getD st (0, 0, 0)).2.2 + nI 1) := by unfold chg; rw [if_neg (by omega), if_pos (by omega)]
          rw [hc]
          exact ⟨rfl, by rw [List.length_set]; exact g648, pa_cg g649 (set_stS p1), pa_cg g650 (set_stA p1), g645, fr647⟩
      · skip
        have c_121 : wy < 3 - 1 := cv_nle (by omega) (by omega) c_121
        have hact : (j.getD st (0, 0, 0)).2.1 = 60 ∨ (j.getD st (0, 0, 0)).2.1 = 61 ∨ (j.getD st (0, 0, 0)).2.1 = 62 := by
          have z := (p0.2 _ hsm).2.1 (by omega)
          rw [c_95] at z
          have z2 : (j.getD st (0, 0, 0)).2.1 ∈ [60, 61, 62] := z
          simp only [List.mem_cons, List.not_mem_nil, or_false] at z2
          exact z2
        rcases hact with ha | ha | ha
        · skip
          rcases (show wy = 0 ∨ wy = 1 by omega) with hw | hw
          · skip
            refine e_iconst (v := nI 0) f_199_124 (by decide) rfl ?_
            refine e_istore (L' := [some (.ref (269)), some (.int (nI st)), some (.int (nI ((j.getD st (0, 0, 0)).1))), some (.int (nI 3)), some (.int (nI 0)), none]) f_199_125 (Nat.le_of_ble_eq_true rfl) rfl rfl ?_
            refine e_iconst (v := nI 0) f_199_127 (by decide) rfl ?_
            refine e_istore (L' := [some (.ref (269)), some (.int (nI st)), some (.int (nI ((j.getD st (0, 0, 0)).1))), some (.int (nI 3)), some (.int (nI 0)), some (.int (nI 0))]) f_199_128 (Nat.le_of_ble_eq_true rfl) rfl rfl ?_
            refine e_iload f_199_130 rfl rfl ?_
            refine e_iload_n f_199_132 rfl rfl ?_
            refine e_icmp_ge_f f_199_133 (by decide) rfl ?_
            refine e_iload_n f_199_136 rfl rfl ?_
            refine e_iload f_199_137 rfl rfl ?_
            refine e_callS (As := [.int (nI ((j.getD st (0, 0, 0)).1)), .int (nI 0)]) (rest := []) f_199_139 rfl rfl rfl (Nat.le_of_ble_eq_true rfl) (Nat.le_of_ble_eq_true rfl) (cc_Md_sgo (s := (j.getD st (0, 0, 0)).1) (i := 0)  (by omega) (by omega)) rfl (fun h651 r652 q653 => ?_)
            obtain ⟨rfl, qe⟩ := q653
            have qe := qe.symm
            subst qe
            show px_to 199 142 [some (.ref (269)), some (.int (nI st)), some (.int (nI ((j.getD st (0, 0, 0)).1))), some (.int (nI 3)), some (.int (nI 0)), some (.int (nI 0))] [.int (nI (sgF ((j.getD st (0, 0, 0)).1) 0))] h1 _
            rw [show sgF (j.getD st (0, 0, 0)).1 0 = 60 by rw [c_95]; rfl]
            refine e_aload_n f_199_142 rfl rfl ?_
            refine e_getf f_199_143 g4 rfl rfl ?_
            refine e_iload_n f_199_146 rfl rfl ?_
            obtain ⟨hm655, fa656, fb657⟩ := fj_mid fr13
            have g654 : px_pa h1 272 52 6 stA j := pa_fi (pa_fi H2 fa656 (by omega)) fb657 (by omega)
            refine e_caload_p (xs := j) f_199_147 g654 (d := (0, 0, 0)) (by first | omega | (simp only [List.length_set]; omega)) rfl ?_
            show px_to 199 148 [some (.ref (269)), some (.int (nI st)), some (.int (nI ((j.getD st (0, 0, 0)).1))), some (.int (nI 3)), some (.int (nI 0)), some (.int (nI 0))] [.int (nI ((j.getD st (0, 0, 0)).2.1)), .int (nI 60)] h1 _
            rw [ha]
            refine e_icmp_eq_t f_199_148 (by decide) ?_
            refine e_iinc (y := nI 1) (L' := [some (.ref (269)), some (.int (nI st)), some (.int (nI ((j.getD st (0, 0, 0)).1))), some (.int (nI 3)), some (.int (nI 0)), some (.int (nI 1))]) f_199_184 rfl (by rw [show Int32.ofInt 1 = nI 1 by decide]; exact (nI_add _ _).trans (congrArg nI (by omega))) rfl rfl ?_
            refine e_goto f_199_187 ?_
            refine e_iload f_199_130 rfl rfl ?_
            refine e_iload_n f_199_132 rfl rfl ?_
            refine e_icmp_ge_f f_199_133 (by decide) rfl ?_
            refine e_iload_n f_199_136 rfl rfl ?_
            refine e_iload f_199_137 rfl rfl ?_
            refine e_callS (As := [.int (nI ((j.getD st (0, 0, 0)).1)), .int (nI 1)]) (rest := []) f_199_139 rfl rfl rfl (Nat.le_of_ble_eq_true rfl) (Nat.le_of_ble_eq_true rfl) (cc_Md_sgo (s := (j.getD st (0, 0, 0)).1) (i := 1)  (by omega) (by omega)) rfl (fun h658 r659 q660 => ?_)
            obtain ⟨rfl, qe⟩ := q660
            have qe := qe.symm
            subst qe
            show px_to 199 142 [some (.ref (269)), some (.int (nI st)), some (.int (nI ((j.getD st (0, 0, 0)).1))), some (.int (nI 3)), some (.int (nI 0)), some (.int (nI 1))] [.int (nI (sgF ((j.getD st (0, 0, 0)).1) 1))] h1 _
            rw [show sgF (j.getD st (0, 0, 0)).1 1 = 61 by rw [c_95]; rfl]
            refine e_aload_n f_199_142 rfl rfl ?_
            refine e_getf f_199_143 g4 rfl rfl ?_
            refine e_iload_n f_199_146 rfl rfl ?_
            refine e_caload_p (xs := j) f_199_147 g654 (d := (0, 0, 0)) (by first | omega | (simp only [List.length_set]; omega)) rfl ?_
            show px_to 199 148 [some (.ref (269)), some (.int (nI st)), some (.int (nI ((j.getD st (0, 0, 0)).1))), some (.int (nI 3)), some (.int (nI 0)), some (.int (nI 1))] [.int (nI ((j.getD st (0, 0, 0)).2.1)), .int (nI 61)] h1 _
            rw [ha]
            refine e_icmp_eq_f f_199_148 (by decide) rfl ?_
            refine e_aload_n f_199_151 rfl rfl ?_
            refine e_getf f_199_152 g4 rfl rfl ?_
            refine e_iload_n f_199_155 rfl rfl ?_
            refine e_iload f_199_156 rfl rfl ?_
            refine e_aload_n f_199_158 rfl rfl ?_
            refine e_getf f_199_159 g4 rfl rfl ?_
            show px_to 199 162 [some (.ref (269)), some (.int (nI st)), some (.int (nI ((j.getD st (0, 0, 0)).1))), some (.int (nI 3)), some (.int (nI 0)), some (.int (nI 1))] [.int (nI wy), .int (nI 0), .int (nI st), .ref (285)] h1 _
            refine e_icmp_ne_f f_199_162 (by rw [hw]; decide) rfl ?_
            refine e_iload_n f_199_165 rfl rfl ?_
            refine e_iload f_199_166 rfl rfl ?_
            refine e_callS (As := [.int (nI ((j.getD st (0, 0, 0)).1)), .int (nI 1)]) (rest := [.int (nI st), .ref (285)]) f_199_168 rfl rfl rfl (Nat.le_of_ble_eq_true rfl) (Nat.le_of_ble_eq_true rfl) (cc_Md_sgo (s := (j.getD st (0, 0, 0)).1) (i := 1)  (by omega) (by omega)) rfl (fun h661 r662 q663 => ?_)
            obtain ⟨rfl, qe⟩ := q663
            have qe := qe.symm
            subst qe
            show px_to 199 171 [some (.ref (269)), some (.int (nI st)), some (.int (nI ((j.getD st (0, 0, 0)).1))), some (.int (nI 3)), some (.int (nI 0)), some (.int (nI 1))] [.int (nI (sgF ((j.getD st (0, 0, 0)).1) 1)), .int (nI st), .ref (285)] h1 _
            rw [show sgF (j.getD st (0, 0, 0)).1 1 = 61 by rw [c_95]; rfl]
            refine e_goto f_199_171 ?_
            refine e_castore_p (xs := j) (x := ((j.getD st (0, 0, 0)).1, 61, (j.getD st (0, 0, 0)).2.2)) f_199_180 g6 (by omega) (by first | omega | (simp only [List.length_set]; omega)) (nw_ch (n := 61) (by decide)) rfl (fun h664 g665 fx666 => ?_)
            have fr667 : px_fj 269 1 284 3 h h664 := fj_tr fr13 fx666 (by omega)
            refine e_iinc (y := nI 1) (L' := [some (.ref (269)), some (.int (nI st)), some (.int (nI ((j.getD st (0, 0, 0)).1))), some (.int (nI 3)), some (.int (nI 1)), some (.int (nI 1))]) f_199_181 rfl (by rw [show Int32.ofInt 1 = nI 1 by decide]; exact (nI_add _ _).trans (congrArg nI (by omega))) rfl rfl ?_
            refine e_iinc (y := nI 2) (L' := [some (.ref (269)), some (.int (nI st)), some (.int (nI ((j.getD st (0, 0, 0)).1))), some (.int (nI 3)), some (.int (nI 1)), some (.int (nI 2))]) f_199_184 rfl (by rw [show Int32.ofInt 1 = nI 1 by decide]; exact (nI_add _ _).trans (congrArg nI (by omega))) rfl rfl ?_
            refine e_goto f_199_187 ?_
            refine e_iload f_199_130 rfl rfl ?_
            refine e_iload_n f_199_132 rfl rfl ?_
            refine e_icmp_ge_f f_199_133 (by decide) rfl ?_
            refine e_iload_n f_199_136 rfl rfl ?_
            refine e_iload f_199_137 rfl rfl ?_
            refine e_callS (As := [.int (nI ((j.getD st (0, 0, 0)).1)), .int (nI 2)]) (rest := []) f_199_139 rfl rfl rfl (Nat.le_of_ble_eq_true rfl) (Nat.le_of_ble_eq_true rfl) (cc_Md_sgo (s := (j.getD st (0, 0, 0)).1) (i := 2)  (by omega) (by omega)) rfl (fun h668 r669 q670 => ?_)
            obtain ⟨rfl, qe⟩ := q670
            have qe := qe.symm
            subst qe
            show px_to 199 142 [some (.ref (269)), some (.int (nI st)), some (.int (nI ((j.getD st (0, 0, 0)).1))), some (.int (nI 3)), some (.int (nI 1)), some (.int (nI 2))] [.int (nI (sgF ((j.getD st (0, 0, 0)).1) 2))] h664 _
            rw [show sgF (j.getD st (0, 0, 0)).1 2 = 62 by rw [c_95]; rfl]
            refine e_aload_n f_199_142 rfl rfl ?_
            have g671 : h664.2.2 269 = some (12, mB (L, nI j.length, cn) gp (nI j.length, gq.2.1, gq.2.2.1, gq.2.2.2.1, gq.2.2.2.2.1, gq.2.2.2.2.2.1, gq.2.2.2.2.2.2) gh gw gu (gv.1, gv.2.1, gv.2.2.1, gv.2.2.2.1, gv.2.2.2.2.1, gv.2.2.2.2.2.1, gv.2.2.2.2.2.2.1, nI st, nI wy)) := fi_at g4 fx666 (by omega)
            refine e_getf f_199_143 g671 rfl rfl ?_
            refine e_iload_n f_199_146 rfl rfl ?_
            obtain ⟨hm673, fa674, fb675⟩ := fj_mid fr667
            have g672 : px_pa h664 272 52 6 stA j := pa_fi (pa_fi H2 fa674 (by omega)) fb675 (by omega)
            refine e_caload_p (xs := j) f_199_147 g672 (d := (0, 0, 0)) (by first | omega | (simp only [List.length_set]; omega)) rfl ?_
            show px_to 199 148 [some (.ref (269)), some (.int (nI st)), some (.int (nI ((j.getD st (0, 0, 0)).1))), some (.int (nI 3)), some (.int (nI 1)), some (.int (nI 2))] [.int (nI ((j.getD st (0, 0, 0)).2.1)), .int (nI 62)] h664 _
            rw [ha]
            refine e_icmp_eq_f f_199_148 (by decide) rfl ?_
            refine e_aload_n f_199_151 rfl rfl ?_
            refine e_getf f_199_152 g671 rfl rfl ?_
            refine e_iload_n f_199_155 rfl rfl ?_
            refine e_iload f_199_156 rfl rfl ?_
            refine e_aload_n f_199_158 rfl rfl ?_
            refine e_getf f_199_159 g671 rfl rfl ?_
            show px_to 199 162 [some (.ref (269)), some (.int (nI st)), some (.int (nI ((j.getD st (0, 0, 0)).1))), some (.int (nI 3)), some (.int (nI 1)), some (.int (nI 2))] [.int (nI wy), .int (nI 1), .int (nI st), .ref (285)] h664 _
            refine e_icmp_ne_t f_199_162 (by rw [hw]; decide) ?_
            refine e_aload_n f_199_174 rfl rfl ?_
            refine e_getf f_199_175 g671 rfl rfl ?_
            refine e_iload_n f_199_178 rfl rfl ?_
            refine e_caload_p (xs := j.set st ((j.getD st (0, 0, 0)).1, 61, (j.getD st (0, 0, 0)).2.2)) f_199_179 g665 (d := (0, 0, 0)) (by first | omega | (simp only [List.length_set]; omega)) rfl ?_
            show px_to 199 180 [some (.ref (269)), some (.int (nI st)), some (.int (nI ((j.getD st (0, 0, 0)).1))), some (.int (nI 3)), some (.int (nI 1)), some (.int (nI 2))] [.int (nI (((j.set st ((j.getD st (0, 0, 0)).1, 61, (j.getD st (0, 0, 0)).2.2)).getD st (0, 0, 0)).2.1)), .int (nI st), .ref (285)] h664 _
            rw [getD_set_same (by first | omega | (simp only [List.length_set]; omega))]
            refine e_castore_p (xs := j.set st ((j.getD st (0, 0, 0)).1, 61, (j.getD st (0, 0, 0)).2.2)) (x := ((j.getD st (0, 0, 0)).1, 61, (j.getD st (0, 0, 0)).2.2)) f_199_180 g665 (by omega) (by first | omega | (simp only [List.length_set]; omega)) (nw_ch (n := 61) (by decide)) rfl (fun h676 g677 fx678 => ?_)
            have fr679 : px_fj 269 1 284 3 h h676 := fj_tr fr667 fx678 (by omega)
            refine e_iinc (y := nI 2) (L' := [some (.ref (269)), some (.int (nI st)), some (.int (nI ((j.getD st (0, 0, 0)).1))), some (.int (nI 3)), some (.int (nI 2)), some (.int (nI 2))]) f_199_181 rfl (by rw [show Int32.ofInt 1 = nI 1 by decide]; exact (nI_add _ _).trans (congrArg nI (by omega))) rfl rfl ?_
            refine e_iinc (y := nI 3) (L' := [some (.ref (269)), some (.int (nI st)), some (.int (nI ((j.getD st (0, 0, 0)).1))), some (.int (nI 3)), some (.int (nI 2)), some (.int (nI 3))]) f_199_184 rfl (by rw [show Int32.ofInt 1 = nI 1 by decide]; exact (nI_add _ _).trans (congrArg nI (by omega))) rfl rfl ?_
            refine e_goto f_199_187 ?_
            refine e_iload f_199_130 rfl rfl ?_
            refine e_iload_n f_199_132 rfl rfl ?_
            refine e_icmp_ge_t f_199_133 (by decide) ?_
            refine e_goto f_199_190 ?_
            refine e_vret f_199_217 rfl ?_
            have hnl := of_decide_eq_false c_13
            have em : mutGo st wy j 0 = j.set st (chg (j.getD st (0, 0, 0)) wy) := mutGo_set wy j st 0 p1 (by omega)
            rw [em]
            have g680 : h676.2.2 269 = some (12, mB (L, nI j.length, cn) gp (nI j.length, gq.2.1, gq.2.2.1, gq.2.2.2.1, gq.2.2.2.2.1, gq.2.2.2.2.2.1, gq.2.2.2.2.2.2) gh gw gu (gv.1, gv.2.1, gv.2.2.1, gv.2.2.2.1, gv.2.2.2.2.1, gv.2.2.2.2.2.1, gv.2.2.2.2.2.2.1, nI st, nI wy)) := fi_at g671 fx678 (by omega)
            have g681 : px_pa h664 284 52 6 stS j := pa_fi g5 fx666 (by omega)
            have g682 : px_pa h676 284 52 6 stS j := pa_fi g681 fx678 (by omega)
            have g683 : px_pa h664 286 50 6 stN j := pa_fi g7 fx666 (by omega)
            have g684 : px_pa h676 286 50 6 stN j := pa_fi g683 fx678 (by omega)
            have ho : othN (j.getD st (0, 0, 0)) = 2 := by unfold othN; rw [if_pos c_95]
            have hc : chg (j.getD st (0, 0, 0)) wy = ((j.getD st (0, 0, 0)).1, 61, (j.getD st (0, 0, 0)).2.2) := by unfold chg; rw [if_pos (by omega), ha, hw, c_95]; rfl
            rw [hc]
            have hset : (j.set st ((j.getD st (0, 0, 0)).1, 61, (j.getD st (0, 0, 0)).2.2)).set st ((j.getD st (0, 0, 0)).1, 61, (j.getD st (0, 0, 0)).2.2) = j.set st ((j.getD st (0, 0, 0)).1, 61, (j.getD st (0, 0, 0)).2.2) := by simp only [List.set_set]
            exact ⟨rfl, by rw [List.length_set]; exact g680, pa_cg g682 (set_stS p1), pa_eq g677 hset, pa_cg g684 (set_stN p1), fr679⟩
          · skip
            refine e_iconst (v := nI 0) f_199_124 (by decide) rfl ?_
            refine e_istore (L' := [some (.ref (269)), some (.int (nI st)), some (.int (nI ((j.getD st (0, 0, 0)).1))), some (.int (nI 3)), some (.int (nI 0)), none]) f_199_125 (Nat.le_of_ble_eq_true rfl) rfl rfl ?_
            refine e_iconst (v := nI 0) f_199_127 (by decide) rfl ?_
            refine e_istore (L' := [some (.ref (269)), some (.int (nI st)), some (.int (nI ((j.getD st (0, 0, 0)).1))), some (.int (nI 3)), some (.int (nI 0)), some (.int (nI 0))]) f_199_128 (Nat.le_of_ble_eq_true rfl) rfl rfl ?_
            refine e_iload f_199_130 rfl rfl ?_
            refine e_iload_n f_199_132 rfl rfl ?_
            refine e_icmp_ge_f f_199_133 (by decide) rfl ?_
            refine e_iload_n f_199_136 rfl rfl ?_
            refine e_iload f_199_137 rfl rfl ?_
            refine e_callS (As := [.int (nI ((j.getD st (0, 0, 0)).1)), .int (nI 0)]) (rest := []) f_199_139 rfl rfl rfl (Nat.le_of_ble_eq_true rfl) (Nat.le_of_ble_eq_true rfl) (cc_Md_sgo (s := (j.getD st (0, 0, 0)).1) (i := 0)  (by omega) (by omega)) rfl (fun h685 r686 q687 => ?_)
            obtain ⟨rfl, qe⟩ := q687
            have qe := qe.symm
            subst qe
            show px_to 199 142 [some (.ref (269)), some (.int (nI st)), some (.int (nI ((j.getD st (0, 0, 0)).1))), some (.int (nI 3)), some (.int (nI 0)), some (.int (nI 0))] [.int (nI (sgF ((j.getD st (0, 0, 0)).1) 0))] h1 _
            rw [show sgF (j.getD st (0, 0, 0)).1 0 = 60 by rw [c_95]; rfl]
            refine e_aload_n f_199_142 rfl rfl ?_
            refine e_getf f_199_143 g4 rfl rfl ?_
            refine e_iload_n f_199_146 rfl rfl ?_
            obtain ⟨hm689, fa690, fb691⟩ := fj_mid fr13
            have g688 : px_pa h1 272 52 6 stA j := pa_fi (pa_fi H2 fa690 (by omega)) fb691 (by omega)
            refine e_caload_p (xs := j) f_199_147 g688 (d := (0, 0, 0)) (by first | omega | (simp only [List.length_set]; omega)) rfl ?_
            show px_to 199 148 [some (.ref (269)), some (.int (nI st)), some (.int (nI ((j.getD st (0, 0, 0)).1))), some (.int (nI 3)), some (.int (nI 0)), some (.int (nI 0))] [.int (nI ((j.getD st (0, 0, 0)).2.1)), .int (nI 60)] h1 _
            rw [ha]
            refine e_icmp_eq_t f_199_148 (by decide) ?_
            refine e_iinc (y := nI 1) (L' := [some (.ref (269)), some (.int (nI st)), some (.int (nI ((j.getD st (0, 0, 0)).1))), some (.int (nI 3)), some (.int (nI 0)), some (.int (nI 1))]) f_199_184 rfl (by rw [show Int32.ofInt 1 = nI 1 by decide]; exact (nI_add _ _).trans (congrArg nI (by omega))) rfl rfl ?_
            refine e_goto f_199_187 ?_
            refine e_iload f_199_130 rfl rfl ?_
            refine e_iload_n f_199_132 rfl rfl ?_
            refine e_icmp_ge_f f_199_133 (by decide) rfl ?_
            refine e_iload_n f_199_136 rfl rfl ?_
            refine e_iload f_199_137 rfl rfl ?_
            refine e_callS (As := [.int (nI ((j.getD st (0, 0, 0)).1)), .int (nI 1)]) (rest := []) f_199_139 rfl rfl rfl (Nat.le_of_ble_eq_true rfl) (Nat.le_of_ble_eq_true rfl) (cc_Md_sgo (s := (j.getD st (0, 0, 0)).1) (i := 1)  (by omega) (by omega)) rfl (fun h692 r693 q694 => ?_)
            obtain ⟨rfl, qe⟩ := q694
            have qe := qe.symm
            subst qe
            show px_to 199 142 [some (.ref (269)), some (.int (nI st)), some (.int (nI ((j.getD st (0, 0, 0)).1))), some (.int (nI 3)), some (.int (nI 0)), some (.int (nI 1))] [.int (nI (sgF ((j.getD st (0, 0, 0)).1) 1))] h1 _
            rw [show sgF (j.getD st (0, 0, 0)).1 1 = 61 by rw [c_95]; rfl]
            refine e_aload_n f_199_142 rfl rfl ?_
            refine e_getf f_199_143 g4 rfl rfl ?_
            refine e_iload_n f_199_146 rfl rfl ?_
            refine e_caload_p (xs := j) f_199_147 g688 (d := (0, 0, 0)) (by first | omega | (simp only [List.length_set]; omega)) rfl ?_
            show px_to 199 148 [some (.ref (269)), some (.int (nI st)), some (.int (nI ((j.getD st (0, 0, 0)).1))), some (.int (nI 3)), some (.int (nI 0)), some (.int (nI 1))] [.int (nI ((j.getD st (0, 0, 0)).2.1)), .int (nI 61)] h1 _
            rw [ha]
            refine e_icmp_eq_f f_199_148 (by decide) rfl ?_
            refine e_aload_n f_199_151 rfl rfl ?_
            refine e_getf f_199_152 g4 rfl rfl ?_
            refine e_iload_n f_199_155 rfl rfl ?_
            refine e_iload f_199_156 rfl rfl ?_
            refine e_aload_n f_199_158 rfl rfl ?_
            refine e_getf f_199_159 g4 rfl rfl ?_
            show px_to 199 162 [some (.ref (269)), some (.int (nI st)), some (.int (nI ((j.getD st (0, 0, 0)).1))), some (.int (nI 3)), some (.int (nI 0)), some (.int (nI 1))] [.int (nI wy), .int (nI 0), .int (nI st), .ref (285)] h1 _
            refine e_icmp_ne_t f_199_162 (by rw [hw]; decide) ?_
            refine e_aload_n f_199_174 rfl rfl ?_
            refine e_getf f_199_175 g4 rfl rfl ?_
            refine e_iload_n f_199_178 rfl rfl ?_
            refine e_caload_p (xs := j) f_199_179 g6 (d := (0, 0, 0)) (by first | omega | (simp only [List.length_set]; omega)) rfl ?_
            show px_to 199 180 [some (.ref (269)), some (.int (nI st)), some (.int (nI ((j.getD st (0, 0, 0)).1))), some (.int (nI 3)), some (.int (nI 0)), some (.int (nI 1))] [.int (nI ((j.getD st (0, 0, 0)).2.1)), .int (nI st), .ref (285)] h1 _
            rw [ha]
            refine e_castore_p (xs := j) (x := ((j.getD st (0, 0, 0)).1, 60, (j.getD st (0, 0, 0)).2.2)) f_199_180 g6 (by omega) (by first | omega | (simp only [List.length_set]; omega)) (nw_ch (n := 60) (by decide)) rfl (fun h695 g696 fx697 => ?_)
            have fr698 : px_fj 269 1 284 3 h h695 := fj_tr fr13 fx697 (by omega)
            refine e_iinc (y := nI 1) (L' := [some (.ref (269)), some (.int (nI st)), some (.int (nI ((j.getD st (0, 0, 0)).1))), some (.int (nI 3)), some (.int (nI 1)), some (.int (nI 1))]) f_199_181 rfl (by rw [show Int32.ofInt 1 = nI 1 by decide]; exact (nI_add _ _).trans (congrArg nI (by omega))) rfl rfl ?_
            refine e_iinc (y := nI 2) (L' := [some (.ref (269)), some (.int (nI st)), some (.int (nI ((j.getD st (0, 0, 0)).1))), some (.int (nI 3)), some (.int (nI 1)), some (.int (nI 2))]) f_199_184 rfl (by rw [show Int32.ofInt 1 = nI 1 by decide]; exact (nI_add _ _).trans (congrArg nI (by omega))) rfl rfl ?_
            refine e_goto f_199_187 ?_
            refine e_iload f_199_130 rfl rfl ?_
            refine e_iload_n f_199_132 rfl rfl ?_
            refine e_icmp_ge_f f_199_133 (by decide) rfl ?_
            refine e_iload_n f_199_136 rfl rfl ?_
            refine e_iload f_199_137 rfl rfl ?_
            refine e_callS (As := [.int (nI ((j.getD st (0, 0, 0)).1)), .int (nI 2)]) (rest := []) f_199_139 rfl rfl rfl (Nat.le_of_ble_eq_true rfl) (Nat.le_of_ble_eq_true rfl) (cc_Md_sgo (s := (j.getD st (0, 0, 0)).1) (i := 2)  (by omega) (by omega)) rfl (fun h699 r700 q701 => ?_)
            obtain ⟨rfl, qe⟩ := q701
            have qe := qe.symm
            subst qe
            show px_to 199 142 [some (.ref (269)), some (.int (nI st)), some (.int (nI ((j.getD st (0, 0, 0)).1))), some (.int (nI 3)), some (.int (nI 1)), some (.int (nI 2))] [.int (nI (sgF ((j.getD st (0, 0, 0)).1) 2))] h695 _
            rw [show sgF (j.getD st (0, 0, 0)).1 2 = 62 by rw [c_95]; rfl]
            refine e_aload_n f_199_142 rfl rfl ?_
            have g702 : h695.2.2 269 = some (12, mB (L, nI j.length, cn) gp (nI j.length, gq.2.1, gq.2.2.1, gq.2.2.2.1, gq.2.2.2.2.1, gq.2.2.2.2.2.1, gq.2.2.2.2.2.2) gh gw gu (gv.1, gv.2.1, gv.2.2.1, gv.2.2.2.1, gv.2.2.2.2.1, gv.2.2.2.2.2.1, gv.2.2.2.2.2.2.1, nI st, nI wy)) := fi_at g4 fx697 (by omega)
            refine e_getf f_199_143 g702 rfl rfl ?_
            refine e_iload_n f_199_146 rfl rfl ?_
            obtain ⟨hm704, fa705, fb706⟩ := fj_mid fr698
            have g703 : px_pa h695 272 52 6 stA j := pa_fi (pa_fi H2 fa705 (by omega)) fb706 (by omega)
            refine e_caload_p (xs := j) f_199_147 g703 (d := (0, 0, 0)) (by first | omega | (simp only [List.length_set]; omega)) rfl ?_
            show px_to 199 148 [some (.ref (269)), some (.int (nI st)), some (.int (nI ((j.getD st (0, 0, 0)).1))), some (.int (nI 3)), some (.int (nI 1)), some (.int (nI 2))] [.int (nI ((j.getD st (0, 0, 0)).2.1)), .int (nI 62)] h695 _
            rw [ha]
            refine e_icmp_eq_f f_199_148 (by decide) rfl ?_
            refine e_aload_n f_199_151 rfl rfl ?_
            refine e_getf f_199_152 g702 rfl rfl ?_
            refine e_iload_n f_199_155 rfl rfl ?_
            refine e_iload f_199_156 rfl rfl ?_
            refine e_aload_n f_199_158 rfl rfl ?_
            refine e_getf f_199_159 g702 rfl rfl ?_
            show px_to 199 162 [some (.ref (269)), some (.int (nI st)), some (.int (nI ((j.getD st (0, 0, 0)).1))), some (.int (nI 3)), some (.int (nI 1)), some (.int (nI 2))] [.int (nI wy), .int (nI 1), .int (nI st), .ref (285)] h695 _
            refine e_icmp_ne_f f_199_162 (by rw [hw]; decide) rfl ?_
            refine e_iload_n f_199_165 rfl rfl ?_
            refine e_iload f_199_166 rfl rfl ?_
            refine e_callS (As := [.int (nI ((j.getD st (0, 0, 0)).1)), .int (nI 2)]) (rest := [.int (nI st), .ref (285)]) f_199_168 rfl rfl rfl (Nat.le_of_ble_eq_true rfl) (Nat.le_of_ble_eq_true rfl) (cc_Md_sgo (s := (j.getD st (0, 0, 0)).1) (i := 2)  (by omega) (by omega)) rfl (fun h707 r708 q709 => ?_)
            obtain ⟨rfl, qe⟩ := q709
            have qe := qe.symm
            subst qe
            show px_to 199 171 [some (.ref (269)), some (.int (nI st)), some (.int (nI ((j.getD st (0, 0, 0)).1))), some (.int (nI 3)), some (.int (nI 1)), some (.int (nI 2))] [.int (nI (sgF ((j.getD st (0, 0, 0)).1) 2)), .int (nI st), .ref (285)] h695 _
            rw [show sgF (j.getD st (0, 0, 0)).1 2 = 62 by rw [c_95]; rfl]
            refine e_goto f_199_171 ?_
            refine e_castore_p (xs := j.set st ((j.getD st (0, 0, 0)).1, 60, (j.getD st (0, 0, 0)).2.2)) (x := ((j.getD st (0, 0, 0)).1, 62, (j.getD st (0, 0, 0)).2.2)) f_199_180 g696 (by omega) (by first | omega | (simp only [List.length_set]; omega)) (nw_ch (n := 62) (by decide)) rfl (fun h710 g711 fx712 => ?_)
            have fr713 : px_fj 269 1 284 3 h h710 := fj_tr fr698 fx712 (by omega)
            refine e_iinc (y := nI 2) (L' := [some (.ref (269)), some (.int (nI st)), some (.int (nI ((j.getD st (0, 0, 0)).1))), some (.int (nI 3)), some (.int (nI 2)), some (.int (nI 2))]) f_199_181 rfl (by rw [show Int32.ofInt 1 = nI 1 by decide]; exact (nI_add _ _).trans (congrArg nI (by omega))) rfl rfl ?_
            refine e_iinc (y := nI 3) (L' := [some (.ref (269)), some (.int (nI st)), some (.int (nI ((j.getD st (0, 0, 0)).1))), some (.int (nI 3)), some (.int (nI 2)), some (.int (nI 3))]) f_199_184 rfl (by rw [show Int32.ofInt 1 = nI 1 by decide]; exact (nI_add _ _).trans (congrArg nI (by omega))) rfl rfl ?_
            refine e_goto f_199_187 ?_
            refine e_iload f_199_130 rfl rfl ?_
            refine e_iload_n f_199_132 rfl rfl ?_
            refine e_icmp_ge_t f_199_133 (by decide) ?_
            refine e_goto f_199_190 ?_
            refine e_vret f_199_217 rfl ?_
            have hnl := of_decide_eq_false c_13
            have em : mutGo st wy j 0 = j.set st (chg (j.getD st (0, 0, 0)) wy) := mutGo_set wy j st 0 p1 (by omega)
            rw [em]
            have g714 : h710.2.2 269 = some (12, mB (L, nI j.length, cn) gp (nI j.length, gq.2.1, gq.2.2.1, gq.2.2.2.1, gq.2.2.2.2.1, gq.2.2.2.2.2.1, gq.2.2.2.2.2.2) gh gw gu (gv.1, gv.2.1, gv.2.2.1, gv.2.2.2.1, gv.2.2.2.2.1, gv.2.2.2.2.2.1, gv.2.2.2.2.2.2.1, nI st, nI wy)) := fi_at g702 fx712 (by omega)
            have g715 : px_pa h695 284 52 6 stS j := pa_fi g5 fx697 (by omega)
            have g716 : px_pa h710 284 52 6 stS j := pa_fi g715 fx712 (by omega)
            have g717 : px_pa h695 286 50 6 stN j := pa_fi g7 fx697 (by omega)
            have g718 : px_pa h710 286 50 6 stN j := pa_fi g717 fx712 (by omega)
            have ho : othN (j.getD st (0, 0, 0)) = 2 := by unfold othN; rw [if_pos c_95]
            have hc : chg (j.getD st (0, 0, 0)) wy = ((j.getD st (0, 0, 0)).1, 62, (j.getD st (0, 0, 0)).2.2) := by unfold chg; rw [if_pos (by omega), ha, hw, c_95]; rfl
            rw [hc]
            have hset : (j.set st ((j.getD st (0, 0, 0)).1, 60, (j.getD st (0, 0, 0)).2.2)).set st ((j.getD st (0, 0, 0)).1, 62, (j.getD st (0, 0, 0)).2.2) = j.set st ((j.getD st (0, 0, 0)).1, 62, (j.getD st (0, 0, 0)).2.2) := by simp only [List.set_set]
            exact ⟨rfl, by rw [List.length_set]; exact g714, pa_cg g716 (set_stS p1), pa_eq g711 hset, pa_cg g718 (set_stN p1), fr713⟩
        · skip
          rcases (show wy = 0 ∨ wy = 1 by omega) with hw | hw
          · skip
            refine e_iconst (v := nI 0) f_199_124 (by decide) rfl ?_
            refine e_istore (L' := [some (.ref (269)), some (.int (nI st)), some (.int (nI ((j.getD st (0, 0, 0)).1))), some (.int (nI 3)), some (.int (nI 0)), none]) f_199_125 (Nat.le_of_ble_eq_true rfl) rfl rfl ?_
            refine e_iconst (v := nI 0) f_199_127 (by decide) rfl ?_
            refine e_istore (L' := [some (.ref (269)), some (.int (nI st)), some (.int (nI ((j.getD st (0, 0, 0)).1))), some (.int (nI 3)), some (.int (nI 0)), some (.int (nI 0))]) f_199_128 (Nat.le_of_ble_eq_true rfl) rfl rfl ?_
            refine e_iload f_199_130 rfl rfl ?_
            refine e_iload_n f_199_132 rfl rfl ?_
            refine e_icmp_ge_f f_199_133 (by decide) rfl ?_
            refine e_iload_n f_199_136 rfl rfl ?_
            refine e_iload f_199_137 rfl rfl ?_
            refine e_callS (As := [.int (nI ((j.getD st (0, 0, 0)).1)), .int (nI 0)]) (rest := []) f_199_139 rfl rfl rfl (Nat.le_of_ble_eq_true rfl) (Nat.le_of_ble_eq_true rfl) (cc_Md_sgo (s := (j.getD st (0, 0, 0)).1) (i := 0)  (by omega) (by omega)) rfl (fun h719 r720 q721 => ?_)
            obtain ⟨rfl, qe⟩ := q721
            have qe := qe.symm
            subst qe
            show px_to 199 142 [some (.ref (269)), some (.int (nI st)), some (.int (nI ((j.getD st (0, 0, 0)).1))), some (.int (nI 3)), some (.int (nI 0)), some (.int (nI 0))] [.int (nI (sgF ((j.getD st (0, 0, 0)).1) 0))] h1 _
            rw [show sgF (j.getD st (0, 0, 0)).1 0 = 60 by rw [c_95]; rfl]
            refine e_aload_n f_199_142 rfl rfl ?_
            refine e_getf f_199_143 g4 rfl rfl ?_
            refine e_iload_n f_199_146 rfl rfl ?_
            obtain ⟨hm723, fa724, fb725⟩ := fj_mid fr13
            have g722 : px_pa h1 272 52 6 stA j := pa_fi (pa_fi H2 fa724 (by omega)) fb725 (by omega)
            refine e_caload_p (xs := j) f_199_147 g722 (d := (0, 0, 0)) (by first | omega | (simp only [List.length_set]; omega)) rfl ?_
            show px_to 199 148 [some (.ref (269)), some (.int (nI st)), some (.int (nI ((j.getD st (0, 0, 0)).1))), some (.int (nI 3)), some (.int (nI 0)), some (.int (nI 0))] [.int (nI ((j.getD st (0, 0, 0)).2.1)), .int (nI 60)] h1 _
            rw [ha]
            refine e_icmp_eq_f f_199_148 (by decide) rfl ?_
            refine e_aload_n f_199_151 rfl rfl ?_
            refine e_getf f_199_152 g4 rfl rfl ?_
            refine e_iload_n f_199_155 rfl rfl ?_
            refine e_iload f_199_156 rfl rfl ?_
            refine e_aload_n f_199_158 rfl rfl ?_
            refine e_getf f_199_159 g4 rfl rfl ?_
            show px_to 199 162 [some (.ref (269)), some (.int (nI st)), some (.int (nI ((j.getD st (0, 0, 0)).1))), some (.int (nI 3)), some (.int (nI 0)), some (.int (nI 0))] [.int (nI wy), .int (nI 0), .int (nI st), .ref (285)] h1 _
            refine e_icmp_ne_f f_199_162 (by rw [hw]; decide) rfl ?_
            refine e_iload_n f_199_165 rfl rfl ?_
            refine e_iload f_199_166 rfl rfl ?_
            refine e_callS (As := [.int (nI ((j.getD st (0, 0, 0)).1)), .int (nI 0)]) (rest := [.int (nI st), .ref (285)]) f_199_168 rfl rfl rfl (Nat.le_of_ble_eq_true rfl) (Nat.le_of_ble_eq_true rfl) (cc_Md_sgo (s := (j.getD st (0, 0, 0)).1) (i := 0)  (by omega) (by omega)) rfl (fun h726 r727 q728 => ?_)
            obtain ⟨rfl, qe⟩ := q728
            have qe := qe.symm
            subst qe
            show px_to 199 171 [some (.ref (269)), some (.int (nI st)), some (.int (nI ((j.getD st (0, 0, 0)).1))), some (.int (nI 3)), some (.int (nI 0)), some (.int (nI 0))] [.int (nI (sgF ((j.getD st (0, 0, 0)).1) 0)), .int (nI st), .ref (285)] h1 _
            rw [show sgF (j.getD st (0, 0, 0)).1 0 = 60 by rw [c_95]; rfl]
            refine e_goto f_199_171 ?_
            refine e_castore_p (xs := j) (x := ((j.getD st (0, 0, 0)).1, 60, (j.getD st (0, 0, 0)).2.2)) f_199_180 g6 (by omega) (by first | omega | (simp only [List.length_set]; omega)) (nw_ch (n := 60) (by decide)) rfl (fun h729 g730 fx731 => ?_)
            have fr732 : px_fj 269 1 284 3 h h729 := fj_tr fr13 fx731 (by omega)
            refine e_iinc (y := nI 1) (L' := [some (.ref (269)), some (.int (nI st)), some (.int (nI ((j.getD st (0, 0, 0)).1))), some (.int (nI 3)), some (.int (nI 1)), some (.int (nI 0))]) f_199_181 rfl (by rw [show Int32.ofInt 1 = nI 1 by decide]; exact (nI_add _ _).trans (congrArg nI (by omega))) rfl rfl ?_
            refine e_iinc (y := nI 1) (L' := [some (.ref (269)), some (.int (nI st)), some (.int (nI ((j.getD st (0, 0, 0)).1))), some (.int (nI 3)), some (.int (nI 1)), some (.int (nI 1))]) f_199_184 rfl (by rw [show Int32.ofInt 1 = nI 1 by decide]; exact (nI_add _ _).trans (congrArg nI (by omega))) rfl rfl ?_
            refine e_goto f_199_187 ?_
            refine e_iload f_199_130 rfl rfl ?_
            refine e_iload_n f_199_132 rfl rfl ?_
            refine e_icmp_ge_f f_199_133 (by decide) rfl ?_
            refine e_iload_n f_199_136 rfl rfl ?_
            refine e_iload f_199_137 rfl rfl ?_
            refine e_callS (As := [.int (nI ((j.getD st (0, 0, 0)).1)), .int (nI 1)]) (rest := []) f_199_139 rfl rfl rfl (Nat.le_of_ble_eq_true rfl) (Nat.le_of_ble_eq_true rfl) (cc_Md_sgo (s := (j.getD st (0, 0, 0)).1) (i := 1)  (by omega) (by omega)) rfl (fun h733 r734 q735 => ?_)
            obtain ⟨rfl, qe⟩ := q735
            have qe := qe.symm
            subst qe
            show px_to 199 142 [some (.ref (269)), some (.int (nI st)), some (.int (nI ((j.getD st (0, 0, 0)).1))), some (.int (nI 3)), some (.int (nI 1)), some (.int (nI 1))] [.int (nI (sgF ((j.getD st (0, 0, 0)).1) 1))] h729 _
            rw [show sgF (j.getD st (0, 0, 0)).1 1 = 61 by rw [c_95]; rfl]
            refine e_aload_n f_199_142 rfl rfl ?_
            have g736 : h729.2.2 269 = some (12, mB (L, nI j.length, cn) gp (nI j.length, gq.2.1, gq.2.2.1, gq.2.2.2.1, gq.2.2.2.2.1, gq.2.2.2.2.2.1, gq.2.2.2.2.2.2) gh gw gu (gv.1, gv.2.1, gv.2.2.1, gv.2.2.2.1, gv.2.2.2.2.1, gv.2.2.2.2.2.1, gv.2.2.2.2.2.2.1, nI st, nI wy)) := fi_at g4 fx731 (by omega)
            refine e_getf f_199_143 g736 rfl rfl ?_
            refine e_iload_n f_199_146 rfl rfl ?_
            obtain ⟨hm738, fa739, fb740⟩ := fj_mid fr732
            have g737 : px_pa h729 272 52 6 stA j := pa_fi (pa_fi H2 fa739 (by omega)) fb740 (by omega)
            refine e_caload_p (xs := j) f_199_147 g737 (d := (0, 0, 0)) (by first | omega | (simp only [List.length_set]; omega)) rfl ?_
            show px_to 199 148 [some (.ref (269)), some (.int (nI st)), some (.int (nI ((j.getD st (0, 0, 0)).1))), some (.int (nI 3)), some (.int (nI 1)), some (.int (nI 1))] [.int (nI ((j.getD st (0, 0, 0)).2.1)), .int (nI 61)] h729 _
            rw [ha]
            refine e_icmp_eq_t f_199_148 (by decide) ?_
            refine e_iinc (y := nI 2) (L' := [some (.ref (269)), some (.int (nI st)), some (.int (nI ((j.getD st (0, 0, 0)).1))), some (.int (nI 3)), some (.int (nI 1)), some (.int (nI 2))]) f_199_184 rfl (by rw [show Int32.ofInt 1 = nI 1 by decide]; exact (nI_add _ _).trans (congrArg nI (by omega))) rfl rfl ?_
            refine e_goto f_199_187 ?_
            refine e_iload f_199_130 rfl rfl ?_
            refine e_iload_n f_199_132 rfl rfl ?_
            refine e_icmp_ge_f f_199_133 (by decide) rfl ?_
            refine e_iload_n f_199_136 rfl rfl ?_
            refine e_iload f_199_137 rfl rfl ?_
            refine e_callS (As := [.int (nI ((j.getD st (0, 0, 0)).1)), .int (nI 2)]) (rest := []) f_199_139 rfl rfl rfl (Nat.le_of_ble_eq_true rfl) (Nat.le_of_ble_eq_true rfl) (cc_Md_sgo (s := (j.getD st (0, 0, 0)).1) (i := 2)  (by omega) (by omega)) rfl (fun h741 r742 q743 => ?_)
            obtain ⟨rfl, qe⟩ := q743
            have qe := qe.symm
            subst qe
            show px_to 199 142 [some (.ref (269)), some (.int (nI st)), some (.int (nI ((j.getD st (0, 0, 0)).1))), some (.int (nI 3)), some (.int (nI 1)), some (.int (nI 2))] [.int (nI (sgF ((j.getD st (0, 0, 0)).1) 2))] h729 _
            rw [show sgF (j.getD st (0, 0, 0)).1 2 = 62 by rw [c_95]; rfl]
            refine e_aload_n f_199_142 rfl rfl ?_
            refine e_getf f_199_143 g736 rfl rfl ?_
            refine e_iload_n f_199_146 rfl rfl ?_
            refine e_caload_p (xs := j) f_199_147 g737 (d := (0, 0, 0)) (by first | omega | (simp only [List.length_set]; omega)) rfl ?_
            show px_to 199 148 [some (.ref (269)), some (.int (nI st)), some (.int (nI ((j.getD st (0, 0, 0)).1))), some (.int (nI 3)), some (.int (nI 1)), some (.int (nI 2))] [.int (nI ((j.getD st (0, 0, 0)).2.1)), .int (nI 62)] h729 _
            rw [ha]
            refine e_icmp_eq_f f_199_148 (by decide) rfl ?_
            refine e_aload_n f_199_151 rfl rfl ?_
            refine e_getf f_199_152 g736 rfl rfl ?_
            refine e_iload_n f_199_155 rfl rfl ?_
            refine e_iload f_199_156 rfl rfl ?_
            refine e_aload_n f_199_158 rfl rfl ?_
            refine e_getf f_199_159 g736 rfl rfl ?_
            show px_to 199 162 [some (.ref (269)), some (.int (nI st)), some (.int (nI ((j.getD st (0, 0, 0)).1))), some (.int (nI 3)), some (.int (nI 1)), some (.int (nI 2))] [.int (nI wy), .int (nI 1), .int (nI st), .ref (285)] h729 _
            refine e_icmp_ne_t f_199_162 (by rw [hw]; decide) ?_
            refine e_aload_n f_199_174 rfl rfl ?_
            refine e_getf f_199_175 g736 rfl rfl ?_
            refine e_iload_n f_199_178 rfl rfl ?_
            refine e_caload_p (xs := j.set st ((j.getD st (0, 0, 0)).1, 60, (j.getD st (0, 0, 0)).2.2)) f_199_179 g730 (d := (0, 0, 0)) (by first | omega | (simp only [List.length_set]; omega)) rfl ?_
            show px_to 199 180 [some (.ref (269)), some (.int (nI st)), some (.int (nI ((j.getD st (0, 0, 0)).1))), some (.int (nI 3)), some (.int (nI 1)), some (.int (nI 2))] [.int (nI (((j.set st ((j.getD st (0, 0, 0)).1, 60, (j.getD st (0, 0, 0)).2.2)).getD st (0, 0, 0)).2.1)), .int (nI st), .ref (285)] h729 _
            rw [getD_set_same (by first | omega | (simp only [List.length_set]; omega))]
            refine e_castore_p (xs := j.set st ((j.getD st (0, 0, 0)).1, 60, (j.getD st (0, 0, 0)).2.2)) (x := ((j.getD st (0, 0, 0)).1, 60, (j.getD st (0, 0, 0)).2.2)) f_199_180 g730 (by omega) (by first | omega | (simp only [List.length_set]; omega)) (nw_ch (n := 60) (by decide)) rfl (fun h744 g745 fx746 => ?_)
            have fr747 : px_fj 269 1 284 3 h h744 := fj_tr fr732 fx746 (by omega)
            refine e_iinc (y := nI 2) (L' := [some (.ref (269)), some (.int (nI st)), some (.int (nI ((j.getD st (0, 0, 0)).1))), some (.int (nI 3)), some (.int (nI 2)), some (.int (nI 2))]) f_199_181 rfl (by rw [show Int32.ofInt 1 = nI 1 by decide]; exact (nI_add _ _).trans (congrArg nI (by omega))) rfl rfl ?_
            refine e_iinc (y := nI 3) (L' := [some (.ref (269)), some (.int (nI st)), some (.int (nI ((j.getD st (0, 0, 0)).1))), some (.int (nI 3)), some (.int (nI 2)), some (.int (nI 3))]) f_199_184 rfl (by rw [show Int32.ofInt 1 = nI 1 by decide]; exact (nI_add _ _).trans (congrArg nI (by omega))) rfl rfl ?_
            refine e_goto f_199_187 ?_
            refine e_iload f_199_130 rfl rfl ?_
            refine e_iload_n f_199_132 rfl rfl ?_
            refine e_icmp_ge_t f_199_133 (by decide) ?_
            refine e_goto f_199_190 ?_
            refine e_vret f_199_217 rfl ?_
            have hnl := of_decide_eq_false c_13
            have em : mutGo st wy j 0 = j.set st (chg (j.getD st (0, 0, 0)) wy) := mutGo_set wy j st 0 p1 (by omega)
            rw [em]
            have g748 : h744.2.2 269 = some (12, mB (L, nI j.length, cn) gp (nI j.length, gq.2.1, gq.2.2.1, gq.2.2.2.1, gq.2.2.2.2.1, gq.2.2.2.2.2.1, gq.2.2.2.2.2.2) gh gw gu (gv.1, gv.2.1, gv.2.2.1, gv.2.2.2.1, gv.2.2.2.2.1, gv.2.2.2.2.2.1, gv.2.2.2.2.2.2.1, nI st, nI wy)) := fi_at g736 fx746 (by omega)
            have g749 : px_pa h729 284 52 6 stS j := pa_fi g5 fx731 (by omega)
            have g750 : px_pa h744 284 52 6 stS j := pa_fi g749 fx746 (by omega)
            have g751 : px_pa h729 286 50 6 stN j := pa_fi g7 fx731 (by omega)
            have g752 : px_pa h744 286 50 6 stN j := pa_fi g751 fx746 (by omega)
            have ho : othN (j.getD st (0, 0, 0)) = 2 := by unfold othN; rw [if_pos c_95]
            have hc : chg (j.getD st (0, 0, 0)) wy = ((j.getD st (0, 0, 0)).1, 60, (j.getD st (0, 0, 0)).2.2) := by unfold chg; rw [if_pos (by omega), ha, hw, c_95]; rfl
            rw [hc]
            have hset : (j.set st ((j.getD st (0, 0, 0)).1, 60, (j.getD st (0, 0, 0)).2.2)).set st ((j.getD st (0, 0, 0)).1, 60, (j.getD st (0, 0, 0)).2.2) = j.set st ((j.getD st (0, 0, 0)).1, 60, (j.getD st (0, 0, 0)).2.2) := by simp only [List.set_set]
            exact ⟨rfl, by rw [List.length_set]; exact g748, pa_cg g750 (set_stS p1), pa_eq g745 hset, pa_cg g752 (set_stN p1), fr747⟩
          · skip
            refine e_iconst (v := nI 0) f_199_124 (by decide) rfl ?_
            refine e_istore (L' := [some (.ref (269)), some (.int (nI st)), some (.int (nI ((j.getD st (0, 0, 0)).1))), some (.int (nI 3)), some (.int (nI 0)), none]) f_199_125 (Nat.le_of_ble_eq_true rfl) rfl rfl ?_
            refine e_iconst (v := nI 0) f_199_127 (by decide) rfl ?_
            refine e_istore (L' := [some (.ref (269)), some (.int (nI st)), some (.int (nI ((j.getD st (0, 0, 0)).1))), some (.int (nI 3)), some (.int (nI 0)), some (.int (nI 0))]) f_199_128 (Nat.le_of_ble_eq_true rfl) rfl rfl ?_
            refine e_iload f_199_130 rfl rfl ?_
            refine e_iload_n f_199_132 rfl rfl ?_
            refine e_icmp_ge_f f_199_133 (by decide) rfl ?_
            refine e_iload_n f_199_136 rfl rfl ?_
            refine e_iload f_199_137 rfl rfl ?_
            refine e_callS (As := [.int (nI ((j.getD st (0, 0, 0)).1)), .int (nI 0)]) (rest := []) f_199_139 rfl rfl rfl (Nat.le_of_ble_eq_true rfl) (Nat.le_of_ble_eq_true rfl) (cc_Md_sgo (s := (j.getD st (0, 0, 0)).1) (i := 0)  (by omega) (by omega)) rfl (fun h753 r754 q755 => ?_)
            obtain ⟨rfl, qe⟩ := q755
            have qe := qe.symm
            subst qe
            show px_to 199 142 [some (.ref (269)), some (.int (nI st)), some (.int (nI ((j.getD st (0, 0, 0)).1))), some (.int (nI 3)), some (.int (nI 0)), some (.int (nI 0))] [.int (nI (sgF ((j.getD st (0, 0, 0)).1) 0))] h1 _
            rw [show sgF (j.getD st (0, 0, 0)).1 0 = 60 by rw [c_95]; rfl]
            refine e_aload_n f_199_142 rfl rfl ?_
            refine e_getf f_199_143 g4 rfl rfl ?_
            refine e_iload_n f_199_146 rfl rfl ?_
            obtain ⟨hm757, fa758, fb759⟩ := fj_mid fr13
            have g756 : px_pa h1 272 52 6 stA j := pa_fi (pa_fi H2 fa758 (by omega)) fb759 (by omega)
            refine e_caload_p (xs := j) f_199_147 g756 (d := (0, 0, 0)) (by first | omega | (simp only [List.length_set]; omega)) rfl ?_
            show px_to 199 148 [some (.ref (269)), some (.int (nI st)), some (.int (nI ((j.getD st (0, 0, 0)).1))), some (.int (nI 3)), some (.int (nI 0)), some (.int (nI 0))] [.int (nI ((j.getD st (0, 0, 0)).2.1)), .int (nI 60)] h1 _
            rw [ha]
            refine e_icmp_eq_f f_199_148 (by decide) rfl ?_
            refine e_aload_n f_199_151 rfl rfl ?_
            refine e_getf f_199_152 g4 rfl rfl ?_
            refine e_iload_n f_199_155 rfl rfl ?_
            refine e_iload f_199_156 rfl rfl ?_
            refine e_aload_n f_199_158 rfl rfl ?_
            refine e_getf f_199_159 g4 rfl rfl ?_
            show px_to 199 162 [some (.ref (269)), some (.int (nI st)), some (.int (nI ((j.getD st (0, 0, 0)).1))), some (.int (nI 3)), some (.int (nI 0)), some (.int (nI 0))] [.int (nI wy), .int (nI 0), .int (nI st), .ref (285)] h1 _
            refine e_icmp_ne_t f_199_162 (by rw [hw]; decide) ?_
            refine e_aload_n f_199_174 rfl rfl ?_
            refine e_getf f_199_175 g4 rfl rfl ?_
            refine e_iload_n f_199_178 rfl rfl ?_
            refine e_caload_p (xs := j) f_199_179 g6 (d := (0, 0, 0)) (by first | omega | (simp only [List.length_set]; omega)) rfl ?_
            show px_to 199 180 [some (.ref (269)), some (.int (nI st)), some (.int (nI ((j.getD st (0, 0, 0)).1))), some (.int (nI 3)), some (.int (nI 0)), some (.int (nI 0))] [.int (nI ((j.getD st (0, 0, 0)).2.1)), .int (nI st), .ref (285)] h1 _
            rw [ha]
            refine e_castore_p (xs := j) (x := ((j.getD st (0, 0, 0)).1, 61, (j.getD st (0, 0, 0)).2.2)) f_199_180 g6 (by omega) (by first | omega | (simp only [List.length_set]; omega)) (nw_ch (n := 61) (by decide)) rfl (fun h760 g761 fx762 => ?_)
            have fr763 : px_fj 269 1 284 3 h h760 := fj_tr fr13 fx762 (by omega)
            refine e_iinc (y := nI 1) (L' := [some (.ref (269)), some (.int (nI st)), some (.int (nI ((j.getD st (0, 0, 0)).1))), some (.int (nI 3)), some (.int (nI 1)), some (.int (nI 0))]) f_199_181 rfl (by rw [show Int32.ofInt 1 = nI 1 by decide]; exact (nI_add _ _).trans (congrArg nI (by omega))) rfl rfl ?_
            refine e_iinc (y := nI 1) (L' := [some (.ref (269)), some (.int (nI st)), some (.int (nI ((j.getD st (0, 0, 0)).1))), some (.int (nI 3)), some (.int (nI 1)), some (.int (nI 1))]) f_199_184 rfl (by rw [show Int32.ofInt 1 = nI 1 by decide]; exact (nI_add _ _).trans (congrArg nI (by omega))) rfl rfl ?_
            refine e_goto f_199_187 ?_
            refine e_iload f_199_130 rfl rfl ?_
            refine e_iload_n f_199_132 rfl rfl ?_
            refine e_icmp_ge_f f_199_133 (by decide) rfl ?_
            refine e_iload_n f_199_136 rfl rfl ?_
            refine e_iload f_199_137 rfl rfl ?_
            refine e_callS (As := [.int (nI ((j.getD st (0, 0, 0)).1)), .int (nI 1)]) (rest := []) f_199_139 rfl rfl rfl (Nat.le_of_ble_eq_true rfl) (Nat.le_of_ble_eq_true rfl) (cc_Md_sgo (s := (j.getD st (0, 0, 0)).1) (i := 1)  (by omega) (by omega)) rfl (fun h764 r765 q766 => ?_)
            obtain ⟨rfl, qe⟩ := q766
            have qe := qe.symm
            subst qe
            show px_to 199 142 [some (.ref (269)), some (.int (nI st)), some (.int (nI ((j.getD st (0, 0, 0)).1))), some (.int (nI 3)), some (.int (nI 1)), some (.int (nI 1))] [.int (nI (sgF ((j.getD st (0, 0, 0)).1) 1))] h760 _
            rw [show sgF (j.getD st (0, 0, 0)).1 1 = 61 by rw [c_95]; rfl]
            refine e_aload_n f_199_142 rfl rfl ?_
            have g767 : h760.2.2 269 = some (12, mB (L, nI j.length, cn) gp (nI j.length, gq.2.1, gq.2.2.1, gq.2.2.2.1, gq.2.2.2.2.1, gq.2.2.2.2.2.1, gq.2.2.2.2.2.2) gh gw gu (gv.1, gv.2.1, gv.2.2.1, gv.2.2.2.1, gv.2.2.2.2.1, gv.2.2.2.2.2.1, gv.2.2.2.2.2.2.1, nI st, nI wy)) := fi_at g4 fx762 (by omega)
            refine e_getf f_199_143 g767 rfl rfl ?_
            refine e_iload_n f_199_146 rfl rfl ?_
            obtain ⟨hm769, fa770, fb771⟩ := fj_mid fr763
            have g768 : px_pa h760 272 52 6 stA j := pa_fi (pa_fi H2 fa770 (by omega)) fb771 (by omega)
            refine e_caload_p (xs := j) f_199_147 g768 (d := (0, 0, 0)) (by first | omega | (simp only [List.length_set]; omega)) rfl ?_
            show px_to 199 148 [some (.ref (269)), some (.int (nI st)), some (.int (nI ((j.getD st (0, 0, 0)).1))), some (.int (nI 3)), some (.int (nI 1)), some (.int (nI 1))] [.int (nI ((j.getD st (0, 0, 0)).2.1)), .int (nI 61)] h760 _
            rw [ha]
            refine e_icmp_eq_t f_199_148 (by decide) ?_
            refine e_iinc (y := nI 2) (L' := [some (.ref (269)), some (.int (nI st)), some (.int (nI ((j.getD st (0, 0, 0)).1))), some (.int (nI 3)), some (.int (nI 1)), some (.int (nI 2))]) f_199_184 rfl (by rw [show Int32.ofInt 1 = nI 1 by decide]; exact (nI_add _ _).trans (congrArg nI (by omega))) rfl rfl ?_
            refine e_goto f_199_187 ?_
            refine e_iload f_199_130 rfl rfl ?_
            refine e_iload_n f_199_132 rfl rfl ?_
            refine e_icmp_ge_f f_199_133 (by decide) rfl ?_
            refine e_iload_n f_199_136 rfl rfl ?_
            refine e_iload f_199_137 rfl rfl ?_
            refine e_callS (As := [.int (nI ((j.getD st (0, 0, 0)).1)), .int (nI 2)]) (rest := []) f_199_139 rfl rfl rfl (Nat.le_of_ble_eq_true rfl) (Nat.le_of_ble_eq_true rfl) (cc_Md_sgo (s := (j.getD st (0, 0, 0)).1) (i := 2)  (by omega) (by omega)) rfl (fun h772 r773 q774 => ?_)
            obtain ⟨rfl, qe⟩ := q774
            have qe := qe.symm
            subst qe
            show px_to 199 142 [some (.ref (269)), some (.int (nI st)), some (.int (nI ((j.getD st (0, 0, 0)).1))), some (.int (nI 3)), some (.int (nI 1)), some (.int (nI 2))] [.int (nI (sgF ((j.getD st (0, 0, 0)).1) 2))] h760 _
            rw [show sgF (j.getD st (0, 0, 0)).1 2 = 62 by rw [c_95]; rfl]
            refine e_aload_n f_199_142 rfl rfl ?_
            refine e_getf f_199_143 g767 rfl rfl ?_
            refine e_iload_n f_199_146 rfl rfl ?_
            refine e_caload_p (xs := j) f_199_147 g768 (d := (0, 0, 0)) (by first | omega | (simp only [List.length_set]; omega)) rfl ?_
            show px_to 199 148 [some (.ref (269)), some (.int (nI st)), some (.int (nI ((j.getD st (0, 0, 0)).1))), some (.int (nI 3)), some (.int (nI 1)), some (.int (nI 2))] [.int (nI ((j.getD st (0, 0, 0)).2.1)), .int (nI 62)] h760 _
            rw [ha]
            refine e_icmp_eq_f f_199_148 (by decide) rfl ?_
            refine e_aload_n f_199_151 rfl rfl ?_
            refine e_getf f_199_152 g767 rfl rfl ?_
            refine e_iload_n f_199_155 rfl rfl ?_
            refine e_iload f_199_156 rfl rfl ?_
            refine e_aload_n f_199_158 rfl rfl ?_
            refine e_getf f_199_159 g767 rfl rfl ?_
            show px_to 199 162 [some (.ref (269)), some (.int (nI st)), some (.int (nI ((j.getD st (0, 0, 0)).1))), some (.int (nI 3)), some (.int (nI 1)), some (.int (nI 2))] [.int (nI wy), .int (nI 1), .int (nI st), .ref (285)] h760 _
            refine e_icmp_ne_f f_199_162 (by rw [hw]; decide) rfl ?_
            refine e_iload_n f_199_165 rfl rfl ?_
            refine e_iload f_199_166 rfl rfl ?_
            refine e_callS (As := [.int (nI ((j.getD st (0, 0, 0)).1)), .int (nI 2)]) (rest := [.int (nI st), .ref (285)]) f_199_168 rfl rfl rfl (Nat.le_of_ble_eq_true rfl) (Nat.le_of_ble_eq_true rfl) (cc_Md_sgo (s := (j.getD st (0, 0, 0)).1) (i := 2)  (by omega) (by omega)) rfl (fun h775 r776 q777 => ?_)
            obtain ⟨rfl, qe⟩ := q777
            have qe := qe.symm
            subst qe
            show px_to 199 171 [some (.ref (269)), some (.int (nI st)), some (.int (nI ((j.getD st (0, 0, 0)).1))), some (.int (nI 3)), some (.int (nI 1)), some (.int (nI 2))] [.int (nI (sgF ((j.getD st (0, 0, 0)).1) 2)), .int (nI st), .ref (285)] h760 _
            rw [show sgF (j.getD st (0, 0, 0)).1 2 = 62 by rw [c_95]; rfl]
            refine e_goto f_199_171 ?_
            refine e_castore_p (xs := j.set st ((j.getD st (0, 0, 0)).1, 61, (j.getD st (0, 0, 0)).2.2)) (x := ((j.getD st (0, 0, 0)).1, 62, (j.getD st (0, 0, 0)).2.2)) f_199_180 g761 (by omega) (by first | omega | (simp only [List.length_set]; omega)) (nw_ch (n := 62) (by decide)) rfl (fun h778 g779 fx780 => ?_)
            have fr781 : px_fj 269 1 284 3 h h778 := fj_tr fr763 fx780 (by omega)
            refine e_iinc (y := nI 2) (L' := [some (.ref (269)), some (.int (nI st)), some (.int (nI ((j.getD st (0, 0, 0)).1))), some (.int (nI 3)), some (.int (nI 2)), some (.int (nI 2))]) f_199_181 rfl (by rw [show Int32.ofInt 1 = nI 1 by decide]; exact (nI_add _ _).trans (congrArg nI (by omega))) rfl rfl ?_
            refine e_iinc (y := nI 3) (L' := [some (.ref (269)), some (.int (nI st)), some (.int (nI ((j.getD st (0, 0, 0)).1))), some (.int (nI 3)), some (.int (nI 2)), some (.int (nI 3))]) f_199_184 rfl (by rw [show Int32.ofInt 1 = nI 1 by decide]; exact (nI_add _ _).trans (congrArg nI (by omega))) rfl rfl ?_
            refine e_goto f_199_187 ?_
            refine e_iload f_199_130 rfl rfl ?_
            refine e_iload_n f_199_132 rfl rfl ?_
            refine e_icmp_ge_t f_199_133 (by decide) ?_
            refine e_goto f_199_190 ?_
            refine e_vret f_199_217 rfl ?_
            have hnl := of_decide_eq_false c_13
            have em : mutGo st wy j 0 = j.set st (chg (j.getD st (0, 0, 0)) wy) := mutGo_set wy j st 0 p1 (by omega)
            rw [em]
            have g782 : h778.2.2 269 = some (12, mB (L, nI j.length, cn) gp (nI j.length, gq.2.1, gq.2.2.1, gq.2.2.2.1, gq.2.2.2.2.1, gq.2.2.2.2.2.1, gq.2.2.2.2.2.2) gh gw gu (gv.1, gv.2.1, gv.2.2.1, gv.2.2.2.1, gv.2.2.2.2.1, gv.2.2.2.2.2.1, gv.2.2.2.2.2.2.1, nI st, nI wy)) := fi_at g767 fx780 (by omega)
            have g783 : px_pa h760 284 52 6 stS j := pa_fi g5 fx762 (by omega)
            have g784 : px_pa h778 284 52 6 stS j := pa_fi g783 fx780 (by omega)
            have g785 : px_pa h760 286 50 6 stN j := pa_fi g7 fx762 (by omega)
            have g786 : px_pa h778 286 50 6 stN j := pa_fi g785 fx780 (by omega)
            have ho : othN (j.getD st (0, 0, 0)) = 2 := by unfold othN; rw [if_pos c_95]
            have hc : chg (j.getD st (0, 0, 0)) wy = ((j.getD st (0, 0, 0)).1, 62, (j.getD st (0, 0, 0)).2.2) := by unfold chg; rw [if_pos (by omega), ha, hw, c_95]; rfl
            rw [hc]
            have hset : (j.set st ((j.getD st (0, 0, 0)).1, 61, (j.getD st (0, 0, 0)).2.2)).set st ((j.getD st (0, 0, 0)).1, 62, (j.getD st (0, 0, 0)).2.2) = j.set st ((j.getD st (0, 0, 0)).1, 62, (j.getD st (0, 0, 0)).2.2) := by simp only [List.set_set]
            exact ⟨rfl, by rw [List.length_set]; exact g782, pa_cg g784 (set_stS p1), pa_eq g779 hset, pa_cg g786 (set_stN p1), fr781⟩
        · skip
          rcases (show wy = 0 ∨ wy = 1 by omega) with hw | hw
          · skip
            refine e_iconst (v := nI 0) f_199_124 (by decide) rfl ?_
            refine e_istore (L' := [some (.ref (269)), some (.int (nI st)), some (.int (nI ((j.getD st (0, 0, 0)).1))), some (.int (nI 3)), some (.int (nI 0)), none]) f_199_125 (Nat.le_of_ble_eq_true rfl) rfl rfl ?_
            refine e_iconst (v := nI 0) f_199_127 (by decide) rfl ?_
            refine e_istore (L' := [some (.ref (269)), some (.int (nI st)), some (.int (nI ((j.getD st (0, 0, 0)).1))), some (.int (nI 3)), some (.int (nI 0)), some (.int (nI 0))]) f_199_128 (Nat.le_of_ble_eq_true rfl) rfl rfl ?_
            refine e_iload f_199_130 rfl rfl ?_
            refine e_iload_n f_199_132 rfl rfl ?_
            refine e_icmp_ge_f f_199_133 (by decide) rfl ?_
            refine e_iload_n f_199_136 rfl rfl ?_
            refine e_iload f_199_137 rfl rfl ?_
            refine e_callS (As := [.int (nI ((j.getD st (0, 0, 0)).1)), .int (nI 0)]) (rest := []) f_199_139 rfl rfl rfl (Nat.le_of_ble_eq_true rfl) (Nat.le_of_ble_eq_true rfl) (cc_Md_sgo (s := (j.getD st (0, 0, 0)).1) (i := 0)  (by omega) (by omega)) rfl (fun h787 r788 q789 => ?_)
            obtain ⟨rfl, qe⟩ := q789
            have qe := qe.symm
            subst qe
            show px_to 199 142 [some (.ref (269)), some (.int (nI st)), some (.int (nI ((j.getD st (0, 0, 0)).1))), some (.int (nI 3)), some (.int (nI 0)), some (.int (nI 0))] [.int (nI (sgF ((j.getD st (0, 0, 0)).1) 0))] h1 _
            rw [show sgF (j.getD st (0, 0, 0)).1 0 = 60 by rw [c_95]; rfl]
            refine e_aload_n f_199_142 rfl rfl ?_
            refine e_getf f_199_143 g4 rfl rfl ?_
            refine e_iload_n f_199_146 rfl rfl ?_
            obtain ⟨hm791, fa792, fb793⟩ := fj_mid fr13
            have g790 : px_pa h1 272 52 6 stA j := pa_fi (pa_fi H2 fa792 (by omega)) fb793 (by omega)
            refine e_caload_p (xs := j) f_199_147 g790 (d := (0, 0, 0)) (by first | omega | (simp only [List.length_set]; omega)) rfl ?_
            show px_to 199 148 [some (.ref (269)), some (.int (nI st)), some (.int (nI ((j.getD st (0, 0, 0)).1))), some (.int (nI 3)), some (.int (nI 0)), some (.int (nI 0))] [.int (nI ((j.getD st (0, 0, 0)).2.1)), .int (nI 60)] h1 _
            rw [ha]
            refine e_icmp_eq_f f_199_148 (by decide) rfl ?_
            refine e_aload_n f_199_151 rfl rfl ?_
            refine e_getf f_199_152 g4 rfl rfl ?_
            refine e_iload_n f_199_155 rfl rfl ?_
            refine e_iload f_199_156 rfl rfl ?_
            refine e_aload_n f_199_158 rfl rfl ?_
            refine e_getf f_199_159 g4 rfl rfl ?_
            show px_to 199 162 [some (.ref (269)), some (.int (nI st)), some (.int (nI ((j.getD st (0, 0, 0)).1))), some (.int (nI 3)), some (.int (nI 0)), some (.int (nI 0))] [.int (nI wy), .int (nI 0), .int (nI st), .ref (285)] h1 _
            refine e_icmp_ne_f f_199_162 (by rw [hw]; decide) rfl ?_
            refine e_iload_n f_199_165 rfl rfl ?_
            refine e_iload f_199_166 rfl rfl ?_
            refine e_callS (As := [.int (nI ((j.getD st (0, 0, 0)).1)), .int (nI 0)]) (rest := [.int (nI st), .ref (285)]) f_199_168 rfl rfl rfl (Nat.le_of_ble_eq_true rfl) (Nat.le_of_ble_eq_true rfl) (cc_Md_sgo (s := (j.getD st (0, 0, 0)).1) (i := 0)  (by omega) (by omega)) rfl (fun h794 r795 q796 => ?_)
            obtain ⟨rfl, qe⟩ := q796
            have qe := qe.symm
            subst qe
            show px_to 199 171 [some (.ref (269)), some (.int (nI st)), some (.int (nI ((j.getD st (0, 0, 0)).1))), some (.int (nI 3)), some (.int (nI 0)), some (.int (nI 0))] [.int (nI (sgF ((j.getD st (0, 0, 0)).1) 0)), .int (nI st), .ref (285)] h1 _
            rw [show sgF (j.getD st (0, 0, 0)).1 0 = 60 by rw [c_95]; rfl]
            refine e_goto f_199_171 ?_
            refine e_castore_p (xs := j) (x := ((j.getD st (0, 0, 0)).1, 60, (j.getD st (0, 0, 0)).2.2)) f_199_180 g6 (by omega) (by first | omega | (simp only [List.length_set]; omega)) (nw_ch (n := 60) (by decide)) rfl (fun h797 g798 fx799 => ?_)
            have fr800 : px_fj 269 1 284 3 h h797 := fj_tr fr13 fx799 (by omega)
            refine e_iinc (y := nI 1) (L' := [some (.ref (269)), some (.int (nI st)), some (.int (nI ((j.getD st (0, 0, 0)).1))), some (.int (nI 3)), some (.int (nI 1)), some (.int (nI 0))]) f_199_181 rfl (by rw [show Int32.ofInt 1 = nI 1 by decide]; exact (nI_add _ _).trans (congrArg nI (by omega))) rfl rfl ?_
            refine e_iinc (y := nI 1) (L' := [some (.ref (269)), some (.int (nI st)), some (.int (nI ((j.getD st (0, 0, 0)).1))), some (.int (nI 3)), some (.int (nI 1)), some (.int (nI 1))]) f_199_184 rfl (by rw [show Int32.ofInt 1 = nI 1 by decide]; exact (nI_add _ _).trans (congrArg nI (by omega))) rfl rfl ?_
            refine e_goto f_199_187 ?_
            refine e_iload f_199_130 rfl rfl ?_
            refine e_iload_n f_199_132 rfl rfl ?_
            refine e_icmp_ge_f f_199_133 (by decide) rfl ?_
            refine e_iload_n f_199_136 rfl rfl ?_
            refine e_iload f_199_137 rfl rfl ?_
            refine e_callS (As := [.int (nI ((j.getD st (0, 0, 0)).1)), .int (nI 1)]) (rest := []) f_199_139 rfl rfl rfl (Nat.le_of_ble_eq_true rfl) (Nat.le_of_ble_eq_true rfl) (cc_Md_sgo (s := (j.getD st (0, 0, 0)).1) (i := 1)  (by omega) (by omega)) rfl (fun h801 r802 q803 => ?_)
            obtain ⟨rfl, qe⟩ := q803
            have qe := qe.symm
            subst qe
            show px_to 199 142 [some (.ref (269)), some (.int (nI st)), some (.int (nI ((j.getD st (0, 0, 0)).1))), some (.int (nI 3)), some (.int (nI 1)), some (.int (nI 1))] [.int (nI (sgF ((j.getD st (0, 0, 0)).1) 1))] h797 _
            rw [show sgF (j.getD st (0, 0, 0)).1 1 = 61 by rw [c_95]; rfl]
            refine e_aload_n f_199_142 rfl rfl ?_
            have g804 : h797.2.2 269 = some (12, mB (L, nI j.length, cn) gp (nI j.length, gq.2.1, gq.2.2.1, gq.2.2.2.1, gq.2.2.2.2.1, gq.2.2.2.2.2.1, gq.2.2.2.2.2.2) gh gw gu (gv.1, gv.2.1, gv.2.2.1, gv.2.2.2.1, gv.2.2.2.2.1, gv.2.2.2.2.2.1, gv.2.2.2.2.2.2.1, nI st, nI wy)) := fi_at g4 fx799 (by omega)
            refine e_getf f_199_143 g804 rfl rfl ?_
            refine e_iload_n f_199_146 rfl rfl ?_
            obtain ⟨hm806, fa807, fb808⟩ := fj_mid fr800
            have g805 : px_pa h797 272 52 6 stA j := pa_fi (pa_fi H2 fa807 (by omega)) fb808 (by omega)
            refine e_caload_p (xs := j) f_199_147 g805 (d := (0, 0, 0)) (by first | omega | (simp only [List.length_set]; omega)) rfl ?_
            show px_to 199 148 [some (.ref (269)), some (.int (nI st)), some (.int (nI ((j.getD st (0, 0, 0)).1))), some (.int (nI 3)), some (.int (nI 1)), some (.int (nI 1))] [.int (nI ((j.getD st (0, 0, 0)).2.1)), .int (nI 61)] h797 _
            rw [ha]
            refine e_icmp_eq_f f_199_148 (by decide) rfl ?_
            refine e_aload_n f_199_151 rfl rfl ?_
            refine e_getf f_199_152 g804 rfl rfl ?_
            refine e_iload_n f_199_155 rfl rfl ?_
            refine e_iload f_199_156 rfl rfl ?_
            refine e_aload_n f_199_158 rfl rfl ?_
            refine e_getf f_199_159 g804 rfl rfl ?_
            show px_to 199 162 [some (.ref (269)), some (.int (nI st)), some (.int (nI ((j.getD st (0, 0, 0)).1))), some (.int (nI 3)), some (.int (nI 1)), some (.int (nI 1))] [.int (nI wy), .int (nI 1), .int (nI st), .ref (285)] h797 _
            refine e_icmp_ne_t f_199_162 (by rw [hw]; decide) ?_
            refine e_aload_n f_199_174 rfl rfl ?_
            refine e_getf f_199_175 g804 rfl rfl ?_
            refine e_iload_n f_199_178 rfl rfl ?_
            refine e_caload_p (xs := j.set st ((j.getD st (0, 0, 0)).1, 60, (j.getD st (0, 0, 0)).2.2)) f_199_179 g798 (d := (0, 0, 0)) (by first | omega | (simp only [List.length_set]; omega)) rfl ?_
            show px_to 199 180 [some (.ref (269)), some (.int (nI st)), some (.int (nI ((j.getD st (0, 0, 0)).1))), some (.int (nI 3)), some (.int (nI 1)), some (.int (nI 1))] [.int (nI (((j.set st ((j.getD st (0, 0, 0)).1, 60, (j.getD st (0, 0, 0)).2.2)).getD st (0, 0, 0)).2.1)), .int (nI st), .ref (285)] h797 _
            rw [getD_set_same (by first | omega | (simp only [List.length_set]; omega))]
            refine e_castore_p (xs := j.set st ((j.getD st (0, 0, 0)).1, 60, (j.getD st (0, 0, 0)).2.2)) (x := ((j.getD st (0, 0, 0)).1, 60, (j.getD st (0, 0, 0)).2.2)) f_199_180 g798 (by omega) (by first | omega | (simp only [List.length_set]; omega)) (nw_ch (n := 60) (by decide)) rfl (fun h809 g810 fx811 => ?_)
            have fr812 : px_fj 269 1 284 3 h h809 := fj_tr fr800 fx811 (by omega)
            refine e_iinc (y := nI 2) (L' := [some (.ref (269)), some (.int (nI st)), some (.int (nI ((j.getD st (0, 0, 0)).1))), some (.int (nI 3)), some (.int (nI 2)), some (.int (nI 1))]) f_199_181 rfl (by rw [show Int32.ofInt 1 = nI 1 by decide]; exact (nI_add _ _).trans (congrArg nI (by omega))) rfl rfl ?_
            refine e_iinc (y := nI 2) (L' := [some (.ref (269)), some (.int (nI st)), some (.int (nI ((j.getD st (0, 0, 0)).1))), some (.int (nI 3)), some (.int (nI 2)), some (.int (nI 2))]) f_199_184 rfl (by rw [show Int32.ofInt 1 = nI 1 by decide]; exact (nI_add _ _).trans (congrArg nI (by omega))) rfl rfl ?_
            refine e_goto f_199_187 ?_
            refine e_iload f_199_130 rfl rfl ?_
            refine e_iload_n f_199_132 rfl rfl ?_
            refine e_icmp_ge_f f_199_133 (by decide) rfl ?_
            refine e_iload_n f_199_136 rfl rfl ?_
            refine e_iload f_199_137 rfl rfl ?_
            refine e_callS (As := [.int (nI ((j.getD st (0, 0, 0)).1)), .int (nI 2)]) (rest := []) f_199_139 rfl rfl rfl (Nat.le_of_ble_eq_true rfl) (Nat.le_of_ble_eq_true rfl) (cc_Md_sgo (s := (j.getD st (0, 0, 0)).1) (i := 2)  (by omega) (by omega)) rfl (fun h813 r814 q815 => ?_)
            obtain ⟨rfl, qe⟩ := q815
            have qe := qe.symm
            subst qe
            show px_to 199 142 [some (.ref (269)), some (.int (nI st)), some (.int (nI ((j.getD st (0, 0, 0)).1))), some (.int (nI 3)), some (.int (nI 2)), some (.int (nI 2))] [.int (nI (sgF ((j.getD st (0, 0, 0)).1) 2))] h809 _
            rw [show sgF (j.getD st (0, 0, 0)).1 2 = 62 by rw [c_95]; rfl]
            refine e_aload_n f_199_142 rfl rfl ?_
            have g816 : h809.2.2 269 = some (12, mB (L, nI j.length, cn) gp (nI j.length, gq.2.1, gq.2.2.1, gq.2.2.2.1, gq.2.2.2.2.1, gq.2.2.2.2.2.1, gq.2.2.2.2.2.2) gh gw gu (gv.1, gv.2.1, gv.2.2.1, gv.2.2.2.1, gv.2.2.2.2.1, gv.2.2.2.2.2.1, gv.2.2.2.2.2.2.1, nI st, nI wy)) := fi_at g804 fx811 (by omega)
            refine e_getf f_199_143 g816 rfl rfl ?_
            refine e_iload_n f_199_146 rfl rfl ?_
            obtain ⟨hm818, fa819, fb820⟩ := fj_mid fr812
            have g817 : px_pa h809 272 52 6 stA j := pa_fi (pa_fi H2 fa819 (by omega)) fb820 (by omega)
            refine e_caload_p (xs := j) f_199_147 g817 (d := (0, 0, 0)) (by first | omega | (simp only [List.length_set]; omega)) rfl ?_
            show px_to 199 148 [some (.ref (269)), some (.int (nI st)), some (.int (nI ((j.getD st (0, 0, 0)).1))), some (.int (nI 3)), some (.int (nI 2)), some (.int (nI 2))] [.int (nI ((j.getD st (0, 0, 0)).2.1)), .int (nI 62)] h809 _
            rw [ha]
            refine e_icmp_eq_t f_199_148 (by decide) ?_
            refine e_iinc (y := nI 3) (L' := [some (.ref (269)), some (.int (nI st)), some (.int (nI ((j.getD st (0, 0, 0)).1))), some (.int (nI 3)), some (.int (nI 2)), some (.int (nI 3))]) f_199_184 rfl (by rw [show Int32.ofInt 1 = nI 1 by decide]; exact (nI_add _ _).trans (congrArg nI (by omega))) rfl rfl ?_
            refine e_goto f_199_187 ?_
            refine e_iload f_199_130 rfl rfl ?_
            refine e_iload_n f_199_132 rfl rfl ?_
            refine e_icmp_ge_t f_199_133 (by decide) ?_
            refine e_goto f_199_190 ?_
            refine e_vret f_199_217 rfl ?_
            have hnl := of_decide_eq_false c_13
            have em : mutGo st wy j 0 = j.set st (chg (j.getD st (0, 0, 0)) wy) := mutGo_set wy j st 0 p1 (by omega)
            rw [em]
            have g821 : px_pa h797 284 52 6 stS j := pa_fi g5 fx799 (by omega)
            have g822 : px_pa h809 284 52 6 stS j := pa_fi g821 fx811 (by omega)
            have g823 : px_pa h797 286 50 6 stN j := pa_fi g7 fx799 (by omega)
            have g824 : px_pa h809 286 50 6 stN j := pa_fi g823 fx811 (by omega)
            have ho : othN (j.getD st (0, 0, 0)) = 2 := by unfold othN; rw [if_pos c_95]
            have hc : chg (j.getD st (0, 0, 0)) wy = ((j.getD st (0, 0, 0)).1, 60, (j.getD st (0, 0, 0)).2.2) := by unfold chg; rw [if_pos (by omega), ha, hw, c_95]; rfl
            rw [hc]
            have hset : (j.set st ((j.getD st (0, 0, 0)).1, 60, (j.getD st (0, 0, 0)).2.2)).set st ((j.getD st (0, 0, 0)).1, 60, (j.getD st (0, 0, 0)).2.2) = j.set st ((j.getD st (0, 0, 0)).1, 60, (j.getD st (0, 0, 0)).2.2) := by simp only [List.set_set]
            exact ⟨rfl, by rw [List.length_set]; exact g816, pa_cg g822 (set_stS p1), pa_eq g810 hset, pa_cg g824 (set_stN p1), fr812⟩
          · skip
            refine e_iconst (v := nI 0) f_199_124 (by decide) rfl ?_
            refine e_istore (L' := [some (.ref (269)), some (.int (nI st)), some (.int (nI ((j.getD st (0, 0, 0)).1))), some (.int (nI 3)), some (.int (nI 0)), none]) f_199_125 (Nat.le_of_ble_eq_true rfl) rfl rfl ?_
            refine e_iconst (v := nI 0) f_199_127 (by decide) rfl ?_
            refine e_istore (L' := [some (.ref (269)), some (.int (nI st)), some (.int (nI ((j.getD st (0, 0, 0)).1))), some (.int (nI 3)), some (.int (nI 0)), some (.int (nI 0))]) f_199_128 (Nat.le_of_ble_eq_true rfl) rfl rfl ?_
            refine e_iload f_199_130 rfl rfl ?_
            refine e_iload_n f_199_132 rfl rfl ?_
            refine e_icmp_ge_f f_199_133 (by decide) rfl ?_
            refine e_iload_n f_199_136 rfl rfl ?_
            refine e_iload f_199_137 rfl rfl ?_
            refine e_callS (As := [.int (nI ((j.getD st (0, 0, 0)).1)), .int (nI 0)]) (rest := []) f_199_139 rfl rfl rfl (Nat.le_of_ble_eq_true rfl) (Nat.le_of_ble_eq_true rfl) (cc_Md_sgo (s := (j.getD st (0, 0, 0)).1) (i := 0)  (by omega) (by omega)) rfl (fun h825 r826 q827 => ?_)
            obtain ⟨rfl, qe⟩ := q827
            have qe := qe.symm
            subst qe
            show px_to 199 142 [some (.ref (269)), some (.int (nI st)), some (.int (nI ((j.getD st (0, 0, 0)).1))), some (.int (nI 3)), some (.int (nI 0)), some (.int (nI 0))] [.int (nI (sgF ((j.getD st (0, 0, 0)).1) 0))] h1 _
            rw [show sgF (j.getD st (0, 0, 0)).1 0 = 60 by rw [c_95]; rfl]
            refine e_aload_n f_199_142 rfl rfl ?_
            refine e_getf f_199_143 g4 rfl rfl ?_
            refine e_iload_n f_199_146 rfl rfl ?_
            obtain ⟨hm829, fa830, fb831⟩ := fj_mid fr13
            have g828 : px_pa h1 272 52 6 stA j := pa_fi (pa_fi H2 fa830 (by omega)) fb831 (by omega)
            refine e_caload_p (xs := j) f_199_147 g828 (d := (0, 0, 0)) (by first | omega | (simp only [List.length_set]; omega)) rfl ?_
            show px_to 199 148 [some (.ref (269)), some (.int (nI st)), some (.int (nI ((j.getD st (0, 0, 0)).1))), some (.int (nI 3)), some (.int (nI 0)), some (.int (nI 0))] [.int (nI ((j.getD st (0, 0, 0)).2.1)), .int (nI 60)] h1 _
            rw [ha]
            refine e_icmp_eq_f f_199_148 (by decide) rfl ?_
            refine e_aload_n f_199_151 rfl rfl ?_
            refine e_getf f_199_152 g4 rfl rfl ?_
            refine e_iload_n f_199_155 rfl rfl ?_
            refine e_iload f_199_156 rfl rfl ?_
            refine e_aload_n f_199_158 rfl rfl ?_
            refine e_getf f_199_159 g4 rfl rfl ?_
            show px_to 199 162 [some (.ref (269)), some (.int (nI st)), some (.int (nI ((j.getD st (0, 0, 0)).1))), some (.int (nI 3)), some (.int (nI 0)), some (.int (nI 0))] [.int (nI wy), .int (nI 0), .int (nI st), .ref (285)] h1 _
            refine e_icmp_ne_t f_199_162 (by rw [hw]; decide) ?_
            refine e_aload_n f_199_174 rfl rfl ?_
            refine e_getf f_199_175 g4 rfl rfl ?_
            refine e_iload_n f_199_178 rfl rfl ?_
            refine e_caload_p (xs := j) f_199_179 g6 (d := (0, 0, 0)) (by first | omega | (simp only [List.length_set]; omega)) rfl ?_
            show px_to 199 180 [some (.ref (269)), some (.int (nI st)), some (.int (nI ((j.getD st (0, 0, 0)).1))), some (.int (nI 3)), some (.int (nI 0)), some (.int (nI 0))] [.int (nI ((j.getD st (0, 0, 0)).2.1)), .int (nI st), .ref (285)] h1 _
            rw [ha]
            refine e_castore_p (xs := j) (x := ((j.getD st (0, 0, 0)).1, 62, (j.getD st (0, 0, 0)).2.2)) f_199_180 g6 (by omega) (by first | omega | (simp only [List.length_set]; omega)) (nw_ch (n := 62) (by decide)) rfl (fun h832 g833 fx834 => ?_)
            have fr835 : px_fj 269 1 284 3 h h832 := fj_tr fr13 fx834 (by omega)
            refine e_iinc (y := nI 1) (L' := [some (.ref (269)), some (.int (nI st)), some (.int (nI ((j.getD st (0, 0, 0)).1))), some (.int (nI 3)), some (.int (nI 1)), some (.int (nI 0))]) f_199_181 rfl (by rw [show Int32.ofInt 1 = nI 1 by decide]; exact (nI_add _ _).trans (congrArg nI (by omega))) rfl rfl ?_
            refine e_iinc (y := nI 1) (L' := [some (.ref (269)), some (.int (nI st)), some (.int (nI ((j.getD st (0, 0, 0)).1))), some (.int (nI 3)), some (.int (nI 1)), some (.int (nI 1))]) f_199_184 rfl (by rw [show Int32.ofInt 1 = nI 1 by decide]; exact (nI_add _ _).trans (congrArg nI (by omega))) rfl rfl ?_
            refine e_goto f_199_187 ?_
            refine e_iload f_199_130 rfl rfl ?_
            refine e_iload_n f_199_132 rfl rfl ?_
            refine e_icmp_ge_f f_199_133 (by decide) rfl ?_
            refine e_iload_n f_199_136 rfl rfl ?_
            refine e_iload f_199_137 rfl rfl ?_
            refine e_callS (As := [.int (nI ((j.getD st (0, 0, 0)).1)), .int (nI 1)]) (rest := []) f_199_139 rfl rfl rfl (Nat.le_of_ble_eq_true rfl) (Nat.le_of_ble_eq_true rfl) (cc_Md_sgo (s := (j.getD st (0, 0, 0)).1) (i := 1)  (by omega) (by omega)) rfl (fun h836 r837 q838 => ?_)
            obtain ⟨rfl, qe⟩ := q838
            have qe := qe.symm
            subst qe
            show px_to 199 142 [some (.ref (269)), some (.int (nI st)), some (.int (nI ((j.getD st (0, 0, 0)).1))), some (.int (nI 3)), some (.int (nI 1)), some (.int (nI 1))] [.int (nI (sgF ((j.getD st (0, 0, 0)).1) 1))] h832 _
            rw [show sgF (j.getD st (0, 0, 0)).1 1 = 61 by rw [c_95]; rfl]
            refine e_aload_n f_199_142 rfl rfl ?_
            have g839 : h832.2.2 269 = some (12, mB (L, nI j.length, cn) gp (nI j.length, gq.2.1, gq.2.2.1, gq.2.2.2.1, gq.2.2.2.2.1, gq.2.2.2.2.2.1, gq.2.2.2.2.2.2) gh gw gu (gv.1, gv.2.1, gv.2.2.1, gv.2.2.2.1, gv.2.2.2.2.1, gv.2.2.2.2.2.1, gv.2.2.2.2.2.2.1, nI st, nI wy)) := fi_at g4 fx834 (by omega)
            refine e_getf f_199_143 g839 rfl rfl ?_
            refine e_iload_n f_199_146 rfl rfl ?_
            obtain ⟨hm841, fa842, fb843⟩ := fj_mid fr835
            have g840 : px_pa h832 272 52 6 stA j := pa_fi (pa_fi H2 fa842 (by omega)) fb843 (by omega)
            refine e_caload_p (xs := j) f_199_147 g840 (d := (0, 0, 0)) (by first | omega | (simp only [List.length_set]; omega)) rfl ?_
            show px_to 199 148 [some (.ref (269)), some (.int (nI st)), some (.int (nI ((j.getD st (0, 0, 0)).1))), some (.int (nI 3)), some (.int (nI 1)), some (.int (nI 1))] [.int (nI ((j.getD st (0, 0, 0)).2.1)), .int (nI 61)] h832 _
            rw [ha]
            refine e_icmp_eq_f f_199_148 (by decide) rfl ?_
            refine e_aload_n f_199_151 rfl rfl ?_
            refine e_getf f_199_152 g839 rfl rfl ?_
            refine e_iload_n f_199_155 rfl rfl ?_
            refine e_iload f_199_156 rfl rfl ?_
            refine e_aload_n f_199_158 rfl rfl ?_
            refine e_getf f_199_159 g839 rfl rfl ?_
            show px_to 199 162 [some (.ref (269)), some (.int (nI st)), some (.int (nI ((j.getD st (0, 0, 0)).1))), some (.int (nI 3)), some (.int (nI 1)), some (.int (nI 1))] [.int (nI wy), .int (nI 1), .int (nI st), .ref (285)] h832 _
            refine e_icmp_ne_f f_199_162 (by rw [hw]; decide) rfl ?_
            refine e_iload_n f_199_165 rfl rfl ?_
            refine e_iload f_199_166 rfl rfl ?_
            refine e_callS (As := [.int (nI ((j.getD st (0, 0, 0)).1)), .int (nI 1)]) (rest := [.int (nI st), .ref (285)]) f_199_168 rfl rfl rfl (Nat.le_of_ble_eq_true rfl) (Nat.le_of_ble_eq_true rfl) (cc_Md_sgo (s := (j.getD st (0, 0, 0)).1) (i := 1)  (by omega) (by omega)) rfl (fun h844 r845 q846 => ?_)
            obtain ⟨rfl, qe⟩ := q846
            have qe := qe.symm
            subst qe
            show px_to 199 171 [some (.ref (269)), some (.int (nI st)), some (.int (nI ((j.getD st (0, 0, 0)).1))), some (.int (nI 3)), some (.int (nI 1)), some (.int (nI 1))] [.int (nI (sgF ((j.getD st (0, 0, 0)).1) 1)), .int (nI st), .ref (285)] h832 _
            rw [show sgF (j.getD st (0, 0, 0)).1 1 = 61 by rw [c_95]; rfl]
            refine e_goto f_199_171 ?_
            refine e_castore_p (xs := j.set st ((j.getD st (0, 0, 0)).1, 62, (j.getD st (0, 0, 0)).2.2)) (x := ((j.getD st (0, 0, 0)).1, 61, (j.getD st (0, 0, 0)).2.2)) f_199_180 g833 (by omega) (by first | omega | (simp only [List.length_set]; omega)) (nw_ch (n := 61) (by decide)) rfl (fun h847 g848 fx849 => ?_)
            have fr850 : px_fj 269 1 284 3 h h847 := fj_tr fr835 fx849 (by omega)
            refine e_iinc (y := nI 2) (L' := [some (.ref (269)), some (.int (nI st)), some (.int (nI ((j.getD st (0, 0, 0)).1))), some (.int (nI 3)), some (.int (nI 2)), some (.int (nI 1))]) f_199_181 rfl (by rw [show Int32.ofInt 1 = nI 1 by decide]; exact (nI_add _ _).trans (congrArg nI (by omega))) rfl rfl ?_
            refine e_iinc (y := nI 2) (L' := [some (.ref (269)), some (.int (nI st)), some (.int (nI ((j.getD st (0, 0, 0)).1))), some (.int (nI 3)), some (.int (nI 2)), some (.int (nI 2))]) f_199_184 rfl (by rw [show Int32.ofInt 1 = nI 1 by decide]; exact (nI_add _ _).trans (congrArg nI (by omega))) rfl rfl ?_
            refine e_goto f_199_187 ?_
            refine e_iload f_199_130 rfl rfl ?_
            refine e_iload_n f_199_132 rfl rfl ?_
            refine e_icmp_ge_f f_199_133 (by decide) rfl ?_
            refine e_iload_n f_199_136 rfl rfl ?_
            refine e_iload f_199_137 rfl rfl ?_
            refine e_callS (As := [.int (nI ((j.getD st (0, 0, 0)).1)), .int (nI 2)]) (rest := []) f_199_139 rfl rfl rfl (Nat.le_of_ble_eq_true rfl) (Nat.le_of_ble_eq_true rfl) (cc_Md_sgo (s := (j.getD st (0, 0, 0)).1) (i := 2)  (by omega) (by omega)) rfl (fun h851 r852 q853 => ?_)
            obtain ⟨rfl, qe⟩ := q853
            have qe := qe.symm
            subst qe
            show px_to 199 142 [some (.ref (269)), some (.int (nI st)), some (.int (nI ((j.getD st (0, 0, 0)).1))), some (.int (nI 3)), some (.int (nI 2)), some (.int (nI 2))] [.int (nI (sgF ((j.getD st (0, 0, 0)).1) 2))] h847 _
            rw [show sgF (j.getD st (0, 0, 0)).1 2 = 62 by rw [c_95]; rfl]
            refine e_aload_n f_199_142 rfl rfl ?_
            have g854 : h847.2.2 269 = some (12, mB (L, nI j.length, cn) gp (nI j.length, gq.2.1, gq.2.2.1, gq.2.2.2.1, gq.2.2.2.2.1, gq.2.2.2.2.2.1, gq.2.2.2.2.2.2) gh gw gu (gv.1, gv.2.1, gv.2.2.1, gv.2.2.2.1, gv.2.2.2.2.1, gv.2.2.2.2.2.1, gv.2.2.2.2.2.2.1, nI st, nI wy)) := fi_at g839 fx849 (by omega)
            refine e_getf f_199_143 g854 rfl rfl ?_
            refine e_iload_n f_199_146 rfl rfl ?_
            obtain ⟨hm856, fa857, fb858⟩ := fj_mid fr850
            have g855 : px_pa h847 272 52 6 stA j := pa_fi (pa_fi H2 fa857 (by omega)) fb858 (by omega)
            refine e_caload_p (xs := j) f_199_147 g855 (d := (0, 0, 0)) (by first | omega | (simp only [List.length_set]; omega)) rfl ?_
            show px_to 199 148 [some (.ref (269)), some (.int (nI st)), some (.int (nI ((j.getD st (0, 0, 0)).1))), some (.int (nI 3)), some (.int (nI 2)), some (.int (nI 2))] [.int (nI ((j.getD st (0, 0, 0)).2.1)), .int (nI 62)] h847 _
            rw [ha]
            refine e_icmp_eq_t f_199_148 (by decide) ?_
            refine e_iinc (y := nI 3) (L' := [some (.ref (269)), some (.int (nI st)), some (.int (nI ((j.getD st (0, 0, 0)).1))), some (.int (nI 3)), some (.int (nI 2)), some (.int (nI 3))]) f_199_184 rfl (by rw [show Int32.ofInt 1 = nI 1 by decide]; exact (nI_add _ _).trans (congrArg nI (by omega))) rfl rfl ?_
            refine e_goto f_199_187 ?_
            refine e_iload f_199_130 rfl rfl ?_
            refine e_iload_n f_199_132 rfl rfl ?_
            refine e_icmp_ge_t f_199_133 (by decide) ?_
            refine e_goto f_199_190 ?_
            refine e_vret f_199_217 rfl ?_
            have hnl := of_decide_eq_false c_13
            have em : mutGo st wy j 0 = j.set st (chg (j.getD st (0, 0, 0)) wy) := mutGo_set wy j st 0 p1 (by omega)
            rw [em]
            have g859 : px_pa h832 284 52 6 stS j := pa_fi g5 fx834 (by omega)
            have g860 : px_pa h847 284 52 6 stS j := pa_fi g859 fx849 (by omega)
            have g861 : px_pa h832 286 50 6 stN j := pa_fi g7 fx834 (by omega)
            have g862 : px_pa h847 286 50 6 stN j := pa_fi g861 fx849 (by omega)
            have ho : othN (j.getD st (0, 0, 0)) = 2 := by unfold othN; rw [if_pos c_95]
            have hc : chg (j.getD st (0, 0, 0)) wy = ((j.getD st (0, 0, 0)).1, 61, (j.getD st (0, 0, 0)).2.2) := by unfold chg; rw [if_pos (by omega), ha, hw, c_95]; rfl
            rw [hc]
            have hset : (j.set st ((j.getD st (0, 0, 0)).1, 62, (j.getD st (0, 0, 0)).2.2)).set st ((j.getD st (0, 0, 0)).1, 61, (j.getD st (0, 0, 0)).2.2) = j.set st ((j.getD st (0, 0, 0)).1, 61, (j.getD st (0, 0, 0)).2.2) := by simp only [List.set_set]
            exact ⟨rfl, by rw [List.length_set]; exact g854, pa_cg g860 (set_stS p1), pa_eq g848 hset, pa_cg g862 (set_stN p1), fr850⟩
  · skip
    have c_13 : (decide (wy + 1 = ways (j.getD st (0, 0, 0)))) = true := bI_t' c_13
    refine e_aload_n f_199_16 rfl rfl ?_
    refine e_dup f_199_17 rfl rfl ?_
    refine e_getf f_199_18 g4 rfl rfl ?_
    show px_to 199 21 [some (.ref (269)), some (.int (nI st)), none, none, none, none] [.int (nI j.length), .ref (269)] h1 _
    refine e_iconst (v := nI 1) f_199_21 (by decide) rfl ?_
    refine e_isub (z := nI (j.length - 1)) f_199_22 (pk_sub (by omega)) rfl ?_
    refine e_putp (vs' := mB (L, nI j.length, cn) gp (nI (j.length - 1), gq.2.1, gq.2.2.1, gq.2.2.2.1, gq.2.2.2.2.1, gq.2.2.2.2.2.1, gq.2.2.2.2.2.2) gh gw gu (gv.1, gv.2.1, gv.2.2.1, gv.2.2.2.1, gv.2.2.2.2.1, gv.2.2.2.2.2.1, gv.2.2.2.2.2.2.1, nI st, nI wy)) f_199_23 g4 (Nat.le_of_ble_eq_true rfl) (rfl) (rfl) rfl rfl (fun h863 g864 fx865 => ?_)
    have fr866 : px_fj 269 1 284 3 h h863 := fj_tr fr13 fx865 (by omega)
    refine e_iload_n f_199_26 rfl rfl ?_
    refine e_istore_n (L' := [some (.ref (269)), some (.int (nI st)), some (.int (nI st)), none, none, none]) f_199_27 (Nat.le_of_ble_eq_true rfl) rfl rfl ?_
    have g867 : px_pa h863 284 52 6 stS j := pa_fi g5 fx865 (by omega)
    have g868 : px_pa h863 285 52 6 stA j := pa_fi g6 fx865 (by omega)
    have g869 : px_pa h863 286 50 6 stN j := pa_fi g7 fx865 (by omega)
    have hil := of_decide_eq_true c_13
    have em : mutGo st wy j 0 = j.eraseIdx st := mutGo_er wy j st 0 p1 (by omega)
    rw [em]
    refine px_to_mono (ll_Md_mtaE (h0 := h863) (L := L) (cn := cn) (st := st) (wy := wy) (gv := gv) g864 p1 h6 hj2 j.length st h863 (by omega) ⟨Nat.le_refl _, by omega⟩ (pa_eq g867 (sfG_0 (by omega)).symm) (pa_eq g868 (sfG_0 (by omega)).symm) (pa_eq g869 (sfG_0 (by omega)).symm) (fi_rf _ _ _)) (fun h1 r hr => ?_)
    obtain ⟨e1, e2, e3, e4, e5⟩ := hr
    have fr870 : px_fj 269 1 284 3 h h1 := fj_tr fr866 e5 (by omega)
    have g871 : h1.2.2 269 = some (12, mB (L, nI j.length, cn) gp (nI (j.length - 1), gq.2.1, gq.2.2.1, gq.2.2.2.1, gq.2.2.2.2.1, gq.2.2.2.2.2.1, gq.2.2.2.2.2.2) gh gw gu (gv.1, gv.2.1, gv.2.2.1, gv.2.2.2.1, gv.2.2.2.2.1, gv.2.2.2.2.2.1, gv.2.2.2.2.2.2.1, nI st, nI wy)) := fi_at g864 e5 (by omega)
    have g872 : h1.2.2 269 = some (12, mB (L, nI j.length, cn) gp (nI ((j.eraseIdx st).length), gq.2.1, gq.2.2.1, gq.2.2.2.1, gq.2.2.2.2.1, gq.2.2.2.2.2.1, gq.2.2.2.2.2.2) gh gw gu (gv.1, gv.2.1, gv.2.2.1, gv.2.2.2.1, gv.2.2.2.2.1, gv.2.2.2.2.2.1, gv.2.2.2.2.2.2.1, nI st, nI wy)) := by rw [erG_len p1]; exact g871
    exact ⟨e1, g872, e2, e3, e4, fr870⟩
