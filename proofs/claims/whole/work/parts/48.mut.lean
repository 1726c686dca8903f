theorem ixf_at : ∀ {l : List Nat} {c i : Nat}, c ∈ l → ixf l c i = nI (i + l.idxOf c)
  | [], c, i, h => nomatch h
  | b :: r, c, i, h => by
    rw [ixf]
    by_cases e : b = c
    · rw [if_pos e, e, List.idxOf_cons_self]; rfl
    · rw [if_neg e, ixf_at ((List.mem_cons.mp h).elim (fun q => absurd q.symm e) id), List.idxOf_cons, show (b == c) = false from beq_false_of_ne e]
      show nI (i + 1 + r.idxOf c) = nI (i + (r.idxOf c + 1))
      congr 1
      omega
def othN (s : St) : Nat := if s.1 = 102 then 2 else if s.1 = 109 then 3 else 0
/-- a step with something changed in it -/
def chg (s : St) (wy : Nat) : St :=
  if wy < othN s then (s.1, (actsOf s.1).getD (if wy < (actsOf s.1).idxOf s.2.1 then wy else wy + 1) 0, s.2.2)
  else (s.1, s.2.1, s.2.2 + (if wy = othN s then nI 1 else -1))
def mutGo (st wy : Nat) : List St → Nat → List St
  | [], _ => []
  | s :: r, i => if i = st then (if wy + 1 < ways s then chg s wy :: mutGo st wy r (i + 1) else mutGo st wy r (i + 1)) else s :: mutGo st wy r (i + 1)
def mutJ (j : List St) (k : Nat) : List St := mutGo (mutAt j k).1 (mutAt j k).2 j 0
theorem mutGo_len (st wy : Nat) : ∀ (j : List St) (i : Nat), (mutGo st wy j i).length ≤ j.length
  | [], _ => Nat.le_refl _
  | s :: r, i => by
    have := mutGo_len st wy r (i + 1)
    rw [mutGo, List.length_cons]
    split
    · split
      · rw [List.length_cons]; omega
      · omega
    · rw [List.length_cons]; omega
def okP (s : St) : Prop := okSt s ∧ (s.1 = 102 ∨ s.1 = 109 → s.2.1 ∈ actsOf s.1) ∧ (s.1 = 119 ∨ s.1 = 116 → ∃ n, 0 < n ∧ n ≤ 999 ∧ s.2.2 = nI n)

set_option maxRecDepth 20000 in
set_option maxHeartbeats 4000000 in
theorem cc_Job_chg {h : px_H} {b : Nat} {q : List St} {a : Nat} {j : List St} {k wy : Nat} (H0 : pJob h b q) (H1 : pJob h a j) (H2 : pStr h 1 ([60, 61, 62])) (H3 : pStr h 2 ([43, 45, 42, 47])) (p0 : 17 ≤ b) (p1 : q.length < 6) (p2 : a + 4 ≤ b ∨ b + 4 ≤ a) (p3 : k < j.length) (p4 : okP (j.getD k (0, 0, 0))) (p5 : wy + 1 < ways (j.getD k (0, 0, 0))) : px_wp 8 [.ref (b), .ref (a), .int (nI k), .int (nI wy)] h (fun h1 r => r = none ∧ pJob h1 b (q ++ [chg (j.getD k (0, 0, 0)) wy]) ∧ px_fi b 4 h h1) := by
  have fr0 : px_fi b 4 h h := fi_rf _ _ _
  have lj := pa_len H1.2.1
  have hs6 := p4.1.1
  have ha6 := p4.1.2.1
  have hwl := (ways_le (j.getD k (0, 0, 0))).2
  have hol : othN (j.getD k (0, 0, 0)) ≤ 3 := by unfold othN; split; omega; split <;> omega
  show px_to 8 0 [some (.ref (b)), some (.ref (a)), some (.int (nI k)), some (.int (nI wy)), none, none, none] [] h _
  refine e_aload_n f_8_0 rfl rfl ?_
  refine e_iload_n f_8_1 rfl rfl ?_
  refine e_callV (As := [.int (nI k)]) (rest := []) f_8_2 rfl rfl rfl (Nat.le_of_ble_eq_true rfl) (Nat.le_of_ble_eq_true rfl) H1.1 rfl (Nat.le_of_ble_eq_true rfl) (cc_Job_otherActs (a := a) (i := k) (j := j) H1 (by omega) (by omega)) rfl (fun h1 r2 q3 => ?_)
  obtain ⟨rfl, qe⟩ := q3
  have qe := qe.symm
  subst qe
  show px_to 8 5 [some (.ref (b)), some (.ref (a)), some (.int (nI k)), some (.int (nI wy)), none, none, none] [.int (nI (if (j.getD k (0, 0, 0)).1 = 102 then 2 else if (j.getD k (0, 0, 0)).1 = 109 then 3 else 0))] h _
  have eo : (if (j.getD k (0, 0, 0)).1 = 102 then 2 else if (j.getD k (0, 0, 0)).1 = 109 then 3 else 0) = othN (j.getD k (0, 0, 0)) := rfl
  rw [eo]
  refine e_istore (L' := [some (.ref (b)), some (.ref (a)), some (.int (nI k)), some (.int (nI wy)), some (.int (nI (othN (j.getD k (0, 0, 0))))), none, none]) f_8_5 (Nat.le_of_ble_eq_true rfl) rfl rfl ?_
  refine e_iload_n f_8_7 rfl rfl ?_
  refine e_iload f_8_8 rfl rfl ?_
  refine e_icmp_ge f_8_10 rfl (fun c_10 => ?_) (fun c_10 => ?_)
  · skip
    have c_10 : othN (j.getD k (0, 0, 0)) ≤ wy := cv_le (by omega) (by omega) c_10
    refine e_aload_n f_8_98 rfl rfl ?_
    refine e_aload_n f_8_99 rfl rfl ?_
    refine e_getf f_8_100 H1.1 rfl rfl ?_
    refine e_iload_n f_8_103 rfl rfl ?_
    refine e_iaload_p (xs := j) f_8_104 H1.2.1 (d := (0, 0, 0)) (by first | omega | (simp only [List.length_set]; omega)) rfl ?_
    show px_to 8 105 [some (.ref (b)), some (.ref (a)), some (.int (nI k)), some (.int (nI wy)), some (.int (nI (othN (j.getD k (0, 0, 0))))), none, none] [.int (nI ((j.getD k (0, 0, 0)).1)), .ref (b)] h _
    refine e_aload_n f_8_105 rfl rfl ?_
    refine e_getf f_8_106 H1.1 rfl rfl ?_
    refine e_iload_n f_8_109 rfl rfl ?_
    refine e_iaload_p (xs := j) f_8_110 H1.2.2.1 (d := (0, 0, 0)) (by first | omega | (simp only [List.length_set]; omega)) rfl ?_
    show px_to 8 111 [some (.ref (b)), some (.ref (a)), some (.int (nI k)), some (.int (nI wy)), some (.int (nI (othN (j.getD k (0, 0, 0))))), none, none] [.int (nI ((j.getD k (0, 0, 0)).2.1)), .int (nI ((j.getD k (0, 0, 0)).1)), .ref (b)] h _
    refine e_aload_n f_8_111 rfl rfl ?_
    refine e_getf f_8_112 H1.1 rfl rfl ?_
    refine e_iload_n f_8_115 rfl rfl ?_
    refine e_iaload_p (xs := j) f_8_116 H1.2.2.2 (d := (0, 0, 0)) (by first | omega | (simp only [List.length_set]; omega)) rfl ?_
    show px_to 8 117 [some (.ref (b)), some (.ref (a)), some (.int (nI k)), some (.int (nI wy)), some (.int (nI (othN (j.getD k (0, 0, 0))))), none, none] [.int ((j.getD k (0, 0, 0)).2.2), .int (nI ((j.getD k (0, 0, 0)).2.1)), .int (nI ((j.getD k (0, 0, 0)).1)), .ref (b)] h _
    refine e_iload_n f_8_117 rfl rfl ?_
    refine e_iload f_8_118 rfl rfl ?_
    refine e_icmp_ne f_8_120 rfl (fun c_120 => ?_) (fun c_120 => ?_)
    · skip
      have c_120 : wy ≠ othN (j.getD k (0, 0, 0)) := cv_ne c_120
      refine e_iconst (v := (-1)) f_8_127 (by decide) rfl ?_
      refine e_iadd (z := ((j.getD k (0, 0, 0)).2.2) + (-1)) f_8_128 rfl rfl ?_
      refine e_callV (As := [.int (nI ((j.getD k (0, 0, 0)).1)), .int (nI ((j.getD k (0, 0, 0)).2.1)), .int (((j.getD k (0, 0, 0)).2.2) + (-1))]) (rest := []) f_8_129 rfl rfl rfl (Nat.le_of_ble_eq_true rfl) (Nat.le_of_ble_eq_true rfl) H0.1 rfl (Nat.le_of_ble_eq_true rfl) (cc_Job_addStep (a := b) (s := (j.getD k (0, 0, 0)).1) (ac := (j.getD k (0, 0, 0)).2.1) (nu := ((j.getD k (0, 0, 0)).2.2) + (-1)) (j := q) H0 (by omega) (by omega)) rfl (fun h4 r5 q6 => ?_)
      obtain ⟨rfl, g7, fx8⟩ := q6
      have fr9 : px_fi b 4 h h4 := fi_tr fr0 fx8 (by omega)
      show px_to 8 132 [some (.ref (b)), some (.ref (a)), some (.int (nI k)), some (.int (nI wy)), some (.int (nI (othN (j.getD k (0, 0, 0))))), none, none] [] h4 _
      refine e_vret f_8_132 rfl ?_
      have ec : chg (j.getD k (0, 0, 0)) wy = ((j.getD k (0, 0, 0)).1, (j.getD k (0, 0, 0)).2.1, (j.getD k (0, 0, 0)).2.2 + (-1)) := by unfold chg; rw [if_neg (by omega), if_neg c_120]
      rw [ec]
      exact ⟨rfl, g7, fr9⟩
    · skip
      have c_120 : wy = othN (j.getD k (0, 0, 0)) := cv_nne (by omega) (by omega) c_120
      refine e_iconst (v := nI 1) f_8_123 (by decide) rfl ?_
      refine e_goto f_8_124 ?_
      refine e_iadd (z := ((j.getD k (0, 0, 0)).2.2) + (nI 1)) f_8_128 rfl rfl ?_
      refine e_callV (As := [.int (nI ((j.getD k (0, 0, 0)).1)), .int (nI ((j.getD k (0, 0, 0)).2.1)), .int (((j.getD k (0, 0, 0)).2.2) + (nI 1))]) (rest := []) f_8_129 rfl rfl rfl (Nat.le_of_ble_eq_true rfl) (Nat.le_of_ble_eq_true rfl) H0.1 rfl (Nat.le_of_ble_eq_true rfl) (cc_Job_addStep (a := b) (s := (j.getD k (0, 0, 0)).1) (ac := (j.getD k (0, 0, 0)).2.1) (nu := ((j.getD k (0, 0, 0)).2.2) + (nI 1)) (j := q) H0 (by omega) (by omega)) rfl (fun h10 r11 q12 => ?_)
      obtain ⟨rfl, g13, fx14⟩ := q12
      have fr15 : px_fi b 4 h h10 := fi_tr fr0 fx14 (by omega)
      show px_to 8 132 [some (.ref (b)), some (.ref (a)), some (.int (nI k)), some (.int (nI wy)), some (.int (nI (othN (j.getD k (0, 0, 0))))), none, none] [] h10 _
      refine e_vret f_8_132 rfl ?_
      have ec : chg (j.getD k (0, 0, 0)) wy = ((j.getD k (0, 0, 0)).1, (j.getD k (0, 0, 0)).2.1, (j.getD k (0, 0, 0)).2.2 + nI 1) := by unfold chg; rw [if_neg (by omega), if_pos c_120]
      rw [ec]
      exact ⟨rfl, g13, fr15⟩
  · skip
    have c_10 : wy < othN (j.getD k (0, 0, 0)) := cv_nle (by omega) (by omega) c_10
    refine e_aload_n f_8_13 rfl rfl ?_
    refine e_getf f_8_14 H1.1 rfl rfl ?_
    refine e_iload_n f_8_17 rfl rfl ?_
    refine e_iaload_p (xs := j) f_8_18 H1.2.1 (d := (0, 0, 0)) (by first | omega | (simp only [List.length_set]; omega)) rfl ?_
    show px_to 8 19 [some (.ref (b)), some (.ref (a)), some (.int (nI k)), some (.int (nI wy)), some (.int (nI (othN (j.getD k (0, 0, 0))))), none, none] [.int (nI ((j.getD k (0, 0, 0)).1))] h _
    refine e_bipush (v := nI 102) f_8_19 (by decide) rfl ?_
    refine e_icmp_ne f_8_21 rfl (fun c_21 => ?_) (fun c_21 => ?_)
    · skip
      have c_21 : (j.getD k (0, 0, 0)).1 ≠ 102 := cv_ne c_21
      refine e_ldc f_8_29 rfl ?_
      have hfm : (j.getD k (0, 0, 0)).1 = 102 ∨ (j.getD k (0, 0, 0)).1 = 109 := by have z := c_10; unfold othN at z; split at z <;> first | omega | (split at z <;> omega)
      have hin := p4.2.1 hfm
      have hac : actsOf (j.getD k (0, 0, 0)).1 = [43, 45, 42, 47] := by unfold actsOf; rw [if_neg c_21]
      rw [hac] at hin
      have hal : (j.getD k (0, 0, 0)).2.1 < 128 := (by decide : ∀ b ∈ [43, 45, 42, 47], b < 128) _ hin
      have hix := List.idxOf_lt_length_iff.mpr hin
      have hot : othN (j.getD k (0, 0, 0)) + 1 = 4 := by unfold othN; rw [if_neg c_21, if_pos (by omega)]
      refine e_astore (L' := [some (.ref (b)), some (.ref (a)), some (.int (nI k)), some (.int (nI wy)), some (.int (nI (othN (j.getD k (0, 0, 0))))), some (.ref (2)), none]) f_8_31 (Nat.le_of_ble_eq_true rfl) rfl rfl ?_
      refine e_iload_n f_8_33 rfl rfl ?_
      refine e_aload f_8_34 rfl rfl ?_
      refine e_aload_n f_8_36 rfl rfl ?_
      refine e_getf f_8_37 H1.1 rfl rfl ?_
      refine e_iload_n f_8_40 rfl rfl ?_
      refine e_iaload_p (xs := j) f_8_41 H1.2.2.1 (d := (0, 0, 0)) (by first | omega | (simp only [List.length_set]; omega)) rfl ?_
      show px_to 8 42 [some (.ref (b)), some (.ref (a)), some (.int (nI k)), some (.int (nI wy)), some (.int (nI (othN (j.getD k (0, 0, 0))))), some (.ref (2)), none] [.int (nI ((j.getD k (0, 0, 0)).2.1)), .ref (2), .int (nI wy)] h _
      refine e_i2c (z := nI ((j.getD k (0, 0, 0)).2.1)) f_8_42 (i2c_id (by omega)) rfl ?_
      refine e_callV (As := [.int (nI ((j.getD k (0, 0, 0)).2.1))]) (rest := [.int (nI wy)]) f_8_43 rfl rfl rfl (Nat.le_of_ble_eq_true rfl) (Nat.le_of_ble_eq_true rfl) H3.1 rfl (Nat.le_of_ble_eq_true rfl) (cc_Str_ix (c := (j.getD k (0, 0, 0)).2.1) (k := 2) (bs := [43, 45, 42, 47]) H3 (hal) (by decide) (by decide)) rfl (fun h16 r17 q18 => ?_)
      obtain ⟨rfl, qe⟩ := q18
      have qe := qe.symm
      subst qe
      show px_to 8 46 [some (.ref (b)), some (.ref (a)), some (.int (nI k)), some (.int (nI wy)), some (.int (nI (othN (j.getD k (0, 0, 0))))), some (.ref (2)), none] [.int (ixf ([43, 45, 42, 47]) ((j.getD k (0, 0, 0)).2.1) 0), .int (nI wy)] h _
      have hi2 := ixf_at (i := 0) hin
      rw [Nat.zero_add] at hi2
      rw [hi2]
      simp only [List.length_cons, List.length_nil] at hix
      refine e_icmp_ge f_8_46 rfl (fun c_46 => ?_) (fun c_46 => ?_)
      · skip
        have c_46 : [43, 45, 42, 47].idxOf (j.getD k (0, 0, 0)).2.1 ≤ wy := cv_le (by omega) (by omega) c_46
        refine e_iload_n f_8_53 rfl rfl ?_
        refine e_iconst (v := nI 1) f_8_54 (by decide) rfl ?_
        refine e_iadd (z := nI (wy + 1)) f_8_55 (nI_add _ _) rfl ?_
        refine e_istore (L' := [some (.ref (b)), some (.ref (a)), some (.int (nI k)), some (.int (nI wy)), some (.int (nI (othN (j.getD k (0, 0, 0))))), some (.ref (2)), some (.int (nI (wy + 1)))]) f_8_56 (Nat.le_of_ble_eq_true rfl) rfl rfl ?_
        refine e_aload_n f_8_58 rfl rfl ?_
        refine e_aload_n f_8_59 rfl rfl ?_
        refine e_getf f_8_60 H1.1 rfl rfl ?_
        refine e_iload_n f_8_63 rfl rfl ?_
        refine e_iaload_p (xs := j) f_8_64 H1.2.1 (d := (0, 0, 0)) (by first | omega | (simp only [List.length_set]; omega)) rfl ?_
        show px_to 8 65 [some (.ref (b)), some (.ref (a)), some (.int (nI k)), some (.int (nI wy)), some (.int (nI (othN (j.getD k (0, 0, 0))))), some (.ref (2)), some (.int (nI (wy + 1)))] [.int (nI ((j.getD k (0, 0, 0)).1)), .ref (b)] h _
        refine e_iload f_8_65 rfl rfl ?_
        refine e_aload f_8_67 rfl rfl ?_
        refine e_callV (As := []) (rest := [.int (nI (wy + 1)), .int (nI ((j.getD k (0, 0, 0)).1)), .ref (b)]) f_8_69 rfl rfl rfl (Nat.le_of_ble_eq_true rfl) (Nat.le_of_ble_eq_true rfl) H3.1 rfl (Nat.le_of_ble_eq_true rfl) (cc_Str_len (k := 2) (bs := [43, 45, 42, 47]) H3 ) rfl (fun h19 r20 q21 => ?_)
        obtain ⟨rfl, qe⟩ := q21
        have qe := qe.symm
        subst qe
        show px_to 8 72 [some (.ref (b)), some (.ref (a)), some (.int (nI k)), some (.int (nI wy)), some (.int (nI (othN (j.getD k (0, 0, 0))))), some (.ref (2)), some (.int (nI (wy + 1)))] [.int (nI (([43, 45, 42, 47]).length)), .int (nI (wy + 1)), .int (nI ((j.getD k (0, 0, 0)).1)), .ref (b)] h _
        show px_to 8 72 [some (.ref (b)), some (.ref (a)), some (.int (nI k)), some (.int (nI wy)), some (.int (nI (othN (j.getD k (0, 0, 0))))), some (.ref (2)), some (.int (nI (wy + 1)))] [.int (nI 4), .int (nI (wy + 1)), .int (nI ((j.getD k (0, 0, 0)).1)), .ref (b)] h _
        refine e_icmp_ge f_8_72 rfl (fun c_72 => ?_) (fun c_72 => ?_)
        · skip
          have c_72 : 4 ≤ wy + 1 := cv_le (by omega) (by omega) c_72
          refine e_iconst (v := nI 0) f_8_85 (by decide) rfl ?_
          refine e_aload_n f_8_86 rfl rfl ?_
          refine e_getf f_8_87 H1.1 rfl rfl ?_
          refine e_iload_n f_8_90 rfl rfl ?_
          refine e_iaload_p (xs := j) f_8_91 H1.2.2.2 (d := (0, 0, 0)) (by first | omega | (simp only [List.length_set]; omega)) rfl ?_
          show px_to 8 92 [some (.ref (b)), some (.ref (a)), some (.int (nI k)), some (.int (nI wy)), some (.int (nI (othN (j.getD k (0, 0, 0))))), some (.ref (2)), some (.int (nI (wy + 1)))] [.int ((j.getD k (0, 0, 0)).2.2), .int (nI 0), .int (nI ((j.getD k (0, 0, 0)).1)), .ref (b)] h _
          refine e_callV (As := [.int (nI ((j.getD k (0, 0, 0)).1)), .int (nI 0), .int ((j.getD k (0, 0, 0)).2.2)]) (rest := []) f_8_92 rfl rfl rfl (Nat.le_of_ble_eq_true rfl) (Nat.le_of_ble_eq_true rfl) H0.1 rfl (Nat.le_of_ble_eq_true rfl) (cc_Job_addStep (a := b) (s := (j.getD k (0, 0, 0)).1) (ac := 0) (nu := (j.getD k (0, 0, 0)).2.2) (j := q) H0 (by omega) (by omega)) rfl (fun h22 r23 q24 => ?_)
          obtain ⟨rfl, g25, fx26⟩ := q24
          have fr27 : px_fi b 4 h h22 := fi_tr fr0 fx26 (by omega)
          show px_to 8 95 [some (.ref (b)), some (.ref (a)), some (.int (nI k)), some (.int (nI wy)), some (.int (nI (othN (j.getD k (0, 0, 0))))), some (.ref (2)), some (.int (nI (wy + 1)))] [] h22 _
          refine e_goto f_8_95 ?_
          refine e_vret f_8_132 rfl ?_
          exfalso; omega
        · skip
          have c_72 : wy + 1 < 4 := cv_nle (by omega) (by omega) c_72
          refine e_aload f_8_75 rfl rfl ?_
          refine e_iload f_8_77 rfl rfl ?_
          refine e_callV (As := [.int (nI (wy + 1))]) (rest := [.int (nI ((j.getD k (0, 0, 0)).1)), .ref (b)]) f_8_79 rfl rfl rfl (Nat.le_of_ble_eq_true rfl) (Nat.le_of_ble_eq_true rfl) H3.1 rfl (Nat.le_of_ble_eq_true rfl) (cc_Str_at (i := wy + 1) (k := 2) (bs := [43, 45, 42, 47]) H3 (by omega) (by decide)) rfl (fun h28 r29 q30 => ?_)
          obtain ⟨rfl, qe⟩ := q30
          have qe := qe.symm
          subst qe
          show px_to 8 82 [some (.ref (b)), some (.ref (a)), some (.int (nI k)), some (.int (nI wy)), some (.int (nI (othN (j.getD k (0, 0, 0))))), some (.ref (2)), some (.int (nI (wy + 1)))] [.int (nI (([43, 45, 42, 47]).getD (wy + 1) 0)), .int (nI ((j.getD k (0, 0, 0)).1)), .ref (b)] h _
          refine e_goto f_8_82 ?_
          refine e_aload_n f_8_86 rfl rfl ?_
          refine e_getf f_8_87 H1.1 rfl rfl ?_
          refine e_iload_n f_8_90 rfl rfl ?_
          refine e_iaload_p (xs := j) f_8_91 H1.2.2.2 (d := (0, 0, 0)) (by first | omega | (simp only [List.length_set]; omega)) rfl ?_
          show px_to 8 92 [some (.ref (b)), some (.ref (a)), some (.int (nI k)), some (.int (nI wy)), some (.int (nI (othN (j.getD k (0, 0, 0))))), some (.ref (2)), some (.int (nI (wy + 1)))] [.int ((j.getD k (0, 0, 0)).2.2), .int (nI (([43, 45, 42, 47]).getD (wy + 1) 0)), .int (nI ((j.getD k (0, 0, 0)).1)), .ref (b)] h _
          refine e_callV (As := [.int (nI ((j.getD k (0, 0, 0)).1)), .int (nI (([43, 45, 42, 47]).getD (wy + 1) 0)), .int ((j.getD k (0, 0, 0)).2.2)]) (rest := []) f_8_92 rfl rfl rfl (Nat.le_of_ble_eq_true rfl) (Nat.le_of_ble_eq_true rfl) H0.1 rfl (Nat.le_of_ble_eq_true rfl) (cc_Job_addStep (a := b) (s := (j.getD k (0, 0, 0)).1) (ac := ([43, 45, 42, 47]).getD (wy + 1) 0) (nu := (j.getD k (0, 0, 0)).2.2) (j := q) H0 (by omega) (by omega)) rfl (fun h31 r32 q33 => ?_)
          obtain ⟨rfl, g34, fx35⟩ := q33
          have fr36 : px_fi b 4 h h31 := fi_tr fr0 fx35 (by omega)
          show px_to 8 95 [some (.ref (b)), some (.ref (a)), some (.int (nI k)), some (.int (nI wy)), some (.int (nI (othN (j.getD k (0, 0, 0))))), some (.ref (2)), some (.int (nI (wy + 1)))] [] h31 _
          refine e_goto f_8_95 ?_
          refine e_vret f_8_132 rfl ?_
          have ec : chg (j.getD k (0, 0, 0)) wy = ((j.getD k (0, 0, 0)).1, [43, 45, 42, 47].getD (wy + 1) 0, (j.getD k (0, 0, 0)).2.2) := by unfold chg; rw [if_pos c_10, hac, if_neg (by omega)]
          rw [ec]
          exact ⟨rfl, g34, fr36⟩
      · skip
        have c_46 : wy < [43, 45, 42, 47].idxOf (j.getD k (0, 0, 0)).2.1 := cv_nle (by omega) (by omega) c_46
        refine e_iload_n f_8_49 rfl rfl ?_
        refine e_goto f_8_50 ?_
        refine e_istore (L' := [some (.ref (b)), some (.ref (a)), some (.int (nI k)), some (.int (nI wy)), some (.int (nI (othN (j.getD k (0, 0, 0))))), some (.ref (2)), some (.int (nI wy))]) f_8_56 (Nat.le_of_ble_eq_true rfl) rfl rfl ?_
        refine e_aload_n f_8_58 rfl rfl ?_
        refine e_aload_n f_8_59 rfl rfl ?_
        refine e_getf f_8_60 H1.1 rfl rfl ?_
        refine e_iload_n f_8_63 rfl rfl ?_
        refine e_iaload_p (xs := j) f_8_64 H1.2.1 (d := (0, 0, 0)) (by first | omega | (simp only [List.length_set]; omega)) rfl ?_
        show px_to 8 65 [some (.ref (b)), some (.ref (a)), some (.int (nI k)), some (.int (nI wy)), some (.int (nI (othN (j.getD k (0, 0, 0))))), some (.ref (2)), some (.int (nI wy))] [.int (nI ((j.getD k (0, 0, 0)).1)), .ref (b)] h _
        refine e_iload f_8_65 rfl rfl ?_
        refine e_aload f_8_67 rfl rfl ?_
        refine e_callV (As := []) (rest := [.int (nI wy), .int (nI ((j.getD k (0, 0, 0)).1)), .ref (b)]) f_8_69 rfl rfl rfl (Nat.le_of_ble_eq_true rfl) (Nat.le_of_ble_eq_true rfl) H3.1 rfl (Nat.le_of_ble_eq_true rfl) (cc_Str_len (k := 2) (bs := [43, 45, 42, 47]) H3 ) rfl (fun h37 r38 q39 => ?_)
        obtain ⟨rfl, qe⟩ := q39
        have qe := qe.symm
        subst qe
        show px_to 8 72 [some (.ref (b)), some (.ref (a)), some (.int (nI k)), some (.int (nI wy)), some (.int (nI (othN (j.getD k (0, 0, 0))))), some (.ref (2)), some (.int (nI wy))] [.int (nI (([43, 45, 42, 47]).length)), .int (nI wy), .int (nI ((j.getD k (0, 0, 0)).1)), .ref (b)] h _
        show px_to 8 72 [some (.ref (b)), some (.ref (a)), some (.int (nI k)), some (.int (nI wy)), some (.int (nI (othN (j.getD k (0, 0, 0))))), some (.ref (2)), some (.int (nI wy))] [.int (nI 4), .int (nI wy), .int (nI ((j.getD k (0, 0, 0)).1)), .ref (b)] h _
        refine e_icmp_ge f_8_72 rfl (fun c_72 => ?_) (fun c_72 => ?_)
        · skip
          have c_72 : 4 ≤ wy := cv_le (by omega) (by omega) c_72
          refine e_iconst (v := nI 0) f_8_85 (by decide) rfl ?_
          refine e_aload_n f_8_86 rfl rfl ?_
          refine e_getf f_8_87 H1.1 rfl rfl ?_
          refine e_iload_n f_8_90 rfl rfl ?_
          refine e_iaload_p (xs := j) f_8_91 H1.2.2.2 (d := (0, 0, 0)) (by first | omega | (simp only [List.length_set]; omega)) rfl ?_
          show px_to 8 92 [some (.ref (b)), some (.ref (a)), some (.int (nI k)), some (.int (nI wy)), some (.int (nI (othN (j.getD k (0, 0, 0))))), some (.ref (2)), some (.int (nI wy))] [.int ((j.getD k (0, 0, 0)).2.2), .int (nI 0), .int (nI ((j.getD k (0, 0, 0)).1)), .ref (b)] h _
          refine e_callV (As := [.int (nI ((j.getD k (0, 0, 0)).1)), .int (nI 0), .int ((j.getD k (0, 0, 0)).2.2)]) (rest := []) f_8_92 rfl rfl rfl (Nat.le_of_ble_eq_true rfl) (Nat.le_of_ble_eq_true rfl) H0.1 rfl (Nat.le_of_ble_eq_true rfl) (cc_Job_addStep (a := b) (s := (j.getD k (0, 0, 0)).1) (ac := 0) (nu := (j.getD k (0, 0, 0)).2.2) (j := q) H0 (by omega) (by omega)) rfl (fun h40 r41 q42 => ?_)
          obtain ⟨rfl, g43, fx44⟩ := q42
          have fr45 : px_fi b 4 h h40 := fi_tr fr0 fx44 (by omega)
          show px_to 8 95 [some (.ref (b)), some (.ref (a)), some (.int (nI k)), some (.int (nI wy)), some (.int (nI (othN (j.getD k (0, 0, 0))))), some (.ref (2)), some (.int (nI wy))] [] h40 _
          refine e_goto f_8_95 ?_
          refine e_vret f_8_132 rfl ?_
          exfalso; omega
        · skip
          have c_72 : wy < 4 := cv_nle (by omega) (by omega) c_72
          refine e_aload f_8_75 rfl rfl ?_
          refine e_iload f_8_77 rfl rfl ?_
          refine e_callV (As := [.int (nI wy)]) (rest := [.int (nI ((j.getD k (0, 0, 0)).1)), .ref (b)]) f_8_79 rfl rfl rfl (Nat.le_of_ble_eq_true rfl) (Nat.le_of_ble_eq_true rfl) H3.1 rfl (Nat.le_of_ble_eq_true rfl) (cc_Str_at (i := wy) (k := 2) (bs := [43, 45, 42, 47]) H3 (by omega) (by decide)) rfl (fun h46 r47 q48 => ?_)
          obtain ⟨rfl, qe⟩ := q48
          have qe := qe.symm
          subst qe
          show px_to 8 82 [some (.ref (b)), some (.ref (a)), some (.int (nI k)), some (.int (nI wy)), some (.int (nI (othN (j.getD k (0, 0, 0))))), some (.ref (2)), some (.int (nI wy))] [.int (nI (([43, 45, 42, 47]).getD wy 0)), .int (nI ((j.getD k (0, 0, 0)).1)), .ref (b)] h _
          refine e_goto f_8_82 ?_
          refine e_aload_n f_8_86 rfl rfl ?_
          refine e_getf f_8_87 H1.1 rfl rfl ?_
          refine e_iload_n f_8_90 rfl rfl ?_
          refine e_iaload_p (xs := j) f_8_91 H1.2.2.2 (d := (0, 0, 0)) (by first | omega | (simp only [List.length_set]; omega)) rfl ?_
          show px_to 8 92 [some (.ref (b)), some (.ref (a)), some (.int (nI k)), some (.int (nI wy)), some (.int (nI (othN (j.getD k (0, 0, 0))))), some (.ref (2)), some (.int (nI wy))] [.int ((j.getD k (0, 0, 0)).2.2), .int (nI (([43, 45, 42, 47]).getD wy 0)), .int (nI ((j.getD k (0, 0, 0)).1)), .ref (b)] h _
          refine e_callV (As := [.int (nI ((j.getD k (0, 0, 0)).1)), .int (nI (([43, 45, 42, 47]).getD wy 0)), .int ((j.getD k (0, 0, 0)).2.2)]) (rest := []) f_8_92 rfl rfl rfl (Nat.le_of_ble_eq_true rfl) (Nat.le_of_ble_eq_true rfl) H0.1 rfl (Nat.le_of_ble_eq_true rfl) (cc_Job_addStep (a := b) (s := (j.getD k (0, 0, 0)).1) (ac := ([43, 45, 42, 47]).getD wy 0) (nu := (j.getD k (0, 0, 0)).2.2) (j := q) H0 (by omega) (by omega)) rfl (fun h49 r50 q51 => ?_)
          obtain ⟨rfl, g52, fx53⟩ := q51
          have fr54 : px_fi b 4 h h49 := fi_tr fr0 fx53 (by omega)
          show px_to 8 95 [some (.ref (b)), some (.ref (a)), some (.int (nI k)), some (.int (nI wy)), some (.int (nI (othN (j.getD k (0, 0, 0))))), some (.ref (2)), some (.int (nI wy))] [] h49 _
          refine e_goto f_8_95 ?_
          refine e_vret f_8_132 rfl ?_
          have ec : chg (j.getD k (0, 0, 0)) wy = ((j.getD k (0, 0, 0)).1, [43, 45, 42, 47].getD wy 0, (j.getD k (0, 0, 0)).2.2) := by unfold chg; rw [if_pos c_10, hac, if_pos (by omega)]
          rw [ec]
          exact ⟨rfl, g52, fr54⟩
    · skip
      have c_21 : (j.getD k (0, 0, 0)).1 = 102 := cv_nne (by omega) (by omega) c_21
      refine e_ldc f_8_24 rfl ?_
      refine e_goto f_8_26 ?_
      have hfm : (j.getD k (0, 0, 0)).1 = 102 ∨ (j.getD k (0, 0, 0)).1 = 109 := by have z := c_10; unfold othN at z; split at z <;> first | omega | (split at z <;> omega)
      have hin := p4.2.1 hfm
      have hac : actsOf (j.getD k (0, 0, 0)).1 = [60, 61, 62] := by unfold actsOf; rw [if_pos c_21]
      rw [hac] at hin
      have hal : (j.getD k (0, 0, 0)).2.1 < 128 := (by decide : ∀ b ∈ [60, 61, 62], b < 128) _ hin
      have hix := List.idxOf_lt_length_iff.mpr hin
      have hot : othN (j.getD k (0, 0, 0)) + 1 = 3 := by unfold othN; rw [if_pos c_21]
      refine e_astore (L' := [some (.ref (b)), some (.ref (a)), some (.int (nI k)), some (.int (nI wy)), some (.int (nI (othN (j.getD k (0, 0, 0))))), some (.ref (1)), none]) f_8_31 (Nat.le_of_ble_eq_true rfl) rfl rfl ?_
      refine e_iload_n f_8_33 rfl rfl ?_
      refine e_aload f_8_34 rfl rfl ?_
      refine e_aload_n f_8_36 rfl rfl ?_
      refine e_getf f_8_37 H1.1 rfl rfl ?_
      refine e_iload_n f_8_40 rfl rfl ?_
      refine e_iaload_p (xs := j) f_8_41 H1.2.2.1 (d := (0, 0, 0)) (by first | omega | (simp only [List.length_set]; omega)) rfl ?_
      show px_to 8 42 [some (.ref (b)), some (.ref (a)), some (.int (nI k)), some (.int (nI wy)), some (.int (nI (othN (j.getD k (0, 0, 0))))), some (.ref (1)), none] [.int (nI ((j.getD k (0, 0, 0)).2.1)), .ref (1), .int (nI wy)] h _
      refine e_i2c (z := nI ((j.getD k (0, 0, 0)).2.1)) f_8_42 (i2c_id (by omega)) rfl ?_
      refine e_callV (As := [.int (nI ((j.getD k (0, 0, 0)).2.1))]) (rest := [.int (nI wy)]) f_8_43 rfl rfl rfl (Nat.le_of_ble_eq_true rfl) (Nat.le_of_ble_eq_true rfl) H2.1 rfl (Nat.le_of_ble_eq_true rfl) (cc_Str_ix (c := (j.getD k (0, 0, 0)).2.1) (k := 1) (bs := [60, 61, 62]) H2 (hal) (by decide) (by decide)) rfl (fun h55 r56 q57 => ?_)
      obtain ⟨rfl, qe⟩ := q57
      have qe := qe.symm
      subst qe
      show px_to 8 46 [some (.ref (b)), some (.ref (a)), some (.int (nI k)), some (.int (nI wy)), some (.int (nI (othN (j.getD k (0, 0, 0))))), some (.ref (1)), none] [.int (ixf ([60, 61, 62]) ((j.getD k (0, 0, 0)).2.1) 0), .int (nI wy)] h _
      have hi2 := ixf_at (i := 0) hin
      rw [Nat.zero_add] at hi2
      rw [hi2]
      simp only [List.length_cons, List.length_nil] at hix
      refine e_icmp_ge f_8_46 rfl (fun c_46 => ?_) (fun c_46 => ?_)
      · skip
        have c_46 : [60, 61, 62].idxOf (j.getD k (0, 0, 0)).2.1 ≤ wy := cv_le (by omega) (by omega) c_46
        refine e_iload_n f_8_53 rfl rfl ?_
        refine e_iconst (v := nI 1) f_8_54 (by decide) rfl ?_
        refine e_iadd (z := nI (wy + 1)) f_8_55 (nI_add _ _) rfl ?_
        refine e_istore (L' := [some (.ref (b)), some (.ref (a)), some (.int (nI k)), some (.int (nI wy)), some (.int (nI (othN (j.getD k (0, 0, 0))))), some (.ref (1)), some (.int (nI (wy + 1)))]) f_8_56 (Nat.le_of_ble_eq_true rfl) rfl rfl ?_
        refine e_aload_n f_8_58 rfl rfl ?_
        refine e_aload_n f_8_59 rfl rfl ?_
        refine e_getf f_8_60 H1.1 rfl rfl ?_
        refine e_iload_n f_8_63 rfl rfl ?_
        refine e_iaload_p (xs := j) f_8_64 H1.2.1 (d := (0, 0, 0)) (by first | omega | (simp only [List.length_set]; omega)) rfl ?_
        show px_to 8 65 [some (.ref (b)), some (.ref (a)), some (.int (nI k)), some (.int (nI wy)), some (.int (nI (othN (j.getD k (0, 0, 0))))), some (.ref (1)), some (.int (nI (wy + 1)))] [.int (nI ((j.getD k (0, 0, 0)).1)), .ref (b)] h _
        refine e_iload f_8_65 rfl rfl ?_
        refine e_aload f_8_67 rfl rfl ?_
        refine e_callV (As := []) (rest := [.int (nI (wy + 1)), .int (nI ((j.getD k (0, 0, 0)).1)), .ref (b)]) f_8_69 rfl rfl rfl (Nat.le_of_ble_eq_true rfl) (Nat.le_of_ble_eq_true rfl) H2.1 rfl (Nat.le_of_ble_eq_true rfl) (cc_Str_len (k := 1) (bs := [60, 61, 62]) H2 ) rfl (fun h58 r59 q60 => ?_)
        obtain ⟨rfl, qe⟩ := q60
        have qe := qe.symm
        subst qe
        show px_to 8 72 [some (.ref (b)), some (.ref (a)), some (.int (nI k)), some (.int (nI wy)), some (.int (nI (othN (j.getD k (0, 0, 0))))), some (.ref (1)), some (.int (nI (wy + 1)))] [.int (nI (([60, 61, 62]).length)), .int (nI (wy + 1)), .int (nI ((j.getD k (0, 0, 0)).1)), .ref (b)] h _
        show px_to 8 72 [some (.ref (b)), some (.ref (a)), some (.int (nI k)), some (.int (nI wy)), some (.int (nI (othN (j.getD k (0, 0, 0))))), some (.ref (1)), some (.int (nI (wy + 1)))] [.int (nI 3), .int (nI (wy + 1)), .int (nI ((j.getD k (0, 0, 0)).1)), .ref (b)] h _
        refine e_icmp_ge f_8_72 rfl (fun c_72 => ?_) (fun c_72 => ?_)
        · skip
          have c_72 : 3 ≤ wy + 1 := cv_le (by omega) (by omega) c_72
          refine e_iconst (v := nI 0) f_8_85 (by decide) rfl ?_
          refine e_aload_n f_8_86 rfl rfl ?_
          refine e_getf f_8_87 H1.1 rfl rfl ?_
          refine e_iload_n f_8_90 rfl rfl ?_
          refine e_iaload_p (xs := j) f_8_91 H1.2.2.2 (d := (0, 0, 0)) (by first | omega | (simp only [List.length_set]; omega)) rfl ?_
          show px_to 8 92 [some (.ref (b)), some (.ref (a)), some (.int (nI k)), some (.int (nI wy)), some (.int (nI (othN (j.getD k (0, 0, 0))))), some (.ref (1)), some (.int (nI (wy + 1)))] [.int ((j.getD k (0, 0, 0)).2.2), .int (nI 0), .int (nI ((j.getD k (0, 0, 0)).1)), .ref (b)] h _
          refine e_callV (As := [.int (nI ((j.getD k (0, 0, 0)).1)), .int (nI 0), .int ((j.getD k (0, 0, 0)).2.2)]) (rest := []) f_8_92 rfl rfl rfl (Nat.le_of_ble_eq_true rfl) (Nat.le_of_ble_eq_true rfl) H0.1 rfl (Nat.le_of_ble_eq_true rfl) (cc_Job_addStep (a := b) (s := (j.getD k (0, 0, 0)).1) (ac := 0) (nu := (j.getD k (0, 0, 0)).2.2) (j := q) H0 (by omega) (by omega)) rfl (fun h61 r62 q63 => ?_)
          obtain ⟨rfl, g64, fx65⟩ := q63
          have fr66 : px_fi b 4 h h61 := fi_tr fr0 fx65 (by omega)
          show px_to 8 95 [some (.ref (b)), some (.ref (a)), some (.int (nI k)), some (.int (nI wy)), some (.int (nI (othN (j.getD k (0, 0, 0))))), some (.ref (1)), some (.int (nI (wy + 1)))] [] h61 _
          refine e_goto f_8_95 ?_
          refine e_vret f_8_132 rfl ?_
          exfalso; omega
        · skip
          have c_72 : wy + 1 < 3 := cv_nle (by omega) (by omega) c_72
          refine e_aload f_8_75 rfl rfl ?_
          refine e_iload f_8_77 rfl rfl ?_
          refine e_callV (As := [.int (nI (wy + 1))]) (rest := [.int (nI ((j.getD k (0, 0, 0)).1)), .ref (b)]) f_8_79 rfl rfl rfl (Nat.le_of_ble_eq_true rfl) (Nat.le_of_ble_eq_true rfl) H2.1 rfl (Nat.le_of_ble_eq_true rfl) (cc_Str_at (i := wy + 1) (k := 1) (bs := [60, 61, 62]) H2 (by omega) (by decide)) rfl (fun h67 r68 q69 => ?_)
          obtain ⟨rfl, qe⟩ := q69
          have qe := qe.symm
          subst qe
          show px_to 8 82 [some (.ref (b)), some (.ref (a)), some (.int (nI k)), some (.int (nI wy)), some (.int (nI (othN (j.getD k (0, 0, 0))))), some (.ref (1)), some (.int (nI (wy + 1)))] [.int (nI (([60, 61, 62]).getD (wy + 1) 0)), .int (nI ((j.getD k (0, 0, 0)).1)), .ref (b)] h _
          refine e_goto f_8_82 ?_
          refine e_aload_n f_8_86 rfl rfl ?_
          refine e_getf f_8_87 H1.1 rfl rfl ?_
          refine e_iload_n f_8_90 rfl rfl ?_
          refine e_iaload_p (xs := j) f_8_91 H1.2.2.2 (d := (0, 0, 0)) (by first | omega | (simp only [List.length_set]; omega)) rfl ?_
          show px_to 8 92 [some (.ref (b)), some (.ref (a)), some (.int (nI k)), some (.int (nI wy)), some (.int (nI (othN (j.getD k (0, 0, 0))))), some (.ref (1)), some (.int (nI (wy + 1)))] [.int ((j.getD k (0, 0, 0)).2.2), .int (nI (([60, 61, 62]).getD (wy + 1) 0)), .int (nI ((j.getD k (0, 0, 0)).1)), .ref (b)] h _
          refine e_callV (As := [.int (nI ((j.getD k (0, 0, 0)).1)), .int (nI (([60, 61, 62]).getD (wy + 1) 0)), .int ((j.getD k (0, 0, 0)).2.2)]) (rest := []) f_8_92 rfl rfl rfl (Nat.le_of_ble_eq_true rfl) (Nat.le_of_ble_eq_true rfl) H0.1 rfl (Nat.le_of_ble_eq_true rfl) (cc_Job_addStep (a := b) (s := (j.getD k (0, 0, 0)).1) (ac := ([60, 61, 62]).getD (wy + 1) 0) (nu := (j.getD k (0, 0, 0)).2.2) (j := q) H0 (by omega) (by omega)) rfl (fun h70 r71 q72 => ?_)
          obtain ⟨rfl, g73, fx74⟩ := q72
          have fr75 : px_fi b 4 h h70 := fi_tr fr0 fx74 (by omega)
          show px_to 8 95 [some (.ref (b)), some (.ref (a)), some (.int (nI k)), some (.int (nI wy)), some (.int (nI (othN (j.getD k (0, 0, 0))))), some (.ref (1)), some (.int (nI (wy + 1)))] [] h70 _
          refine e_goto f_8_95 ?_
          refine e_vret f_8_132 rfl ?_
          have ec : chg (j.getD k (0, 0, 0)) wy = ((j.getD k (0, 0, 0)).1, [60, 61, 62].getD (wy + 1) 0, (j.getD k (0, 0, 0)).2.2) := by unfold chg; rw [if_pos c_10, hac, if_neg (by omega)]
          rw [ec]
          exact ⟨rfl, g73, fr75⟩
      · skip
        have c_46 : wy < [60, 61, 62].idxOf (j.getD k (0, 0, 0)).2.1 := cv_nle (by omega) (by omega) c_46
        refine e_iload_n f_8_49 rfl rfl ?_
        refine e_goto f_8_50 ?_
        refine e_istore (L' := [some (.ref (b)), some (.ref (a)), some (.int (nI k)), some (.int (nI wy)), some (.int (nI (othN (j.getD k (0, 0, 0))))), some (.ref (1)), some (.int (nI wy))]) f_8_56 (Nat.le_of_ble_eq_true rfl) rfl rfl ?_
        refine e_aload_n f_8_58 rfl rfl ?_
        refine e_aload_n f_8_59 rfl rfl ?_
        refine e_getf f_8_60 H1.1 rfl rfl ?_
        refine e_iload_n f_8_63 rfl rfl ?_
        refine e_iaload_p (xs := j) f_8_64 H1.2.1 (d := (0, 0, 0)) (by first | omega | (simp only [List.length_set]; omega)) rfl ?_
        show px_to 8 65 [some (.ref (b)), some (.ref (a)), some (.int (nI k)), some (.int (nI wy)), some (.int (nI (othN (j.getD k (0, 0, 0))))), some (.ref (1)), some (.int (nI wy))] [.int (nI ((j.getD k (0, 0, 0)).1)), .ref (b)] h _
        refine e_iload f_8_65 rfl rfl ?_
        refine e_aload f_8_67 rfl rfl ?_
        refine e_callV (As := []) (rest := [.int (nI wy), .int (nI ((j.getD k (0, 0, 0)).1)), .ref (b)]) f_8_69 rfl rfl rfl (Nat.le_of_ble_eq_true rfl) (Nat.le_of_ble_eq_true rfl) H2.1 rfl (Nat.le_of_ble_eq_true rfl) (cc_Str_len (k := 1) (bs := [60, 61, 62]) H2 ) rfl (fun h76 r77 q78 => ?_)
        obtain ⟨rfl, qe⟩ := q78
        have qe := qe.symm
        subst qe
        show px_to 8 72 [some (.ref (b)), some (.ref (a)), some (.int (nI k)), some (.int (nI wy)), some (.int (nI (othN (j.getD k (0, 0, 0))))), some (.ref (1)), some (.int (nI wy))] [.int (nI (([60, 61, 62]).length)), .int (nI wy), .int (nI ((j.getD k (0, 0, 0)).1)), .ref (b)] h _
        show px_to 8 72 [some (.ref (b)), some (.ref (a)), some (.int (nI k)), some (.int (nI wy)), some (.int (nI (othN (j.getD k (0, 0, 0))))), some (.ref (1)), some (.int (nI wy))] [.int (nI 3), .int (nI wy), .int (nI ((j.getD k (0, 0, 0)).1)), .ref (b)] h _
        refine e_icmp_ge f_8_72 rfl (fun c_72 => ?_) (fun c_72 => ?_)
        · skip
          have c_72 : 3 ≤ wy := cv_le (by omega) (by omega) c_72
          refine e_iconst (v := nI 0) f_8_85 (by decide) rfl ?_
          refine e_aload_n f_8_86 rfl rfl ?_
          refine e_getf f_8_87 H1.1 rfl rfl ?_
          refine e_iload_n f_8_90 rfl rfl ?_
          refine e_iaload_p (xs := j) f_8_91 H1.2.2.2 (d := (0, 0, 0)) (by first | omega | (simp only [List.length_set]; omega)) rfl ?_
          show px_to 8 92 [some (.ref (b)), some (.ref (a)), some (.int (nI k)), some (.int (nI wy)), some (.int (nI (othN (j.getD k (0, 0, 0))))), some (.ref (1)), some (.int (nI wy))] [.int ((j.getD k (0, 0, 0)).2.2), .int (nI 0), .int (nI ((j.getD k (0, 0, 0)).1)), .ref (b)] h _
          refine e_callV (As := [.int (nI ((j.getD k (0, 0, 0)).1)), .int (nI 0), .int ((j.getD k (0, 0, 0)).2.2)]) (rest := []) f_8_92 rfl rfl rfl (Nat.le_of_ble_eq_true rfl) (Nat.le_of_ble_eq_true rfl) H0.1 rfl (Nat.le_of_ble_eq_true rfl) (cc_Job_addStep (a := b) (s := (j.getD k (0, 0, 0)).1) (ac := 0) (nu := (j.getD k (0, 0, 0)).2.2) (j := q) H0 (by omega) (by omega)) rfl (fun h79 r80 q81 => ?_)
          obtain ⟨rfl, g82, fx83⟩ := q81
          have fr84 : px_fi b 4 h h79 := fi_tr fr0 fx83 (by omega)
          show px_to 8 95 [some (.ref (b)), some (.ref (a)), some (.int (nI k)), some (.int (nI wy)), some (.int (nI (othN (j.getD k (0, 0, 0))))), some (.ref (1)), some (.int (nI wy))] [] h79 _
          refine e_goto f_8_95 ?_
          refine e_vret f_8_132 rfl ?_
          exfalso; omega
        · skip
          have c_72 : wy < 3 := cv_nle (by omega) (by omega) c_72
          refine e_aload f_8_75 rfl rfl ?_
          refine e_iload f_8_77 rfl rfl ?_
          refine e_callV (As := [.int (nI wy)]) (rest := [.int (nI ((j.getD k (0, 0, 0)).1)), .ref (b)]) f_8_79 rfl rfl rfl (Nat.le_of_ble_eq_true rfl) (Nat.le_of_ble_eq_true rfl) H2.1 rfl (Nat.le_of_ble_eq_true rfl) (cc_Str_at (i := wy) (k := 1) (bs := [60, 61, 62]) H2 (by omega) (by decide)) rfl (fun h85 r86 q87 => ?_)
          obtain ⟨rfl, qe⟩ := q87
          have qe := qe.symm
          subst qe
          show px_to 8 82 [some (.ref (b)), some (.ref (a)), some (.int (nI k)), some (.int (nI wy)), some (.int (nI (othN (j.getD k (0, 0, 0))))), some (.ref (1)), some (.int (nI wy))] [.int (nI (([60, 61, 62]).getD wy 0)), .int (nI ((j.getD k (0, 0, 0)).1)), .ref (b)] h _
          refine e_goto f_8_82 ?_
          refine e_aload_n f_8_86 rfl rfl ?_
          refine e_getf f_8_87 H1.1 rfl rfl ?_
          refine e_iload_n f_8_90 rfl rfl ?_
          refine e_iaload_p (xs := j) f_8_91 H1.2.2.2 (d := (0, 0, 0)) (by first | omega | (simp only [List.length_set]; omega)) rfl ?_
          show px_to 8 92 [some (.ref (b)), some (.ref (a)), some (.int (nI k)), some (.int (nI wy)), some (.int (nI (othN (j.getD k (0, 0, 0))))), some (.ref (1)), some (.int (nI wy))] [.int ((j.getD k (0, 0, 0)).2.2), .int (nI (([60, 61, 62]).getD wy 0)), .int (nI ((j.getD k (0, 0, 0)).1)), .ref (b)] h _
          refine e_callV (As := [.int (nI ((j.getD k (0, 0, 0)).1)), .int (nI (([60, 61, 62]).getD wy 0)), .int ((j.getD k (0, 0, 0)).2.2)]) (rest := []) f_8_92 rfl rfl rfl (Nat.le_of_ble_eq_true rfl) (Nat.le_of_ble_eq_true rfl) H0.1 rfl (Nat.le_of_ble_eq_true rfl) (cc_Job_addStep (a := b) (s := (j.getD k (0, 0, 0)).1) (ac := ([60, 61, 62]).getD wy 0) (nu := (j.getD k (0, 0, 0)).2.2) (j := q) H0 (by omega) (by omega)) rfl (fun h88 r89 q90 => ?_)
          obtain ⟨rfl, g91, fx92⟩ := q90
          have fr93 : px_fi b 4 h h88 := fi_tr fr0 fx92 (by omega)
          show px_to 8 95 [some (.ref (b)), some (.ref (a)), some (.int (nI k)), some (.int (nI wy)), some (.int (nI (othN (j.getD k (0, 0, 0))))), some (.ref (1)), some (.int (nI wy))] [] h88 _
          refine e_goto f_8_95 ?_
          refine e_vret f_8_132 rfl ?_
          have ec : chg (j.getD k (0, 0, 0)) wy = ((j.getD k (0, 0, 0)).1, [60, 61, 62].getD wy 0, (j.getD k (0, 0, 0)).2.2) := by unfold chg; rw [if_pos c_10, hac, if_pos (by omega)]
          rw [ec]
          exact ⟨rfl, g91, fr93⟩

set_option maxRecDepth 20000 in
set_option maxHeartbeats 4000000 in
theorem ll_Job_mut {h0 : px_H} {b a k stp wy : Nat} {j y : List St} (HJ : pJob h0 a j) (H2 : pStr h0 1 [60, 61, 62]) (H3 : pStr h0 2 [43, 45, 42, 47]) (p0 : 17 ≤ b) (p1 : a + 4 ≤ b ∨ b + 4 ≤ a) (p2 : ∀ s ∈ j, okP s) (hst : stp < 1000) (hwy : wy < 1000) : ∀ (d : Nat) (i : Nat) (q : List St) (g : px_H), (j.length ≤ i + d) → (i ≤ j.length) → (q ++ mutGo stp wy (j.drop i) i = y) → (q.length ≤ i) → pJob g b q → px_fi b 4 h0 g → px_to 7 21 [some (.ref (b)), some (.ref (a)), some (.int (nI k)), some (.int (nI stp)), some (.int (nI wy)), some (.int (nI i))] [] g (fun h1 r => r = none ∧ pJob h1 b y ∧ px_fi b 4 h0 h1) := by
  intro d
  induction d using Nat.strongRecOn with
  | ind d ih =>
    intro i q g q0 q1 q2 q3 G0 frg
    have lj := pa_len HJ.2.1
    refine e_iload f_7_21 rfl rfl ?_
    refine e_aload_n f_7_23 rfl rfl ?_
    have g1 : pJob g a j := pJob_fi HJ frg (by omega)
    refine e_getf f_7_24 g1.1 rfl rfl ?_
    refine e_icmp_ge f_7_27 rfl (fun c_27 => ?_) (fun c_27 => ?_)
    · skip
      have c_27 : j.length ≤ i := cv_le (by omega) (by omega) c_27
      refine e_vret f_7_92 rfl ?_
      rw [List.drop_eq_nil_of_le (by omega), mutGo, List.append_nil] at q2
      subst q2
      exact ⟨rfl, G0, frg⟩
    · skip
      have c_27 : i < j.length := cv_nle (by omega) (by omega) c_27
      have hp : okP (j.getD i (0, 0, 0)) := p2 _ (getD_mem _ (by omega))
      have hs6 := hp.1.1
      have hwl := ways_le (j.getD i (0, 0, 0))
      have ha6 := hp.1.2.1
      refine e_iload f_7_30 rfl rfl ?_
      refine e_iload_n f_7_32 rfl rfl ?_
      refine e_icmp_eq f_7_33 rfl (fun c_33 => ?_) (fun c_33 => ?_)
      · skip
        have c_33 : i = stp := cv_eq (by omega) (by omega) c_33
        refine e_iload f_7_64 rfl rfl ?_
        refine e_aload_n f_7_66 rfl rfl ?_
        refine e_iload f_7_67 rfl rfl ?_
        refine e_callV (As := [.int (nI i)]) (rest := [.int (nI wy)]) f_7_69 rfl rfl rfl (Nat.le_of_ble_eq_true rfl) (Nat.le_of_ble_eq_true rfl) g1.1 rfl (Nat.le_of_ble_eq_true rfl) (cc_Job_waysOf (a := a) (i := i) (j := j) g1 (by omega) (by omega)) rfl (fun h2 r3 q4 => ?_)
        obtain ⟨rfl, qe⟩ := q4
        have qe := qe.symm
        subst qe
        show px_to 7 72 [some (.ref (b)), some (.ref (a)), some (.int (nI k)), some (.int (nI stp)), some (.int (nI wy)), some (.int (nI i))] [.int (nI (ways (j.getD i (0, 0, 0)))), .int (nI wy)] g _
        refine e_iconst (v := nI 1) f_7_72 (by decide) rfl ?_
        refine e_isub (z := nI (ways (j.getD i (0, 0, 0)) - 1)) f_7_73 (pk_sub (by omega)) rfl ?_
        refine e_icmp_ge f_7_74 rfl (fun c_74 => ?_) (fun c_74 => ?_)
        · skip
          have c_74 : ways (j.getD i (0, 0, 0)) - 1 ≤ wy := cv_le (by omega) (by omega) c_74
          refine e_iinc (y := nI (i + 1)) (L' := [some (.ref (b)), some (.ref (a)), some (.int (nI k)), some (.int (nI stp)), some (.int (nI wy)), some (.int (nI (i + 1)))]) f_7_86 rfl (by rw [show Int32.ofInt 1 = nI 1 by decide]; exact (nI_add _ _)) rfl rfl ?_
          refine e_goto f_7_89 ?_
          first | (exfalso; omega) | exact ih (d - 1) (by omega) (i + 1) q g (by omega) (by omega) (by rw [drop_step (0, 0, 0) (show i < j.length by omega), mutGo, if_pos c_33, if_neg (by omega)] at q2; exact q2) (by omega) G0 frg
        · skip
          have c_74 : wy < ways (j.getD i (0, 0, 0)) - 1 := cv_nle (by omega) (by omega) c_74
          refine e_aload_n f_7_77 rfl rfl ?_
          refine e_aload_n f_7_78 rfl rfl ?_
          refine e_iload f_7_79 rfl rfl ?_
          refine e_iload f_7_81 rfl rfl ?_
          have g5 : pStr g 1 ([60, 61, 62]) := pStr_fi H2 frg (by omega)
          have g6 : pStr g 2 ([43, 45, 42, 47]) := pStr_fi H3 frg (by omega)
          refine e_callV (As := [.ref (a), .int (nI i), .int (nI wy)]) (rest := []) f_7_83 rfl rfl rfl (Nat.le_of_ble_eq_true rfl) (Nat.le_of_ble_eq_true rfl) G0.1 rfl (Nat.le_of_ble_eq_true rfl) (cc_Job_chg (b := b) (q := q) (a := a) (j := j) (k := i) (wy := wy) G0 g1 g5 g6 (by omega) (by omega) (by omega) (by omega) (hp) (by omega)) rfl (fun h7 r8 q9 => ?_)
          obtain ⟨rfl, g10, fx11⟩ := q9
          have fr12 : px_fi b 4 h0 h7 := fi_tr frg fx11 (by omega)
          show px_to 7 86 [some (.ref (b)), some (.ref (a)), some (.int (nI k)), some (.int (nI stp)), some (.int (nI wy)), some (.int (nI i))] [] h7 _
          refine e_iinc (y := nI (i + 1)) (L' := [some (.ref (b)), some (.ref (a)), some (.int (nI k)), some (.int (nI stp)), some (.int (nI wy)), some (.int (nI (i + 1)))]) f_7_86 rfl (by rw [show Int32.ofInt 1 = nI 1 by decide]; exact (nI_add _ _)) rfl rfl ?_
          refine e_goto f_7_89 ?_
          first | (exfalso; omega) | exact ih (d - 1) (by omega) (i + 1) (q ++ [chg (j.getD i (0, 0, 0)) wy]) h7 (by omega) (by omega) (by rw [drop_step (0, 0, 0) (show i < j.length by omega), mutGo, if_pos c_33, if_pos (by omega)] at q2; rw [List.append_assoc]; exact q2) (by rw [List.length_append, List.length_singleton]; omega) g10 fr12
      · skip
        have c_33 : i ≠ stp := cv_ne c_33
        refine e_aload_n f_7_36 rfl rfl ?_
        refine e_aload_n f_7_37 rfl rfl ?_
        refine e_getf f_7_38 g1.1 rfl rfl ?_
        refine e_iload f_7_41 rfl rfl ?_
        refine e_iaload_p (xs := j) f_7_43 g1.2.1 (d := (0, 0, 0)) (by first | omega | (simp only [List.length_set]; omega)) rfl ?_
        show px_to 7 44 [some (.ref (b)), some (.ref (a)), some (.int (nI k)), some (.int (nI stp)), some (.int (nI wy)), some (.int (nI i))] [.int (nI ((j.getD i (0, 0, 0)).1)), .ref (b)] g _
        refine e_aload_n f_7_44 rfl rfl ?_
        refine e_getf f_7_45 g1.1 rfl rfl ?_
        refine e_iload f_7_48 rfl rfl ?_
        refine e_iaload_p (xs := j) f_7_50 g1.2.2.1 (d := (0, 0, 0)) (by first | omega | (simp only [List.length_set]; omega)) rfl ?_
        show px_to 7 51 [some (.ref (b)), some (.ref (a)), some (.int (nI k)), some (.int (nI stp)), some (.int (nI wy)), some (.int (nI i))] [.int (nI ((j.getD i (0, 0, 0)).2.1)), .int (nI ((j.getD i (0, 0, 0)).1)), .ref (b)] g _
        refine e_aload_n f_7_51 rfl rfl ?_
        refine e_getf f_7_52 g1.1 rfl rfl ?_
        refine e_iload f_7_55 rfl rfl ?_
        refine e_iaload_p (xs := j) f_7_57 g1.2.2.2 (d := (0, 0, 0)) (by first | omega | (simp only [List.length_set]; omega)) rfl ?_
        show px_to 7 58 [some (.ref (b)), some (.ref (a)), some (.int (nI k)), some (.int (nI stp)), some (.int (nI wy)), some (.int (nI i))] [.int ((j.getD i (0, 0, 0)).2.2), .int (nI ((j.getD i (0, 0, 0)).2.1)), .int (nI ((j.getD i (0, 0, 0)).1)), .ref (b)] g _
        refine e_callV (As := [.int (nI ((j.getD i (0, 0, 0)).1)), .int (nI ((j.getD i (0, 0, 0)).2.1)), .int ((j.getD i (0, 0, 0)).2.2)]) (rest := []) f_7_58 rfl rfl rfl (Nat.le_of_ble_eq_true rfl) (Nat.le_of_ble_eq_true rfl) G0.1 rfl (Nat.le_of_ble_eq_true rfl) (cc_Job_addStep (a := b) (s := (j.getD i (0, 0, 0)).1) (ac := (j.getD i (0, 0, 0)).2.1) (nu := (j.getD i (0, 0, 0)).2.2) (j := q) G0 (by omega) (by omega)) rfl (fun h13 r14 q15 => ?_)
        obtain ⟨rfl, g16, fx17⟩ := q15
        have fr18 : px_fi b 4 h0 h13 := fi_tr frg fx17 (by omega)
        show px_to 7 61 [some (.ref (b)), some (.ref (a)), some (.int (nI k)), some (.int (nI stp)), some (.int (nI wy)), some (.int (nI i))] [] h13 _
        refine e_goto f_7_61 ?_
        refine e_iinc (y := nI (i + 1)) (L' := [some (.ref (b)), some (.ref (a)), some (.int (nI k)), some (.int (nI stp)), some (.int (nI wy)), some (.int (nI (i + 1)))]) f_7_86 rfl (by rw [show Int32.ofInt 1 = nI 1 by decide]; exact (nI_add _ _)) rfl rfl ?_
        refine e_goto f_7_89 ?_
        first | (exfalso; omega) | exact ih (d - 1) (by omega) (i + 1) (q ++ [(j.getD i (0, 0, 0))]) h13 (by omega) (by omega) (by rw [drop_step (0, 0, 0) (show i < j.length by omega), mutGo, if_neg c_33] at q2; rw [List.append_assoc]; exact q2) (by rw [List.length_append, List.length_singleton]; omega) g16 fr18

theorem mutAt_lt : ∀ {j : List St} {k : Nat}, k < jMut j → (mutAt j k).1 < j.length ∧ (mutAt j k).2 < 5
  | [], k, h => absurd h (Nat.not_lt_zero _)
  | s :: r, k, h => by
    have h5 := (ways_le s).2
    rw [jMut] at h
    rw [mutAt, List.length_cons]
    split
    · exact ⟨Nat.succ_pos _, by dsimp only; omega⟩
    · have h1 := mutAt_lt (j := r) (k := k - ways s) (by omega)
      exact ⟨by dsimp only; omega, h1.2⟩

set_option maxRecDepth 20000 in
set_option maxHeartbeats 4000000 in
theorem cc_Job_mut {h : px_H} {b : Nat} {q : List St} {a : Nat} {j : List St} {k : Nat} (H0 : pJob h b q) (H1 : pJob h a j) (H2 : pStr h 1 ([60, 61, 62])) (H3 : pStr h 2 ([43, 45, 42, 47])) (p0 : 17 ≤ b) (p1 : a + 4 ≤ b ∨ b + 4 ≤ a) (p2 : ∀ s ∈ j, okP s) (p3 : k < jMut j) : px_wp 7 [.ref (b), .ref (a), .int (nI k)] h (fun h1 r => r = none ∧ pJob h1 b (mutJ j k) ∧ px_fi b 4 h h1) := by
  have fr0 : px_fi b 4 h h := fi_rf _ _ _
  have lj := pa_len H1.2.1
  have hml := mutAt_lt p3
  have hst : (mutAt j k).1 < 1000 := by omega
  have hwy : (mutAt j k).2 < 1000 := by omega
  show px_to 7 0 [some (.ref (b)), some (.ref (a)), some (.int (nI k)), none, none, none] [] h _
  refine e_aload_n f_7_0 rfl rfl ?_
  refine e_iload_n f_7_1 rfl rfl ?_
  refine e_callV (As := [.int (nI k)]) (rest := []) f_7_2 rfl rfl rfl (Nat.le_of_ble_eq_true rfl) (Nat.le_of_ble_eq_true rfl) H1.1 rfl (Nat.le_of_ble_eq_true rfl) (cc_Job_stepOf (a := a) (k := k) (j := j) H1 (fun s hs => by have := (p2 s hs).1.1; omega) (p3)) rfl (fun h1 r2 q3 => ?_)
  obtain ⟨rfl, qe⟩ := q3
  have qe := qe.symm
  subst qe
  show px_to 7 5 [some (.ref (b)), some (.ref (a)), some (.int (nI k)), none, none, none] [.int (nI ((mutAt j k).1))] h _
  refine e_istore_n (L' := [some (.ref (b)), some (.ref (a)), some (.int (nI k)), some (.int (nI ((mutAt j k).1))), none, none]) f_7_5 (Nat.le_of_ble_eq_true rfl) rfl rfl ?_
  refine e_aload_n f_7_6 rfl rfl ?_
  refine e_iload_n f_7_7 rfl rfl ?_
  refine e_callV (As := [.int (nI k)]) (rest := []) f_7_8 rfl rfl rfl (Nat.le_of_ble_eq_true rfl) (Nat.le_of_ble_eq_true rfl) H1.1 rfl (Nat.le_of_ble_eq_true rfl) (cc_Job_wayOf (a := a) (k := k) (j := j) H1 (fun s hs => by have := (p2 s hs).1.1; omega) (p3)) rfl (fun h4 r5 q6 => ?_)
  obtain ⟨rfl, qe⟩ := q6
  have qe := qe.symm
  subst qe
  show px_to 7 11 [some (.ref (b)), some (.ref (a)), some (.int (nI k)), some (.int (nI ((mutAt j k).1))), none, none] [.int (nI ((mutAt j k).2))] h _
  refine e_istore (L' := [some (.ref (b)), some (.ref (a)), some (.int (nI k)), some (.int (nI ((mutAt j k).1))), some (.int (nI ((mutAt j k).2))), none]) f_7_11 (Nat.le_of_ble_eq_true rfl) rfl rfl ?_
  refine e_aload_n f_7_13 rfl rfl ?_
  refine e_iconst (v := nI 0) f_7_14 (by decide) rfl ?_
  have g7 : h.2.2 b = some (0, [.int (nI q.length), .ref (b + 1), .ref (b + 2), .ref (b + 3)]) := H0.1
  have g8 : px_pa h (b + 1) 50 6 stS q := H0.2.1
  have g9 : px_pa h (b + 2) 50 6 stA q := H0.2.2.1
  have g10 : px_pa h (b + 3) 50 6 stN q := H0.2.2.2
  refine e_putp (vs' := [.int (nI 0), .ref (b + 1), .ref (b + 2), .ref (b + 3)]) f_7_15 g7 (Nat.le_of_ble_eq_true rfl) (rfl) (rfl) rfl rfl (fun h11 g12 fx13 => ?_)
  have fr14 : px_fi b 4 h h11 := fi_tr fr0 fx13 (by omega)
  refine e_iconst (v := nI 0) f_7_18 (by decide) rfl ?_
  refine e_istore (L' := [some (.ref (b)), some (.ref (a)), some (.int (nI k)), some (.int (nI ((mutAt j k).1))), some (.int (nI ((mutAt j k).2))), some (.int (nI 0))]) f_7_19 (Nat.le_of_ble_eq_true rfl) rfl rfl ?_
  have g15 : px_pa h11 (b + 1) 50 6 stS q := pa_fi g8 fx13 (by omega)
  have g16 : px_pa h11 (b + 2) 50 6 stA q := pa_fi g9 fx13 (by omega)
  have g17 : px_pa h11 (b + 3) 50 6 stN q := pa_fi g10 fx13 (by omega)
  exact ll_Job_mut (h0 := h) H1 H2 H3 p0 p1 p2 hst hwy j.length 0 [] h11 (by omega) (by omega) rfl (by simp) ⟨g12, pa_nil g15, pa_nil g16, pa_nil g17⟩ fr14
