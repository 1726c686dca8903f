set_option maxRecDepth 20000 in
set_option maxHeartbeats 4000000 in
theorem cc_Job_addStep {h : px_H} {a s ac : Nat} {nu : Int32} {j : List St} (H0 : pJob h a j) (p0 : 17 ≤ a) (p1 : j.length < 6) : px_wp 1 [.ref (a), .int (nI s), .int (nI ac), .int (nu)] h (fun h1 r => r = none ∧ pJob h1 a (j ++ [(s, ac, nu)]) ∧ px_fi a 4 h h1) := by
  have fr0 : px_fi a 4 h h := fi_rf _ _ _
  show px_to 1 0 [some (.ref (a)), some (.int (nI s)), some (.int (nI ac)), some (.int (nu))] [] h _
  refine e_aload_n f_1_0 rfl rfl ?_
  refine e_getf f_1_1 H0.1 rfl rfl ?_
  refine e_bipush (v := nI 6) f_1_4 (by decide) rfl ?_
  refine e_icmp_ge f_1_6 rfl (fun c_6 => ?_) (fun c_6 => ?_)
  · skip
    have c_6 : 6 ≤ j.length := cv_le (by omega) (by omega) c_6
    refine e_vret f_1_49 rfl ?_
    exfalso; omega
  · skip
    have c_6 : j.length < 6 := cv_nle (by omega) (by omega) c_6
    refine e_aload_n f_1_9 rfl rfl ?_
    refine e_getf f_1_10 H0.1 rfl rfl ?_
    refine e_aload_n f_1_13 rfl rfl ?_
    refine e_getf f_1_14 H0.1 rfl rfl ?_
    refine e_iload_n f_1_17 rfl rfl ?_
    have g1 : h.2.2 a = some (0, [.int (nI j.length), .ref (a + 1), .ref (a + 2), .ref (a + 3)]) := H0.1
    have g2 : px_pa h (a + 1) 50 6 stS j := H0.2.1
    have g3 : px_pa h (a + 2) 50 6 stA j := H0.2.2.1
    have g4 : px_pa h (a + 3) 50 6 stN j := H0.2.2.2
    refine e_iastore_a (xs := j) (x := (s, ac, nu)) f_1_18 g2 (by omega) (rfl) (by omega) (rfl) rfl (fun h5 g6 fx7 => ?_)
    have fr8 : px_fi a 4 h h5 := fi_tr fr0 fx7 (by omega)
    refine e_aload_n f_1_19 rfl rfl ?_
    have g9 : h5.2.2 a = some (0, [.int (nI j.length), .ref (a + 1), .ref (a + 2), .ref (a + 3)]) := fi_at g1 fx7 (by omega)
    refine e_getf f_1_20 g9 rfl rfl ?_
    refine e_aload_n f_1_23 rfl rfl ?_
    refine e_getf f_1_24 g9 rfl rfl ?_
    refine e_iload_n f_1_27 rfl rfl ?_
    have g10 : px_pa h5 (a + 2) 50 6 stA j := pa_fi g3 fx7 (by omega)
    refine e_iastore_a (xs := j) (x := (s, ac, nu)) f_1_28 g10 (by omega) (rfl) (by omega) (rfl) rfl (fun h11 g12 fx13 => ?_)
    have fr14 : px_fi a 4 h h11 := fi_tr fr8 fx13 (by omega)
    refine e_aload_n f_1_29 rfl rfl ?_
    have g15 : h11.2.2 a = some (0, [.int (nI j.length), .ref (a + 1), .ref (a + 2), .ref (a + 3)]) := fi_at g9 fx13 (by omega)
    refine e_getf f_1_30 g15 rfl rfl ?_
    refine e_aload_n f_1_33 rfl rfl ?_
    refine e_getf f_1_34 g15 rfl rfl ?_
    refine e_iload_n f_1_37 rfl rfl ?_
    have g16 : px_pa h5 (a + 3) 50 6 stN j := pa_fi g4 fx7 (by omega)
    have g17 : px_pa h11 (a + 3) 50 6 stN j := pa_fi g16 fx13 (by omega)
    refine e_iastore_a (xs := j) (x := (s, ac, nu)) f_1_38 g17 (by omega) (rfl) (by omega) (rfl) rfl (fun h18 g19 fx20 => ?_)
    have fr21 : px_fi a 4 h h18 := fi_tr fr14 fx20 (by omega)
    refine e_aload_n f_1_39 rfl rfl ?_
    refine e_dup f_1_40 rfl rfl ?_
    have g22 : h18.2.2 a = some (0, [.int (nI j.length), .ref (a + 1), .ref (a + 2), .ref (a + 3)]) := fi_at g15 fx20 (by omega)
    refine e_getf f_1_41 g22 rfl rfl ?_
    refine e_iconst (v := nI 1) f_1_44 (by decide) rfl ?_
    refine e_iadd (z := nI (j.length + 1)) f_1_45 (nI_add _ _) rfl ?_
    refine e_putp (vs' := [.int (nI (j.length + 1)), .ref (a + 1), .ref (a + 2), .ref (a + 3)]) f_1_46 g22 (Nat.le_of_ble_eq_true rfl) (rfl) (rfl) rfl rfl (fun h23 g24 fx25 => ?_)
    have fr26 : px_fi a 4 h h23 := fi_tr fr21 fx25 (by omega)
    refine e_vret f_1_49 rfl ?_
    have g27 : px_pa h11 (a + 1) 50 6 stS (j ++ [(s, ac, nu)]) := pa_fi g6 fx13 (by omega)
    have g28 : px_pa h18 (a + 1) 50 6 stS (j ++ [(s, ac, nu)]) := pa_fi g27 fx20 (by omega)
    have g29 : px_pa h23 (a + 1) 50 6 stS (j ++ [(s, ac, nu)]) := pa_fi g28 fx25 (by omega)
    have g30 : px_pa h18 (a + 2) 50 6 stA (j ++ [(s, ac, nu)]) := pa_fi g12 fx20 (by omega)
    have g31 : px_pa h23 (a + 2) 50 6 stA (j ++ [(s, ac, nu)]) := pa_fi g30 fx25 (by omega)
    have g32 : px_pa h23 (a + 3) 50 6 stN (j ++ [(s, ac, nu)]) := pa_fi g19 fx25 (by omega)
    exact ⟨rfl, ⟨by rw [List.length_append]; exact g24, g29, g31, g32⟩, fr26⟩

set_option maxRecDepth 20000 in
set_option maxHeartbeats 4000000 in
theorem cc_Job_otherActs {h : px_H} {a i : Nat} {j : List St} (H0 : pJob h a j) (p0 : i < j.length) (p1 : (j.getD i (0, 0, 0)).1 < 65536) : px_wp 2 [.ref (a), .int (nI i)] h (fun h1 r => r = some (.int (nI (if (j.getD i (0, 0, 0)).1 = 102 then 2 else if (j.getD i (0, 0, 0)).1 = 109 then 3 else 0))) ∧ h1 = h) := by
  show px_to 2 0 [some (.ref (a)), some (.int (nI i))] [] h _
  refine e_aload_n f_2_0 rfl rfl ?_
  refine e_getf f_2_1 H0.1 rfl rfl ?_
  refine e_iload_n f_2_4 rfl rfl ?_
  refine e_iaload_p (xs := j) f_2_5 H0.2.1 (d := (0, 0, 0)) (by first | omega | (simp only [List.length_set]; omega)) rfl ?_
  show px_to 2 6 [some (.ref (a)), some (.int (nI i))] [.int (nI ((j.getD i (0, 0, 0)).1))] h _
  refine e_bipush (v := nI 102) f_2_6 (by decide) rfl ?_
  refine e_icmp_ne f_2_8 rfl (fun c_8 => ?_) (fun c_8 => ?_)
  · skip
    have c_8 : (j.getD i (0, 0, 0)).1 ≠ 102 := cv_ne c_8
    refine e_aload_n f_2_15 rfl rfl ?_
    refine e_getf f_2_16 H0.1 rfl rfl ?_
    refine e_iload_n f_2_19 rfl rfl ?_
    refine e_iaload_p (xs := j) f_2_20 H0.2.1 (d := (0, 0, 0)) (by first | omega | (simp only [List.length_set]; omega)) rfl ?_
    show px_to 2 21 [some (.ref (a)), some (.int (nI i))] [.int (nI ((j.getD i (0, 0, 0)).1))] h _
    refine e_bipush (v := nI 109) f_2_21 (by decide) rfl ?_
    refine e_icmp_ne f_2_23 rfl (fun c_23 => ?_) (fun c_23 => ?_)
    · skip
      have c_23 : (j.getD i (0, 0, 0)).1 ≠ 109 := cv_ne c_23
      refine e_iconst (v := nI 0) f_2_30 (by decide) rfl ?_
      refine e_iret f_2_31 rfl (rfl) ?_
      exact ⟨congrArg (fun z => some (Value.int (nI z))) (by (repeat' split) <;> omega), rfl⟩
    · skip
      have c_23 : (j.getD i (0, 0, 0)).1 = 109 := cv_nne (by omega) (by omega) c_23
      refine e_iconst (v := nI 3) f_2_26 (by decide) rfl ?_
      refine e_goto f_2_27 ?_
      refine e_iret f_2_31 rfl (rfl) ?_
      exact ⟨congrArg (fun z => some (Value.int (nI z))) (by (repeat' split) <;> omega), rfl⟩
  · skip
    have c_8 : (j.getD i (0, 0, 0)).1 = 102 := cv_nne (by omega) (by omega) c_8
    refine e_iconst (v := nI 2) f_2_11 (by decide) rfl ?_
    refine e_goto f_2_12 ?_
    refine e_iret f_2_31 rfl (rfl) ?_
    exact ⟨congrArg (fun z => some (Value.int (nI z))) (by (repeat' split) <;> omega), rfl⟩

set_option maxRecDepth 20000 in
set_option maxHeartbeats 4000000 in
theorem cc_Job_waysOf {h : px_H} {a i : Nat} {j : List St} (H0 : pJob h a j) (p0 : i < j.length) (p1 : (j.getD i (0, 0, 0)).1 < 65536) : px_wp 3 [.ref (a), .int (nI i)] h (fun h1 r => r = some (.int (nI (ways (j.getD i (0, 0, 0))))) ∧ h1 = h) := by
  show px_to 3 0 [some (.ref (a)), some (.int (nI i))] [] h _
  refine e_aload_n f_3_0 rfl rfl ?_
  refine e_getf f_3_1 H0.1 rfl rfl ?_
  refine e_iload_n f_3_4 rfl rfl ?_
  refine e_iaload_p (xs := j) f_3_5 H0.2.1 (d := (0, 0, 0)) (by first | omega | (simp only [List.length_set]; omega)) rfl ?_
  show px_to 3 6 [some (.ref (a)), some (.int (nI i))] [.int (nI ((j.getD i (0, 0, 0)).1))] h _
  by_cases c_6_100 : (j.getD i (0, 0, 0)).1 = 100
  · skip
    refine e_sw_l f_3_6 (t := 50) (by rw [c_6_100]; rfl) ?_
    refine e_iconst (v := nI 1) f_3_50 (by decide) rfl ?_
    refine e_iret f_3_51 rfl (rfl) ?_
    exact ⟨congrArg (fun z => some (Value.int (nI z))) (by unfold ways; (repeat' split) <;> omega), rfl⟩
  · skip
    by_cases c_6_102 : (j.getD i (0, 0, 0)).1 = 102
    · skip
      refine e_sw_l f_3_6 (t := 48) (by rw [c_6_102]; rfl) ?_
      refine e_iconst (v := nI 5) f_3_48 (by decide) rfl ?_
      refine e_iret f_3_49 rfl (rfl) ?_
      exact ⟨congrArg (fun z => some (Value.int (nI z))) (by unfold ways; (repeat' split) <;> omega), rfl⟩
    · skip
      by_cases c_6_109 : (j.getD i (0, 0, 0)).1 = 109
      · skip
        refine e_sw_l f_3_6 (t := 48) (by rw [c_6_109]; rfl) ?_
        refine e_iconst (v := nI 5) f_3_48 (by decide) rfl ?_
        refine e_iret f_3_49 rfl (rfl) ?_
        exact ⟨congrArg (fun z => some (Value.int (nI z))) (by unfold ways; (repeat' split) <;> omega), rfl⟩
      · skip
        by_cases c_6_115 : (j.getD i (0, 0, 0)).1 = 115
        · skip
          refine e_sw_l f_3_6 (t := 50) (by rw [c_6_115]; rfl) ?_
          refine e_iconst (v := nI 1) f_3_50 (by decide) rfl ?_
          refine e_iret f_3_51 rfl (rfl) ?_
          exact ⟨congrArg (fun z => some (Value.int (nI z))) (by unfold ways; (repeat' split) <;> omega), rfl⟩
        · skip
          refine e_sw_l f_3_6 (t := 52) (lsw_df (List.forall_mem_cons.mpr ⟨lsw_neN (by omega) c_6_100, List.forall_mem_cons.mpr ⟨lsw_neN (by omega) c_6_102, List.forall_mem_cons.mpr ⟨lsw_neN (by omega) c_6_109, List.forall_mem_cons.mpr ⟨lsw_neN (by omega) c_6_115, by simp⟩⟩⟩⟩) rfl) ?_
          refine e_iconst (v := nI 2) f_3_52 (by decide) rfl ?_
          refine e_iret f_3_53 rfl (rfl) ?_
          exact ⟨congrArg (fun z => some (Value.int (nI z))) (by unfold ways; (repeat' split) <;> omega), rfl⟩

set_option maxRecDepth 20000 in
set_option maxHeartbeats 4000000 in
theorem ll_Job_mutants {P : px_H → Option Value → Prop} {h : px_H} {a n : Nat} {j : List St} (H0 : pJob h a j) (p0 : ∀ s ∈ j, s.1 < 65536) (hk : ∀ {r}, r = some (.int (nI n)) → P h r) : ∀ (d : Nat) (i : Nat) (acc : Nat), (j.length ≤ i + d) → (i ≤ j.length) → (acc + jMut (j.drop i) = n) → px_to 4 4 [some (.ref (a)), some (.int (nI acc)), some (.int (nI i))] [] h P := by
  intro d
  induction d using Nat.strongRecOn with
  | ind d ih =>
    intro i acc q0 q1 q2
    have lj := pa_len H0.2.1
    refine e_iload_n f_4_4 rfl rfl ?_
    refine e_aload_n f_4_5 rfl rfl ?_
    refine e_getf f_4_6 H0.1 rfl rfl ?_
    refine e_icmp_ge f_4_9 rfl (fun c_9 => ?_) (fun c_9 => ?_)
    · skip
      have c_9 : j.length ≤ i := cv_le (by omega) (by omega) c_9
      refine e_iload_n f_4_26 rfl rfl ?_
      refine e_iret f_4_27 rfl (rfl) ?_
      rw [List.drop_eq_nil_of_le (by omega), jMut] at q2
      exact hk (by rw [← q2]; rfl)
    · skip
      have c_9 : i < j.length := cv_nle (by omega) (by omega) c_9
      refine e_iload_n f_4_12 rfl rfl ?_
      refine e_aload_n f_4_13 rfl rfl ?_
      refine e_iload_n f_4_14 rfl rfl ?_
      refine e_callV (As := [.int (nI i)]) (rest := [.int (nI acc)]) f_4_15 rfl rfl rfl (Nat.le_of_ble_eq_true rfl) (Nat.le_of_ble_eq_true rfl) H0.1 rfl (Nat.le_of_ble_eq_true rfl) (cc_Job_waysOf (a := a) (i := i) (j := j) H0 (by omega) (p0 _ (getD_mem _ (by omega)))) rfl (fun h1 r2 q3 => ?_)
      obtain ⟨rfl, qe⟩ := q3
      have qe := qe.symm
      subst qe
      show px_to 4 18 [some (.ref (a)), some (.int (nI acc)), some (.int (nI i))] [.int (nI (ways (j.getD i (0, 0, 0)))), .int (nI acc)] h _
      refine e_iadd (z := nI (acc + ways (j.getD i (0, 0, 0)))) f_4_18 (nI_add _ _) rfl ?_
      refine e_istore_n (L' := [some (.ref (a)), some (.int (nI (acc + ways (j.getD i (0, 0, 0))))), some (.int (nI i))]) f_4_19 (Nat.le_of_ble_eq_true rfl) rfl rfl ?_
      refine e_iinc (y := nI (i + 1)) (L' := [some (.ref (a)), some (.int (nI (acc + ways (j.getD i (0, 0, 0))))), some (.int (nI (i + 1)))]) f_4_20 rfl (by rw [show Int32.ofInt 1 = nI 1 by decide]; exact (nI_add _ _)) rfl rfl ?_
      refine e_goto f_4_23 ?_
      first | (exfalso; omega) | exact ih (d - 1) (by omega) (i + 1) (acc + ways (j.getD i (0, 0, 0)))  (by omega) (by omega) (by rw [drop_step (0, 0, 0) (show i < j.length by omega), jMut] at q2; omega)  

set_option maxRecDepth 20000 in
set_option maxHeartbeats 4000000 in
theorem cc_Job_mutants {h : px_H} {a : Nat} {j : List St} (H0 : pJob h a j) (p0 : ∀ s ∈ j, s.1 < 65536) : px_wp 4 [.ref (a)] h (fun h1 r => r = some (.int (nI (jMut j))) ∧ h1 = h) := by
  show px_to 4 0 [some (.ref (a)), none, none] [] h _
  refine e_iconst (v := nI 0) f_4_0 (by decide) rfl ?_
  refine e_istore_n (L' := [some (.ref (a)), some (.int (nI 0)), none]) f_4_1 (Nat.le_of_ble_eq_true rfl) rfl rfl ?_
  refine e_iconst (v := nI 0) f_4_2 (by decide) rfl ?_
  refine e_istore_n (L' := [some (.ref (a)), some (.int (nI 0)), some (.int (nI 0))]) f_4_3 (Nat.le_of_ble_eq_true rfl) rfl rfl ?_
  exact ll_Job_mutants H0 p0 (fun e => ⟨e, rfl⟩) j.length 0 0 (by omega) (by omega) (Nat.zero_add _)

theorem mut_in {j : List St} {i k acc : Nat} (hi : i < j.length) (h : k < acc + ways (j.getD i (0, 0, 0))) (ha : acc ≤ k) : mutAt (j.drop i) (k - acc) = (0, k - acc) := by
  rw [drop_step (0, 0, 0) hi, mutAt, if_pos (by omega)]
theorem mut_nx {j : List St} {i k acc : Nat} (hi : i < j.length) (h : acc + ways (j.getD i (0, 0, 0)) ≤ k) : mutAt (j.drop i) (k - acc) = ((mutAt (j.drop (i + 1)) (k - (acc + ways (j.getD i (0, 0, 0))))).1 + 1, (mutAt (j.drop (i + 1)) (k - (acc + ways (j.getD i (0, 0, 0))))).2) := by
  rw [drop_step (0, 0, 0) hi, mutAt, if_neg (by omega), Nat.sub_sub]

set_option maxRecDepth 20000 in
set_option maxHeartbeats 4000000 in
theorem ll_Job_stepOf {P : px_H → Option Value → Prop} {h : px_H} {a k n : Nat} {j : List St} (H0 : pJob h a j) (p0 : ∀ s ∈ j, s.1 < 65536) (hk31 : k < 2 ^ 30) (hk : ∀ {r}, r = some (.int (nI n)) → P h r) : ∀ (d : Nat) (i : Nat) (acc : Nat), (j.length ≤ i + d) → (i ≤ j.length) → (i + (mutAt (j.drop i) (k - acc)).1 = n) → (acc ≤ k) → (k < acc + jMut (j.drop i)) → px_to 5 4 [some (.ref (a)), some (.int (nI k)), some (.int (nI acc)), some (.int (nI i))] [] h P := by
  intro d
  induction d using Nat.strongRecOn with
  | ind d ih =>
    intro i acc q0 q1 q2 q3 q4
    have lj := pa_len H0.2.1
    have hwy := (ways_le (j.getD i (0, 0, 0))).2
    refine e_iload_n f_5_4 rfl rfl ?_
    refine e_aload_n f_5_5 rfl rfl ?_
    refine e_getf f_5_6 H0.1 rfl rfl ?_
    refine e_icmp_ge f_5_9 rfl (fun c_9 => ?_) (fun c_9 => ?_)
    · skip
      have c_9 : j.length ≤ i := cv_le (by omega) (by omega) c_9
      refine e_bipush (v := (-3)) f_5_33 (by decide) rfl ?_
      refine e_iret f_5_35 rfl (rfl) ?_
      rw [List.drop_eq_nil_of_le (by omega), jMut] at q4
      exfalso; omega
    · skip
      have c_9 : i < j.length := cv_nle (by omega) (by omega) c_9
      refine e_iload_n f_5_12 rfl rfl ?_
      refine e_aload_n f_5_13 rfl rfl ?_
      refine e_iload_n f_5_14 rfl rfl ?_
      refine e_callV (As := [.int (nI i)]) (rest := [.int (nI acc)]) f_5_15 rfl rfl rfl (Nat.le_of_ble_eq_true rfl) (Nat.le_of_ble_eq_true rfl) H0.1 rfl (Nat.le_of_ble_eq_true rfl) (cc_Job_waysOf (a := a) (i := i) (j := j) H0 (by omega) (p0 _ (getD_mem _ (by omega)))) rfl (fun h1 r2 q3 => ?_)
      obtain ⟨rfl, qe⟩ := q3
      have qe := qe.symm
      subst qe
      show px_to 5 18 [some (.ref (a)), some (.int (nI k)), some (.int (nI acc)), some (.int (nI i))] [.int (nI (ways (j.getD i (0, 0, 0)))), .int (nI acc)] h _
      refine e_iadd (z := nI (acc + ways (j.getD i (0, 0, 0)))) f_5_18 (nI_add _ _) rfl ?_
      refine e_istore_n (L' := [some (.ref (a)), some (.int (nI k)), some (.int (nI (acc + ways (j.getD i (0, 0, 0))))), some (.int (nI i))]) f_5_19 (Nat.le_of_ble_eq_true rfl) rfl rfl ?_
      refine e_iload_n f_5_20 rfl rfl ?_
      refine e_iload_n f_5_21 rfl rfl ?_
      refine e_icmp_ge f_5_22 rfl (fun c_22 => ?_) (fun c_22 => ?_)
      · skip
        have c_22 : acc + ways (j.getD i (0, 0, 0)) ≤ k := cv_le (by omega) (by omega) c_22
        refine e_iinc (y := nI (i + 1)) (L' := [some (.ref (a)), some (.int (nI k)), some (.int (nI (acc + ways (j.getD i (0, 0, 0))))), some (.int (nI (i + 1)))]) f_5_27 rfl (by rw [show Int32.ofInt 1 = nI 1 by decide]; exact (nI_add _ _)) rfl rfl ?_
        refine e_goto f_5_30 ?_
        first | (exfalso; omega) | exact ih (d - 1) (by omega) (i + 1) (acc + ways (j.getD i (0, 0, 0)))  (by omega) (by omega) (by rw [mut_nx (by omega) (by omega)] at q2; dsimp only at q2; omega) (by omega) (by rw [drop_step (0, 0, 0) (show i < j.length by omega), jMut] at q4; omega)  
      · skip
        have c_22 : k < acc + ways (j.getD i (0, 0, 0)) := cv_nle (by omega) (by omega) c_22
        refine e_iload_n f_5_25 rfl rfl ?_
        refine e_iret f_5_26 rfl (rfl) ?_
        rw [mut_in (by omega) (by omega) q3] at q2
        exact hk (by rw [← q2]; rfl)

set_option maxRecDepth 20000 in
set_option maxHeartbeats 4000000 in
theorem cc_Job_stepOf {h : px_H} {a k : Nat} {j : List St} (H0 : pJob h a j) (p0 : ∀ s ∈ j, s.1 < 65536) (p1 : k < jMut j) : px_wp 5 [.ref (a), .int (nI k)] h (fun h1 r => r = some (.int (nI ((mutAt j k).1))) ∧ h1 = h) := by
  have lj := pa_len H0.2.1
  have ljm := jMut_le j
  show px_to 5 0 [some (.ref (a)), some (.int (nI k)), none, none] [] h _
  refine e_iconst (v := nI 0) f_5_0 (by decide) rfl ?_
  refine e_istore_n (L' := [some (.ref (a)), some (.int (nI k)), some (.int (nI 0)), none]) f_5_1 (Nat.le_of_ble_eq_true rfl) rfl rfl ?_
  refine e_iconst (v := nI 0) f_5_2 (by decide) rfl ?_
  refine e_istore_n (L' := [some (.ref (a)), some (.int (nI k)), some (.int (nI 0)), some (.int (nI 0))]) f_5_3 (Nat.le_of_ble_eq_true rfl) rfl rfl ?_
  exact ll_Job_stepOf H0 p0 (by omega) (fun e => ⟨e, rfl⟩) j.length 0 0 (by omega) (by omega) (Nat.zero_add _) (by omega) (by rw [List.drop_zero]; omega)

set_option maxRecDepth 20000 in
set_option maxHeartbeats 4000000 in
theorem ll_Job_wayOf {P : px_H → Option Value → Prop} {h : px_H} {a k n : Nat} {j : List St} (H0 : pJob h a j) (p0 : ∀ s ∈ j, s.1 < 65536) (hk : ∀ {r}, r = some (.int (nI n)) → P h r) : ∀ (d : Nat) (i : Nat) (y : Nat), (j.length ≤ i + d) → (i ≤ j.length) → ((mutAt (j.drop i) y).2 = n) → (y < jMut (j.drop i)) → (y < 2 ^ 30) → px_to 6 4 [some (.ref (a)), some (.int (nI k)), some (.int (nI y)), some (.int (nI i))] [] h P := by
  intro d
  induction d using Nat.strongRecOn with
  | ind d ih =>
    intro i y q0 q1 q2 q3 q4
    have lj := pa_len H0.2.1
    have hwy := (ways_le (j.getD i (0, 0, 0))).2
    refine e_iload_n f_6_4 rfl rfl ?_
    refine e_aload_n f_6_5 rfl rfl ?_
    refine e_getf f_6_6 H0.1 rfl rfl ?_
    refine e_icmp_ge f_6_9 rfl (fun c_9 => ?_) (fun c_9 => ?_)
    · skip
      have c_9 : j.length ≤ i := cv_le (by omega) (by omega) c_9
      refine e_iload_n f_6_35 rfl rfl ?_
      refine e_iret f_6_36 rfl (rfl) ?_
      first | (rw [List.drop_eq_nil_of_le (by omega), jMut] at q3; exfalso; omega) | (rw [drop_step (0, 0, 0) (show i < j.length by omega), mutAt, if_pos (by omega)] at q2; exact hk (by rw [← q2]))
    · skip
      have c_9 : i < j.length := cv_nle (by omega) (by omega) c_9
      refine e_iload_n f_6_12 rfl rfl ?_
      refine e_aload_n f_6_13 rfl rfl ?_
      refine e_iload_n f_6_14 rfl rfl ?_
      refine e_callV (As := [.int (nI i)]) (rest := [.int (nI y)]) f_6_15 rfl rfl rfl (Nat.le_of_ble_eq_true rfl) (Nat.le_of_ble_eq_true rfl) H0.1 rfl (Nat.le_of_ble_eq_true rfl) (cc_Job_waysOf (a := a) (i := i) (j := j) H0 (by omega) (p0 _ (getD_mem _ (by omega)))) rfl (fun h1 r2 q3 => ?_)
      obtain ⟨rfl, qe⟩ := q3
      have qe := qe.symm
      subst qe
      show px_to 6 18 [some (.ref (a)), some (.int (nI k)), some (.int (nI y)), some (.int (nI i))] [.int (nI (ways (j.getD i (0, 0, 0)))), .int (nI y)] h _
      refine e_icmp_lt f_6_18 rfl (fun c_18 => ?_) (fun c_18 => ?_)
      · skip
        have c_18 : y < ways (j.getD i (0, 0, 0)) := cv_lt (by omega) (by omega) c_18
        refine e_iload_n f_6_35 rfl rfl ?_
        refine e_iret f_6_36 rfl (rfl) ?_
        first | (rw [List.drop_eq_nil_of_le (by omega), jMut] at q3; exfalso; omega) | (rw [drop_step (0, 0, 0) (show i < j.length by omega), mutAt, if_pos (by omega)] at q2; exact hk (by rw [← q2]))
      · skip
        have c_18 : ways (j.getD i (0, 0, 0)) ≤ y := cv_nlt (by omega) (by omega) c_18
        refine e_iload_n f_6_21 rfl rfl ?_
        refine e_aload_n f_6_22 rfl rfl ?_
        refine e_iload_n f_6_23 rfl rfl ?_
        refine e_callV (As := [.int (nI i)]) (rest := [.int (nI y)]) f_6_24 rfl rfl rfl (Nat.le_of_ble_eq_true rfl) (Nat.le_of_ble_eq_true rfl) H0.1 rfl (Nat.le_of_ble_eq_true rfl) (cc_Job_waysOf (a := a) (i := i) (j := j) H0 (by omega) (p0 _ (getD_mem _ (by omega)))) rfl (fun h4 r5 q6 => ?_)
        obtain ⟨rfl, qe⟩ := q6
        have qe := qe.symm
        subst qe
        show px_to 6 27 [some (.ref (a)), some (.int (nI k)), some (.int (nI y)), some (.int (nI i))] [.int (nI (ways (j.getD i (0, 0, 0)))), .int (nI y)] h _
        refine e_isub (z := nI (y - ways (j.getD i (0, 0, 0)))) f_6_27 (pk_sub (by omega)) rfl ?_
        refine e_istore_n (L' := [some (.ref (a)), some (.int (nI k)), some (.int (nI (y - ways (j.getD i (0, 0, 0))))), some (.int (nI i))]) f_6_28 (Nat.le_of_ble_eq_true rfl) rfl rfl ?_
        refine e_iinc (y := nI (i + 1)) (L' := [some (.ref (a)), some (.int (nI k)), some (.int (nI (y - ways (j.getD i (0, 0, 0))))), some (.int (nI (i + 1)))]) f_6_29 rfl (by rw [show Int32.ofInt 1 = nI 1 by decide]; exact (nI_add _ _)) rfl rfl ?_
        refine e_goto f_6_32 ?_
        first | (exfalso; omega) | exact ih (d - 1) (by omega) (i + 1) (y - ways (j.getD i (0, 0, 0)))  (by omega) (by omega) (by rw [drop_step (0, 0, 0) (show i < j.length by omega), mutAt, if_neg (by omega)] at q2; exact q2) (by rw [drop_step (0, 0, 0) (show i < j.length by omega), jMut] at q3; omega) (by omega)  

set_option maxRecDepth 20000 in
set_option maxHeartbeats 4000000 in
theorem cc_Job_wayOf {h : px_H} {a k : Nat} {j : List St} (H0 : pJob h a j) (p0 : ∀ s ∈ j, s.1 < 65536) (p1 : k < jMut j) : px_wp 6 [.ref (a), .int (nI k)] h (fun h1 r => r = some (.int (nI ((mutAt j k).2))) ∧ h1 = h) := by
  have lj := pa_len H0.2.1
  have ljm := jMut_le j
  show px_to 6 0 [some (.ref (a)), some (.int (nI k)), none, none] [] h _
  refine e_iload_n f_6_0 rfl rfl ?_
  refine e_istore_n (L' := [some (.ref (a)), some (.int (nI k)), some (.int (nI k)), none]) f_6_1 (Nat.le_of_ble_eq_true rfl) rfl rfl ?_
  refine e_iconst (v := nI 0) f_6_2 (by decide) rfl ?_
  refine e_istore_n (L' := [some (.ref (a)), some (.int (nI k)), some (.int (nI k)), some (.int (nI 0))]) f_6_3 (Nat.le_of_ble_eq_true rfl) rfl rfl ?_
  exact ll_Job_wayOf H0 p0 (fun e => ⟨e, rfl⟩) j.length 0 k (by omega) (by omega) rfl p1 (by omega)
