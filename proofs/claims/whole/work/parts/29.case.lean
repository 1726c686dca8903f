theorem evOf_b1 {x : Nat} {b : Bool} (h : b = true) (k : x = 82 ∨ x = 72) : evOf x b = true := by
  subst h
  rcases k with k | k <;> subst k <;> rfl
theorem evOf_b0 {x : Nat} {b : Bool} (h : b = true) (k : ¬ (x = 82 ∨ x = 72)) : evOf x b = false := by
  subst h
  unfold evOf
  simp
  omega
theorem evOf_a1 {x : Nat} {b : Bool} (h : b = false) (k : x = 114 ∨ x = 104) : evOf x b = true := by
  subst h
  rcases k with k | k <;> subst k <;> rfl
theorem evOf_a0 {x : Nat} {b : Bool} (h : b = false) (k : ¬ (x = 114 ∨ x = 104)) : evOf x b = false := by
  subst h
  unfold evOf
  simp
  omega

set_option maxRecDepth 20000 in
set_option maxHeartbeats 4000000 in
theorem cc_Case_isOf {h : px_H} {i : Nat} {b : Bool} {a : Nat} {ev : List Ev} {told : List Row} {os : Nat} {ks : Int32} {kept : List Nat} {ck : Nat} {un : List Nat} (H0 : pCase h a ev told os ks kept ck un) (p0 : i < ev.length) (p1 : (ev.getD i (0, 0, 0, 0)).1 < 65536) : px_wp 84 [.ref (a), .int (nI i), .int (bI b)] h (fun h1 r => r = some (.int (bI (evOf (ev.getD i (0, 0, 0, 0)).1 b))) ∧ h1 = h) := by
  show px_to 84 0 [some (.ref (a)), some (.int (nI i)), some (.int (bI b))] [] h _
  refine e_iload_n f_84_0 rfl rfl ?_
  refine e_if_eq f_84_1 rfl (fun c_1 => ?_) (fun c_1 => ?_)
  · skip
    have c_1 : b = false := bI_f c_1
    refine e_aload_n f_84_34 rfl rfl ?_
    refine e_getf f_84_35 H0.1 rfl rfl ?_
    refine e_iload_n f_84_38 rfl rfl ?_
    refine e_iaload_p (xs := ev) f_84_39 H0.2.1 (d := (0, 0, 0, 0)) (by first | omega | (simp only [List.length_set]; omega)) rfl ?_
    show px_to 84 40 [some (.ref (a)), some (.int (nI i)), some (.int (bI b))] [.int (nI ((ev.getD i (0, 0, 0, 0)).1))] h _
    refine e_bipush (v := nI 114) f_84_40 (by decide) rfl ?_
    refine e_icmp_eq f_84_42 rfl (fun c_42 => ?_) (fun c_42 => ?_)
    · skip
      have c_42 : (ev.getD i (0, 0, 0, 0)).1 = 114 := cv_eq (by omega) (by omega) c_42
      refine e_iconst (v := nI 1) f_84_56 (by decide) rfl ?_
      refine e_goto f_84_57 ?_
      refine e_iret f_84_61 rfl (rfl) ?_
      first | (exfalso; omega) | exact ⟨congrArg (fun z => some (Value.int z)) (b1 (evOf_a1 c_1 (by omega))), rfl⟩
    · skip
      have c_42 : (ev.getD i (0, 0, 0, 0)).1 ≠ 114 := cv_ne c_42
      refine e_aload_n f_84_45 rfl rfl ?_
      refine e_getf f_84_46 H0.1 rfl rfl ?_
      refine e_iload_n f_84_49 rfl rfl ?_
      refine e_iaload_p (xs := ev) f_84_50 H0.2.1 (d := (0, 0, 0, 0)) (by first | omega | (simp only [List.length_set]; omega)) rfl ?_
      show px_to 84 51 [some (.ref (a)), some (.int (nI i)), some (.int (bI b))] [.int (nI ((ev.getD i (0, 0, 0, 0)).1))] h _
      refine e_bipush (v := nI 104) f_84_51 (by decide) rfl ?_
      refine e_icmp_ne f_84_53 rfl (fun c_53 => ?_) (fun c_53 => ?_)
      · skip
        have c_53 : (ev.getD i (0, 0, 0, 0)).1 ≠ 104 := cv_ne c_53
        refine e_iconst (v := nI 0) f_84_60 (by decide) rfl ?_
        refine e_iret f_84_61 rfl (rfl) ?_
        first | (exfalso; omega) | exact ⟨congrArg (fun z => some (Value.int z)) (b0 (evOf_a0 c_1 (by omega))), rfl⟩
      · skip
        have c_53 : (ev.getD i (0, 0, 0, 0)).1 = 104 := cv_nne (by omega) (by omega) c_53
        refine e_iconst (v := nI 1) f_84_56 (by decide) rfl ?_
        refine e_goto f_84_57 ?_
        refine e_iret f_84_61 rfl (rfl) ?_
        first | (exfalso; omega) | exact ⟨congrArg (fun z => some (Value.int z)) (b1 (evOf_a1 c_1 (by omega))), rfl⟩
  · skip
    have c_1 : b = true := bI_t' c_1
    refine e_aload_n f_84_4 rfl rfl ?_
    refine e_getf f_84_5 H0.1 rfl rfl ?_
    refine e_iload_n f_84_8 rfl rfl ?_
    refine e_iaload_p (xs := ev) f_84_9 H0.2.1 (d := (0, 0, 0, 0)) (by first | omega | (simp only [List.length_set]; omega)) rfl ?_
    show px_to 84 10 [some (.ref (a)), some (.int (nI i)), some (.int (bI b))] [.int (nI ((ev.getD i (0, 0, 0, 0)).1))] h _
    refine e_bipush (v := nI 82) f_84_10 (by decide) rfl ?_
    refine e_icmp_eq f_84_12 rfl (fun c_12 => ?_) (fun c_12 => ?_)
    · skip
      have c_12 : (ev.getD i (0, 0, 0, 0)).1 = 82 := cv_eq (by omega) (by omega) c_12
      refine e_iconst (v := nI 1) f_84_26 (by decide) rfl ?_
      refine e_goto f_84_27 ?_
      refine e_iret f_84_61 rfl (rfl) ?_
      first | (exfalso; omega) | exact ⟨congrArg (fun z => some (Value.int z)) (b1 (evOf_b1 c_1 (by omega))), rfl⟩
    · skip
      have c_12 : (ev.getD i (0, 0, 0, 0)).1 ≠ 82 := cv_ne c_12
      refine e_aload_n f_84_15 rfl rfl ?_
      refine e_getf f_84_16 H0.1 rfl rfl ?_
      refine e_iload_n f_84_19 rfl rfl ?_
      refine e_iaload_p (xs := ev) f_84_20 H0.2.1 (d := (0, 0, 0, 0)) (by first | omega | (simp only [List.length_set]; omega)) rfl ?_
      show px_to 84 21 [some (.ref (a)), some (.int (nI i)), some (.int (bI b))] [.int (nI ((ev.getD i (0, 0, 0, 0)).1))] h _
      refine e_bipush (v := nI 72) f_84_21 (by decide) rfl ?_
      refine e_icmp_ne f_84_23 rfl (fun c_23 => ?_) (fun c_23 => ?_)
      · skip
        have c_23 : (ev.getD i (0, 0, 0, 0)).1 ≠ 72 := cv_ne c_23
        refine e_iconst (v := nI 0) f_84_30 (by decide) rfl ?_
        refine e_goto f_84_31 ?_
        refine e_iret f_84_61 rfl (rfl) ?_
        first | (exfalso; omega) | exact ⟨congrArg (fun z => some (Value.int z)) (b0 (evOf_b0 c_1 (by omega))), rfl⟩
      · skip
        have c_23 : (ev.getD i (0, 0, 0, 0)).1 = 72 := cv_nne (by omega) (by omega) c_23
        refine e_iconst (v := nI 1) f_84_26 (by decide) rfl ?_
        refine e_goto f_84_27 ?_
        refine e_iret f_84_61 rfl (rfl) ?_
        first | (exfalso; omega) | exact ⟨congrArg (fun z => some (Value.int z)) (b1 (evOf_b1 c_1 (by omega))), rfl⟩

set_option maxRecDepth 20000 in
set_option maxHeartbeats 4000000 in
theorem ll_Case_eventsOf {P : px_H → Option Value → Prop} {h : px_H} {n : Nat} {b : Bool} {a : Nat} {ev : List Ev} {told : List Row} {os : Nat} {ks : Int32} {kept : List Nat} {ck : Nat} {un : List Nat} (H0 : pCase h a ev told os ks kept ck un) (p0 : ∀ e ∈ ev, e.1 < 65536) (hk : ∀ {r}, r = some (.int (nI n)) → P h r) : ∀ (d : Nat) (i : Nat) (acc : Nat), (ev.length ≤ i + d) → (i ≤ ev.length) → (acc + evCnt b (ev.drop i) = n) → (acc ≤ i) → px_to 85 4 [some (.ref (a)), some (.int (bI b)), some (.int (nI acc)), some (.int (nI i))] [] h P := by
  intro d
  induction d using Nat.strongRecOn with
  | ind d ih =>
    intro i acc q0 q1 q2 q3
    have le := pa_len H0.2.1
    refine e_iload_n f_85_4 rfl rfl ?_
    refine e_aload_n f_85_5 rfl rfl ?_
    refine e_getf f_85_6 H0.1 rfl rfl ?_
    refine e_icmp_ge f_85_9 rfl (fun c_9 => ?_) (fun c_9 => ?_)
    · skip
      have c_9 : ev.length ≤ i := cv_le (by omega) (by omega) c_9
      refine e_iload_n f_85_30 rfl rfl ?_
      refine e_iret f_85_31 rfl (rfl) ?_
      rw [List.drop_eq_nil_of_le (by omega), evCnt] at q2
      exact hk (by rw [← q2]; rfl)
    · skip
      have c_9 : i < ev.length := cv_nle (by omega) (by omega) c_9
      refine e_aload_n f_85_12 rfl rfl ?_
      refine e_iload_n f_85_13 rfl rfl ?_
      refine e_iload_n f_85_14 rfl rfl ?_
      refine e_callV (As := [.int (nI i), .int (bI b)]) (rest := []) f_85_15 rfl rfl rfl (Nat.le_of_ble_eq_true rfl) (Nat.le_of_ble_eq_true rfl) H0.1 rfl (Nat.le_of_ble_eq_true rfl) (cc_Case_isOf (i := i) (b := b) (a := a) (ev := ev) (told := told) (os := os) (ks := ks) (kept := kept) (ck := ck) (un := un) H0 (by omega) (p0 _ (getD_mem _ (by omega)))) rfl (fun h1 r2 q3 => ?_)
      obtain ⟨rfl, qe⟩ := q3
      have qe := qe.symm
      subst qe
      show px_to 85 18 [some (.ref (a)), some (.int (bI b)), some (.int (nI acc)), some (.int (nI i))] [.int (bI (evOf (ev.getD i (0, 0, 0, 0)).1 b))] h _
      refine e_if_eq f_85_18 rfl (fun c_18 => ?_) (fun c_18 => ?_)
      · skip
        have c_18 : (evOf (ev.getD i (0, 0, 0, 0)).1 b) = false := bI_f c_18
        refine e_iinc (y := nI (i + 1)) (L' := [some (.ref (a)), some (.int (bI b)), some (.int (nI acc)), some (.int (nI (i + 1)))]) f_85_24 rfl (by rw [show Int32.ofInt 1 = nI 1 by decide]; exact (nI_add _ _)) rfl rfl ?_
        refine e_goto f_85_27 ?_
        first | (exfalso; omega) | exact ih (d - 1) (by omega) (i + 1) acc  (by omega) (by omega) (by rw [drop_step (0, 0, 0, 0) (show i < ev.length by omega), evCnt, c_18] at q2; simp at q2; omega) (by omega)  
      · skip
        have c_18 : (evOf (ev.getD i (0, 0, 0, 0)).1 b) = true := bI_t' c_18
        refine e_iinc (y := nI (acc + 1)) (L' := [some (.ref (a)), some (.int (bI b)), some (.int (nI (acc + 1))), some (.int (nI i))]) f_85_21 rfl (by rw [show Int32.ofInt 1 = nI 1 by decide]; exact (nI_add _ _)) rfl rfl ?_
        refine e_iinc (y := nI (i + 1)) (L' := [some (.ref (a)), some (.int (bI b)), some (.int (nI (acc + 1))), some (.int (nI (i + 1)))]) f_85_24 rfl (by rw [show Int32.ofInt 1 = nI 1 by decide]; exact (nI_add _ _)) rfl rfl ?_
        refine e_goto f_85_27 ?_
        first | (exfalso; omega) | exact ih (d - 1) (by omega) (i + 1) (acc + 1)  (by omega) (by omega) (by rw [drop_step (0, 0, 0, 0) (show i < ev.length by omega), evCnt, c_18] at q2; simp at q2; omega) (by omega)  

set_option maxRecDepth 20000 in
set_option maxHeartbeats 4000000 in
theorem cc_Case_eventsOf {h : px_H} {b : Bool} {a : Nat} {ev : List Ev} {told : List Row} {os : Nat} {ks : Int32} {kept : List Nat} {ck : Nat} {un : List Nat} (H0 : pCase h a ev told os ks kept ck un) (p0 : ∀ e ∈ ev, e.1 < 65536) : px_wp 85 [.ref (a), .int (bI b)] h (fun h1 r => r = some (.int (nI (evCnt b ev))) ∧ h1 = h) := by
  show px_to 85 0 [some (.ref (a)), some (.int (bI b)), none, none] [] h _
  refine e_iconst (v := nI 0) f_85_0 (by decide) rfl ?_
  refine e_istore_n (L' := [some (.ref (a)), some (.int (bI b)), some (.int (nI 0)), none]) f_85_1 (Nat.le_of_ble_eq_true rfl) rfl rfl ?_
  refine e_iconst (v := nI 0) f_85_2 (by decide) rfl ?_
  refine e_istore_n (L' := [some (.ref (a)), some (.int (bI b)), some (.int (nI 0)), some (.int (nI 0))]) f_85_3 (Nat.le_of_ble_eq_true rfl) rfl rfl ?_
  exact ll_Case_eventsOf H0 p0 (fun e => ⟨e, rfl⟩) ev.length 0 0 (by omega) (by omega) (Nat.zero_add _) (by omega)

set_option maxRecDepth 20000 in
set_option maxHeartbeats 4000000 in
theorem ll_Case_nextOf {P : px_H → Option Value → Prop} {h : px_H} {n x0 : Nat} {b : Bool} {a : Nat} {ev : List Ev} {told : List Row} {os : Nat} {ks : Int32} {kept : List Nat} {ck : Nat} {un : List Nat} (H0 : pCase h a ev told os ks kept ck un) (p0 : ∀ e ∈ ev, e.1 < 65536) (hk : ∀ {r}, r = some (.int (nI n)) → P h r) : ∀ (d : Nat) (i : Nat), (ev.length ≤ i + d) → (i ≤ ev.length) → (i + evNext b (ev.drop i) = n) → px_to 86 2 [some (.ref (a)), some (.int (nI x0)), some (.int (bI b)), some (.int (nI i))] [] h P := by
  intro d
  induction d using Nat.strongRecOn with
  | ind d ih =>
    intro i q0 q1 q2
    have le := pa_len H0.2.1
    refine e_iload_n f_86_2 rfl rfl ?_
    refine e_aload_n f_86_3 rfl rfl ?_
    refine e_getf f_86_4 H0.1 rfl rfl ?_
    refine e_icmp_ge f_86_7 rfl (fun c_7 => ?_) (fun c_7 => ?_)
    · skip
      have c_7 : ev.length ≤ i := cv_le (by omega) (by omega) c_7
      refine e_aload_n f_86_27 rfl rfl ?_
      refine e_getf f_86_28 H0.1 rfl rfl ?_
      refine e_iret f_86_31 rfl (rfl) ?_
      rw [List.drop_eq_nil_of_le (by omega), evNext] at q2
      exact hk (by rw [← q2]; exact congrArg (fun z => some (Value.int (nI z))) (by omega))
    · skip
      have c_7 : i < ev.length := cv_nle (by omega) (by omega) c_7
      refine e_aload_n f_86_10 rfl rfl ?_
      refine e_iload_n f_86_11 rfl rfl ?_
      refine e_iload_n f_86_12 rfl rfl ?_
      refine e_callV (As := [.int (nI i), .int (bI b)]) (rest := []) f_86_13 rfl rfl rfl (Nat.le_of_ble_eq_true rfl) (Nat.le_of_ble_eq_true rfl) H0.1 rfl (Nat.le_of_ble_eq_true rfl) (cc_Case_isOf (i := i) (b := b) (a := a) (ev := ev) (told := told) (os := os) (ks := ks) (kept := kept) (ck := ck) (un := un) H0 (by omega) (p0 _ (getD_mem _ (by omega)))) rfl (fun h1 r2 q3 => ?_)
      obtain ⟨rfl, qe⟩ := q3
      have qe := qe.symm
      subst qe
      show px_to 86 16 [some (.ref (a)), some (.int (nI x0)), some (.int (bI b)), some (.int (nI i))] [.int (bI (evOf (ev.getD i (0, 0, 0, 0)).1 b))] h _
      refine e_if_eq f_86_16 rfl (fun c_16 => ?_) (fun c_16 => ?_)
      · skip
        have c_16 : (evOf (ev.getD i (0, 0, 0, 0)).1 b) = false := bI_f c_16
        refine e_iinc (y := nI (i + 1)) (L' := [some (.ref (a)), some (.int (nI x0)), some (.int (bI b)), some (.int (nI (i + 1)))]) f_86_21 rfl (by rw [show Int32.ofInt 1 = nI 1 by decide]; exact (nI_add _ _)) rfl rfl ?_
        refine e_goto f_86_24 ?_
        first | (exfalso; omega) | exact ih (d - 1) (by omega) (i + 1)  (by omega) (by omega) (by rw [drop_step (0, 0, 0, 0) (show i < ev.length by omega), evNext, c_16] at q2; simp at q2; omega)  
      · skip
        have c_16 : (evOf (ev.getD i (0, 0, 0, 0)).1 b) = true := bI_t' c_16
        refine e_iload_n f_86_19 rfl rfl ?_
        refine e_iret f_86_20 rfl (rfl) ?_
        rw [drop_step (0, 0, 0, 0) (show i < ev.length by omega), evNext, c_16] at q2
        exact hk (by rw [← q2]; rfl)

set_option maxRecDepth 20000 in
set_option maxHeartbeats 4000000 in
theorem cc_Case_nextOf {h : px_H} {i : Nat} {b : Bool} {a : Nat} {ev : List Ev} {told : List Row} {os : Nat} {ks : Int32} {kept : List Nat} {ck : Nat} {un : List Nat} (H0 : pCase h a ev told os ks kept ck un) (p0 : ∀ e ∈ ev, e.1 < 65536) (p1 : i ≤ ev.length) : px_wp 86 [.ref (a), .int (nI i), .int (bI b)] h (fun h1 r => r = some (.int (nI (i + evNext b (ev.drop i)))) ∧ h1 = h) := by
  show px_to 86 0 [some (.ref (a)), some (.int (nI i)), some (.int (bI b)), none] [] h _
  refine e_iload_n f_86_0 rfl rfl ?_
  refine e_istore_n (L' := [some (.ref (a)), some (.int (nI i)), some (.int (bI b)), some (.int (nI i))]) f_86_1 (Nat.le_of_ble_eq_true rfl) rfl rfl ?_
  exact ll_Case_nextOf (x0 := i) H0 p0 (fun e => ⟨e, rfl⟩) (ev.length - i) i (by omega) (by omega) rfl

set_option maxRecDepth 20000 in
set_option maxHeartbeats 4000000 in
theorem cc_Case_clear {h : px_H} {a : Nat} {ev : List Ev} {told : List Row} {os : Nat} {ks : Int32} {kept : List Nat} {ck : Nat} {un : List Nat} (H0 : pCase h a ev told os ks kept ck un) (p0 : 17 ≤ a) : px_wp 82 [.ref (a)] h (fun h1 r => r = none ∧ pCase h1 a ([]) ([]) 61 (-4) ([]) 0 ([]) ∧ px_fi a 9 h h1) := by
  have fr0 : px_fi a 9 h h := fi_rf _ _ _
  show px_to 82 0 [some (.ref (a))] [] h _
  have g1 : h.2.2 a = some (10, [.int (nI ev.length), .ref (a + 1), .ref (a + 2), .ref (a + 3), .ref (a + 4), .ref (a + 5), .int (nI os), .int (ks), .ref (a + 7), .int (nI ck), .int (nI un.length), .ref (a + 8)]) := H0.1
  have g2 : px_pa h (a + 1) 50 24 evS ev := H0.2.1
  have g3 : px_pa h (a + 2) 50 24 evK ev := H0.2.2.1
  have g4 : px_pa h (a + 3) 50 24 evV ev := H0.2.2.2.1
  have g5 : px_pa h (a + 4) 50 24 evT ev := H0.2.2.2.2.1
  have g6 : px_pa h (a + 7) 50 24 vN kept := H0.2.2.2.2.2.2.1
  have g7 : px_pa h (a + 8) 50 266 vN un := H0.2.2.2.2.2.2.2
  have g8 : pRows h (a + 5) 16 told := H0.2.2.2.2.2.1
  refine e_aload_n f_82_0 rfl rfl ?_
  refine e_iconst (v := nI 0) f_82_1 (by decide) rfl ?_
  refine e_putp (vs' := [.int (nI 0), .ref (a + 1), .ref (a + 2), .ref (a + 3), .ref (a + 4), .ref (a + 5), .int (nI os), .int (ks), .ref (a + 7), .int (nI ck), .int (nI un.length), .ref (a + 8)]) f_82_2 g1 (Nat.le_of_ble_eq_true rfl) (rfl) (rfl) rfl rfl (fun h9 g10 fx11 => ?_)
  have fr12 : px_fi a 9 h h9 := fi_tr fr0 fx11 (by omega)
  refine e_aload_n f_82_5 rfl rfl ?_
  refine e_getf f_82_6 g10 rfl rfl ?_
  refine e_iconst (v := nI 0) f_82_9 (by decide) rfl ?_
  have g13 : pRows h9 (a + 5) 16 told := pRows_fi g8 fx11 (by omega)
  refine e_callV (As := [.int (nI 0)]) (rest := []) f_82_10 rfl rfl rfl (Nat.le_of_ble_eq_true rfl) (Nat.le_of_ble_eq_true rfl) g13.1 rfl (Nat.le_of_ble_eq_true rfl) (cc_Rows_cutTo (a := a + 5) (cap := 16) (k := 0) (rs := told) g13 (by decide)) rfl (fun h14 r15 q16 => ?_)
  obtain ⟨rfl, g17, fx18⟩ := q16
  have fr19 : px_fi a 9 h h14 := fi_tr fr12 fx18 (by omega)
  show px_to 82 13 [some (.ref (a))] [] h14 _
  refine e_aload_n f_82_13 rfl rfl ?_
  refine e_bipush (v := nI 61) f_82_14 (by decide) rfl ?_
  have g20 : h14.2.2 a = some (10, [.int (nI 0), .ref (a + 1), .ref (a + 2), .ref (a + 3), .ref (a + 4), .ref (a + 5), .int (nI os), .int (ks), .ref (a + 7), .int (nI ck), .int (nI un.length), .ref (a + 8)]) := fi_at g10 fx18 (by omega)
  refine e_putp (vs' := [.int (nI 0), .ref (a + 1), .ref (a + 2), .ref (a + 3), .ref (a + 4), .ref (a + 5), .int (nI 61), .int (ks), .ref (a + 7), .int (nI ck), .int (nI un.length), .ref (a + 8)]) f_82_16 g20 (Nat.le_of_ble_eq_true rfl) (rfl) (rfl) rfl rfl (fun h21 g22 fx23 => ?_)
  have fr24 : px_fi a 9 h h21 := fi_tr fr19 fx23 (by omega)
  refine e_aload_n f_82_19 rfl rfl ?_
  refine e_bipush (v := (-4)) f_82_20 (by decide) rfl ?_
  refine e_putp (vs' := [.int (nI 0), .ref (a + 1), .ref (a + 2), .ref (a + 3), .ref (a + 4), .ref (a + 5), .int (nI 61), .int ((-4)), .ref (a + 7), .int (nI ck), .int (nI un.length), .ref (a + 8)]) f_82_22 g22 (Nat.le_of_ble_eq_true rfl) (rfl) (rfl) rfl rfl (fun h25 g26 fx27 => ?_)
  have fr28 : px_fi a 9 h h25 := fi_tr fr24 fx27 (by omega)
  refine e_aload_n f_82_25 rfl rfl ?_
  refine e_iconst (v := nI 0) f_82_26 (by decide) rfl ?_
  refine e_putp (vs' := [.int (nI 0), .ref (a + 1), .ref (a + 2), .ref (a + 3), .ref (a + 4), .ref (a + 5), .int (nI 61), .int ((-4)), .ref (a + 7), .int (nI 0), .int (nI un.length), .ref (a + 8)]) f_82_27 g26 (Nat.le_of_ble_eq_true rfl) (rfl) (rfl) rfl rfl (fun h29 g30 fx31 => ?_)
  have fr32 : px_fi a 9 h h29 := fi_tr fr28 fx31 (by omega)
  refine e_aload_n f_82_30 rfl rfl ?_
  refine e_iconst (v := nI 0) f_82_31 (by decide) rfl ?_
  refine e_putp (vs' := [.int (nI 0), .ref (a + 1), .ref (a + 2), .ref (a + 3), .ref (a + 4), .ref (a + 5), .int (nI 61), .int ((-4)), .ref (a + 7), .int (nI 0), .int (nI 0), .ref (a + 8)]) f_82_32 g30 (Nat.le_of_ble_eq_true rfl) (rfl) (rfl) rfl rfl (fun h33 g34 fx35 => ?_)
  have fr36 : px_fi a 9 h h33 := fi_tr fr32 fx35 (by omega)
  refine e_vret f_82_35 rfl ?_
  have g37 : px_pa h9 (a + 1) 50 24 evS ev := pa_fi g2 fx11 (by omega)
  have g38 : px_pa h14 (a + 1) 50 24 evS ev := pa_fi g37 fx18 (by omega)
  have g39 : px_pa h21 (a + 1) 50 24 evS ev := pa_fi g38 fx23 (by omega)
  have g40 : px_pa h25 (a + 1) 50 24 evS ev := pa_fi g39 fx27 (by omega)
  have g41 : px_pa h29 (a + 1) 50 24 evS ev := pa_fi g40 fx31 (by omega)
  have g42 : px_pa h33 (a + 1) 50 24 evS ev := pa_fi g41 fx35 (by omega)
  have g43 : px_pa h9 (a + 2) 50 24 evK ev := pa_fi g3 fx11 (by omega)
  have g44 : px_pa h14 (a + 2) 50 24 evK ev := pa_fi g43 fx18 (by omega)
  have g45 : px_pa h21 (a + 2) 50 24 evK ev := pa_fi g44 fx23 (by omega)
  have g46 : px_pa h25 (a + 2) 50 24 evK ev := pa_fi g45 fx27 (by omega)
  have g47 : px_pa h29 (a + 2) 50 24 evK ev := pa_fi g46 fx31 (by omega)
  have g48 : px_pa h33 (a + 2) 50 24 evK ev := pa_fi g47 fx35 (by omega)
  have g49 : px_pa h9 (a + 3) 50 24 evV ev := pa_fi g4 fx11 (by omega)
  have g50 : px_pa h14 (a + 3) 50 24 evV ev := pa_fi g49 fx18 (by omega)
  have g51 : px_pa h21 (a + 3) 50 24 evV ev := pa_fi g50 fx23 (by omega)
  have g52 : px_pa h25 (a + 3) 50 24 evV ev := pa_fi g51 fx27 (by omega)
  have g53 : px_pa h29 (a + 3) 50 24 evV ev := pa_fi g52 fx31 (by omega)
  have g54 : px_pa h33 (a + 3) 50 24 evV ev := pa_fi g53 fx35 (by omega)
  have g55 : px_pa h9 (a + 4) 50 24 evT ev := pa_fi g5 fx11 (by omega)
  have g56 : px_pa h14 (a + 4) 50 24 evT ev := pa_fi g55 fx18 (by omega)
  have g57 : px_pa h21 (a + 4) 50 24 evT ev := pa_fi g56 fx23 (by omega)
  have g58 : px_pa h25 (a + 4) 50 24 evT ev := pa_fi g57 fx27 (by omega)
  have g59 : px_pa h29 (a + 4) 50 24 evT ev := pa_fi g58 fx31 (by omega)
  have g60 : px_pa h33 (a + 4) 50 24 evT ev := pa_fi g59 fx35 (by omega)
  have g61 : pRows h21 (a + 5) 16 (told.take 0) := pRows_fi g17 fx23 (by omega)
  have g62 : pRows h25 (a + 5) 16 (told.take 0) := pRows_fi g61 fx27 (by omega)
  have g63 : pRows h29 (a + 5) 16 (told.take 0) := pRows_fi g62 fx31 (by omega)
  have g64 : pRows h33 (a + 5) 16 (told.take 0) := pRows_fi g63 fx35 (by omega)
  have g65 : px_pa h9 (a + 7) 50 24 vN kept := pa_fi g6 fx11 (by omega)
  have g66 : px_pa h14 (a + 7) 50 24 vN kept := pa_fi g65 fx18 (by omega)
  have g67 : px_pa h21 (a + 7) 50 24 vN kept := pa_fi g66 fx23 (by omega)
  have g68 : px_pa h25 (a + 7) 50 24 vN kept := pa_fi g67 fx27 (by omega)
  have g69 : px_pa h29 (a + 7) 50 24 vN kept := pa_fi g68 fx31 (by omega)
  have g70 : px_pa h33 (a + 7) 50 24 vN kept := pa_fi g69 fx35 (by omega)
  have g71 : px_pa h9 (a + 8) 50 266 vN un := pa_fi g7 fx11 (by omega)
  have g72 : px_pa h14 (a + 8) 50 266 vN un := pa_fi g71 fx18 (by omega)
  have g73 : px_pa h21 (a + 8) 50 266 vN un := pa_fi g72 fx23 (by omega)
  have g74 : px_pa h25 (a + 8) 50 266 vN un := pa_fi g73 fx27 (by omega)
  have g75 : px_pa h29 (a + 8) 50 266 vN un := pa_fi g74 fx31 (by omega)
  have g76 : px_pa h33 (a + 8) 50 266 vN un := pa_fi g75 fx35 (by omega)
  exact ⟨rfl, ⟨g34, pa_nil g42, pa_nil g48, pa_nil g54, pa_nil g60, g64, pa_nil g70, pa_nil g76⟩, fr36⟩

set_option maxRecDepth 20000 in
set_option maxHeartbeats 4000000 in
theorem cc_Case_addEvent {h : px_H} {s : Nat} {x y z : Int32} {a : Nat} {ev : List Ev} {told : List Row} {os : Nat} {ks : Int32} {kept : List Nat} {ck : Nat} {un : List Nat} (H0 : pCase h a ev told os ks kept ck un) (p0 : 17 ≤ a) (p1 : ev.length < 24) : px_wp 83 [.ref (a), .int (nI s), .int (x), .int (y), .int (z)] h (fun h1 r => r = none ∧ pCase h1 a (ev ++ [(s, x, y, z)]) told os ks kept ck un ∧ px_fi a 9 h h1) := by
  have fr0 : px_fi a 9 h h := fi_rf _ _ _
  show px_to 83 0 [some (.ref (a)), some (.int (nI s)), some (.int (x)), some (.int (y)), some (.int (z))] [] h _
  have g1 : h.2.2 a = some (10, [.int (nI ev.length), .ref (a + 1), .ref (a + 2), .ref (a + 3), .ref (a + 4), .ref (a + 5), .int (nI os), .int (ks), .ref (a + 7), .int (nI ck), .int (nI un.length), .ref (a + 8)]) := H0.1
  have g2 : px_pa h (a + 1) 50 24 evS ev := H0.2.1
  have g3 : px_pa h (a + 2) 50 24 evK ev := H0.2.2.1
  have g4 : px_pa h (a + 3) 50 24 evV ev := H0.2.2.2.1
  have g5 : px_pa h (a + 4) 50 24 evT ev := H0.2.2.2.2.1
  have g6 : px_pa h (a + 7) 50 24 vN kept := H0.2.2.2.2.2.2.1
  have g7 : px_pa h (a + 8) 50 266 vN un := H0.2.2.2.2.2.2.2
  have g8 : pRows h (a + 5) 16 told := H0.2.2.2.2.2.1
  refine e_aload_n f_83_0 rfl rfl ?_
  refine e_getf f_83_1 g1 rfl rfl ?_
  refine e_bipush (v := nI 24) f_83_4 (by decide) rfl ?_
  refine e_icmp_ge f_83_6 rfl (fun c_6 => ?_) (fun c_6 => ?_)
  · skip
    have c_6 : 24 ≤ ev.length := cv_le (by omega) (by omega) c_6
    refine e_vret f_83_60 rfl ?_
    exfalso; omega
  · skip
    have c_6 : ev.length < 24 := cv_nle (by omega) (by omega) c_6
    refine e_aload_n f_83_9 rfl rfl ?_
    refine e_getf f_83_10 g1 rfl rfl ?_
    refine e_aload_n f_83_13 rfl rfl ?_
    refine e_getf f_83_14 g1 rfl rfl ?_
    refine e_iload_n f_83_17 rfl rfl ?_
    refine e_iastore_a (xs := ev) (x := (s, x, y, z)) f_83_18 g2 (by omega) (rfl) (by omega) (rfl) rfl (fun h9 g10 fx11 => ?_)
    have fr12 : px_fi a 9 h h9 := fi_tr fr0 fx11 (by omega)
    refine e_aload_n f_83_19 rfl rfl ?_
    have g13 : h9.2.2 a = some (10, [.int (nI ev.length), .ref (a + 1), .ref (a + 2), .ref (a + 3), .ref (a + 4), .ref (a + 5), .int (nI os), .int (ks), .ref (a + 7), .int (nI ck), .int (nI un.length), .ref (a + 8)]) := fi_at g1 fx11 (by omega)
    refine e_getf f_83_20 g13 rfl rfl ?_
    refine e_aload_n f_83_23 rfl rfl ?_
    refine e_getf f_83_24 g13 rfl rfl ?_
    refine e_iload_n f_83_27 rfl rfl ?_
    have g14 : px_pa h9 (a + 2) 50 24 evK ev := pa_fi g3 fx11 (by omega)
    refine e_iastore_a (xs := ev) (x := (s, x, y, z)) f_83_28 g14 (by omega) (rfl) (by omega) (rfl) rfl (fun h15 g16 fx17 => ?_)
    have fr18 : px_fi a 9 h h15 := fi_tr fr12 fx17 (by omega)
    refine e_aload_n f_83_29 rfl rfl ?_
    have g19 : h15.2.2 a = some (10, [.int (nI ev.length), .ref (a + 1), .ref (a + 2), .ref (a + 3), .ref (a + 4), .ref (a + 5), .int (nI os), .int (ks), .ref (a + 7), .int (nI ck), .int (nI un.length), .ref (a + 8)]) := fi_at g13 fx17 (by omega)
    refine e_getf f_83_30 g19 rfl rfl ?_
    refine e_aload_n f_83_33 rfl rfl ?_
    refine e_getf f_83_34 g19 rfl rfl ?_
    refine e_iload_n f_83_37 rfl rfl ?_
    have g20 : px_pa h9 (a + 3) 50 24 evV ev := pa_fi g4 fx11 (by omega)
    have g21 : px_pa h15 (a + 3) 50 24 evV ev := pa_fi g20 fx17 (by omega)
    refine e_iastore_a (xs := ev) (x := (s, x, y, z)) f_83_38 g21 (by omega) (rfl) (by omega) (rfl) rfl (fun h22 g23 fx24 => ?_)
    have fr25 : px_fi a 9 h h22 := fi_tr fr18 fx24 (by omega)
    refine e_aload_n f_83_39 rfl rfl ?_
    have g26 : h22.2.2 a = some (10, [.int (nI ev.length), .ref (a + 1), .ref (a + 2), .ref (a + 3), .ref (a + 4), .ref (a + 5), .int (nI os), .int (ks), .ref (a + 7), .int (nI ck), .int (nI un.length), .ref (a + 8)]) := fi_at g19 fx24 (by omega)
    refine e_getf f_83_40 g26 rfl rfl ?_
    refine e_aload_n f_83_43 rfl rfl ?_
    refine e_getf f_83_44 g26 rfl rfl ?_
    refine e_iload f_83_47 rfl rfl ?_
    have g27 : px_pa h9 (a + 4) 50 24 evT ev := pa_fi g5 fx11 (by omega)
    have g28 : px_pa h15 (a + 4) 50 24 evT ev := pa_fi g27 fx17 (by omega)
    have g29 : px_pa h22 (a + 4) 50 24 evT ev := pa_fi g28 fx24 (by omega)
    refine e_iastore_a (xs := ev) (x := (s, x, y, z)) f_83_49 g29 (by omega) (rfl) (by omega) (rfl) rfl (fun h30 g31 fx32 => ?_)
    have fr33 : px_fi a 9 h h30 := fi_tr fr25 fx32 (by omega)
    refine e_aload_n f_83_50 rfl rfl ?_
    refine e_dup f_83_51 rfl rfl ?_
    have g34 : h30.2.2 a = some (10, [.int (nI ev.length), .ref (a + 1), .ref (a + 2), .ref (a + 3), .ref (a + 4), .ref (a + 5), .int (nI os), .int (ks), .ref (a + 7), .int (nI ck), .int (nI un.length), .ref (a + 8)]) := fi_at g26 fx32 (by omega)
    refine e_getf f_83_52 g34 rfl rfl ?_
    refine e_iconst (v := nI 1) f_83_55 (by decide) rfl ?_
    refine e_iadd (z := nI (ev.length + 1)) f_83_56 (nI_add _ _) rfl ?_
    refine e_putp (vs' := [.int (nI (ev.length + 1)), .ref (a + 1), .ref (a + 2), .ref (a + 3), .ref (a + 4), .ref (a + 5), .int (nI os), .int (ks), .ref (a + 7), .int (nI ck), .int (nI un.length), .ref (a + 8)]) f_83_57 g34 (Nat.le_of_ble_eq_true rfl) (rfl) (rfl) rfl rfl (fun h35 g36 fx37 => ?_)
    have fr38 : px_fi a 9 h h35 := fi_tr fr33 fx37 (by omega)
    refine e_vret f_83_60 rfl ?_
    have g39 : px_pa h15 (a + 1) 50 24 evS (ev ++ [(s, x, y, z)]) := pa_fi g10 fx17 (by omega)
    have g40 : px_pa h22 (a + 1) 50 24 evS (ev ++ [(s, x, y, z)]) := pa_fi g39 fx24 (by omega)
    have g41 : px_pa h30 (a + 1) 50 24 evS (ev ++ [(s, x, y, z)]) := pa_fi g40 fx32 (by omega)
    have g42 : px_pa h35 (a + 1) 50 24 evS (ev ++ [(s, x, y, z)]) := pa_fi g41 fx37 (by omega)
    have g43 : px_pa h22 (a + 2) 50 24 evK (ev ++ [(s, x, y, z)]) := pa_fi g16 fx24 (by omega)
    have g44 : px_pa h30 (a + 2) 50 24 evK (ev ++ [(s, x, y, z)]) := pa_fi g43 fx32 (by omega)
    have g45 : px_pa h35 (a + 2) 50 24 evK (ev ++ [(s, x, y, z)]) := pa_fi g44 fx37 (by omega)
    have g46 : px_pa h30 (a + 3) 50 24 evV (ev ++ [(s, x, y, z)]) := pa_fi g23 fx32 (by omega)
    have g47 : px_pa h35 (a + 3) 50 24 evV (ev ++ [(s, x, y, z)]) := pa_fi g46 fx37 (by omega)
    have g48 : px_pa h35 (a + 4) 50 24 evT (ev ++ [(s, x, y, z)]) := pa_fi g31 fx37 (by omega)
    have g49 : pRows h9 (a + 5) 16 told := pRows_fi g8 fx11 (by omega)
    have g50 : pRows h15 (a + 5) 16 told := pRows_fi g49 fx17 (by omega)
    have g51 : pRows h22 (a + 5) 16 told := pRows_fi g50 fx24 (by omega)
    have g52 : pRows h30 (a + 5) 16 told := pRows_fi g51 fx32 (by omega)
    have g53 : pRows h35 (a + 5) 16 told := pRows_fi g52 fx37 (by omega)
    have g54 : px_pa h9 (a + 7) 50 24 vN kept := pa_fi g6 fx11 (by omega)
    have g55 : px_pa h15 (a + 7) 50 24 vN kept := pa_fi g54 fx17 (by omega)
    have g56 : px_pa h22 (a + 7) 50 24 vN kept := pa_fi g55 fx24 (by omega)
    have g57 : px_pa h30 (a + 7) 50 24 vN kept := pa_fi g56 fx32 (by omega)
    have g58 : px_pa h35 (a + 7) 50 24 vN kept := pa_fi g57 fx37 (by omega)
    have g59 : px_pa h9 (a + 8) 50 266 vN un := pa_fi g7 fx11 (by omega)
    have g60 : px_pa h15 (a + 8) 50 266 vN un := pa_fi g59 fx17 (by omega)
    have g61 : px_pa h22 (a + 8) 50 266 vN un := pa_fi g60 fx24 (by omega)
    have g62 : px_pa h30 (a + 8) 50 266 vN un := pa_fi g61 fx32 (by omega)
    have g63 : px_pa h35 (a + 8) 50 266 vN un := pa_fi g62 fx37 (by omega)
    exact ⟨rfl, ⟨by rw [List.length_append]; exact g36, g42, g45, g47, g48, g53, g58, g63⟩, fr38⟩

set_option maxRecDepth 20000 in
set_option maxHeartbeats 4000000 in
theorem cc_Case_note {h : px_H} {n : Nat} {b : Bool} {a : Nat} {ev : List Ev} {told : List Row} {os : Nat} {ks : Int32} {kept : List Nat} {ck : Nat} {un : List Nat} (H0 : pCase h a ev told os ks kept ck un) (p0 : 17 ≤ a) (p1 : un.length < 266) : px_wp 88 [.ref (a), .int (nI n), .int (bI b)] h (fun h1 r => r = none ∧ pCase h1 a ev told os ks kept (n + 1) (if b = true then un else un ++ [n]) ∧ px_fi a 9 h h1) := by
  have fr0 : px_fi a 9 h h := fi_rf _ _ _
  show px_to 88 0 [some (.ref (a)), some (.int (nI n)), some (.int (bI b))] [] h _
  have g1 : h.2.2 a = some (10, [.int (nI ev.length), .ref (a + 1), .ref (a + 2), .ref (a + 3), .ref (a + 4), .ref (a + 5), .int (nI os), .int (ks), .ref (a + 7), .int (nI ck), .int (nI un.length), .ref (a + 8)]) := H0.1
  have g2 : px_pa h (a + 1) 50 24 evS ev := H0.2.1
  have g3 : px_pa h (a + 2) 50 24 evK ev := H0.2.2.1
  have g4 : px_pa h (a + 3) 50 24 evV ev := H0.2.2.2.1
  have g5 : px_pa h (a + 4) 50 24 evT ev := H0.2.2.2.2.1
  have g6 : px_pa h (a + 7) 50 24 vN kept := H0.2.2.2.2.2.2.1
  have g7 : px_pa h (a + 8) 50 266 vN un := H0.2.2.2.2.2.2.2
  have g8 : pRows h (a + 5) 16 told := H0.2.2.2.2.2.1
  refine e_iload_n f_88_0 rfl rfl ?_
  refine e_if_ne f_88_1 rfl (fun c_1 => ?_) (fun c_1 => ?_)
  · skip
    have c_1 : b = true := bI_t c_1
    refine e_aload_n f_88_34 rfl rfl ?_
    refine e_iload_n f_88_35 rfl rfl ?_
    refine e_iconst (v := nI 1) f_88_36 (by decide) rfl ?_
    refine e_iadd (z := nI (n + 1)) f_88_37 (nI_add _ _) rfl ?_
    refine e_putp (vs' := [.int (nI ev.length), .ref (a + 1), .ref (a + 2), .ref (a + 3), .ref (a + 4), .ref (a + 5), .int (nI os), .int (ks), .ref (a + 7), .int (nI (n + 1)), .int (nI un.length), .ref (a + 8)]) f_88_38 g1 (Nat.le_of_ble_eq_true rfl) (rfl) (rfl) rfl rfl (fun h9 g10 fx11 => ?_)
    have fr12 : px_fi a 9 h h9 := fi_tr fr0 fx11 (by omega)
    refine e_vret f_88_41 rfl ?_
    have g13 : px_pa h9 (a + 1) 50 24 evS ev := pa_fi g2 fx11 (by omega)
    have g14 : px_pa h9 (a + 2) 50 24 evK ev := pa_fi g3 fx11 (by omega)
    have g15 : px_pa h9 (a + 3) 50 24 evV ev := pa_fi g4 fx11 (by omega)
    have g16 : px_pa h9 (a + 4) 50 24 evT ev := pa_fi g5 fx11 (by omega)
    have g17 : pRows h9 (a + 5) 16 told := pRows_fi g8 fx11 (by omega)
    have g18 : px_pa h9 (a + 7) 50 24 vN kept := pa_fi g6 fx11 (by omega)
    have g19 : px_pa h9 (a + 8) 50 266 vN un := pa_fi g7 fx11 (by omega)
    first | (exfalso; omega) | (rw [if_pos c_1]; exact ⟨rfl, ⟨g10, g13, g14, g15, g16, g17, g18, g19⟩, fr12⟩) | (rw [if_neg (by rw [c_1]; decide)]; exact ⟨rfl, ⟨by rw [List.length_append]; exact g10, g13, g14, g15, g16, g17, g18, g19⟩, fr12⟩)
  · skip
    have c_1 : b = false := bI_f' c_1
    refine e_aload_n f_88_4 rfl rfl ?_
    refine e_getf f_88_5 g1 rfl rfl ?_
    refine e_sipush (v := nI 266) f_88_8 (by decide) rfl ?_
    refine e_icmp_ge f_88_11 rfl (fun c_11 => ?_) (fun c_11 => ?_)
    · skip
      have c_11 : 266 ≤ un.length := cv_le (by omega) (by omega) c_11
      refine e_aload_n f_88_34 rfl rfl ?_
      refine e_iload_n f_88_35 rfl rfl ?_
      refine e_iconst (v := nI 1) f_88_36 (by decide) rfl ?_
      refine e_iadd (z := nI (n + 1)) f_88_37 (nI_add _ _) rfl ?_
      refine e_putp (vs' := [.int (nI ev.length), .ref (a + 1), .ref (a + 2), .ref (a + 3), .ref (a + 4), .ref (a + 5), .int (nI os), .int (ks), .ref (a + 7), .int (nI (n + 1)), .int (nI un.length), .ref (a + 8)]) f_88_38 g1 (Nat.le_of_ble_eq_true rfl) (rfl) (rfl) rfl rfl (fun h20 g21 fx22 => ?_)
      have fr23 : px_fi a 9 h h20 := fi_tr fr0 fx22 (by omega)
      refine e_vret f_88_41 rfl ?_
      have g24 : px_pa h20 (a + 1) 50 24 evS ev := pa_fi g2 fx22 (by omega)
      have g25 : px_pa h20 (a + 2) 50 24 evK ev := pa_fi g3 fx22 (by omega)
      have g26 : px_pa h20 (a + 3) 50 24 evV ev := pa_fi g4 fx22 (by omega)
      have g27 : px_pa h20 (a + 4) 50 24 evT ev := pa_fi g5 fx22 (by omega)
      have g28 : pRows h20 (a + 5) 16 told := pRows_fi g8 fx22 (by omega)
      have g29 : px_pa h20 (a + 7) 50 24 vN kept := pa_fi g6 fx22 (by omega)
      have g30 : px_pa h20 (a + 8) 50 266 vN un := pa_fi g7 fx22 (by omega)
      first | (exfalso; omega) | (rw [if_pos c_1]; exact ⟨rfl, ⟨g21, g24, g25, g26, g27, g28, g29, g30⟩, fr23⟩) | (rw [if_neg (by rw [c_1]; decide)]; exact ⟨rfl, ⟨by rw [List.length_append]; exact g21, g24, g25, g26, g27, g28, g29, g30⟩, fr23⟩)
    · skip
      have c_11 : un.length < 266 := cv_nle (by omega) (by omega) c_11
      refine e_aload_n f_88_14 rfl rfl ?_
      refine e_getf f_88_15 g1 rfl rfl ?_
      refine e_aload_n f_88_18 rfl rfl ?_
      refine e_getf f_88_19 g1 rfl rfl ?_
      refine e_iload_n f_88_22 rfl rfl ?_
      refine e_iastore_a (xs := un) (x := n) f_88_23 g7 (by omega) (rfl) (by omega) (rfl) rfl (fun h31 g32 fx33 => ?_)
      have fr34 : px_fi a 9 h h31 := fi_tr fr0 fx33 (by omega)
      refine e_aload_n f_88_24 rfl rfl ?_
      refine e_dup f_88_25 rfl rfl ?_
      have g35 : h31.2.2 a = some (10, [.int (nI ev.length), .ref (a + 1), .ref (a + 2), .ref (a + 3), .ref (a + 4), .ref (a + 5), .int (nI os), .int (ks), .ref (a + 7), .int (nI ck), .int (nI un.length), .ref (a + 8)]) := fi_at g1 fx33 (by omega)
      refine e_getf f_88_26 g35 rfl rfl ?_
      refine e_iconst (v := nI 1) f_88_29 (by decide) rfl ?_
      refine e_iadd (z := nI (un.length + 1)) f_88_30 (nI_add _ _) rfl ?_
      refine e_putp (vs' := [.int (nI ev.length), .ref (a + 1), .ref (a + 2), .ref (a + 3), .ref (a + 4), .ref (a + 5), .int (nI os), .int (ks), .ref (a + 7), .int (nI ck), .int (nI (un.length + 1)), .ref (a + 8)]) f_88_31 g35 (Nat.le_of_ble_eq_true rfl) (rfl) (rfl) rfl rfl (fun h36 g37 fx38 => ?_)
      have fr39 : px_fi a 9 h h36 := fi_tr fr34 fx38 (by omega)
      refine e_aload_n f_88_34 rfl rfl ?_
      refine e_iload_n f_88_35 rfl rfl ?_
      refine e_iconst (v := nI 1) f_88_36 (by decide) rfl ?_
      refine e_iadd (z := nI (n + 1)) f_88_37 (nI_add _ _) rfl ?_
      refine e_putp (vs' := [.int (nI ev.length), .ref (a + 1), .ref (a + 2), .ref (a + 3), .ref (a + 4), .ref (a + 5), .int (nI os), .int (ks), .ref (a + 7), .int (nI (n + 1)), .int (nI (un.length + 1)), .ref (a + 8)]) f_88_38 g37 (Nat.le_of_ble_eq_true rfl) (rfl) (rfl) rfl rfl (fun h40 g41 fx42 => ?_)
      have fr43 : px_fi a 9 h h40 := fi_tr fr39 fx42 (by omega)
      refine e_vret f_88_41 rfl ?_
      have g44 : px_pa h31 (a + 1) 50 24 evS ev := pa_fi g2 fx33 (by omega)
      have g45 : px_pa h36 (a + 1) 50 24 evS ev := pa_fi g44 fx38 (by omega)
      have g46 : px_pa h40 (a + 1) 50 24 evS ev := pa_fi g45 fx42 (by omega)
      have g47 : px_pa h31 (a + 2) 50 24 evK ev := pa_fi g3 fx33 (by omega)
      have g48 : px_pa h36 (a + 2) 50 24 evK ev := pa_fi g47 fx38 (by omega)
      have g49 : px_pa h40 (a + 2) 50 24 evK ev := pa_fi g48 fx42 (by omega)
      have g50 : px_pa h31 (a + 3) 50 24 evV ev := pa_fi g4 fx33 (by omega)
      have g51 : px_pa h36 (a + 3) 50 24 evV ev := pa_fi g50 fx38 (by omega)
      have g52 : px_pa h40 (a + 3) 50 24 evV ev := pa_fi g51 fx42 (by omega)
      have g53 : px_pa h31 (a + 4) 50 24 evT ev := pa_fi g5 fx33 (by omega)
      have g54 : px_pa h36 (a + 4) 50 24 evT ev := pa_fi g53 fx38 (by omega)
      have g55 : px_pa h40 (a + 4) 50 24 evT ev := pa_fi g54 fx42 (by omega)
      have g56 : pRows h31 (a + 5) 16 told := pRows_fi g8 fx33 (by omega)
      have g57 : pRows h36 (a + 5) 16 told := pRows_fi g56 fx38 (by omega)
      have g58 : pRows h40 (a + 5) 16 told := pRows_fi g57 fx42 (by omega)
      have g59 : px_pa h31 (a + 7) 50 24 vN kept := pa_fi g6 fx33 (by omega)
      have g60 : px_pa h36 (a + 7) 50 24 vN kept := pa_fi g59 fx38 (by omega)
      have g61 : px_pa h40 (a + 7) 50 24 vN kept := pa_fi g60 fx42 (by omega)
      have g62 : px_pa h36 (a + 8) 50 266 vN (un ++ [n]) := pa_fi g32 fx38 (by omega)
      have g63 : px_pa h40 (a + 8) 50 266 vN (un ++ [n]) := pa_fi g62 fx42 (by omega)
      first | (exfalso; omega) | (rw [if_pos c_1]; exact ⟨rfl, ⟨g41, g46, g49, g52, g55, g58, g61, g63⟩, fr43⟩) | (rw [if_neg (by rw [c_1]; decide)]; exact ⟨rfl, ⟨by rw [List.length_append]; exact g41, g46, g49, g52, g55, g58, g61, g63⟩, fr43⟩)

set_option maxRecDepth 20000 in
set_option maxHeartbeats 4000000 in
theorem cc_Ord_add {h : px_H} {a i : Nat} {ps : List Nat} (H0 : pOrd h a ps) (p0 : 17 ≤ a) (p1 : ps.length < 24) : px_wp 19 [.ref (a), .int (nI i)] h (fun h1 r => r = none ∧ pOrd h1 a (ps ++ [i]) ∧ px_fi a 2 h h1) := by
  have fr0 : px_fi a 2 h h := fi_rf _ _ _
  show px_to 19 0 [some (.ref (a)), some (.int (nI i))] [] h _
  refine e_aload_n f_19_0 rfl rfl ?_
  refine e_getf f_19_1 H0.1 rfl rfl ?_
  refine e_bipush (v := nI 24) f_19_4 (by decide) rfl ?_
  refine e_icmp_ge f_19_6 rfl (fun c_6 => ?_) (fun c_6 => ?_)
  · skip
    have c_6 : 24 ≤ ps.length := cv_le (by omega) (by omega) c_6
    refine e_vret f_19_29 rfl ?_
    exfalso; omega
  · skip
    have c_6 : ps.length < 24 := cv_nle (by omega) (by omega) c_6
    refine e_aload_n f_19_9 rfl rfl ?_
    refine e_getf f_19_10 H0.1 rfl rfl ?_
    refine e_aload_n f_19_13 rfl rfl ?_
    refine e_getf f_19_14 H0.1 rfl rfl ?_
    refine e_iload_n f_19_17 rfl rfl ?_
    have g1 : h.2.2 a = some (3, [.ref (a + 1), .int (nI ps.length)]) := H0.1
    have g2 : px_pa h (a + 1) 50 24 vN ps := H0.2
    refine e_iastore_a (xs := ps) (x := i) f_19_18 g2 (by omega) (rfl) (by omega) (rfl) rfl (fun h3 g4 fx5 => ?_)
    have fr6 : px_fi a 2 h h3 := fi_tr fr0 fx5 (by omega)
    refine e_aload_n f_19_19 rfl rfl ?_
    refine e_dup f_19_20 rfl rfl ?_
    have g7 : h3.2.2 a = some (3, [.ref (a + 1), .int (nI ps.length)]) := fi_at g1 fx5 (by omega)
    refine e_getf f_19_21 g7 rfl rfl ?_
    refine e_iconst (v := nI 1) f_19_24 (by decide) rfl ?_
    refine e_iadd (z := nI (ps.length + 1)) f_19_25 (nI_add _ _) rfl ?_
    refine e_putp (vs' := [.ref (a + 1), .int (nI (ps.length + 1))]) f_19_26 g7 (Nat.le_of_ble_eq_true rfl) (rfl) (rfl) rfl rfl (fun h8 g9 fx10 => ?_)
    have fr11 : px_fi a 2 h h8 := fi_tr fr6 fx10 (by omega)
    refine e_vret f_19_29 rfl ?_
    have g12 : px_pa h8 (a + 1) 50 24 vN (ps ++ [i]) := pa_fi g4 fx10 (by omega)
    exact ⟨rfl, ⟨by rw [List.length_append]; exact g9, g12⟩, fr11⟩

set_option maxRecDepth 20000 in
set_option maxHeartbeats 4000000 in
theorem ll_Ord_all {h0 : px_H} {p : Nat} {a : Nat} {ev : List Ev} {told : List Row} {os : Nat} {ks : Int32} {kept : List Nat} {ck : Nat} {un : List Nat} (H1 : pCase h0 a ev told os ks kept ck un) (p0 : 17 ≤ p) (p1 : p + 2 ≤ a ∨ a + 9 ≤ p) : ∀ (d : Nat) (i : Nat) (ps : List Nat) (g : px_H), (ev.length ≤ i + d) → (i ≤ ev.length) → (ps = List.range i) → pOrd g p ps → px_fi p 2 h0 g → px_to 20 7 [some (.ref (p)), some (.ref (a)), some (.int (nI i))] [] g (fun h1 r => r = none ∧ pOrd h1 p (List.range ev.length) ∧ px_fi p 2 h0 h1) := by
  intro d
  induction d using Nat.strongRecOn with
  | ind d ih =>
    intro i ps g q0 q1 q2 G0 frg
    have le := pa_len H1.2.1
    have lp : ps.length = i := by rw [q2, List.length_range]
    refine e_iload_n f_20_7 rfl rfl ?_
    refine e_aload_n f_20_8 rfl rfl ?_
    have g1 : pCase g a ev told os ks kept ck un := pCase_fi H1 frg (by omega)
    refine e_getf f_20_9 g1.1 rfl rfl ?_
    refine e_icmp_ge f_20_12 rfl (fun c_12 => ?_) (fun c_12 => ?_)
    · skip
      have c_12 : ev.length ≤ i := cv_le (by omega) (by omega) c_12
      refine e_vret f_20_26 rfl ?_
      have e : i = ev.length := by omega
      subst e
      subst q2
      exact ⟨rfl, G0, frg⟩
    · skip
      have c_12 : i < ev.length := cv_nle (by omega) (by omega) c_12
      refine e_aload_n f_20_15 rfl rfl ?_
      refine e_iload_n f_20_16 rfl rfl ?_
      refine e_callV (As := [.int (nI i)]) (rest := []) f_20_17 rfl rfl rfl (Nat.le_of_ble_eq_true rfl) (Nat.le_of_ble_eq_true rfl) G0.1 rfl (Nat.le_of_ble_eq_true rfl) (cc_Ord_add (a := p) (i := i) (ps := ps) G0 (by omega) (by omega)) rfl (fun h2 r3 q4 => ?_)
      obtain ⟨rfl, g5, fx6⟩ := q4
      have fr7 : px_fi p 2 h0 h2 := fi_tr frg fx6 (by omega)
      show px_to 20 20 [some (.ref (p)), some (.ref (a)), some (.int (nI i))] [] h2 _
      refine e_iinc (y := nI (i + 1)) (L' := [some (.ref (p)), some (.ref (a)), some (.int (nI (i + 1)))]) f_20_20 rfl (by rw [show Int32.ofInt 1 = nI 1 by decide]; exact (nI_add _ _)) rfl rfl ?_
      refine e_goto f_20_23 ?_
      first | (exfalso; omega) | exact ih (d - 1) (by omega) (i + 1) (ps ++ [i]) h2 (by omega) (by omega) (by rw [q2, List.range_succ]) g5 fr7

set_option maxRecDepth 20000 in
set_option maxHeartbeats 4000000 in
theorem cc_Ord_all {h : px_H} {p : Nat} {ps : List Nat} {a : Nat} {ev : List Ev} {told : List Row} {os : Nat} {ks : Int32} {kept : List Nat} {ck : Nat} {un : List Nat} (H0 : pOrd h p ps) (H1 : pCase h a ev told os ks kept ck un) (p0 : 17 ≤ p) (p1 : p + 2 ≤ a ∨ a + 9 ≤ p) : px_wp 20 [.ref (p), .ref (a)] h (fun h1 r => r = none ∧ pOrd h1 p (List.range ev.length) ∧ px_fi p 2 h h1) := by
  have fr0 : px_fi p 2 h h := fi_rf _ _ _
  show px_to 20 0 [some (.ref (p)), some (.ref (a)), none] [] h _
  refine e_aload_n f_20_0 rfl rfl ?_
  refine e_iconst (v := nI 0) f_20_1 (by decide) rfl ?_
  have g1 : h.2.2 p = some (3, [.ref (p + 1), .int (nI ps.length)]) := H0.1
  have g2 : px_pa h (p + 1) 50 24 vN ps := H0.2
  refine e_putp (vs' := [.ref (p + 1), .int (nI 0)]) f_20_2 g1 (Nat.le_of_ble_eq_true rfl) (rfl) (rfl) rfl rfl (fun h3 g4 fx5 => ?_)
  have fr6 : px_fi p 2 h h3 := fi_tr fr0 fx5 (by omega)
  refine e_iconst (v := nI 0) f_20_5 (by decide) rfl ?_
  refine e_istore_n (L' := [some (.ref (p)), some (.ref (a)), some (.int (nI 0))]) f_20_6 (Nat.le_of_ble_eq_true rfl) rfl rfl ?_
  have g7 : px_pa h3 (p + 1) 50 24 vN ps := pa_fi g2 fx5 (by omega)
  exact ll_Ord_all (h0 := h) H1 p0 p1 ev.length 0 [] h3 (by omega) (by omega) rfl ⟨g4, pa_nil g7⟩ fr6

/-- the places of the events of A and of B, from i on -/
def evPl : List Ev → Nat → List Nat
  | [], _ => []
  | e :: r, i => if evOf e.1 false || evOf e.1 true then i :: evPl r (i + 1) else evPl r (i + 1)

set_option maxRecDepth 20000 in
set_option maxHeartbeats 4000000 in
theorem ll_Ord_plain {h0 : px_H} {p : Nat} {a : Nat} {ev : List Ev} {told : List Row} {os : Nat} {ks : Int32} {kept : List Nat} {ck : Nat} {un : List Nat} (H1 : pCase h0 a ev told os ks kept ck un) (p0 : 17 ≤ p) (p1 : p + 2 ≤ a ∨ a + 9 ≤ p) (p2 : ∀ e ∈ ev, e.1 < 65536) : ∀ (d : Nat) (i : Nat) (ps : List Nat) (g : px_H), (ev.length ≤ i + d) → (i ≤ ev.length) → (ps ++ evPl (ev.drop i) i = evPl ev 0) → (ps.length ≤ i) → pOrd g p ps → px_fi p 2 h0 g → px_to 21 7 [some (.ref (p)), some (.ref (a)), some (.int (nI i))] [] g (fun h1 r => r = none ∧ pOrd h1 p (evPl ev 0) ∧ px_fi p 2 h0 h1) := by
  intro d
  induction d using Nat.strongRecOn with
  | ind d ih =>
    intro i ps g q0 q1 q2 q3 G0 frg
    have le := pa_len H1.2.1
    refine e_iload_n f_21_7 rfl rfl ?_
    refine e_aload_n f_21_8 rfl rfl ?_
    have g1 : pCase g a ev told os ks kept ck un := pCase_fi H1 frg (by omega)
    refine e_getf f_21_9 g1.1 rfl rfl ?_
    refine e_icmp_ge f_21_12 rfl (fun c_12 => ?_) (fun c_12 => ?_)
    · skip
      have c_12 : ev.length ≤ i := cv_le (by omega) (by omega) c_12
      refine e_vret f_21_44 rfl ?_
      rw [List.drop_eq_nil_of_le (by omega), evPl, List.append_nil] at q2
      subst q2
      exact ⟨rfl, G0, frg⟩
    · skip
      have c_12 : i < ev.length := cv_nle (by omega) (by omega) c_12
      refine e_aload_n f_21_15 rfl rfl ?_
      refine e_iload_n f_21_16 rfl rfl ?_
      refine e_iconst (v := nI 0) f_21_17 (by decide) rfl ?_
      refine e_callV (As := [.int (nI i), .int (nI 0)]) (rest := []) f_21_18 rfl rfl rfl (Nat.le_of_ble_eq_true rfl) (Nat.le_of_ble_eq_true rfl) g1.1 rfl (Nat.le_of_ble_eq_true rfl) (cc_Case_isOf (i := i) (b := false) (a := a) (ev := ev) (told := told) (os := os) (ks := ks) (kept := kept) (ck := ck) (un := un) g1 (by omega) (p2 _ (getD_mem _ (by omega)))) rfl (fun h2 r3 q4 => ?_)
      obtain ⟨rfl, qe⟩ := q4
      have qe := qe.symm
      subst qe
      show px_to 21 21 [some (.ref (p)), some (.ref (a)), some (.int (nI i))] [.int (bI (evOf (ev.getD i (0, 0, 0, 0)).1 false))] g _
      refine e_if_ne f_21_21 rfl (fun c_21 => ?_) (fun c_21 => ?_)
      · skip
        have c_21 : (evOf (ev.getD i (0, 0, 0, 0)).1 false) = true := bI_t c_21
        refine e_aload_n f_21_33 rfl rfl ?_
        refine e_iload_n f_21_34 rfl rfl ?_
        refine e_callV (As := [.int (nI i)]) (rest := []) f_21_35 rfl rfl rfl (Nat.le_of_ble_eq_true rfl) (Nat.le_of_ble_eq_true rfl) G0.1 rfl (Nat.le_of_ble_eq_true rfl) (cc_Ord_add (a := p) (i := i) (ps := ps) G0 (by omega) (by omega)) rfl (fun h5 r6 q7 => ?_)
        obtain ⟨rfl, g8, fx9⟩ := q7
        have fr10 : px_fi p 2 h0 h5 := fi_tr frg fx9 (by omega)
        show px_to 21 38 [some (.ref (p)), some (.ref (a)), some (.int (nI i))] [] h5 _
        refine e_iinc (y := nI (i + 1)) (L' := [some (.ref (p)), some (.ref (a)), some (.int (nI (i + 1)))]) f_21_38 rfl (by rw [show Int32.ofInt 1 = nI 1 by decide]; exact (nI_add _ _)) rfl rfl ?_
        refine e_goto f_21_41 ?_
        first | (exfalso; omega) | exact ih (d - 1) (by omega) (i + 1) (ps ++ [i]) h5 (by omega) (by omega) (by rw [← q2, drop_step (0, 0, 0, 0) (show i < ev.length by omega), evPl, c_21]; simp) (by rw [List.length_append, List.length_singleton]; omega) g8 fr10
      · skip
        have c_21 : (evOf (ev.getD i (0, 0, 0, 0)).1 false) = false := bI_f' c_21
        refine e_aload_n f_21_24 rfl rfl ?_
        refine e_iload_n f_21_25 rfl rfl ?_
        refine e_iconst (v := nI 1) f_21_26 (by decide) rfl ?_
        refine e_callV (As := [.int (nI i), .int (nI 1)]) (rest := []) f_21_27 rfl rfl rfl (Nat.le_of_ble_eq_true rfl) (Nat.le_of_ble_eq_true rfl) g1.1 rfl (Nat.le_of_ble_eq_true rfl) (cc_Case_isOf (i := i) (b := true) (a := a) (ev := ev) (told := told) (os := os) (ks := ks) (kept := kept) (ck := ck) (un := un) g1 (by omega) (p2 _ (getD_mem _ (by omega)))) rfl (fun h11 r12 q13 => ?_)
        obtain ⟨rfl, qe⟩ := q13
        have qe := qe.symm
        subst qe
        show px_to 21 30 [some (.ref (p)), some (.ref (a)), some (.int (nI i))] [.int (bI (evOf (ev.getD i (0, 0, 0, 0)).1 true))] g _
        refine e_if_eq f_21_30 rfl (fun c_30 => ?_) (fun c_30 => ?_)
        · skip
          have c_30 : (evOf (ev.getD i (0, 0, 0, 0)).1 true) = false := bI_f c_30
          refine e_iinc (y := nI (i + 1)) (L' := [some (.ref (p)), some (.ref (a)), some (.int (nI (i + 1)))]) f_21_38 rfl (by rw [show Int32.ofInt 1 = nI 1 by decide]; exact (nI_add _ _)) rfl rfl ?_
          refine e_goto f_21_41 ?_
          first | (exfalso; omega) | exact ih (d - 1) (by omega) (i + 1) ps g (by omega) (by omega) (by rw [← q2, drop_step (0, 0, 0, 0) (show i < ev.length by omega), evPl, c_21, c_30]; simp) (by omega) G0 frg
        · skip
          have c_30 : (evOf (ev.getD i (0, 0, 0, 0)).1 true) = true := bI_t' c_30
          refine e_aload_n f_21_33 rfl rfl ?_
          refine e_iload_n f_21_34 rfl rfl ?_
          refine e_callV (As := [.int (nI i)]) (rest := []) f_21_35 rfl rfl rfl (Nat.le_of_ble_eq_true rfl) (Nat.le_of_ble_eq_true rfl) G0.1 rfl (Nat.le_of_ble_eq_true rfl) (cc_Ord_add (a := p) (i := i) (ps := ps) G0 (by omega) (by omega)) rfl (fun h14 r15 q16 => ?_)
          obtain ⟨rfl, g17, fx18⟩ := q16
          have fr19 : px_fi p 2 h0 h14 := fi_tr frg fx18 (by omega)
          show px_to 21 38 [some (.ref (p)), some (.ref (a)), some (.int (nI i))] [] h14 _
          refine e_iinc (y := nI (i + 1)) (L' := [some (.ref (p)), some (.ref (a)), some (.int (nI (i + 1)))]) f_21_38 rfl (by rw [show Int32.ofInt 1 = nI 1 by decide]; exact (nI_add _ _)) rfl rfl ?_
          refine e_goto f_21_41 ?_
          first | (exfalso; omega) | exact ih (d - 1) (by omega) (i + 1) (ps ++ [i]) h14 (by omega) (by omega) (by rw [← q2, drop_step (0, 0, 0, 0) (show i < ev.length by omega), evPl, c_21, c_30]; simp) (by rw [List.length_append, List.length_singleton]; omega) g17 fr19

set_option maxRecDepth 20000 in
set_option maxHeartbeats 4000000 in
theorem cc_Ord_plain {h : px_H} {p : Nat} {ps : List Nat} {a : Nat} {ev : List Ev} {told : List Row} {os : Nat} {ks : Int32} {kept : List Nat} {ck : Nat} {un : List Nat} (H0 : pOrd h p ps) (H1 : pCase h a ev told os ks kept ck un) (p0 : 17 ≤ p) (p1 : p + 2 ≤ a ∨ a + 9 ≤ p) (p2 : ∀ e ∈ ev, e.1 < 65536) : px_wp 21 [.ref (p), .ref (a)] h (fun h1 r => r = none ∧ pOrd h1 p (evPl ev 0) ∧ px_fi p 2 h h1) := by
  have fr0 : px_fi p 2 h h := fi_rf _ _ _
  show px_to 21 0 [some (.ref (p)), some (.ref (a)), none] [] h _
  refine e_aload_n f_21_0 rfl rfl ?_
  refine e_iconst (v := nI 0) f_21_1 (by decide) rfl ?_
  have g1 : h.2.2 p = some (3, [.ref (p + 1), .int (nI ps.length)]) := H0.1
  have g2 : px_pa h (p + 1) 50 24 vN ps := H0.2
  refine e_putp (vs' := [.ref (p + 1), .int (nI 0)]) f_21_2 g1 (Nat.le_of_ble_eq_true rfl) (rfl) (rfl) rfl rfl (fun h3 g4 fx5 => ?_)
  have fr6 : px_fi p 2 h h3 := fi_tr fr0 fx5 (by omega)
  refine e_iconst (v := nI 0) f_21_5 (by decide) rfl ?_
  refine e_istore_n (L' := [some (.ref (p)), some (.ref (a)), some (.int (nI 0))]) f_21_6 (Nat.le_of_ble_eq_true rfl) rfl rfl ?_
  have g7 : px_pa h3 (p + 1) 50 24 vN ps := pa_fi g2 fx5 (by omega)
  exact ll_Ord_plain (h0 := h) H1 p0 p1 p2 ev.length 0 [] h3 (by omega) (by omega) rfl (by simp) ⟨g4, pa_nil g7⟩ fr6
