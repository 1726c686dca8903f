theorem evOf_A1 {s : Nat} (h : s = 114 ∨ s = 104) : evOf s false = true := by rcases h with h | h <;> subst h <;> rfl
theorem evOf_A0 {s : Nat} (h : ¬ (s = 114 ∨ s = 104)) : evOf s false = false := by
  unfold evOf
  simp
  omega
theorem evOf_B1 {s : Nat} (h : s = 82 ∨ s = 72) : evOf s true = true := by rcases h with h | h <;> subst h <;> rfl
theorem evOf_B0 {s : Nat} (h : ¬ (s = 82 ∨ s = 72)) : evOf s true = false := by
  unfold evOf
  simp
  omega

set_option maxRecDepth 20000 in
set_option maxHeartbeats 4000000 in
theorem cc_Md_isOfA {h : px_H} {s : Nat}  (p0 : s < 65536) : px_wp 172 [.int (nI s)] h (fun h1 r => r = some (.int (bI (evOf s false))) ∧ h1 = h) := by
  show px_to 172 0 [some (.int (nI s))] [] h _
  refine e_iload_n f_172_0 rfl rfl ?_
  refine e_bipush (v := nI 114) f_172_1 (by decide) rfl ?_
  refine e_icmp_eq f_172_3 rfl (fun c_3 => ?_) (fun c_3 => ?_)
  · skip
    have c_3 : s = 114 := cv_eq (by omega) (by omega) c_3
    refine e_iconst (v := nI 1) f_172_12 (by decide) rfl ?_
    refine e_goto f_172_13 ?_
    refine e_iret f_172_17 rfl (rfl) ?_
    exact ⟨congrArg (fun z => some (Value.int z)) (b1 (evOf_A1 (by omega))), rfl⟩
  · skip
    have c_3 : s ≠ 114 := cv_ne c_3
    refine e_iload_n f_172_6 rfl rfl ?_
    refine e_bipush (v := nI 104) f_172_7 (by decide) rfl ?_
    refine e_icmp_ne f_172_9 rfl (fun c_9 => ?_) (fun c_9 => ?_)
    · skip
      have c_9 : s ≠ 104 := cv_ne c_9
      refine e_iconst (v := nI 0) f_172_16 (by decide) rfl ?_
      refine e_iret f_172_17 rfl (rfl) ?_
      exact ⟨congrArg (fun z => some (Value.int z)) (b0 (evOf_A0 (by omega))), rfl⟩
    · skip
      have c_9 : s = 104 := cv_nne (by omega) (by omega) c_9
      refine e_iconst (v := nI 1) f_172_12 (by decide) rfl ?_
      refine e_goto f_172_13 ?_
      refine e_iret f_172_17 rfl (rfl) ?_
      exact ⟨congrArg (fun z => some (Value.int z)) (b1 (evOf_A1 (by omega))), rfl⟩

set_option maxRecDepth 20000 in
set_option maxHeartbeats 4000000 in
theorem cc_Md_isOfB {h : px_H} {s : Nat}  (p0 : s < 65536) : px_wp 173 [.int (nI s)] h (fun h1 r => r = some (.int (bI (evOf s true))) ∧ h1 = h) := by
  show px_to 173 0 [some (.int (nI s))] [] h _
  refine e_iload_n f_173_0 rfl rfl ?_
  refine e_bipush (v := nI 82) f_173_1 (by decide) rfl ?_
  refine e_icmp_eq f_173_3 rfl (fun c_3 => ?_) (fun c_3 => ?_)
  · skip
    have c_3 : s = 82 := cv_eq (by omega) (by omega) c_3
    refine e_iconst (v := nI 1) f_173_12 (by decide) rfl ?_
    refine e_goto f_173_13 ?_
    refine e_iret f_173_17 rfl (rfl) ?_
    exact ⟨congrArg (fun z => some (Value.int z)) (b1 (evOf_B1 (by omega))), rfl⟩
  · skip
    have c_3 : s ≠ 82 := cv_ne c_3
    refine e_iload_n f_173_6 rfl rfl ?_
    refine e_bipush (v := nI 72) f_173_7 (by decide) rfl ?_
    refine e_icmp_ne f_173_9 rfl (fun c_9 => ?_) (fun c_9 => ?_)
    · skip
      have c_9 : s ≠ 72 := cv_ne c_9
      refine e_iconst (v := nI 0) f_173_16 (by decide) rfl ?_
      refine e_iret f_173_17 rfl (rfl) ?_
      exact ⟨congrArg (fun z => some (Value.int z)) (b0 (evOf_B0 (by omega))), rfl⟩
    · skip
      have c_9 : s = 72 := cv_nne (by omega) (by omega) c_9
      refine e_iconst (v := nI 1) f_173_12 (by decide) rfl ?_
      refine e_goto f_173_13 ?_
      refine e_iret f_173_17 rfl (rfl) ?_
      exact ⟨congrArg (fun z => some (Value.int z)) (b1 (evOf_B1 (by omega))), rfl⟩

set_option maxRecDepth 20000 in
set_option maxHeartbeats 4000000 in
theorem ll_Md_inp {h0 : px_H} {A B : Nat} {c : Nat} {ev : List Ev} {em : List Nat} {es : List Ev} {ga : gA} {gp : gP} {gq : gQ} {gh : gH} {gw : gW} {gu : gU} {gv : gV} (HE : px_pa h0 274 50 8 vN em) (HS : px_pa h0 275 52 192 evS es) (p0 : c < 8) (p1 : em.length = 8 ∧ es.length = 192) (p2 : em.getD c 0 = ev.length) (p3 : inE es c ev) (p4 : ev.length ≤ 24) (p5 : ∀ e ∈ ev, e.1 < 65536) : ∀ (d : Nat) (k : Nat) (a : Nat) (b : Nat) (g : px_H), (ev.length ≤ k + d) → (k ≤ ev.length) → (a + evCnt false (ev.drop k) = A) → (b + evCnt true (ev.drop k) = B) → g.2.2 269 = some (12, mB ga gp gq gh gw gu (nI a, nI b, gv.2.2.1, gv.2.2.2.1, gv.2.2.2.2.1, gv.2.2.2.2.2.1, gv.2.2.2.2.2.2.1, gv.2.2.2.2.2.2.2.1, gv.2.2.2.2.2.2.2.2)) → px_fi 269 1 h0 g → px_to 174 12 [some (.ref (269)), some (.int (nI c)), some (.int (nI k))] [] g (fun h1 r => r = none ∧ h1.2.2 269 = some (12, mB ga gp gq gh gw gu (nI A, nI B, gv.2.2.1, gv.2.2.2.1, gv.2.2.2.2.1, gv.2.2.2.2.2.1, gv.2.2.2.2.2.2.1, gv.2.2.2.2.2.2.2.1, gv.2.2.2.2.2.2.2.2)) ∧ px_fi 269 1 h0 h1) := by
  intro d
  induction d using Nat.strongRecOn with
  | ind d ih =>
    intro k a b g q0 q1 q2 q3 G0 frg
    refine e_iload_n f_174_12 rfl rfl ?_
    refine e_aload_n f_174_13 rfl rfl ?_
    refine e_getf f_174_14 G0 rfl rfl ?_
    refine e_iload_n f_174_17 rfl rfl ?_
    have g1 : px_pa g 274 50 8 vN em := pa_fi HE frg (by omega)
    refine e_iaload_p (xs := em) f_174_18 g1 (d := 0) (by first | omega | (simp only [List.length_set]; omega)) rfl ?_
    show px_to 174 19 [some (.ref (269)), some (.int (nI c)), some (.int (nI k))] [.int (nI (em.getD c 0)), .int (nI k)] g _
    rw [p2]
    refine e_icmp_ge f_174_19 rfl (fun c_19 => ?_) (fun c_19 => ?_)
    · skip
      have c_19 : ev.length ≤ k := cv_le (by omega) (by omega) c_19
      refine e_vret f_174_96 rfl ?_
      rw [List.drop_eq_nil_of_le (by omega), evCnt] at q2 q3
      rw [Nat.add_zero] at q2 q3
      subst q2
      subst q3
      exact ⟨rfl, G0, frg⟩
    · skip
      have c_19 : k < ev.length := cv_nle (by omega) (by omega) c_19
      refine e_aload_n f_174_22 rfl rfl ?_
      refine e_aload_n f_174_23 rfl rfl ?_
      refine e_getf f_174_24 G0 rfl rfl ?_
      refine e_bipush (v := nI 24) f_174_27 (by decide) rfl ?_
      refine e_iload_n f_174_29 rfl rfl ?_
      refine e_imul (z := nI (24 * c)) f_174_30 (pk_mul _ _) rfl ?_
      refine e_iload_n f_174_31 rfl rfl ?_
      refine e_iadd (z := nI (24 * c + k)) f_174_32 (nI_add _ _) rfl ?_
      have g2 : px_pa g 275 52 192 evS es := pa_fi HS frg (by omega)
      refine e_caload_p (xs := es) f_174_33 g2 (d := (0, 0, 0, 0)) (by first | omega | (simp only [List.length_set]; omega)) rfl ?_
      show px_to 174 34 [some (.ref (269)), some (.int (nI c)), some (.int (nI k))] [.int (nI ((es.getD (24 * c + k) (0, 0, 0, 0)).1)), .ref (269)] g _
      have hevk : es.getD (24 * c + k) (0, 0, 0, 0) = ev.getD k (0, 0, 0, 0) := p3 k (by omega)
      have hesk := p5 _ (getD_mem (0, 0, 0, 0) (show k < ev.length by omega))
      rw [hevk]
      refine e_callS (As := [.int (nI ((ev.getD k (0, 0, 0, 0)).1))]) (rest := [.ref (269)]) f_174_34 rfl rfl rfl (Nat.le_of_ble_eq_true rfl) (Nat.le_of_ble_eq_true rfl) (cc_Md_isOfA (s := (ev.getD k (0, 0, 0, 0)).1)  (hesk)) rfl (fun h3 r4 q5 => ?_)
      obtain ⟨rfl, qe⟩ := q5
      have qe := qe.symm
      subst qe
      show px_to 174 37 [some (.ref (269)), some (.int (nI c)), some (.int (nI k))] [.int (bI (evOf ((ev.getD k (0, 0, 0, 0)).1) false)), .ref (269)] g _
      refine e_if_eq f_174_37 rfl (fun c_37 => ?_) (fun c_37 => ?_)
      · skip
        have c_37 : (evOf ((ev.getD k (0, 0, 0, 0)).1) false) = false := bI_f c_37
        refine e_aload_n f_174_49 rfl rfl ?_
        refine e_getf f_174_50 G0 rfl rfl ?_
        show px_to 174 53 [some (.ref (269)), some (.int (nI c)), some (.int (nI k))] [.int (nI a), .ref (269)] g _
        refine e_putp (vs' := mB ga gp gq gh gw gu (nI a, nI b, gv.2.2.1, gv.2.2.2.1, gv.2.2.2.2.1, gv.2.2.2.2.2.1, gv.2.2.2.2.2.2.1, gv.2.2.2.2.2.2.2.1, gv.2.2.2.2.2.2.2.2)) f_174_53 G0 (Nat.le_of_ble_eq_true rfl) (rfl) (rfl) rfl rfl (fun h6 g7 fx8 => ?_)
        have fr9 : px_fi 269 1 h0 h6 := fi_tr frg fx8 (by omega)
        refine e_aload_n f_174_56 rfl rfl ?_
        refine e_aload_n f_174_57 rfl rfl ?_
        refine e_getf f_174_58 g7 rfl rfl ?_
        refine e_bipush (v := nI 24) f_174_61 (by decide) rfl ?_
        refine e_iload_n f_174_63 rfl rfl ?_
        refine e_imul (z := nI (24 * c)) f_174_64 (pk_mul _ _) rfl ?_
        refine e_iload_n f_174_65 rfl rfl ?_
        refine e_iadd (z := nI (24 * c + k)) f_174_66 (nI_add _ _) rfl ?_
        have g10 : px_pa h6 275 52 192 evS es := pa_fi HS fr9 (by omega)
        refine e_caload_p (xs := es) f_174_67 g10 (d := (0, 0, 0, 0)) (by first | omega | (simp only [List.length_set]; omega)) rfl ?_
        show px_to 174 68 [some (.ref (269)), some (.int (nI c)), some (.int (nI k))] [.int (nI ((es.getD (24 * c + k) (0, 0, 0, 0)).1)), .ref (269)] h6 _
        rw [hevk]
        refine e_callS (As := [.int (nI ((ev.getD k (0, 0, 0, 0)).1))]) (rest := [.ref (269)]) f_174_68 rfl rfl rfl (Nat.le_of_ble_eq_true rfl) (Nat.le_of_ble_eq_true rfl) (cc_Md_isOfB (s := (ev.getD k (0, 0, 0, 0)).1)  (hesk)) rfl (fun h11 r12 q13 => ?_)
        obtain ⟨rfl, qe⟩ := q13
        have qe := qe.symm
        subst qe
        show px_to 174 71 [some (.ref (269)), some (.int (nI c)), some (.int (nI k))] [.int (bI (evOf ((ev.getD k (0, 0, 0, 0)).1) true)), .ref (269)] h6 _
        refine e_if_eq f_174_71 rfl (fun c_71 => ?_) (fun c_71 => ?_)
        · skip
          have c_71 : (evOf ((ev.getD k (0, 0, 0, 0)).1) true) = false := bI_f c_71
          refine e_aload_n f_174_83 rfl rfl ?_
          refine e_getf f_174_84 g7 rfl rfl ?_
          show px_to 174 87 [some (.ref (269)), some (.int (nI c)), some (.int (nI k))] [.int (nI b), .ref (269)] h6 _
          refine e_putp (vs' := mB ga gp gq gh gw gu (nI a, nI b, gv.2.2.1, gv.2.2.2.1, gv.2.2.2.2.1, gv.2.2.2.2.2.1, gv.2.2.2.2.2.2.1, gv.2.2.2.2.2.2.2.1, gv.2.2.2.2.2.2.2.2)) f_174_87 g7 (Nat.le_of_ble_eq_true rfl) (rfl) (rfl) rfl rfl (fun h14 g15 fx16 => ?_)
          have fr17 : px_fi 269 1 h0 h14 := fi_tr fr9 fx16 (by omega)
          refine e_iinc (y := nI (k + 1)) (L' := [some (.ref (269)), some (.int (nI c)), some (.int (nI (k + 1)))]) f_174_90 rfl (by rw [show Int32.ofInt 1 = nI 1 by decide]; exact (nI_add _ _)) rfl rfl ?_
          refine e_goto f_174_93 ?_
          first | (exfalso; omega) | exact ih (d - 1) (by omega) (k + 1) a b h14 (by omega) (by omega) (by rw [drop_step (0, 0, 0, 0) (show k < ev.length by omega), evCnt, c_37] at q2; simp at q2; omega) (by rw [drop_step (0, 0, 0, 0) (show k < ev.length by omega), evCnt, c_71] at q3; simp at q3; omega) g15 fr17
        · skip
          have c_71 : (evOf ((ev.getD k (0, 0, 0, 0)).1) true) = true := bI_t' c_71
          refine e_aload_n f_174_74 rfl rfl ?_
          refine e_getf f_174_75 g7 rfl rfl ?_
          show px_to 174 78 [some (.ref (269)), some (.int (nI c)), some (.int (nI k))] [.int (nI b), .ref (269)] h6 _
          refine e_iconst (v := nI 1) f_174_78 (by decide) rfl ?_
          refine e_iadd (z := nI (b + 1)) f_174_79 (nI_add _ _) rfl ?_
          refine e_goto f_174_80 ?_
          refine e_putp (vs' := mB ga gp gq gh gw gu (nI a, nI (b + 1), gv.2.2.1, gv.2.2.2.1, gv.2.2.2.2.1, gv.2.2.2.2.2.1, gv.2.2.2.2.2.2.1, gv.2.2.2.2.2.2.2.1, gv.2.2.2.2.2.2.2.2)) f_174_87 g7 (Nat.le_of_ble_eq_true rfl) (rfl) (rfl) rfl rfl (fun h18 g19 fx20 => ?_)
          have fr21 : px_fi 269 1 h0 h18 := fi_tr fr9 fx20 (by omega)
          refine e_iinc (y := nI (k + 1)) (L' := [some (.ref (269)), some (.int (nI c)), some (.int (nI (k + 1)))]) f_174_90 rfl (by rw [show Int32.ofInt 1 = nI 1 by decide]; exact (nI_add _ _)) rfl rfl ?_
          refine e_goto f_174_93 ?_
          first | (exfalso; omega) | exact ih (d - 1) (by omega) (k + 1) a (b + 1) h18 (by omega) (by omega) (by rw [drop_step (0, 0, 0, 0) (show k < ev.length by omega), evCnt, c_37] at q2; simp at q2; omega) (by rw [drop_step (0, 0, 0, 0) (show k < ev.length by omega), evCnt, c_71] at q3; simp at q3; omega) g19 fr21
      · skip
        have c_37 : (evOf ((ev.getD k (0, 0, 0, 0)).1) false) = true := bI_t' c_37
        refine e_aload_n f_174_40 rfl rfl ?_
        refine e_getf f_174_41 G0 rfl rfl ?_
        show px_to 174 44 [some (.ref (269)), some (.int (nI c)), some (.int (nI k))] [.int (nI a), .ref (269)] g _
        refine e_iconst (v := nI 1) f_174_44 (by decide) rfl ?_
        refine e_iadd (z := nI (a + 1)) f_174_45 (nI_add _ _) rfl ?_
        refine e_goto f_174_46 ?_
        refine e_putp (vs' := mB ga gp gq gh gw gu (nI (a + 1), nI b, gv.2.2.1, gv.2.2.2.1, gv.2.2.2.2.1, gv.2.2.2.2.2.1, gv.2.2.2.2.2.2.1, gv.2.2.2.2.2.2.2.1, gv.2.2.2.2.2.2.2.2)) f_174_53 G0 (Nat.le_of_ble_eq_true rfl) (rfl) (rfl) rfl rfl (fun h22 g23 fx24 => ?_)
        have fr25 : px_fi 269 1 h0 h22 := fi_tr frg fx24 (by omega)
        refine e_aload_n f_174_56 rfl rfl ?_
        refine e_aload_n f_174_57 rfl rfl ?_
        refine e_getf f_174_58 g23 rfl rfl ?_
        refine e_bipush (v := nI 24) f_174_61 (by decide) rfl ?_
        refine e_iload_n f_174_63 rfl rfl ?_
        refine e_imul (z := nI (24 * c)) f_174_64 (pk_mul _ _) rfl ?_
        refine e_iload_n f_174_65 rfl rfl ?_
        refine e_iadd (z := nI (24 * c + k)) f_174_66 (nI_add _ _) rfl ?_
        have g26 : px_pa h22 275 52 192 evS es := pa_fi HS fr25 (by omega)
        refine e_caload_p (xs := es) f_174_67 g26 (d := (0, 0, 0, 0)) (by first | omega | (simp only [List.length_set]; omega)) rfl ?_
        show px_to 174 68 [some (.ref (269)), some (.int (nI c)), some (.int (nI k))] [.int (nI ((es.getD (24 * c + k) (0, 0, 0, 0)).1)), .ref (269)] h22 _
        rw [hevk]
        refine e_callS (As := [.int (nI ((ev.getD k (0, 0, 0, 0)).1))]) (rest := [.ref (269)]) f_174_68 rfl rfl rfl (Nat.le_of_ble_eq_true rfl) (Nat.le_of_ble_eq_true rfl) (cc_Md_isOfB (s := (ev.getD k (0, 0, 0, 0)).1)  (hesk)) rfl (fun h27 r28 q29 => ?_)
        obtain ⟨rfl, qe⟩ := q29
        have qe := qe.symm
        subst qe
        show px_to 174 71 [some (.ref (269)), some (.int (nI c)), some (.int (nI k))] [.int (bI (evOf ((ev.getD k (0, 0, 0, 0)).1) true)), .ref (269)] h22 _
        refine e_if_eq f_174_71 rfl (fun c_71 => ?_) (fun c_71 => ?_)
        · skip
          have c_71 : (evOf ((ev.getD k (0, 0, 0, 0)).1) true) = false := bI_f c_71
          refine e_aload_n f_174_83 rfl rfl ?_
          refine e_getf f_174_84 g23 rfl rfl ?_
          show px_to 174 87 [some (.ref (269)), some (.int (nI c)), some (.int (nI k))] [.int (nI b), .ref (269)] h22 _
          refine e_putp (vs' := mB ga gp gq gh gw gu (nI (a + 1), nI b, gv.2.2.1, gv.2.2.2.1, gv.2.2.2.2.1, gv.2.2.2.2.2.1, gv.2.2.2.2.2.2.1, gv.2.2.2.2.2.2.2.1, gv.2.2.2.2.2.2.2.2)) f_174_87 g23 (Nat.le_of_ble_eq_true rfl) (rfl) (rfl) rfl rfl (fun h30 g31 fx32 => ?_)
          have fr33 : px_fi 269 1 h0 h30 := fi_tr fr25 fx32 (by omega)
          refine e_iinc (y := nI (k + 1)) (L' := [some (.ref (269)), some (.int (nI c)), some (.int (nI (k + 1)))]) f_174_90 rfl (by rw [show Int32.ofInt 1 = nI 1 by decide]; exact (nI_add _ _)) rfl rfl ?_
          refine e_goto f_174_93 ?_
          first | (exfalso; omega) | exact ih (d - 1) (by omega) (k + 1) (a + 1) b h30 (by omega) (by omega) (by rw [drop_step (0, 0, 0, 0) (show k < ev.length by omega), evCnt, c_37] at q2; simp at q2; omega) (by rw [drop_step (0, 0, 0, 0) (show k < ev.length by omega), evCnt, c_71] at q3; simp at q3; omega) g31 fr33
        · skip
          have c_71 : (evOf ((ev.getD k (0, 0, 0, 0)).1) true) = true := bI_t' c_71
          refine e_aload_n f_174_74 rfl rfl ?_
          refine e_getf f_174_75 g23 rfl rfl ?_
          show px_to 174 78 [some (.ref (269)), some (.int (nI c)), some (.int (nI k))] [.int (nI b), .ref (269)] h22 _
          refine e_iconst (v := nI 1) f_174_78 (by decide) rfl ?_
          refine e_iadd (z := nI (b + 1)) f_174_79 (nI_add _ _) rfl ?_
          refine e_goto f_174_80 ?_
          refine e_putp (vs' := mB ga gp gq gh gw gu (nI (a + 1), nI (b + 1), gv.2.2.1, gv.2.2.2.1, gv.2.2.2.2.1, gv.2.2.2.2.2.1, gv.2.2.2.2.2.2.1, gv.2.2.2.2.2.2.2.1, gv.2.2.2.2.2.2.2.2)) f_174_87 g23 (Nat.le_of_ble_eq_true rfl) (rfl) (rfl) rfl rfl (fun h34 g35 fx36 => ?_)
          have fr37 : px_fi 269 1 h0 h34 := fi_tr fr25 fx36 (by omega)
          refine e_iinc (y := nI (k + 1)) (L' := [some (.ref (269)), some (.int (nI c)), some (.int (nI (k + 1)))]) f_174_90 rfl (by rw [show Int32.ofInt 1 = nI 1 by decide]; exact (nI_add _ _)) rfl rfl ?_
          refine e_goto f_174_93 ?_
          first | (exfalso; omega) | exact ih (d - 1) (by omega) (k + 1) (a + 1) (b + 1) h34 (by omega) (by omega) (by rw [drop_step (0, 0, 0, 0) (show k < ev.length by omega), evCnt, c_37] at q2; simp at q2; omega) (by rw [drop_step (0, 0, 0, 0) (show k < ev.length by omega), evCnt, c_71] at q3; simp at q3; omega) g35 fr37

set_option maxRecDepth 20000 in
set_option maxHeartbeats 4000000 in
theorem cc_Md_inp {h : px_H} {c : Nat} {ev : List Ev} {em : List Nat} {es : List Ev} {ga : gA} {gp : gP} {gq : gQ} {gh : gH} {gw : gW} {gu : gU} {gv : gV} (H0 : h.2.2 269 = some (12, mB ga gp gq gh gw gu gv)) (H1 : px_pa h 274 50 8 vN em) (H2 : px_pa h 275 52 192 evS es) (p0 : c < 8) (p1 : em.length = 8 ∧ es.length = 192) (p2 : em.getD c 0 = ev.length) (p3 : inE es c ev) (p4 : ev.length ≤ 24) (p5 : ∀ e ∈ ev, e.1 < 65536) : px_wp 174 [.ref (269), .int (nI c)] h (fun h1 r => r = none ∧ h1.2.2 269 = some (12, mB ga gp gq gh gw gu (nI (evCnt false ev), nI (evCnt true ev), gv.2.2.1, gv.2.2.2.1, gv.2.2.2.2.1, gv.2.2.2.2.2.1, gv.2.2.2.2.2.2.1, gv.2.2.2.2.2.2.2.1, gv.2.2.2.2.2.2.2.2)) ∧ px_fi 269 1 h h1) := by
  have fr0 : px_fi 269 1 h h := fi_rf _ _ _
  show px_to 174 0 [some (.ref (269)), some (.int (nI c)), none] [] h _
  refine e_aload_n f_174_0 rfl rfl ?_
  refine e_iconst (v := nI 0) f_174_1 (by decide) rfl ?_
  refine e_putp (vs' := mB ga gp gq gh gw gu (nI 0, gv.2.1, gv.2.2.1, gv.2.2.2.1, gv.2.2.2.2.1, gv.2.2.2.2.2.1, gv.2.2.2.2.2.2.1, gv.2.2.2.2.2.2.2.1, gv.2.2.2.2.2.2.2.2)) f_174_2 H0 (Nat.le_of_ble_eq_true rfl) (rfl) (rfl) rfl rfl (fun h1 g2 fx3 => ?_)
  have fr4 : px_fi 269 1 h h1 := fi_tr fr0 fx3 (by omega)
  refine e_aload_n f_174_5 rfl rfl ?_
  refine e_iconst (v := nI 0) f_174_6 (by decide) rfl ?_
  refine e_putp (vs' := mB ga gp gq gh gw gu (nI 0, nI 0, gv.2.2.1, gv.2.2.2.1, gv.2.2.2.2.1, gv.2.2.2.2.2.1, gv.2.2.2.2.2.2.1, gv.2.2.2.2.2.2.2.1, gv.2.2.2.2.2.2.2.2)) f_174_7 g2 (Nat.le_of_ble_eq_true rfl) (rfl) (rfl) rfl rfl (fun h5 g6 fx7 => ?_)
  have fr8 : px_fi 269 1 h h5 := fi_tr fr4 fx7 (by omega)
  refine e_iconst (v := nI 0) f_174_10 (by decide) rfl ?_
  refine e_istore_n (L' := [some (.ref (269)), some (.int (nI c)), some (.int (nI 0))]) f_174_11 (Nat.le_of_ble_eq_true rfl) rfl rfl ?_
  exact ll_Md_inp (h0 := h) H1 H2 p0 p1 p2 p3 p4 p5 ev.length 0 0 0 h5 (by omega) (by omega) (Nat.zero_add _) (Nat.zero_add _) g6 fr8

set_option maxRecDepth 20000 in
set_option maxHeartbeats 4000000 in
theorem ll_Md_plA {h0 : px_H} {c : Nat} {ev : List Ev} {em : List Nat} {es : List Ev} {ga : gA} {gp : gP} {gq : gQ} {gh : gH} {gw : gW} {gu : gU} {gv : gV} (HM : h0.2.2 269 = some (12, mB ga gp gq gh gw (nI ev.length, gu.2.1, gu.2.2) gv)) (p4 : ev.length ≤ 24) : ∀ (d : Nat) (i : Nat) (g : px_H), (ev.length ≤ i + d) → (i ≤ ev.length) → px_pa g 296 50 24 vN (List.range i) → px_fi 296 1 h0 g → px_to 157 12 [some (.ref (269)), some (.int (nI c)), some (.int (nI i))] [] g (fun h1 r => r = none ∧ px_pa h1 296 50 24 vN (List.range ev.length) ∧ px_fi 296 1 h0 h1) := by
  intro d
  induction d using Nat.strongRecOn with
  | ind d ih =>
    intro i g q0 q1 G0 frg
    refine e_iload_n f_157_12 rfl rfl ?_
    refine e_aload_n f_157_13 rfl rfl ?_
    have g1 : g.2.2 269 = some (12, mB ga gp gq gh gw (nI ev.length, gu.2.1, gu.2.2) gv) := fi_at HM frg (by omega)
    refine e_getf f_157_14 g1 rfl rfl ?_
    show px_to 157 17 [some (.ref (269)), some (.int (nI c)), some (.int (nI i))] [.int (nI ev.length), .int (nI i)] g _
    refine e_icmp_ge f_157_17 rfl (fun c_17 => ?_) (fun c_17 => ?_)
    · skip
      have c_17 : ev.length ≤ i := cv_le (by omega) (by omega) c_17
      refine e_vret f_157_33 rfl ?_
      have e : i = ev.length := by omega
      subst e
      exact ⟨rfl, G0, frg⟩
    · skip
      have c_17 : i < ev.length := cv_nle (by omega) (by omega) c_17
      refine e_aload_n f_157_20 rfl rfl ?_
      refine e_getf f_157_21 g1 rfl rfl ?_
      refine e_iload_n f_157_24 rfl rfl ?_
      refine e_iload_n f_157_25 rfl rfl ?_
      refine e_iastore_a (xs := List.range i) (x := i) f_157_26 G0 (by omega) (by rw [List.length_range]) (by omega) (rfl) rfl (fun h2 g3 fx4 => ?_)
      have fr5 : px_fi 296 1 h0 h2 := fi_tr frg fx4 (by omega)
      refine e_iinc (y := nI (i + 1)) (L' := [some (.ref (269)), some (.int (nI c)), some (.int (nI (i + 1)))]) f_157_27 rfl (by rw [show Int32.ofInt 1 = nI 1 by decide]; exact (nI_add _ _)) rfl rfl ?_
      refine e_goto f_157_30 ?_
      have g6 : px_pa h2 296 50 24 vN (List.range (i + 1)) := pa_eq g3 (by rw [List.range_succ])
      first | (exfalso; omega) | exact ih (d - 1) (by omega) (i + 1) h2 (by omega) (by omega) g6 fr5

set_option maxRecDepth 20000 in
set_option maxHeartbeats 4000000 in
theorem cc_Md_plA {h : px_H} {pl : List Nat} {c : Nat} {ev : List Ev} {em : List Nat} {es : List Ev} {ga : gA} {gp : gP} {gq : gQ} {gh : gH} {gw : gW} {gu : gU} {gv : gV} (H0 : h.2.2 269 = some (12, mB ga gp gq gh gw gu gv)) (H1 : px_pa h 296 50 24 vN pl) (H2 : px_pa h 274 50 8 vN em) (H3 : px_pa h 275 52 192 evS es) (p0 : c < 8) (p1 : em.length = 8 ∧ es.length = 192) (p2 : em.getD c 0 = ev.length) (p3 : inE es c ev) (p4 : ev.length ≤ 24) (p5 : ∀ e ∈ ev, e.1 < 65536) : px_wp 157 [.ref (269), .int (nI c)] h (fun h1 r => r = none ∧ h1.2.2 269 = some (12, mB ga gp gq gh gw (nI ev.length, gu.2.1, gu.2.2) gv) ∧ px_pa h1 296 50 24 vN (List.range ev.length) ∧ px_fj 269 1 296 1 h h1) := by
  have fr0 : px_fj 269 1 296 1 h h := fj_rf _ _ _ _ _
  show px_to 157 0 [some (.ref (269)), some (.int (nI c)), none] [] h _
  refine e_aload_n f_157_0 rfl rfl ?_
  refine e_aload_n f_157_1 rfl rfl ?_
  refine e_getf f_157_2 H0 rfl rfl ?_
  refine e_iload_n f_157_5 rfl rfl ?_
  refine e_iaload_p (xs := em) f_157_6 H2 (d := 0) (by first | omega | (simp only [List.length_set]; omega)) rfl ?_
  show px_to 157 7 [some (.ref (269)), some (.int (nI c)), none] [.int (nI (em.getD c 0)), .ref (269)] h _
  rw [p2]
  refine e_putp (vs' := mB ga gp gq gh gw (nI ev.length, gu.2.1, gu.2.2) gv) f_157_7 H0 (Nat.le_of_ble_eq_true rfl) (rfl) (rfl) rfl rfl (fun h1 g2 fx3 => ?_)
  have fr4 : px_fj 269 1 296 1 h h1 := fj_tr fr0 fx3 (by omega)
  refine e_iconst (v := nI 0) f_157_10 (by decide) rfl ?_
  refine e_istore_n (L' := [some (.ref (269)), some (.int (nI c)), some (.int (nI 0))]) f_157_11 (Nat.le_of_ble_eq_true rfl) rfl rfl ?_
  have g5 : px_pa h1 296 50 24 vN pl := pa_fi H1 fx3 (by omega)
  refine px_to_mono (ll_Md_plA (h0 := h1) (c := c) (ev := ev) (em := em) (es := es) g2 p4 ev.length 0 h1 (by omega) (by omega) (pa_nil g5) (fi_rf _ _ _)) (fun h1 r hr => ?_)
  obtain ⟨e1, e2, e3⟩ := hr
  exact ⟨e1, fi_at g2 e3 (by omega), e2, fj_tr fr4 e3 (by omega)⟩

set_option maxRecDepth 20000 in
set_option maxHeartbeats 4000000 in
theorem ll_Md_plP {h0 : px_H} {c : Nat} {ev : List Ev} {em : List Nat} {es : List Ev} {ga : gA} {gp : gP} {gq : gQ} {gh : gH} {gw : gW} {gu : gU} {gv : gV} (HE : px_pa h0 274 50 8 vN em) (HS : px_pa h0 275 52 192 evS es) (p0 : c < 8) (p1 : em.length = 8 ∧ es.length = 192) (p2 : em.getD c 0 = ev.length) (p3 : inE es c ev) (p4 : ev.length ≤ 24) (p5 : ∀ e ∈ ev, e.1 < 65536) : ∀ (d : Nat) (i : Nat) (pl : List Nat) (g : px_H), (ev.length ≤ i + d) → (i ≤ ev.length) → (pl ++ evPl (ev.drop i) i = evPl ev 0) → (pl.length ≤ i) → g.2.2 269 = some (12, mB ga gp gq gh gw (nI pl.length, gu.2.1, gu.2.2) gv) → px_pa g 296 50 24 vN pl → px_fj 269 1 296 1 h0 g → px_to 181 7 [some (.ref (269)), some (.int (nI c)), some (.int (nI i)), none] [] g (fun h1 r => r = none ∧ h1.2.2 269 = some (12, mB ga gp gq gh gw (nI ((evPl ev 0).length), gu.2.1, gu.2.2) gv) ∧ px_pa h1 296 50 24 vN (evPl ev 0) ∧ px_fj 269 1 296 1 h0 h1) := by
  intro d
  induction d using Nat.strongRecOn with
  | ind d ih =>
    intro i pl g q0 q1 q2 q3 G0 G1 frg
    refine e_iload_n f_181_7 rfl rfl ?_
    refine e_aload_n f_181_8 rfl rfl ?_
    refine e_getf f_181_9 G0 rfl rfl ?_
    refine e_iload_n f_181_12 rfl rfl ?_
    obtain ⟨hm2, fa3, fb4⟩ := fj_mid frg
    have g1 : px_pa g 274 50 8 vN em := pa_fi (pa_fi HE fa3 (by omega)) fb4 (by omega)
    refine e_iaload_p (xs := em) f_181_13 g1 (d := 0) (by first | omega | (simp only [List.length_set]; omega)) rfl ?_
    show px_to 181 14 [some (.ref (269)), some (.int (nI c)), some (.int (nI i)), none] [.int (nI (em.getD c 0)), .int (nI i)] g _
    rw [p2]
    refine e_icmp_ge f_181_14 rfl (fun c_14 => ?_) (fun c_14 => ?_)
    · skip
      have c_14 : ev.length ≤ i := cv_le (by omega) (by omega) c_14
      refine e_vret f_181_69 rfl ?_
      rw [List.drop_eq_nil_of_le (by omega), evPl, List.append_nil] at q2
      subst q2
      exact ⟨rfl, G0, G1, frg⟩
    · skip
      have c_14 : i < ev.length := cv_nle (by omega) (by omega) c_14
      refine e_aload_n f_181_17 rfl rfl ?_
      refine e_getf f_181_18 G0 rfl rfl ?_
      refine e_bipush (v := nI 24) f_181_21 (by decide) rfl ?_
      refine e_iload_n f_181_23 rfl rfl ?_
      refine e_imul (z := nI (24 * c)) f_181_24 (pk_mul _ _) rfl ?_
      refine e_iload_n f_181_25 rfl rfl ?_
      refine e_iadd (z := nI (24 * c + i)) f_181_26 (nI_add _ _) rfl ?_
      obtain ⟨hm6, fa7, fb8⟩ := fj_mid frg
      have g5 : px_pa g 275 52 192 evS es := pa_fi (pa_fi HS fa7 (by omega)) fb8 (by omega)
      refine e_caload_p (xs := es) f_181_27 g5 (d := (0, 0, 0, 0)) (by first | omega | (simp only [List.length_set]; omega)) rfl ?_
      show px_to 181 28 [some (.ref (269)), some (.int (nI c)), some (.int (nI i)), none] [.int (nI ((es.getD (24 * c + i) (0, 0, 0, 0)).1))] g _
      have hevi : es.getD (24 * c + i) (0, 0, 0, 0) = ev.getD i (0, 0, 0, 0) := p3 i (by omega)
      have hesi := p5 _ (getD_mem (0, 0, 0, 0) (show i < ev.length by omega))
      rw [hevi]
      refine e_istore_n (L' := [some (.ref (269)), some (.int (nI c)), some (.int (nI i)), some (.int (nI ((ev.getD i (0, 0, 0, 0)).1)))]) f_181_28 (Nat.le_of_ble_eq_true rfl) rfl rfl ?_
      refine e_iload_n f_181_29 rfl rfl ?_
      refine e_callS (As := [.int (nI ((ev.getD i (0, 0, 0, 0)).1))]) (rest := []) f_181_30 rfl rfl rfl (Nat.le_of_ble_eq_true rfl) (Nat.le_of_ble_eq_true rfl) (cc_Md_isOfA (s := (ev.getD i (0, 0, 0, 0)).1)  (hesi)) rfl (fun h9 r10 q11 => ?_)
      obtain ⟨rfl, qe⟩ := q11
      have qe := qe.symm
      subst qe
      show px_to 181 33 [some (.ref (269)), some (.int (nI c)), some (.int (nI i)), some (.int (nI ((ev.getD i (0, 0, 0, 0)).1)))] [.int (bI (evOf ((ev.getD i (0, 0, 0, 0)).1) false))] g _
      refine e_if_ne f_181_33 rfl (fun c_33 => ?_) (fun c_33 => ?_)
      · skip
        have c_33 : (evOf ((ev.getD i (0, 0, 0, 0)).1) false) = true := bI_t c_33
        refine e_aload_n f_181_43 rfl rfl ?_
        refine e_getf f_181_44 G0 rfl rfl ?_
        refine e_aload_n f_181_47 rfl rfl ?_
        refine e_getf f_181_48 G0 rfl rfl ?_
        show px_to 181 51 [some (.ref (269)), some (.int (nI c)), some (.int (nI i)), some (.int (nI ((ev.getD i (0, 0, 0, 0)).1)))] [.int (nI pl.length), .ref (296)] g _
        refine e_iload_n f_181_51 rfl rfl ?_
        refine e_iastore_a (xs := pl) (x := i) f_181_52 G1 (by omega) (rfl) (by omega) (rfl) rfl (fun h12 g13 fx14 => ?_)
        have fr15 : px_fj 269 1 296 1 h0 h12 := fj_tr frg fx14 (by omega)
        refine e_aload_n f_181_53 rfl rfl ?_
        refine e_dup f_181_54 rfl rfl ?_
        have g16 : h12.2.2 269 = some (12, mB ga gp gq gh gw (nI pl.length, gu.2.1, gu.2.2) gv) := fi_at G0 fx14 (by omega)
        refine e_getf f_181_55 g16 rfl rfl ?_
        show px_to 181 58 [some (.ref (269)), some (.int (nI c)), some (.int (nI i)), some (.int (nI ((ev.getD i (0, 0, 0, 0)).1)))] [.int (nI pl.length), .ref (269)] h12 _
        refine e_iconst (v := nI 1) f_181_58 (by decide) rfl ?_
        refine e_iadd (z := nI (pl.length + 1)) f_181_59 (nI_add _ _) rfl ?_
        refine e_putp (vs' := mB ga gp gq gh gw (nI (pl.length + 1), gu.2.1, gu.2.2) gv) f_181_60 g16 (Nat.le_of_ble_eq_true rfl) (rfl) (rfl) rfl rfl (fun h17 g18 fx19 => ?_)
        have fr20 : px_fj 269 1 296 1 h0 h17 := fj_tr fr15 fx19 (by omega)
        refine e_iinc (y := nI (i + 1)) (L' := [some (.ref (269)), some (.int (nI c)), some (.int (nI (i + 1))), some (.int (nI ((ev.getD i (0, 0, 0, 0)).1)))]) f_181_63 rfl (by rw [show Int32.ofInt 1 = nI 1 by decide]; exact (nI_add _ _)) rfl rfl ?_
        refine e_goto f_181_66 ?_
        have g21 : h17.2.2 269 = some (12, mB ga gp gq gh gw (nI ((pl ++ [i]).length), gu.2.1, gu.2.2) gv) := by rw [List.length_append, List.length_singleton]; exact g18
        refine px_to_L (L := [some (.ref (269)), some (.int (nI c)), some (.int (nI (i + 1))), none]) ⟨Or.inr rfl, Or.inr rfl, Or.inr rfl, Or.inl rfl, trivial⟩ ?_
        have g22 : px_pa h17 296 50 24 vN (pl ++ [i]) := pa_fi g13 fx19 (by omega)
        first | (exfalso; omega) | exact ih (d - 1) (by omega) (i + 1) (pl ++ [i]) h17 (by omega) (by omega) (by rw [← q2, drop_step (0, 0, 0, 0) (show i < ev.length by omega), evPl, c_33]; simp) (by rw [List.length_append, List.length_singleton]; omega) g21 g22 fr20
      · skip
        have c_33 : (evOf ((ev.getD i (0, 0, 0, 0)).1) false) = false := bI_f' c_33
        refine e_iload_n f_181_36 rfl rfl ?_
        refine e_callS (As := [.int (nI ((ev.getD i (0, 0, 0, 0)).1))]) (rest := []) f_181_37 rfl rfl rfl (Nat.le_of_ble_eq_true rfl) (Nat.le_of_ble_eq_true rfl) (cc_Md_isOfB (s := (ev.getD i (0, 0, 0, 0)).1)  (hesi)) rfl (fun h23 r24 q25 => ?_)
        obtain ⟨rfl, qe⟩ := q25
        have qe := qe.symm
        subst qe
        show px_to 181 40 [some (.ref (269)), some (.int (nI c)), some (.int (nI i)), some (.int (nI ((ev.getD i (0, 0, 0, 0)).1)))] [.int (bI (evOf ((ev.getD i (0, 0, 0, 0)).1) true))] g _
        refine e_if_eq f_181_40 rfl (fun c_40 => ?_) (fun c_40 => ?_)
        · skip
          have c_40 : (evOf ((ev.getD i (0, 0, 0, 0)).1) true) = false := bI_f c_40
          refine e_iinc (y := nI (i + 1)) (L' := [some (.ref (269)), some (.int (nI c)), some (.int (nI (i + 1))), some (.int (nI ((ev.getD i (0, 0, 0, 0)).1)))]) f_181_63 rfl (by rw [show Int32.ofInt 1 = nI 1 by decide]; exact (nI_add _ _)) rfl rfl ?_
          refine e_goto f_181_66 ?_
          refine px_to_L (L := [some (.ref (269)), some (.int (nI c)), some (.int (nI (i + 1))), none]) ⟨Or.inr rfl, Or.inr rfl, Or.inr rfl, Or.inl rfl, trivial⟩ ?_
          first | (exfalso; omega) | exact ih (d - 1) (by omega) (i + 1) pl g (by omega) (by omega) (by rw [← q2, drop_step (0, 0, 0, 0) (show i < ev.length by omega), evPl, c_33, c_40]; simp) (by omega) G0 G1 frg
        · skip
          have c_40 : (evOf ((ev.getD i (0, 0, 0, 0)).1) true) = true := bI_t' c_40
          refine e_aload_n f_181_43 rfl rfl ?_
          refine e_getf f_181_44 G0 rfl rfl ?_
          refine e_aload_n f_181_47 rfl rfl ?_
          refine e_getf f_181_48 G0 rfl rfl ?_
          show px_to 181 51 [some (.ref (269)), some (.int (nI c)), some (.int (nI i)), some (.int (nI ((ev.getD i (0, 0, 0, 0)).1)))] [.int (nI pl.length), .ref (296)] g _
          refine e_iload_n f_181_51 rfl rfl ?_
          refine e_iastore_a (xs := pl) (x := i) f_181_52 G1 (by omega) (rfl) (by omega) (rfl) rfl (fun h26 g27 fx28 => ?_)
          have fr29 : px_fj 269 1 296 1 h0 h26 := fj_tr frg fx28 (by omega)
          refine e_aload_n f_181_53 rfl rfl ?_
          refine e_dup f_181_54 rfl rfl ?_
          have g30 : h26.2.2 269 = some (12, mB ga gp gq gh gw (nI pl.length, gu.2.1, gu.2.2) gv) := fi_at G0 fx28 (by omega)
          refine e_getf f_181_55 g30 rfl rfl ?_
          show px_to 181 58 [some (.ref (269)), some (.int (nI c)), some (.int (nI i)), some (.int (nI ((ev.getD i (0, 0, 0, 0)).1)))] [.int (nI pl.length), .ref (269)] h26 _
          refine e_iconst (v := nI 1) f_181_58 (by decide) rfl ?_
          refine e_iadd (z := nI (pl.length + 1)) f_181_59 (nI_add _ _) rfl ?_
          refine e_putp (vs' := mB ga gp gq gh gw (nI (pl.length + 1), gu.2.1, gu.2.2) gv) f_181_60 g30 (Nat.le_of_ble_eq_true rfl) (rfl) (rfl) rfl rfl (fun h31 g32 fx33 => ?_)
          have fr34 : px_fj 269 1 296 1 h0 h31 := fj_tr fr29 fx33 (by omega)
          refine e_iinc (y := nI (i + 1)) (L' := [some (.ref (269)), some (.int (nI c)), some (.int (nI (i + 1))), some (.int (nI ((ev.getD i (0, 0, 0, 0)).1)))]) f_181_63 rfl (by rw [show Int32.ofInt 1 = nI 1 by decide]; exact (nI_add _ _)) rfl rfl ?_
          refine e_goto f_181_66 ?_
          have g35 : h31.2.2 269 = some (12, mB ga gp gq gh gw (nI ((pl ++ [i]).length), gu.2.1, gu.2.2) gv) := by rw [List.length_append, List.length_singleton]; exact g32
          refine px_to_L (L := [some (.ref (269)), some (.int (nI c)), some (.int (nI (i + 1))), none]) ⟨Or.inr rfl, Or.inr rfl, Or.inr rfl, Or.inl rfl, trivial⟩ ?_
          have g36 : px_pa h31 296 50 24 vN (pl ++ [i]) := pa_fi g27 fx33 (by omega)
          first | (exfalso; omega) | exact ih (d - 1) (by omega) (i + 1) (pl ++ [i]) h31 (by omega) (by omega) (by rw [← q2, drop_step (0, 0, 0, 0) (show i < ev.length by omega), evPl, c_33, c_40]; simp) (by rw [List.length_append, List.length_singleton]; omega) g35 g36 fr34

set_option maxRecDepth 20000 in
set_option maxHeartbeats 4000000 in
theorem cc_Md_plP {h : px_H} {pl : List Nat} {c : Nat} {ev : List Ev} {em : List Nat} {es : List Ev} {ga : gA} {gp : gP} {gq : gQ} {gh : gH} {gw : gW} {gu : gU} {gv : gV} (H0 : h.2.2 269 = some (12, mB ga gp gq gh gw gu gv)) (H1 : px_pa h 296 50 24 vN pl) (H2 : px_pa h 274 50 8 vN em) (H3 : px_pa h 275 52 192 evS es) (p0 : c < 8) (p1 : em.length = 8 ∧ es.length = 192) (p2 : em.getD c 0 = ev.length) (p3 : inE es c ev) (p4 : ev.length ≤ 24) (p5 : ∀ e ∈ ev, e.1 < 65536) : px_wp 181 [.ref (269), .int (nI c)] h (fun h1 r => r = none ∧ h1.2.2 269 = some (12, mB ga gp gq gh gw (nI ((evPl ev 0).length), gu.2.1, gu.2.2) gv) ∧ px_pa h1 296 50 24 vN (evPl ev 0) ∧ px_fj 269 1 296 1 h h1) := by
  have fr0 : px_fj 269 1 296 1 h h := fj_rf _ _ _ _ _
  show px_to 181 0 [some (.ref (269)), some (.int (nI c)), none, none] [] h _
  refine e_aload_n f_181_0 rfl rfl ?_
  refine e_iconst (v := nI 0) f_181_1 (by decide) rfl ?_
  refine e_putp (vs' := mB ga gp gq gh gw (nI 0, gu.2.1, gu.2.2) gv) f_181_2 H0 (Nat.le_of_ble_eq_true rfl) (rfl) (rfl) rfl rfl (fun h1 g2 fx3 => ?_)
  have fr4 : px_fj 269 1 296 1 h h1 := fj_tr fr0 fx3 (by omega)
  refine e_iconst (v := nI 0) f_181_5 (by decide) rfl ?_
  refine e_istore_n (L' := [some (.ref (269)), some (.int (nI c)), some (.int (nI 0)), none]) f_181_6 (Nat.le_of_ble_eq_true rfl) rfl rfl ?_
  have g5 : px_pa h1 296 50 24 vN pl := pa_fi H1 fx3 (by omega)
  exact ll_Md_plP (h0 := h) H2 H3 p0 p1 p2 p3 p4 p5 ev.length 0 [] h1 (by omega) (by omega) rfl (by simp) g2 (pa_nil g5) fr4

set_option maxRecDepth 20000 in
set_option maxHeartbeats 4000000 in
theorem ll_Md_nx {P : px_H → Option Value → Prop} {h : px_H} {n f0 : Nat} {b : Bool} {c : Nat} {ev : List Ev} {em : List Nat} {es : List Ev} {ga : gA} {gp : gP} {gq : gQ} {gh : gH} {gw : gW} {gu : gU} {gv : gV} (HM : h.2.2 269 = some (12, mB ga gp gq gh gw gu gv)) (HS : px_pa h 275 52 192 evS es) (p0 : c < 8) (p1 : es.length = 192) (p3 : inE es c ev) (p4 : ev.length ≤ 24) (p5 : ∀ e ∈ ev, e.1 < 65536) (hk : ∀ {r}, r = some (.int (nI n)) → P h r) : ∀ (d : Nat) (k : Nat), (ev.length ≤ k + d) → (0 < evCnt b (ev.drop k)) → (k + evNext b (ev.drop k) = n) → px_to 182 3 [some (.ref (269)), some (.int (nI c)), some (.int (nI f0)), some (.int (bI b)), some (.int (nI k))] [] h P := by
  intro d
  induction d using Nat.strongRecOn with
  | ind d ih =>
    intro k q0 q1 q2
    refine e_iload_n f_182_3 rfl rfl ?_
    refine e_if_eq f_182_4 rfl (fun c_4 => ?_) (fun c_4 => ?_)
    · skip
      have c_4 : b = false := bI_f c_4
      have hkl : k < ev.length := by apply Classical.byContradiction; intro z; rw [List.drop_eq_nil_of_le (by omega)] at q1; exact absurd q1 (Nat.lt_irrefl _)
      refine e_aload_n f_182_28 rfl rfl ?_
      refine e_getf f_182_29 HM rfl rfl ?_
      refine e_bipush (v := nI 24) f_182_32 (by decide) rfl ?_
      refine e_iload_n f_182_34 rfl rfl ?_
      refine e_imul (z := nI (24 * c)) f_182_35 (pk_mul _ _) rfl ?_
      refine e_iload f_182_36 rfl rfl ?_
      refine e_iadd (z := nI (24 * c + k)) f_182_38 (nI_add _ _) rfl ?_
      refine e_caload_p (xs := es) f_182_39 HS (d := (0, 0, 0, 0)) (by first | omega | (simp only [List.length_set]; omega)) rfl ?_
      show px_to 182 40 [some (.ref (269)), some (.int (nI c)), some (.int (nI f0)), some (.int (bI b)), some (.int (nI k))] [.int (nI ((es.getD (24 * c + k) (0, 0, 0, 0)).1))] h _
      have hevk : es.getD (24 * c + k) (0, 0, 0, 0) = ev.getD k (0, 0, 0, 0) := p3 k (by omega)
      have hesk := p5 _ (getD_mem (0, 0, 0, 0) (show k < ev.length by omega))
      rw [hevk]
      refine e_callS (As := [.int (nI ((ev.getD k (0, 0, 0, 0)).1))]) (rest := []) f_182_40 rfl rfl rfl (Nat.le_of_ble_eq_true rfl) (Nat.le_of_ble_eq_true rfl) (cc_Md_isOfA (s := (ev.getD k (0, 0, 0, 0)).1)  (hesk)) rfl (fun h1 r2 q3 => ?_)
      obtain ⟨rfl, qe⟩ := q3
      have qe := qe.symm
      subst qe
      show px_to 182 43 [some (.ref (269)), some (.int (nI c)), some (.int (nI f0)), some (.int (bI b)), some (.int (nI k))] [.int (bI (evOf ((ev.getD k (0, 0, 0, 0)).1) false))] h _
      refine e_if_ne f_182_43 rfl (fun c_43 => ?_) (fun c_43 => ?_)
      · skip
        have c_43 : (evOf ((ev.getD k (0, 0, 0, 0)).1) false) = true := bI_t c_43
        refine e_iload f_182_52 rfl rfl ?_
        refine e_iret f_182_54 rfl (rfl) ?_
        have hc0 : evOf (ev.getD k (0, 0, 0, 0)).1 b = true := by rw [c_4]; exact c_43
        rw [drop_step (0, 0, 0, 0) (show k < ev.length by omega), evNext, hc0] at q2
        exact hk (by rw [← q2]; rfl)
      · skip
        have c_43 : (evOf ((ev.getD k (0, 0, 0, 0)).1) false) = false := bI_f' c_43
        refine e_iinc (y := nI (k + 1)) (L' := [some (.ref (269)), some (.int (nI c)), some (.int (nI f0)), some (.int (bI b)), some (.int (nI (k + 1)))]) f_182_46 rfl (by rw [show Int32.ofInt 1 = nI 1 by decide]; exact (nI_add _ _)) rfl rfl ?_
        refine e_goto f_182_49 ?_
        have hc0 : evOf (ev.getD k (0, 0, 0, 0)).1 b = false := by rw [c_4]; exact c_43
        first | (exfalso; omega) | exact ih (d - 1) (by omega) (k + 1)  (by omega) (by rw [drop_step (0, 0, 0, 0) (show k < ev.length by omega), evCnt, hc0] at q1; simp at q1; exact q1) (by rw [drop_step (0, 0, 0, 0) (show k < ev.length by omega), evNext, hc0] at q2; simp at q2; omega)  
    · skip
      have c_4 : b = true := bI_t' c_4
      have hkl : k < ev.length := by apply Classical.byContradiction; intro z; rw [List.drop_eq_nil_of_le (by omega)] at q1; exact absurd q1 (Nat.lt_irrefl _)
      refine e_aload_n f_182_7 rfl rfl ?_
      refine e_getf f_182_8 HM rfl rfl ?_
      refine e_bipush (v := nI 24) f_182_11 (by decide) rfl ?_
      refine e_iload_n f_182_13 rfl rfl ?_
      refine e_imul (z := nI (24 * c)) f_182_14 (pk_mul _ _) rfl ?_
      refine e_iload f_182_15 rfl rfl ?_
      refine e_iadd (z := nI (24 * c + k)) f_182_17 (nI_add _ _) rfl ?_
      refine e_caload_p (xs := es) f_182_18 HS (d := (0, 0, 0, 0)) (by first | omega | (simp only [List.length_set]; omega)) rfl ?_
      show px_to 182 19 [some (.ref (269)), some (.int (nI c)), some (.int (nI f0)), some (.int (bI b)), some (.int (nI k))] [.int (nI ((es.getD (24 * c + k) (0, 0, 0, 0)).1))] h _
      have hevk : es.getD (24 * c + k) (0, 0, 0, 0) = ev.getD k (0, 0, 0, 0) := p3 k (by omega)
      have hesk := p5 _ (getD_mem (0, 0, 0, 0) (show k < ev.length by omega))
      rw [hevk]
      refine e_callS (As := [.int (nI ((ev.getD k (0, 0, 0, 0)).1))]) (rest := []) f_182_19 rfl rfl rfl (Nat.le_of_ble_eq_true rfl) (Nat.le_of_ble_eq_true rfl) (cc_Md_isOfB (s := (ev.getD k (0, 0, 0, 0)).1)  (hesk)) rfl (fun h4 r5 q6 => ?_)
      obtain ⟨rfl, qe⟩ := q6
      have qe := qe.symm
      subst qe
      show px_to 182 22 [some (.ref (269)), some (.int (nI c)), some (.int (nI f0)), some (.int (bI b)), some (.int (nI k))] [.int (bI (evOf ((ev.getD k (0, 0, 0, 0)).1) true))] h _
      refine e_if_ne f_182_22 rfl (fun c_22 => ?_) (fun c_22 => ?_)
      · skip
        have c_22 : (evOf ((ev.getD k (0, 0, 0, 0)).1) true) = true := bI_t c_22
        refine e_iload f_182_52 rfl rfl ?_
        refine e_iret f_182_54 rfl (rfl) ?_
        have hc0 : evOf (ev.getD k (0, 0, 0, 0)).1 b = true := by rw [c_4]; exact c_22
        rw [drop_step (0, 0, 0, 0) (show k < ev.length by omega), evNext, hc0] at q2
        exact hk (by rw [← q2]; rfl)
      · skip
        have c_22 : (evOf ((ev.getD k (0, 0, 0, 0)).1) true) = false := bI_f' c_22
        refine e_goto f_182_25 ?_
        refine e_iinc (y := nI (k + 1)) (L' := [some (.ref (269)), some (.int (nI c)), some (.int (nI f0)), some (.int (bI b)), some (.int (nI (k + 1)))]) f_182_46 rfl (by rw [show Int32.ofInt 1 = nI 1 by decide]; exact (nI_add _ _)) rfl rfl ?_
        refine e_goto f_182_49 ?_
        have hc0 : evOf (ev.getD k (0, 0, 0, 0)).1 b = false := by rw [c_4]; exact c_22
        first | (exfalso; omega) | exact ih (d - 1) (by omega) (k + 1)  (by omega) (by rw [drop_step (0, 0, 0, 0) (show k < ev.length by omega), evCnt, hc0] at q1; simp at q1; exact q1) (by rw [drop_step (0, 0, 0, 0) (show k < ev.length by omega), evNext, hc0] at q2; simp at q2; omega)  

set_option maxRecDepth 20000 in
set_option maxHeartbeats 4000000 in
theorem cc_Md_nx {h : px_H} {f : Nat} {b : Bool} {c : Nat} {ev : List Ev} {em : List Nat} {es : List Ev} {ga : gA} {gp : gP} {gq : gQ} {gh : gH} {gw : gW} {gu : gU} {gv : gV} (H0 : h.2.2 269 = some (12, mB ga gp gq gh gw gu gv)) (H1 : px_pa h 275 52 192 evS es) (p0 : c < 8) (p1 : es.length = 192) (p2 : True) (p3 : inE es c ev) (p4 : ev.length ≤ 24) (p5 : ∀ e ∈ ev, e.1 < 65536) (p6 : 0 < evCnt b (ev.drop f)) : px_wp 182 [.ref (269), .int (nI c), .int (nI f), .int (bI b)] h (fun h1 r => r = some (.int (nI (f + evNext b (ev.drop f)))) ∧ h1 = h) := by
  show px_to 182 0 [some (.ref (269)), some (.int (nI c)), some (.int (nI f)), some (.int (bI b)), none] [] h _
  refine e_iload_n f_182_0 rfl rfl ?_
  refine e_istore (L' := [some (.ref (269)), some (.int (nI c)), some (.int (nI f)), some (.int (bI b)), some (.int (nI f))]) f_182_1 (Nat.le_of_ble_eq_true rfl) rfl rfl ?_
  exact ll_Md_nx (f0 := f) (em := em) H0 H1 p0 p1 p3 p4 p5 (fun e => ⟨e, rfl⟩) ev.length f (by omega) p6 rfl

set_option maxRecDepth 20000 in
set_option maxHeartbeats 4000000 in
theorem ll_Md_plB {h0 : px_H} {bits : Int32} {c : Nat} {ev : List Ev} {em : List Nat} {es : List Ev} {ga : gA} {gp : gP} {gq : gQ} {gh : gH} {gw : gW} {gu : gU} {gv : gV} (HM : h0.2.2 269 = some (12, mB ga gp gq gh gw (nI (nAB ev), gu.2.1, gu.2.2) (nI (evCnt false ev), nI (evCnt true ev), gv.2.2.1, gv.2.2.2.1, gv.2.2.2.2.1, gv.2.2.2.2.2.1, gv.2.2.2.2.2.2.1, gv.2.2.2.2.2.2.2.1, gv.2.2.2.2.2.2.2.2))) (HS : px_pa h0 275 52 192 evS es) (p0 : c < 8) (p1 : es.length = 192) (p3 : inE es c ev) (p4 : ev.length ≤ 24) (p5 : ∀ e ∈ ev, e.1 < 65536) : ∀ (d : Nat) (i : Nat) (fa : Nat) (fb : Nat) (pl : List Nat) (g : px_H), (nAB ev ≤ i + d) → (i ≤ nAB ev) → (fa ≤ ev.length) → (fb ≤ ev.length) → (schOk ev ((bsOf bits (nAB ev)).drop i) fa fb) → (pl ++ schL ev ((bsOf bits (nAB ev)).drop i) fa fb = schL ev (bsOf bits (nAB ev)) 0 0) → (pl.length = i) → px_pa g 296 50 24 vN pl → px_fi 296 1 h0 g → px_to 183 21 [some (.ref (269)), some (.int (nI c)), some (.int (bits)), some (.int (nI fa)), some (.int (nI fb)), some (.int (nI i)), none, none] [] g (fun h1 r => r = none ∧ px_pa h1 296 50 24 vN (schL ev (bsOf bits (nAB ev)) 0 0) ∧ px_fi 296 1 h0 h1) := by
  intro d
  induction d using Nat.strongRecOn with
  | ind d ih =>
    intro i fa fb pl g q0 q1 q2 q3 q4 q5 q6 G0 frg
    have lb : nAB ev ≤ ev.length := evCnt_sum ev
    refine e_iload f_183_21 rfl rfl ?_
    refine e_aload_n f_183_23 rfl rfl ?_
    have g1 : g.2.2 269 = some (12, mB ga gp gq gh gw (nI (nAB ev), gu.2.1, gu.2.2) (nI (evCnt false ev), nI (evCnt true ev), gv.2.2.1, gv.2.2.2.1, gv.2.2.2.2.1, gv.2.2.2.2.2.1, gv.2.2.2.2.2.2.1, gv.2.2.2.2.2.2.2.1, gv.2.2.2.2.2.2.2.2)) := fi_at HM frg (by omega)
    refine e_getf f_183_24 g1 rfl rfl ?_
    show px_to 183 27 [some (.ref (269)), some (.int (nI c)), some (.int (bits)), some (.int (nI fa)), some (.int (nI fb)), some (.int (nI i)), none, none] [.int (nI (nAB ev)), .int (nI i)] g _
    refine e_icmp_ge f_183_27 rfl (fun c_27 => ?_) (fun c_27 => ?_)
    · skip
      have c_27 : nAB ev ≤ i := cv_le (by omega) (by omega) c_27
      refine e_vret f_183_112 rfl ?_
      rw [List.drop_eq_nil_of_le (by rw [bsOf_len]; omega), schL, List.append_nil] at q5
      subst q5
      exact ⟨rfl, G0, frg⟩
    · skip
      have c_27 : i < nAB ev := cv_nle (by omega) (by omega) c_27
      refine e_iload_n f_183_30 rfl rfl ?_
      refine e_iload f_183_31 rfl rfl ?_
      refine e_ishr (z := bits >>> ((nI i) &&& 31)) f_183_33 rfl rfl ?_
      refine e_iconst (v := nI 1) f_183_34 (by decide) rfl ?_
      refine e_iand (z := (bits >>> ((nI i) &&& 31)) &&& (nI 1)) f_183_35 rfl rfl ?_
      refine e_iconst (v := nI 1) f_183_36 (by decide) rfl ?_
      refine e_icmp_ne f_183_37 rfl (fun c_37 => ?_) (fun c_37 => ?_)
      · skip
        refine e_iconst (v := nI 0) f_183_44 (by decide) rfl ?_
        have hbt : bitB bits i = false := decide_eq_false c_37
        rw [bsOf_drop (by omega), hbt] at q4 q5
        obtain ⟨hp1, hok⟩ := schOk_a q4
        have hpos : 0 < evCnt false (ev.drop fa) := by have z := q4.1; rw [List.count_cons_self] at z; omega
        rw [schL, if_neg (by decide)] at q5
        show px_to 183 45 [some (.ref (269)), some (.int (nI c)), some (.int (bits)), some (.int (nI fa)), some (.int (nI fb)), some (.int (nI i)), none, none] [.int (bI false)] g _
        refine e_istore (L' := [some (.ref (269)), some (.int (nI c)), some (.int (bits)), some (.int (nI fa)), some (.int (nI fb)), some (.int (nI i)), some (.int (bI false)), none]) f_183_45 (Nat.le_of_ble_eq_true rfl) rfl rfl ?_
        refine e_aload_n f_183_47 rfl rfl ?_
        refine e_iload_n f_183_48 rfl rfl ?_
        refine e_iload f_183_49 rfl rfl ?_
        refine e_if_eq_t f_183_51 (by decide) ?_
        refine e_iload_n f_183_59 rfl rfl ?_
        refine e_iload f_183_60 rfl rfl ?_
        have g2 : px_pa g 275 52 192 evS es := pa_fi HS frg (by omega)
        refine e_callV (As := [.int (nI c), .int (nI fa), .int (bI false)]) (rest := []) f_183_62 rfl rfl rfl (Nat.le_of_ble_eq_true rfl) (Nat.le_of_ble_eq_true rfl) g1 rfl (Nat.le_of_ble_eq_true rfl) (cc_Md_nx (f := fa) (b := false) (c := c) (ev := ev) (em := []) (es := es) (ga := ga) (gp := gp) (gq := gq) (gh := gh) (gw := gw) (gu := (nI (nAB ev), gu.2.1, gu.2.2)) (gv := (nI (evCnt false ev), nI (evCnt true ev), gv.2.2.1, gv.2.2.2.1, gv.2.2.2.2.1, gv.2.2.2.2.2.1, gv.2.2.2.2.2.2.1, gv.2.2.2.2.2.2.2.1, gv.2.2.2.2.2.2.2.2)) g1 g2 (by omega) (by omega) (trivial) (p3) (by omega) (p5) (hpos)) rfl (fun h3 r4 q5 => ?_)
        obtain ⟨rfl, qe⟩ := q5
        have qe := qe.symm
        subst qe
        show px_to 183 65 [some (.ref (269)), some (.int (nI c)), some (.int (bits)), some (.int (nI fa)), some (.int (nI fb)), some (.int (nI i)), some (.int (bI false)), none] [.int (nI (fa + evNext false (ev.drop fa)))] g _
        refine e_istore (L' := [some (.ref (269)), some (.int (nI c)), some (.int (bits)), some (.int (nI fa)), some (.int (nI fb)), some (.int (nI i)), some (.int (bI false)), some (.int (nI (fa + evNext false (ev.drop fa))))]) f_183_65 (Nat.le_of_ble_eq_true rfl) rfl rfl ?_
        refine e_aload_n f_183_67 rfl rfl ?_
        refine e_getf f_183_68 g1 rfl rfl ?_
        refine e_iload f_183_71 rfl rfl ?_
        refine e_iload f_183_73 rfl rfl ?_
        refine e_iastore_a (xs := pl) (x := fa + evNext false (ev.drop fa)) f_183_75 G0 (by omega) (by omega) (by omega) (rfl) rfl (fun h6 g7 fx8 => ?_)
        have fr9 : px_fi 296 1 h0 h6 := fi_tr frg fx8 (by omega)
        refine e_iload f_183_76 rfl rfl ?_
        refine e_if_eq_t f_183_78 (by decide) ?_
        refine e_iload f_183_85 rfl rfl ?_
        refine e_iconst (v := nI 1) f_183_87 (by decide) rfl ?_
        refine e_iadd (z := nI (fa + evNext false (ev.drop fa) + 1)) f_183_88 (nI_add _ _) rfl ?_
        refine e_istore_n (L' := [some (.ref (269)), some (.int (nI c)), some (.int (bits)), some (.int (nI (fa + evNext false (ev.drop fa) + 1))), some (.int (nI fb)), some (.int (nI i)), some (.int (bI false)), some (.int (nI (fa + evNext false (ev.drop fa))))]) f_183_89 (Nat.le_of_ble_eq_true rfl) rfl rfl ?_
        refine e_iload f_183_90 rfl rfl ?_
        refine e_if_eq_t f_183_92 (by decide) ?_
        refine e_iload f_183_102 rfl rfl ?_
        refine e_istore (L' := [some (.ref (269)), some (.int (nI c)), some (.int (bits)), some (.int (nI (fa + evNext false (ev.drop fa) + 1))), some (.int (nI fb)), some (.int (nI i)), some (.int (bI false)), some (.int (nI (fa + evNext false (ev.drop fa))))]) f_183_104 (Nat.le_of_ble_eq_true rfl) rfl rfl ?_
        refine e_iinc (y := nI (i + 1)) (L' := [some (.ref (269)), some (.int (nI c)), some (.int (bits)), some (.int (nI (fa + evNext false (ev.drop fa) + 1))), some (.int (nI fb)), some (.int (nI (i + 1))), some (.int (bI false)), some (.int (nI (fa + evNext false (ev.drop fa))))]) f_183_106 rfl (by rw [show Int32.ofInt 1 = nI 1 by decide]; exact (nI_add _ _)) rfl rfl ?_
        refine e_goto f_183_109 ?_
        refine px_to_L (L := [some (.ref (269)), some (.int (nI c)), some (.int (bits)), some (.int (nI (fa + evNext false (ev.drop fa) + 1))), some (.int (nI fb)), some (.int (nI (i + 1))), none, none]) ⟨Or.inr rfl, Or.inr rfl, Or.inr rfl, Or.inr rfl, Or.inr rfl, Or.inr rfl, Or.inl rfl, Or.inl rfl, trivial⟩ ?_
        first | (exfalso; omega) | exact ih (d - 1) (by omega) (i + 1) (fa + evNext false (ev.drop fa) + 1) fb (pl ++ [fa + evNext false (ev.drop fa)]) h6 (by omega) (by omega) (by omega) (by omega) (hok) (by rw [List.append_assoc]; exact q5) (by rw [List.length_append, List.length_singleton]; omega) g7 fr9
      · skip
        refine e_iconst (v := nI 1) f_183_40 (by decide) rfl ?_
        refine e_goto f_183_41 ?_
        have hbt : bitB bits i = true := decide_eq_true (Classical.not_not.mp c_37)
        rw [bsOf_drop (by omega), hbt] at q4 q5
        obtain ⟨hp1, hok⟩ := schOk_b q4
        have hpos : 0 < evCnt true (ev.drop fb) := by have z := q4.2; rw [List.count_cons_self] at z; omega
        rw [schL, if_pos rfl] at q5
        show px_to 183 45 [some (.ref (269)), some (.int (nI c)), some (.int (bits)), some (.int (nI fa)), some (.int (nI fb)), some (.int (nI i)), none, none] [.int (bI true)] g _
        refine e_istore (L' := [some (.ref (269)), some (.int (nI c)), some (.int (bits)), some (.int (nI fa)), some (.int (nI fb)), some (.int (nI i)), some (.int (bI true)), none]) f_183_45 (Nat.le_of_ble_eq_true rfl) rfl rfl ?_
        refine e_aload_n f_183_47 rfl rfl ?_
        refine e_iload_n f_183_48 rfl rfl ?_
        refine e_iload f_183_49 rfl rfl ?_
        refine e_if_eq_f f_183_51 (by decide) rfl ?_
        refine e_iload f_183_54 rfl rfl ?_
        refine e_goto f_183_56 ?_
        refine e_iload f_183_60 rfl rfl ?_
        have g10 : px_pa g 275 52 192 evS es := pa_fi HS frg (by omega)
        refine e_callV (As := [.int (nI c), .int (nI fb), .int (bI true)]) (rest := []) f_183_62 rfl rfl rfl (Nat.le_of_ble_eq_true rfl) (Nat.le_of_ble_eq_true rfl) g1 rfl (Nat.le_of_ble_eq_true rfl) (cc_Md_nx (f := fb) (b := true) (c := c) (ev := ev) (em := []) (es := es) (ga := ga) (gp := gp) (gq := gq) (gh := gh) (gw := gw) (gu := (nI (nAB ev), gu.2.1, gu.2.2)) (gv := (nI (evCnt false ev), nI (evCnt true ev), gv.2.2.1, gv.2.2.2.1, gv.2.2.2.2.1, gv.2.2.2.2.2.1, gv.2.2.2.2.2.2.1, gv.2.2.2.2.2.2.2.1, gv.2.2.2.2.2.2.2.2)) g1 g10 (by omega) (by omega) (trivial) (p3) (by omega) (p5) (hpos)) rfl (fun h11 r12 q13 => ?_)
        obtain ⟨rfl, qe⟩ := q13
        have qe := qe.symm
        subst qe
        show px_to 183 65 [some (.ref (269)), some (.int (nI c)), some (.int (bits)), some (.int (nI fa)), some (.int (nI fb)), some (.int (nI i)), some (.int (bI true)), none] [.int (nI (fb + evNext true (ev.drop fb)))] g _
        refine e_istore (L' := [some (.ref (269)), some (.int (nI c)), some (.int (bits)), some (.int (nI fa)), some (.int (nI fb)), some (.int (nI i)), some (.int (bI true)), some (.int (nI (fb + evNext true (ev.drop fb))))]) f_183_65 (Nat.le_of_ble_eq_true rfl) rfl rfl ?_
        refine e_aload_n f_183_67 rfl rfl ?_
        refine e_getf f_183_68 g1 rfl rfl ?_
        refine e_iload f_183_71 rfl rfl ?_
        refine e_iload f_183_73 rfl rfl ?_
        refine e_iastore_a (xs := pl) (x := fb + evNext true (ev.drop fb)) f_183_75 G0 (by omega) (by omega) (by omega) (rfl) rfl (fun h14 g15 fx16 => ?_)
        have fr17 : px_fi 296 1 h0 h14 := fi_tr frg fx16 (by omega)
        refine e_iload f_183_76 rfl rfl ?_
        refine e_if_eq_f f_183_78 (by decide) rfl ?_
        refine e_iload_n f_183_81 rfl rfl ?_
        refine e_goto f_183_82 ?_
        refine e_istore_n (L' := [some (.ref (269)), some (.int (nI c)), some (.int (bits)), some (.int (nI fa)), some (.int (nI fb)), some (.int (nI i)), some (.int (bI true)), some (.int (nI (fb + evNext true (ev.drop fb))))]) f_183_89 (Nat.le_of_ble_eq_true rfl) rfl rfl ?_
        refine e_iload f_183_90 rfl rfl ?_
        refine e_if_eq_f f_183_92 (by decide) rfl ?_
        refine e_iload f_183_95 rfl rfl ?_
        refine e_iconst (v := nI 1) f_183_97 (by decide) rfl ?_
        refine e_iadd (z := nI (fb + evNext true (ev.drop fb) + 1)) f_183_98 (nI_add _ _) rfl ?_
        refine e_goto f_183_99 ?_
        refine e_istore (L' := [some (.ref (269)), some (.int (nI c)), some (.int (bits)), some (.int (nI fa)), some (.int (nI (fb + evNext true (ev.drop fb) + 1))), some (.int (nI i)), some (.int (bI true)), some (.int (nI (fb + evNext true (ev.drop fb))))]) f_183_104 (Nat.le_of_ble_eq_true rfl) rfl rfl ?_
        refine e_iinc (y := nI (i + 1)) (L' := [some (.ref (269)), some (.int (nI c)), some (.int (bits)), some (.int (nI fa)), some (.int (nI (fb + evNext true (ev.drop fb) + 1))), some (.int (nI (i + 1))), some (.int (bI true)), some (.int (nI (fb + evNext true (ev.drop fb))))]) f_183_106 rfl (by rw [show Int32.ofInt 1 = nI 1 by decide]; exact (nI_add _ _)) rfl rfl ?_
        refine e_goto f_183_109 ?_
        refine px_to_L (L := [some (.ref (269)), some (.int (nI c)), some (.int (bits)), some (.int (nI fa)), some (.int (nI (fb + evNext true (ev.drop fb) + 1))), some (.int (nI (i + 1))), none, none]) ⟨Or.inr rfl, Or.inr rfl, Or.inr rfl, Or.inr rfl, Or.inr rfl, Or.inr rfl, Or.inl rfl, Or.inl rfl, trivial⟩ ?_
        first | (exfalso; omega) | exact ih (d - 1) (by omega) (i + 1) fa (fb + evNext true (ev.drop fb) + 1) (pl ++ [fb + evNext true (ev.drop fb)]) h14 (by omega) (by omega) (by omega) (by omega) (hok) (by rw [List.append_assoc]; exact q5) (by rw [List.length_append, List.length_singleton]; omega) g15 fr17

set_option maxRecDepth 20000 in
set_option maxHeartbeats 4000000 in
theorem cc_Md_plB {h : px_H} {bits : Int32} {pl : List Nat} {c : Nat} {ev : List Ev} {em : List Nat} {es : List Ev} {ga : gA} {gp : gP} {gq : gQ} {gh : gH} {gw : gW} {gu : gU} {gv : gV} (H0 : h.2.2 269 = some (12, mB ga gp gq gh gw gu (nI (evCnt false ev), nI (evCnt true ev), gv.2.2.1, gv.2.2.2.1, gv.2.2.2.2.1, gv.2.2.2.2.2.1, gv.2.2.2.2.2.2.1, gv.2.2.2.2.2.2.2.1, gv.2.2.2.2.2.2.2.2))) (H1 : px_pa h 296 50 24 vN pl) (H2 : px_pa h 275 52 192 evS es) (p0 : c < 8) (p1 : es.length = 192) (p2 : True) (p3 : inE es c ev) (p4 : ev.length ≤ 24) (p5 : ∀ e ∈ ev, e.1 < 65536) (p6 : schOk ev (bsOf bits (nAB ev)) 0 0) : px_wp 183 [.ref (269), .int (nI c), .int (bits)] h (fun h1 r => r = none ∧ h1.2.2 269 = some (12, mB ga gp gq gh gw (nI (nAB ev), gu.2.1, gu.2.2) (nI (evCnt false ev), nI (evCnt true ev), gv.2.2.1, gv.2.2.2.1, gv.2.2.2.2.1, gv.2.2.2.2.2.1, gv.2.2.2.2.2.2.1, gv.2.2.2.2.2.2.2.1, gv.2.2.2.2.2.2.2.2)) ∧ px_pa h1 296 50 24 vN (schL ev (bsOf bits (nAB ev)) 0 0) ∧ px_fj 269 1 296 1 h h1) := by
  have fr0 : px_fj 269 1 296 1 h h := fj_rf _ _ _ _ _
  show px_to 183 0 [some (.ref (269)), some (.int (nI c)), some (.int (bits)), none, none, none, none, none] [] h _
  refine e_iconst (v := nI 0) f_183_0 (by decide) rfl ?_
  refine e_istore_n (L' := [some (.ref (269)), some (.int (nI c)), some (.int (bits)), some (.int (nI 0)), none, none, none, none]) f_183_1 (Nat.le_of_ble_eq_true rfl) rfl rfl ?_
  refine e_iconst (v := nI 0) f_183_2 (by decide) rfl ?_
  refine e_istore (L' := [some (.ref (269)), some (.int (nI c)), some (.int (bits)), some (.int (nI 0)), some (.int (nI 0)), none, none, none]) f_183_3 (Nat.le_of_ble_eq_true rfl) rfl rfl ?_
  refine e_aload_n f_183_5 rfl rfl ?_
  refine e_aload_n f_183_6 rfl rfl ?_
  refine e_getf f_183_7 H0 rfl rfl ?_
  show px_to 183 10 [some (.ref (269)), some (.int (nI c)), some (.int (bits)), some (.int (nI 0)), some (.int (nI 0)), none, none, none] [.int (nI (evCnt false ev)), .ref (269)] h _
  refine e_aload_n f_183_10 rfl rfl ?_
  refine e_getf f_183_11 H0 rfl rfl ?_
  show px_to 183 14 [some (.ref (269)), some (.int (nI c)), some (.int (bits)), some (.int (nI 0)), some (.int (nI 0)), none, none, none] [.int (nI (evCnt true ev)), .int (nI (evCnt false ev)), .ref (269)] h _
  refine e_iadd (z := nI (evCnt false ev + evCnt true ev)) f_183_14 (nI_add _ _) rfl ?_
  refine e_putp (vs' := mB ga gp gq gh gw (nI (evCnt false ev + evCnt true ev), gu.2.1, gu.2.2) (nI (evCnt false ev), nI (evCnt true ev), gv.2.2.1, gv.2.2.2.1, gv.2.2.2.2.1, gv.2.2.2.2.2.1, gv.2.2.2.2.2.2.1, gv.2.2.2.2.2.2.2.1, gv.2.2.2.2.2.2.2.2)) f_183_15 H0 (Nat.le_of_ble_eq_true rfl) (rfl) (rfl) rfl rfl (fun h1 g2 fx3 => ?_)
  have fr4 : px_fj 269 1 296 1 h h1 := fj_tr fr0 fx3 (by omega)
  refine e_iconst (v := nI 0) f_183_18 (by decide) rfl ?_
  refine e_istore (L' := [some (.ref (269)), some (.int (nI c)), some (.int (bits)), some (.int (nI 0)), some (.int (nI 0)), some (.int (nI 0)), none, none]) f_183_19 (Nat.le_of_ble_eq_true rfl) rfl rfl ?_
  have g5 : px_pa h1 296 50 24 vN pl := pa_fi H1 fx3 (by omega)
  obtain ⟨hm7, fa8, fb9⟩ := fj_mid fr4
  have g6 : px_pa h1 275 52 192 evS es := pa_fi (pa_fi H2 fa8 (by omega)) fb9 (by omega)
  refine px_to_mono (ll_Md_plB (h0 := h1) (c := c) (ev := ev) (em := em) g2 g6 p0 p1 p3 p4 p5 (nAB ev) 0 0 0 [] h1 (by omega) (by omega) (by omega) (by omega) p6 rfl rfl (pa_nil g5) (fi_rf _ _ _)) (fun h1 r hr => ?_)
  obtain ⟨e1, e2, e3⟩ := hr
  exact ⟨e1, fi_at g2 e3 (by omega), e2, fj_tr fr4 e3 (by omega)⟩

set_option maxRecDepth 20000 in
set_option maxHeartbeats 4000000 in
theorem ll_Md_plW {h0 : px_H} {gn : Nat} {ke : List Nat} {ga : gA} {gp : gP} {gq : gQ} {gh : gH} {gw : gW} {gu : gU} {gv : gV} (HK : px_pa h0 303 50 24 vN ke) (p0 : gn < ke.length) : ∀ (d : Nat) (i : Nat) (pl : List Nat) (g : px_H), (ke.length ≤ i + d) → (i ≤ ke.length) → (pl = (ke.take i).eraseIdx gn) → (pl.length ≤ i) → g.2.2 269 = some (12, mB ga gp gq gh gw (nI pl.length, gu.2.1, gu.2.2) (gv.1, gv.2.1, gv.2.2.1, gv.2.2.2.1, gv.2.2.2.2.1, gv.2.2.2.2.2.1, nI ke.length, gv.2.2.2.2.2.2.2.1, gv.2.2.2.2.2.2.2.2)) → px_pa g 296 50 24 vN pl → px_fj 269 1 296 1 h0 g → px_to 189 7 [some (.ref (269)), some (.int (nI gn)), some (.int (nI i))] [] g (fun h1 r => r = none ∧ h1.2.2 269 = some (12, mB ga gp gq gh gw (nI ((ke.eraseIdx gn).length), gu.2.1, gu.2.2) (gv.1, gv.2.1, gv.2.2.1, gv.2.2.2.1, gv.2.2.2.2.1, gv.2.2.2.2.2.1, nI ke.length, gv.2.2.2.2.2.2.2.1, gv.2.2.2.2.2.2.2.2)) ∧ px_pa h1 296 50 24 vN (ke.eraseIdx gn) ∧ px_fj 269 1 296 1 h0 h1) := by
  intro d
  induction d using Nat.strongRecOn with
  | ind d ih =>
    intro i pl g q0 q1 q2 q3 G0 G1 frg
    have lk := pa_len HK
    refine e_iload_n f_189_7 rfl rfl ?_
    refine e_aload_n f_189_8 rfl rfl ?_
    refine e_getf f_189_9 G0 rfl rfl ?_
    show px_to 189 12 [some (.ref (269)), some (.int (nI gn)), some (.int (nI i))] [.int (nI ke.length), .int (nI i)] g _
    refine e_icmp_ge f_189_12 rfl (fun c_12 => ?_) (fun c_12 => ?_)
    · skip
      have c_12 : ke.length ≤ i := cv_le (by omega) (by omega) c_12
      refine e_vret f_189_51 rfl ?_
      rw [show i = ke.length by omega, List.take_length] at q2
      subst q2
      exact ⟨rfl, G0, G1, frg⟩
    · skip
      have c_12 : i < ke.length := cv_nle (by omega) (by omega) c_12
      refine e_iload_n f_189_15 rfl rfl ?_
      refine e_iload_n f_189_16 rfl rfl ?_
      refine e_icmp_eq f_189_17 rfl (fun c_17 => ?_) (fun c_17 => ?_)
      · skip
        have c_17 : i = gn := cv_eq (by omega) (by omega) c_17
        refine e_iinc (y := nI (i + 1)) (L' := [some (.ref (269)), some (.int (nI gn)), some (.int (nI (i + 1)))]) f_189_45 rfl (by rw [show Int32.ofInt 1 = nI 1 by decide]; exact (nI_add _ _)) rfl rfl ?_
        refine e_goto f_189_48 ?_
        first | (exfalso; omega) | exact ih (d - 1) (by omega) (i + 1) pl g (by omega) (by omega) (by rw [erase_step (by omega) p0, if_pos c_17, q2]) (by omega) G0 G1 frg
      · skip
        have c_17 : i ≠ gn := cv_ne c_17
        refine e_aload_n f_189_20 rfl rfl ?_
        refine e_getf f_189_21 G0 rfl rfl ?_
        refine e_aload_n f_189_24 rfl rfl ?_
        refine e_getf f_189_25 G0 rfl rfl ?_
        show px_to 189 28 [some (.ref (269)), some (.int (nI gn)), some (.int (nI i))] [.int (nI pl.length), .ref (296)] g _
        refine e_aload_n f_189_28 rfl rfl ?_
        refine e_getf f_189_29 G0 rfl rfl ?_
        refine e_iload_n f_189_32 rfl rfl ?_
        obtain ⟨hm2, fa3, fb4⟩ := fj_mid frg
        have g1 : px_pa g 303 50 24 vN ke := pa_fi (pa_fi HK fa3 (by omega)) fb4 (by omega)
        refine e_iaload_p (xs := ke) f_189_33 g1 (d := 0) (by first | omega | (simp only [List.length_set]; omega)) rfl ?_
        show px_to 189 34 [some (.ref (269)), some (.int (nI gn)), some (.int (nI i))] [.int (nI (ke.getD i 0)), .int (nI pl.length), .ref (296)] g _
        refine e_iastore_a (xs := pl) (x := ke.getD i 0) f_189_34 G1 (by omega) (rfl) (by omega) (rfl) rfl (fun h5 g6 fx7 => ?_)
        have fr8 : px_fj 269 1 296 1 h0 h5 := fj_tr frg fx7 (by omega)
        refine e_aload_n f_189_35 rfl rfl ?_
        refine e_dup f_189_36 rfl rfl ?_
        have g9 : h5.2.2 269 = some (12, mB ga gp gq gh gw (nI pl.length, gu.2.1, gu.2.2) (gv.1, gv.2.1, gv.2.2.1, gv.2.2.2.1, gv.2.2.2.2.1, gv.2.2.2.2.2.1, nI ke.length, gv.2.2.2.2.2.2.2.1, gv.2.2.2.2.2.2.2.2)) := fi_at G0 fx7 (by omega)
        refine e_getf f_189_37 g9 rfl rfl ?_
        show px_to 189 40 [some (.ref (269)), some (.int (nI gn)), some (.int (nI i))] [.int (nI pl.length), .ref (269)] h5 _
        refine e_iconst (v := nI 1) f_189_40 (by decide) rfl ?_
        refine e_iadd (z := nI (pl.length + 1)) f_189_41 (nI_add _ _) rfl ?_
        refine e_putp (vs' := mB ga gp gq gh gw (nI (pl.length + 1), gu.2.1, gu.2.2) (gv.1, gv.2.1, gv.2.2.1, gv.2.2.2.1, gv.2.2.2.2.1, gv.2.2.2.2.2.1, nI ke.length, gv.2.2.2.2.2.2.2.1, gv.2.2.2.2.2.2.2.2)) f_189_42 g9 (Nat.le_of_ble_eq_true rfl) (rfl) (rfl) rfl rfl (fun h10 g11 fx12 => ?_)
        have fr13 : px_fj 269 1 296 1 h0 h10 := fj_tr fr8 fx12 (by omega)
        refine e_iinc (y := nI (i + 1)) (L' := [some (.ref (269)), some (.int (nI gn)), some (.int (nI (i + 1)))]) f_189_45 rfl (by rw [show Int32.ofInt 1 = nI 1 by decide]; exact (nI_add _ _)) rfl rfl ?_
        refine e_goto f_189_48 ?_
        have g14 : h10.2.2 269 = some (12, mB ga gp gq gh gw (nI ((pl ++ [ke.getD i 0]).length), gu.2.1, gu.2.2) (gv.1, gv.2.1, gv.2.2.1, gv.2.2.2.1, gv.2.2.2.2.1, gv.2.2.2.2.2.1, nI ke.length, gv.2.2.2.2.2.2.2.1, gv.2.2.2.2.2.2.2.2)) := by rw [List.length_append, List.length_singleton]; exact g11
        have g15 : px_pa h10 296 50 24 vN (pl ++ [ke.getD i 0]) := pa_fi g6 fx12 (by omega)
        first | (exfalso; omega) | exact ih (d - 1) (by omega) (i + 1) (pl ++ [ke.getD i 0]) h10 (by omega) (by omega) (by rw [erase_step (by omega) p0, if_neg c_17, q2]) (by rw [List.length_append, List.length_singleton]; omega) g14 g15 fr13

set_option maxRecDepth 20000 in
set_option maxHeartbeats 4000000 in
theorem cc_Md_plW {h : px_H} {gn : Nat} {pl ke : List Nat} {ga : gA} {gp : gP} {gq : gQ} {gh : gH} {gw : gW} {gu : gU} {gv : gV} (H0 : h.2.2 269 = some (12, mB ga gp gq gh gw gu (gv.1, gv.2.1, gv.2.2.1, gv.2.2.2.1, gv.2.2.2.2.1, gv.2.2.2.2.2.1, nI ke.length, gv.2.2.2.2.2.2.2.1, gv.2.2.2.2.2.2.2.2))) (H1 : px_pa h 296 50 24 vN pl) (H2 : px_pa h 303 50 24 vN ke) (p0 : gn < ke.length) : px_wp 189 [.ref (269), .int (nI gn)] h (fun h1 r => r = none ∧ h1.2.2 269 = some (12, mB ga gp gq gh gw (nI ((ke.eraseIdx gn).length), gu.2.1, gu.2.2) (gv.1, gv.2.1, gv.2.2.1, gv.2.2.2.1, gv.2.2.2.2.1, gv.2.2.2.2.2.1, nI ke.length, gv.2.2.2.2.2.2.2.1, gv.2.2.2.2.2.2.2.2)) ∧ px_pa h1 296 50 24 vN (ke.eraseIdx gn) ∧ px_fj 269 1 296 1 h h1) := by
  have fr0 : px_fj 269 1 296 1 h h := fj_rf _ _ _ _ _
  have lk := pa_len H2
  show px_to 189 0 [some (.ref (269)), some (.int (nI gn)), none] [] h _
  refine e_aload_n f_189_0 rfl rfl ?_
  refine e_iconst (v := nI 0) f_189_1 (by decide) rfl ?_
  refine e_putp (vs' := mB ga gp gq gh gw (nI 0, gu.2.1, gu.2.2) (gv.1, gv.2.1, gv.2.2.1, gv.2.2.2.1, gv.2.2.2.2.1, gv.2.2.2.2.2.1, nI ke.length, gv.2.2.2.2.2.2.2.1, gv.2.2.2.2.2.2.2.2)) f_189_2 H0 (Nat.le_of_ble_eq_true rfl) (rfl) (rfl) rfl rfl (fun h1 g2 fx3 => ?_)
  have fr4 : px_fj 269 1 296 1 h h1 := fj_tr fr0 fx3 (by omega)
  refine e_iconst (v := nI 0) f_189_5 (by decide) rfl ?_
  refine e_istore_n (L' := [some (.ref (269)), some (.int (nI gn)), some (.int (nI 0))]) f_189_6 (Nat.le_of_ble_eq_true rfl) rfl rfl ?_
  have g5 : px_pa h1 296 50 24 vN pl := pa_fi H1 fx3 (by omega)
  exact ll_Md_plW (h0 := h) H2 p0 ke.length 0 [] h1 (by omega) (by omega) (by rw [List.take_zero]; rfl) (by simp) g2 (pa_nil g5) fr4
