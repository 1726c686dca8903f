theorem evOf_A1 {s : Nat} (h : s = 114 ∨ s = 104) : evOf s false = true := by rcases h with h | h <;> subst h <;> rfl
theorem evOf_A0 {s : Nat} (h : ¬ (s = 114 ∨ s = 104)) : evOf s false = false := by
  unfold evOf
  simp
  omega
theorem evOf_B1 {s : Nat} (h : s = 82 ∨ s = 72) : evOf s true = true := by rcases h with h | h <;> subst h <;> rfl
theorem evOf_B0 {s : Nat} (h : ¬ (s = 82 ∨ s = 72)) : evOf s true = false := by
  unfold evOf
  simp
  omega

set_option maxRecDepth 20000 in
set_option maxHeartbeats 4000000 in
theorem cc_Md_isOfA {h : px_H} {s : Nat}  (p0 : s < 65536) : px_wp 172 [.int (nI s)] h (fun h1 r => r = some (.int (bI (evOf s false))) ∧ h1 = h) := by
  show px_to 172 0 [some (.int (nI s))] [] h _
  refine e_iload_n f_172_0 rfl rfl ?_
  refine e_bipush (v := nI 114) f_172_1 (by decide) rfl ?_
  refine e_icmp_eq f_172_3 rfl (fun c_3 => ?_) (fun c_3 => ?_)
  · skip
    have c_3 : s = 114 := cv_eq (by omega) (by omega) c_3
    refine e_iconst (v := nI 1) f_172_12 (by decide) rfl ?_
    refine e_goto f_172_13 ?_
    refine e_iret f_172_17 rfl (rfl) ?_
    exact ⟨congrArg (fun z => some (Value.int z)) (b1 (evOf_A1 (by omega))), rfl⟩
  · skip
    have c_3 : s ≠ 114 := cv_ne c_3
    refine e_iload_n f_172_6 rfl rfl ?_
    refine e_bipush (v := nI 104) f_172_7 (by decide) rfl ?_
    refine e_icmp_ne f_172_9 rfl (fun c_9 => ?_) (fun c_9 => ?_)
    · skip
      have c_9 : s ≠ 104 := cv_ne c_9
      refine e_iconst (v := nI 0) f_172_16 (by decide) rfl ?_
      refine e_iret f_172_17 rfl (rfl) ?_
      exact ⟨congrArg (fun z => some (Value.int z)) (b0 (evOf_A0 (by omega))), rfl⟩
    · skip
      have c_9 : s = 104 := cv_nne (by omega) (by omega) c_9
      refine e_iconst (v := nI 1) f_172_12 (by decide) rfl ?_
      refine e_goto f_172_13 ?_
      refine e_iret f_172_17 rfl (rfl) ?_
      exact ⟨congrArg (fun z => some (Value.int z)) (b1 (evOf_A1 (by omega))), rfl⟩

set_option maxRecDepth 20000 in
set_option maxHeartbeats 4000000 in
theorem cc_Md_isOfB {h : px_H} {s : Nat}  (p0 : s < 65536) : px_wp 173 [.int (nI s)] h (fun h1 r => r = some (.int (bI (evOf s true))) ∧ h1 = h) := by
  show px_to 173 0 [some (.int (nI s))] [] h _
  refine e_iload_n f_173_0 rfl rfl ?_
  refine e_bipush (v := nI 82) f_173_1 (by decide) rfl ?_
  refine e_icmp_eq f_173_3 rfl (fun c_3 => ?_) (fun c_3 => ?_)
  · skip
    have c_3 : s = 82 := cv_eq (by omega) (by omega) c_3
    refine e_iconst (v := nI 1) f_173_12 (by decide) rfl ?_
    refine e_goto f_173_13 ?_
    refine e_iret f_173_17 rfl (rfl) ?_
    exact ⟨congrArg (fun z => some (Value.int z)) (b1 (evOf_B1 (by omega))), rfl⟩
  · skip
    have c_3 : s ≠ 82 := cv_ne c_3
    refine e_iload_n f_173_6 rfl rfl ?_
    refine e_bipush (v := nI 72) f_173_7 (by decide) rfl ?_
    refine e_icmp_ne f_173_9 rfl (fun c_9 => ?_) (fun c_9 => ?_)
    · skip
      have c_9 : s ≠ 72 := cv_ne c_9
      refine e_iconst (v := nI 0) f_173_16 (by decide) rfl ?_
      refine e_iret f_173_17 rfl (rfl) ?_
      exact ⟨congrArg (fun z => some (Value.int z)) (b0 (evOf_B0 (by omega))), rfl⟩
    · skip
      have c_9 : s = 72 := cv_nne (by omega) (by omega) c_9
      refine e_iconst (v := nI 1) f_173_12 (by decide) rfl ?_
      refine e_goto f_173_13 ?_
      refine e_iret f_173_17 rfl (rfl) ?_
      exact ⟨congrArg (fun z => some (Value.int z)) (b1 (evOf_B1 (by omega))), rfl⟩

set_option maxRecDepth 20000 in
set_option maxHeartbeats 4000000 in
theorem ll_Md_inp {h0 : px_H} {A B : Nat} {c : Nat} {ev : List Ev} {em : List Nat} {es : List Ev} {ga : gA} {gp : gP} {gq : gQ} {gh : gH} {gw : gW} {gu : gU} {gv : gV} (HE : px_pa h0 274 50 8 vN em) (HS : px_pa h0 275 52 192 evS es) (p0 : c < 8) (p1 : em.length = 8 ∧ es.length = 192) (p2 : em.getD c 0 = ev.length) (p3 : inE es c ev) (p4 : ev.length ≤ 24) (p5 : ∀ e ∈ ev, e.1 < 65536) : ∀ (d : Nat) (k : Nat) (a : Nat) (b : Nat) (g : px_H), (ev.length ≤ k + d) → (k ≤ ev.length) → (a + evCnt false (ev.drop k) = A) → (b + evCnt true (ev.drop k) = B) → g.2.2 269 = some (12, mB ga gp gq gh gw gu (nI a, nI b, gv.2.2.1, gv.2.2.2.1, gv.2.2.2.2.1, gv.2.2.2.2.2.1, gv.2.2.2.2.2.2.1, gv.2.2.2.2.2.2.2.1, gv.2.2.2.2.2.2.2.2)) → px_fi 269 1 h0 g → px_to 174 12 [some (.ref (269)), some (.int (nI c)), some (.int (nI k))] [] g (fun h1 r => r = none ∧ h1.2.2 269 = some (12, mB ga gp gq gh gw gu (nI A, nI B, gv.2.2.1, gv.2.2.2.1, gv.2.2.2.2.1, gv.2.2.2.2.2.1, gv.2.2.2.2.2.2.1, gv.2.2.2.2.2.2.2.1, gv.2.2.2.2.2.2.2.2)) ∧ px_fi 269 1 h0 h1) := by
  intro d
  induction d using Nat.strongRecOn with
  | ind d ih =>
    intro k a b g q0 q1 q2 q3 G0 frg
    refine e_iload_n f_174_12 rfl rfl ?_
    refine e_aload_n f_174_13 rfl rfl ?_
    refine e_getf f_174_14 G0 rfl rfl ?_
    refine e_iload_n f_174_17 rfl rfl ?_
    have g1 : px_pa g 274 50 8 vN em := pa_fi HE frg (by omega)
    refine e_iaload_p (xs := em) f_174_18 g1 (d := 0) (by first | omega | (simp only [List.length_set]; omega)) rfl ?_
    show px_to 174 19 [some (.ref (269)), some (.int (nI c)), some (.int (nI k))] [.int (nI (em.getD c 0)), .int (nI k)] g _
    rw [p2]
    refine e_icmp_ge f_174_19 rfl (fun c_19 => ?_) (fun c_19 => ?_)
    · skip
      have c_19 : ev.length ≤ k := cv_le (by omega) (by omega) c_19
      refine e_vret f_174_96 rfl ?_
      rw [List.drop_eq_nil_of_le (by omega), evCnt] at q2 q3
      rw [Nat.add_zero] at q2 q3
      subst q2
      subst q3
      exact ⟨rfl, G0, frg⟩
    · skip
      have c_19 : k < ev.length := cv_nle (by omega) (by omega) c_19
      refine e_aload_n f_174_22 rfl rfl ?_
      refine e_aload_n f_174_23 rfl rfl ?_
      refine e_getf f_174_24 G0 rfl rfl ?_
      refine e_bipush (v := nI 24) f_174_27 (by decide) rfl ?_
      refine e_iload_n f_174_29 rfl rfl ?_
      refine e_imul (z := nI (24 * c)) f_174_30 (pk_mul _ _) rfl ?_
      refine e_iload_n f_174_31 rfl rfl ?_
      refine e_iadd (z := nI (24 * c + k)) f_174_32 (nI_add _ _) rfl ?_
      have g2 : px_pa g 275 52 192 evS es := pa_fi HS frg (by omega)
      refine e_caload_p (xs := es) f_174_33 g2 (d := (0, 0, 0, 0)) (by first | omega | (simp only [List.length_set]; omega)) rfl ?_
      show px_to 174 34 [some (.ref (269)), some (.int (nI c)), some (.int (nI k))] [.int (nI ((es.getD (24 * c + k) (0, 0, 0, 0)).1)), .ref (269)] g _
      have hevk : es.getD (24 * c + k) (0, 0, 0, 0) = ev.getD k (0, 0, 0, 0) := p3 k (by omega)
      have hesk := p5 _ (getD_mem (0, 0, 0, 0) (show k < ev.length by omega))
      rw [hevk]
      refine e_callS (As := [.int (nI ((ev.getD k (0, 0, 0, 0)).1))]) (rest := [.ref (269)]) f_174_34 rfl rfl rfl (Nat.le_of_ble_eq_true rfl) (Nat.le_of_ble_eq_true rfl) (cc_Md_isOfA (s := (ev.getD k (0, 0, 0, 0)).1)  (hesk)) rfl (fun h3 r4 q5 => ?_)
      obtain ⟨rfl, qe⟩ := q5
      have qe := qe.symm
      subst qe
      show px_to 174 37 [some (.ref (269)), some (.int (nI c)), some (.int (nI k))] [.int (bI (evOf ((ev.getD k (0, 0, 0, 0)).1) false)), .ref (269)] g _
      refine e_if_eq f_174_37 rfl (fun c_37 => ?_) (fun c_37 => ?_)
      · skip
        have c_37 : (evOf ((ev.getD k (0, 0, 0, 0)).1) false) = false := bI_f c_37
        refine e_aload_n f_174_49 rfl rfl ?_
        refine e_getf f_174_50 G0 rfl rfl ?_
        show px_to 174 53 [some (.ref (269)), some (.int (nI c)), some (.int (nI k))] [.int (nI a), .ref (269)] g _
        refine e_putp (vs' := mB ga gp gq gh gw gu (nI a, nI b, gv.2.2.1, gv.2.2.2.1, gv.2.2.2.2.1, gv.2.2.2.2.2.1, gv.2.2.2.2.2.2.1, gv.2.2.2.2.2.2.2.1, gv.2.2.2.2.2.2.2.2)) f_174_53 G0 (Nat.le_of_ble_eq_true rfl) (rfl) (rfl) rfl rfl (fun h6 g7 fx8 => ?_)
        have fr9 : px_fi 269 1 h0 h6 := fi_tr frg fx8 (by omega)
        refine e_aload_n f_174_56 rfl rfl ?_
        refine e_aload_n f_174_57 rfl rfl ?_
        refine e_getf f_174_58 g7 rfl rfl ?_
        refine e_bipush (v := nI 24) f_174_61 (by decide) rfl ?_
        refine e_iload_n f_174_63 rfl rfl ?_
        refine e_imul (z := nI (24 * c)) f_174_64 (pk_mul _ _) rfl ?_
        refine e_iload_n f_174_65 rfl rfl ?_
        refine e_iadd (z := nI (24 * c + k)) f_174_66 (nI_add _ _) rfl ?_
        have g10 : px_pa h6 275 52 192 evS es := pa_fi HS fr9 (by omega)
        refine e_caload_p (xs := es) f_174_67 g10 (d := (0, 0, 0, 0)) (by first | omega | (simp only [List.length_set]; omega)) rfl ?_
        show px_to 174 68 [some (.ref (269)), some (.int (nI c)), some (.int (nI k))] [.int (nI ((es.getD (24 * c + k) (0, 0, 0, 0)).1)), .ref (269)] h6 _
        rw [hevk]
        refine e_callS (As := [.int (nI ((ev.getD k (0, 0, 0, 0)).1))]) (rest := [.ref (269)]) f_174_68 rfl rfl rfl (Nat.le_of_ble_eq_true rfl) (Nat.le_of_ble_eq_true rfl) (cc_Md_isOfB (s := (ev.getD k (0, 0, 0, 0)).1)  (hesk)) rfl (fun h11 r12 q13 => ?_)
        obtain ⟨rfl, qe⟩ := q13
        have qe := qe.symm
        subst qe
        show px_to 174 71 [some (.ref (269)), some (.int (nI c)), some (.int (nI k))] [.int (bI (evOf ((ev.getD k (0, 0, 0, 0)).1) true)), .ref (269)] h6 _
        refine e_if_eq f_174_71 rfl (fun c_71 => ?_) (fun c_71 => ?_)
        · skip
          have c_71 : (evOf ((ev.getD k (0, 0, 0, 0)).1) true) = false := bI_f c_71
          refine e_aload_n f_174_83 rfl rfl ?_
          refine e_getf f_174_84 g7 rfl rfl ?_
          show px_to 174 87 [some (.ref (269)), some (.int (nI c)), some (.int (nI k))] [.int (nI b), .ref (269)] h6 _
          refine e_putp (vs' := mB ga gp gq gh gw gu (nI a, nI b, gv.2.2.1, gv.2.2.2.1, gv.2.2.2.2.1, gv.2.2.2.2.2.1, gv.2.2.2.2.2.2.1, gv.2.2.2.2.2.2.2.1, gv.2.2.2.2.2.2.2.2)) f_174_87 g7 (Nat.le_of_ble_eq_true rfl) (rfl) (rfl) rfl rfl (fun h14 g15 fx16 => ?_)
          have fr17 : px_fi 269 1 h0 h14 := fi_tr fr9 fx16 (by omega)
          refine e_iinc (y := nI (k + 1)) (L' := [some (.ref (269)), some (.int (nI c)), some (.int (nI (k + 1)))]) f_174_90 rfl (by rw [show Int32.ofInt 1 = nI 1 by decide]; exact (nI_add _ _)) rfl rfl ?_
          refine e_goto f_174_93 ?_
          first | (exfalso; omega) | exact ih (d - 1) (by omega) (k + 1) a b h14 (by omega) (by omega) (by rw [drop_step (0, 0, 0, 0) (show k < ev.length by omega), evCnt, c_37] at q2; simp at q2; omega) (by rw [drop_step (0, 0, 0, 0) (show k < ev.length by omega), evCnt, c_71] at q3; simp at q3; omega) g15 fr17
        · skip
          have c_71 : (evOf ((ev.getD k (0, 0, 0, 0)).1) true) = true := bI_t' c_71
          refine e_aload_n f_174_74 rfl rfl ?_
          refine e_getf f_174_75 g7 rfl rfl ?_
          show px_to 174 78 [some (.ref (269)), some (.int (nI c)), some (.int (nI k))] [.int (nI b), .ref (269)] h6 _
          refine e_iconst (v := nI 1) f_174_78 (by decide) rfl ?_
          refine e_iadd (z := nI (b + 1)) f_174_79 (nI_add _ _) rfl ?_
          refine e_goto f_174_80 ?_
          refine e_putp (vs' := mB ga gp gq gh gw gu (nI a, nI (b + 1), gv.2.2.1, gv.2.2.2.1, gv.2.2.2.2.1, gv.2.2.2.2.2.1, gv.2.2.2.2.2.2.1, gv.2.2.2.2.2.2.2.1, gv.2.2.2.2.2.2.2.2)) f_174_87 g7 (Nat.le_of_ble_eq_true rfl) (rfl) (rfl) rfl rfl (fun h18 g19 fx20 => ?_)
          have fr21 : px_fi 269 1 h0 h18 := fi_tr fr9 fx20 (by omega)
          refine e_iinc (y := nI (k + 1)) (L' := [some (.ref (269)), some (.int (nI c)), some (.int (nI (k + 1)))]) f_174_90 rfl (by rw [show Int32.ofInt 1 = nI 1 by decide]; exact (nI_add _ _)) rfl rfl ?_
          refine e_goto f_174_93 ?_
          first | (exfalso; omega) | exact ih (d - 1) (by omega) (k + 1) a (b + 1) h18 (by omega) (by omega) (by rw [drop_step (0, 0, 0, 0) (show k < ev.length by omega), evCnt, c_37] at q2; simp at q2; omega) (by rw [drop_step (0, 0, 0, 0) (show k < ev.length by omega), evCnt, c_71] at q3; simp at q3; omega) g19 fr21
      · skip
        have c_37 : (evOf ((ev.getD k (0, 0, 0, 0)).1) false) = true := bI_t' c_37
        refine e_aload_n f_174_40 rfl rfl ?_
        refine e_getf f_174_41 G0 rfl rfl ?_
        show px_to 174 44 [some (.ref (269)), some (.int (nI c)), some (.int (nI k))] [.int (nI a), .ref (269)] g _
        refine e_iconst (v := nI 1) f_174_44 (by decide) rfl ?_
        refine e_iadd (z := nI (a + 1)) f_174_45 (nI_add _ _) rfl ?_
        refine e_goto f_174_46 ?_
        refine e_putp (vs' := mB ga gp gq gh gw gu (nI (a + 1), nI b, gv.2.2.1, gv.2.2.2.1, gv.2.2.2.2.1, gv.2.2.2.2.2.1, gv.2.2.2.2.2.2.1, gv.2.2.2.2.2.2.2.1, gv.2.2.2.2.2.2.2.2)) f_174_53 G0 (Nat.le_of_ble_eq_true rfl) (rfl) (rfl) rfl rfl (fun h22 g23 fx24 => ?_)
        have fr25 : px_fi 269 1 h0 h22 := fi_tr frg fx24 (by omega)
        refine e_aload_n f_174_56 rfl rfl ?_
        refine e_aload_n f_174_57 rfl rfl ?_
        refine e_getf f_174_58 g23 rfl rfl ?_
        refine e_bipush (v := nI 24) f_174_61 (by decide) rfl ?_
        refine e_iload_n f_174_63 rfl rfl ?_
        refine e_imul (z := nI (24 * c)) f_174_64 (pk_mul _ _) rfl ?_
        refine e_iload_n f_174_65 rfl rfl ?_
        refine e_iadd (z := nI (24 * c + k)) f_174_66 (nI_add _ _) rfl ?_
        have g26 : px_pa h22 275 52 192 evS es := pa_fi HS fr25 (by omega)
        refine e_caload_p (xs := es) f_174_67 g26 (d := (0, 0, 0, 0)) (by first | omega | (simp only [List.length_set]; omega)) rfl ?_
        show px_to 174 68 [some (.ref (269)), some (.int (nI c)), some (.int (nI k))] [.int (nI ((es.getD (24 * c + k) (0, 0, 0, 0)).1)), .ref (269)] h22 _
        rw [hevk]
        refine e_callS (As := [.int (nI ((ev.getD k (0, 0, 0, 0)).1))]) (rest := [.ref (269)]) f_174_68 rfl rfl rfl (Nat.le_of_ble_eq_true rfl) (Nat.le_of_ble_eq_true rfl) (cc_Md_isOfB (s := (ev.getD k (0, 0, 0, 0)).1)  (hesk)) rfl (fun h27 r28 q29 => ?_)
        obtain ⟨rfl, qe⟩ := q29
        have qe := qe.symm
        subst qe
        show px_to 174 71 [some (.ref (269)), some (.int (nI c)), some (.int (nI k))] [.int (bI (evOf ((ev.getD k (0, 0, 0, 0)).1) true)), .ref (269)] h22 _
        refine e_if_eq f_174_71 rfl (fun c_71 => ?_) (fun c_71 => ?_)
        · skip
          have c_71 : (evOf ((ev.getD k (0, 0, 0, 0)).1) true) = false := bI_f c_71
          refine e_aload_n f_174_83 rfl rfl ?_
          refine e_getf f_174_84 g23 rfl rfl ?_
          show px_to 174 87 [some (.ref (269)), some (.int (nI c)), some (.int (nI k))] [.int (nI b), .ref (269)] h22 _
          refine e_putp (vs' := mB ga gp gq gh gw gu (nI (a + 1), nI b, gv.2.2.1, gv.2.2.2.1, gv.2.2.2.2.1, gv.2.2.2.2.2.1, gv.2.2.2.2.2.2.1, gv.2.2.2.2.2.2.2.1, gv.2.2.2.2.2.2.2.2)) f_174_87 g23 (Nat.le_of_ble_eq_true rfl) (rfl) (rfl) rfl rfl (fun h30 g31 fx32 => ?_)
          have fr33 : px_fi 269 1 h0 h30 := fi_tr fr25 fx32 (by omega)
          refine e_iinc (y := nI (k + 1)) (L' := [some (.ref (269)), some (.int (nI c)), some (.int (nI (k + 1)))]) f_174_90 rfl (by rw [show Int32.ofInt 1 = nI 1 by decide]; exact (nI_add _ _)) rfl rfl ?_
          refine e_goto f_174_93 ?_
          first | (exfalso; omega) | exact ih (d - 1) (by omega) (k + 1) (a + 1) b h30 (by omega) (by omega) (by rw [drop_step (0, 0, 0, 0) (show k < ev.length by omega), evCnt, c_37] at q2; simp at q2; omega) (by rw [drop_step (0, 0, 0, 0) (show k < ev.length by omega), evCnt, c_71] at q3; simp at q3; omega) g31 fr33
        · skip
          have c_71 : (evOf ((ev.getD k (0, 0, 0, 0)).1) true) = true := bI_t' c_71
          refine e_aload_n f_174_74 rfl rfl ?_
          refine e_getf f_174_75 g23 rfl rfl ?_
          show px_to 174 78 [some (.ref (269)), some (.int (nI c)), some (.int (nI k))] [.int (nI b), .ref (269)] h22 _
          refine e_iconst (v := nI 1) f_174_78 (by decide) rfl ?_
          refine e_iadd (z := nI (b + 1)) f_174_79 (nI_add _ _) rfl ?_
          refine e_goto f_174_80 ?_
          refine e_putp (vs' := mB ga gp gq gh gw gu (nI (a + 1), nI (b + 1), gv.2.2.1, gv.2.2.2.1, gv.2.2.2.2.1, gv.2.2.2.2.2.1, gv.2.2.2.2.2.2.1, gv.2.2.2.2.2.2.2.1, gv.2.2.2.2.2.2.2.2)) f_174_87 g23 (Nat.le_of_ble_eq_true rfl) (rfl) (rfl) rfl rfl (fun h34 g35 fx36 => ?_)
          have fr37 : px_fi 269 1 h0 h34 := fi_tr fr25 fx36 (by omega)
          refine e_iinc (y := nI (k + 1)) (L' := [some (.ref (269)), some (.int (nI c)), some (.int (nI (k + 1)))]) f_174_90 rfl (by rw [show Int32.ofInt 1 = nI 1 by decide]; exact (nI_add _ _)) rfl rfl ?_
          refine e_goto f_174_93 ?_
          first | (exfalso; omega) | exact ih (d - 1) (by omega) (k + 1) (a + 1) (b + 1) h34 (by omega) (by omega) (by rw [drop_step (0, 0, 0, 0) (show k < ev.length by omega), evCnt, c_37] at q2; simp at q2; omega) (by rw [drop_step (0, 0, 0, 0) (show k < ev.length by omega), evCnt, c_71] at q3; simp at q3; omega) g35 fr37

set_option maxRecDepth 20000 in
set_option maxHeartbeats 4000000 in
theorem cc_Md_inp {h : px_H} {c : Nat} {ev : List Ev} {em : List Nat} {es : List Ev} {ga : gA} {gp : gP} {gq : gQ} {gh : gH} {gw : gW} {gu : gU} {gv : gV} (H0 : h.2.2 269 = some (12, mB ga gp gq gh gw gu gv)) (H1 : px_pa h 274 50 8 vN em) (H2 : px_pa h 275 52 192 evS es) (p0 : c < 8) (p1 : em.length = 8 ∧ es.length = 192) (p2 : em.getD c 0 = ev.length) (p3 : inE es c ev) (p4 : ev.length ≤ 24) (p5 : ∀ e ∈ ev, e.1 < 65536) : px_wp 174 [.ref (269), .int (nI c)] h (fun h1 r => r = none ∧ h1.2.2 269 = some (12, mB ga gp gq gh gw gu (nI (evCnt false ev), nI (evCnt true ev), gv.2.2.1, gv.2.2.2.1, gv.2.2.2.2.1, gv.2.2.2.2.2.1, gv.2.2.2.2.2.2.1, gv.2.2.2.2.2.2.2.1, gv.2.2.2.2.2.2.2.2)) ∧ px_fi 269 1 h h1) := by
  have fr0 : px_fi 269 1 h h := fi_rf _ _ _
  show px_to 174 0 [some (.ref (269)), some (.int (nI c)), none] [] h _
  refine e_aload_n f_174_0 rfl rfl ?_
  refine e_iconst (v := nI 0) f_174_1 (by decide) rfl ?_
  refine e_putp (vs' := mB ga gp gq gh gw gu (nI 0, gv.2.1, gv.2.2.1, gv.2.2.2.1, gv.2.2.2.2.1, gv.2.2.2.2.2.1, gv.2.2.2.2.2.2.1, gv.2.2.2.2.2.2.2.1, gv.2.2.2.2.2.2.2.2)) f_174_2 H0 (Nat.le_of_ble_eq_true rfl) (rfl) (rfl) rfl rfl (fun h1 g2 fx3 => ?_)
  have fr4 : px_fi 269 1 h h1 := fi_tr fr0 fx3 (by omega)
  refine e_aload_n f_174_5 rfl rfl ?_
  refine e_iconst (v := nI 0) f_174_6 (by decide) rfl ?_
  refine e_putp (vs' := mB ga gp gq gh gw gu (nI 0, nI 0, gv.2.2.1, gv.2.2.2.1, gv.2.2.2.2.1, gv.2.2.2.2.2.1, gv.2.2.2.2.2.2.1, gv.2.2.2.2.2.2.2.1, gv.2.2.2.2.2.2.2.2)) f_174_7 g2 (Nat.le_of_ble_eq_true rfl) (rfl) (rfl) rfl rfl (fun h5 g6 fx7 => ?_)
  have fr8 : px_fi 269 1 h h5 := fi_tr fr4 fx7 (by omega)
  refine e_iconst (v := nI 0) f_174_10 (by decide) rfl ?_
  refine e_istore_n (L' := [some (.ref (269)), some (.int (nI c)), some (.int (nI 0))]) f_174_11 (Nat.le_of_ble_eq_true rfl) rfl rfl ?_
  exact ll_Md_inp (h0 := h) H1 H2 p0 p1 p2 p3 p4 p5 ev.length 0 0 0 h5 (by omega) (by omega) (Nat.zero_add _) (Nat.zero_add _) g6 fr8

set_option maxRecDepth 20000 in
set_option maxHeartbeats 4000000 in
theorem ll_Md_plA {h0 : px_H} {c : Nat} {ev : List Ev} {em : List Nat} {es : List Ev} {ga : gA} {gp : gP} {gq : gQ} {gh : gH} {gw : gW} {gu : gU} {gv : gV} (HM : h0.2.2 269 = some (12, mB ga gp gq gh gw (nI ev.length, gu.2.1, gu.2.2) gv)) (p4 : ev.length ≤ 24) : ∀ (d : Nat) (i : Nat) (g : px_H), (ev.length ≤ i + d) → (i ≤ ev.length) → px_pa g 296 50 24 vN (List.range i) → px_fi 296 1 h0 g → px_to 157 12 [some (.ref (269)), some (.int (nI c)), some (.int (nI i))] [] g (fun h1 r => r = none ∧ px_pa h1 296 50 24 vN (List.range ev.length) ∧ px_fi 296 1 h0 h1) := by
  intro d
  induction d using Nat.strongRecOn with
  | ind d ih =>
    intro i g q0 q1 G0 frg
    refine e_iload_n f_157_12 rfl rfl ?_
    refine e_aload_n f_157_13 rfl rfl ?_
    have g1 : g.2.2 269 = some (12, mB ga gp gq gh gw (nI ev.length, gu.2.1, gu.2.2) gv) := fi_at HM frg (by omega)
    refine e_getf f_157_14 g1 rfl rfl ?_
    show px_to 157 17 [some (.ref (269)), some (.int (nI c)), some (.int (nI i))] [.int (nI ev.length), .int (nI i)] g _
    refine e_icmp_ge f_157_17 rfl (fun c_17 => ?_) (fun c_17 => ?_)
    · skip
      have c_17 : ev.length ≤ i := cv_le (by omega) (by omega) c_17
      refine e_vret f_157_33 rfl ?_
      have e : i = ev.length := by omega
      subst e
      exact ⟨rfl, G0, frg⟩
    · skip
      have c_17 : i < ev.length := cv_nle (by omega) (by omega) c_17
      refine e_aload_n f_157_20 rfl rfl ?_
      refine e_getf f_157_21 g1 rfl rfl ?_
      refine e_iload_n f_157_24 rfl rfl ?_
      refine e_iload_n f_157_25 rfl rfl ?_
      refine e_iastore_a (xs := List.range i) (x := i) f_157_26 G0 (by omega) (by rw [List.length_range]) (by omega) (rfl) rfl (fun h2 g3 fx4 => ?_)
      have fr5 : px_fi 296 1 h0 h2 := fi_tr frg fx4 (by omega)
      refine e_iinc (y := nI (i + 1)) (L' := [some (.ref (269)), some (.int (nI c)), some (.int (nI (i + 1)))]) f_157_27 rfl (by rw [show Int32.ofInt 1 = nI 1 by decide]; exact (nI_add _ _)) rfl rfl ?_
      refine e_goto f_157_30 ?_
      have g6 : px_pa h2 296 50 24 vN (List.range (i + 1)) := pa_eq g3 (by rw [List.range_succ])
      first | (exfalso; omega) | exact ih (d - 1) (by omega) (i + 1) h2 (by omega) (by omega) g6 fr5

set_option maxRecDepth 20000 in
set_option maxHeartbeats 4000000 in
theorem cc_Md_plA {h : px_H} {pl : List Nat} {c : Nat} {ev : List Ev} {em : List Nat} {es : List Ev} {ga : gA} {gp : gP} {gq : gQ} {gh : gH} {gw : gW} {gu : gU} {gv : gV} (H0 : h.2.2 269 = some (12, mB ga gp gq gh gw gu gv)) (H1 : px_pa h 296 50 24 vN pl) (H2 : px_pa h 274 50 8 vN em) (H3 : px_pa h 275 52 192 evS es) (p0 : c < 8) (p1 : em.length = 8 ∧ es.length = 192) (p2 : em.getD c 0 = ev.length) (p3 : inE es c ev) (p4 : ev.length ≤ 24) (p5 : ∀ e ∈ ev, e.1 < 65536) : px_wp 157 [.ref (269), .int (nI c)] h (fun h1 r => r = none ∧ h1.2.2 269 = some (12, mB ga gp gq gh gw (nI ev.length, gu.2.1, gu.2.2) gv) ∧ px_pa h1 296 50 24 vN (List.range ev.length) ∧ px_fj 269 1 296 1 h h1) := by
  have fr0 : px_fj 269 1 296 1 h h := fj_rf _ _ _ _ _
  show px_to 157 0 [some (.ref (269)), some (.int (nI c)), none] [] h _
  refine e_aload_n f_157_0 rfl rfl ?_
  refine e_aload_n f_157_1 rfl rfl ?_
  refine e_getf f_157_2 H0 rfl rfl ?_
  refine e_iload_n f_157_5 rfl rfl ?_
  refine e_iaload_p (xs := em) f_157_6 H2 (d := 0) (by first | omega | (simp only [List.length_set]; omega)) rfl ?_
  show px_to 157 7 [some (.ref (269)), some (.int (nI c)), none] [.int (nI (em.getD c 0)), .ref (269)] h _
  rw [p2]
  refine e_putp (vs' := mB ga gp gq gh gw (nI ev.length, gu.2.1, gu.2.2) gv) f_157_7 H0 (Nat.le_of_ble_eq_true rfl) (rfl) (rfl) rfl rfl (fun h1 g2 fx3 => ?_)
  have fr4 : px_fj 269 1 296 1 h h1 := fj_tr fr0 fx3 (by omega)
  refine e_iconst (v := nI 0) f_157_10 (by decide) rfl ?_
  refine e_istore_n (L' := [some (.ref (269)), some (.int (nI c)), some (.int (nI 0))]) f_157_11 (Nat.le_of_ble_eq_true rfl) rfl rfl ?_
  have g5 : px_pa h1 296 50 24 vN pl := pa_fi H1 fx3 (by omega)
  refine px_to_mono ?_ (ll_Md_plA (h0 := h1) (c := c) (ev := ev) g2 p4 ev.length 0 h1 (by omega) (by omega) (pa_nil g5) (fi_rf _ _ _))
  intro h1 r hr
  obtain ⟨e1, e2, e3⟩ := hr
  exact ⟨e1, fi_at g2 e3 (by omega), e2, fj_tr fr4 e3 (by omega)⟩
