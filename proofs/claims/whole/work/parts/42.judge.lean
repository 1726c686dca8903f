def fdiff (os : Nat) (outs told : List Row) : Int32 := if os = 126 then rfd (rsort outs) (rsort told) 0 else rfd outs told 0
def vd (os : Nat) (z : Option Nat) (outs told : List Row) : Nat := if os = 33 then (if z ≠ none ∧ fdiff os outs told = -3 then 1 else 0) else if z ≠ none then 2 else if fdiff os outs told = -3 then 1 else 0
theorem nI_m3 {n : Nat} (h : n < 2 ^ 31) : ¬ nI n = -3 := fun e => by
  have h1 : (nI n).toInt = (-3 : Int32).toInt := congrArg Int32.toInt e
  rw [nI_toInt h, show (-3 : Int32).toInt = -3 by decide] at h1
  omega
theorem rfd_eq : ∀ {xs ys : List Row} {i : Nat}, xs.length + i < 2 ^ 31 → (rfd xs ys i = -3 ↔ xs = ys)
  | [], [], _, _ => ⟨fun _ => rfl, fun _ => rfl⟩
  | [], y :: s, i, h => ⟨fun e => absurd e (nI_m3 (by rw [List.length_nil] at h; omega)), fun e => nomatch e⟩
  | x :: r, [], i, h => ⟨fun e => absurd e (nI_m3 (by omega)), fun e => nomatch e⟩
  | x :: r, y :: s, i, h => by
    rw [List.length_cons] at h
    rw [rfd]
    by_cases c : x = y
    · rw [if_pos c, rfd_eq (by omega), c]
      exact ⟨fun e => by rw [e], fun e => (List.cons.inj e).2⟩
    · rw [if_neg c]
      exact ⟨fun e => absurd e (nI_m3 (by omega)), fun e => absurd (List.cons.inj e).1 c⟩

set_option maxRecDepth 20000 in
set_option maxHeartbeats 4000000 in
theorem cc_Jud_fd {h : px_H} {b : Nat} {outs s1 s2 : List Row} {a : Nat} {ev : List Ev} {told : List Row} {os : Nat} {ks : Int32} {kept : List Nat} {ck : Nat} {un : List Nat} (H0 : h.2.2 249 = some (1, [.ref (250), .ref (252)])) (H1 : pRows h 250 96 s1) (H2 : pRows h 252 96 s2) (H3 : pCase h a ev told os ks kept ck un) (H4 : pRows h b 96 outs) (p0 : os < 65536) (p1 : ∀ r ∈ outs, rwOk r) (p2 : ∀ r ∈ told, rwOk r) (p3 : a + 9 ≤ 249 ∨ 254 ≤ a) (p4 : b + 2 ≤ 249 ∨ 254 ≤ b) : px_wp 10 [.ref (249), .ref (a), .ref (b)] h (fun h1 r => r = some (.int (fdiff os outs told)) ∧ h1.2.2 249 = some (1, [.ref (250), .ref (252)]) ∧ pRows h1 250 96 (if os = 126 then rsort outs else s1) ∧ pRows h1 252 96 (if os = 126 then rsort told else s2) ∧ px_fi 249 5 h h1) := by
  have fr0 : px_fi 249 5 h h := fi_rf _ _ _
  have lo := pa_len H4.2
  have lt := pa_len H3.2.2.2.2.2.1.2
  show px_to 10 0 [some (.ref (249)), some (.ref (a)), some (.ref (b))] [] h _
  refine e_aload_n f_10_0 rfl rfl ?_
  refine e_getf f_10_1 H3.1 rfl rfl ?_
  refine e_bipush (v := nI 126) f_10_4 (by decide) rfl ?_
  refine e_icmp_eq f_10_6 rfl (fun c_6 => ?_) (fun c_6 => ?_)
  · skip
    have c_6 : os = 126 := cv_eq (by omega) (by omega) c_6
    refine e_aload_n f_10_18 rfl rfl ?_
    refine e_getf f_10_19 H0 rfl rfl ?_
    refine e_aload_n f_10_22 rfl rfl ?_
    refine e_callV (As := [.ref (b)]) (rest := []) f_10_23 rfl rfl rfl (Nat.le_of_ble_eq_true rfl) (Nat.le_of_ble_eq_true rfl) H1.1 rfl (Nat.le_of_ble_eq_true rfl) (cc_Rows_sort (a := 250) (b := b) (ca := 96) (cb := 96) (rs := s1) (ss := outs) H1 H4 (by omega) (by omega) (by omega) (p1)) rfl (fun h1 r2 q3 => ?_)
    obtain ⟨rfl, g4, fx5⟩ := q3
    have fr6 : px_fi 249 5 h h1 := fi_tr fr0 fx5 (by omega)
    show px_to 10 26 [some (.ref (249)), some (.ref (a)), some (.ref (b))] [] h1 _
    refine e_aload_n f_10_26 rfl rfl ?_
    have g7 : h1.2.2 249 = some (1, [.ref (250), .ref (252)]) := fi_at H0 fx5 (by omega)
    refine e_getf f_10_27 g7 rfl rfl ?_
    refine e_aload_n f_10_30 rfl rfl ?_
    have g8 : pCase h1 a ev told os ks kept ck un := pCase_fi H3 fr6 (by omega)
    refine e_getf f_10_31 g8.1 rfl rfl ?_
    have g9 : pRows h1 252 96 s2 := pRows_fi H2 fx5 (by omega)
    have g10 : pRows h1 (a + 5) 16 told := pRows_fi H3.2.2.2.2.2.1 fr6 (by omega)
    refine e_callV (As := [.ref (a + 5)]) (rest := []) f_10_34 rfl rfl rfl (Nat.le_of_ble_eq_true rfl) (Nat.le_of_ble_eq_true rfl) g9.1 rfl (Nat.le_of_ble_eq_true rfl) (cc_Rows_sort (a := 252) (b := a + 5) (ca := 96) (cb := 16) (rs := s2) (ss := told) g9 g10 (by omega) (by omega) (by omega) (p2)) rfl (fun h11 r12 q13 => ?_)
    obtain ⟨rfl, g14, fx15⟩ := q13
    have fr16 : px_fi 249 5 h h11 := fi_tr fr6 fx15 (by omega)
    show px_to 10 37 [some (.ref (249)), some (.ref (a)), some (.ref (b))] [] h11 _
    refine e_aload_n f_10_37 rfl rfl ?_
    have g17 : h11.2.2 249 = some (1, [.ref (250), .ref (252)]) := fi_at g7 fx15 (by omega)
    refine e_getf f_10_38 g17 rfl rfl ?_
    refine e_aload_n f_10_41 rfl rfl ?_
    refine e_getf f_10_42 g17 rfl rfl ?_
    have g18 : pRows h11 250 96 (rsort outs) := pRows_fi g4 fx15 (by omega)
    refine e_callV (As := [.ref (252)]) (rest := []) f_10_45 rfl rfl rfl (Nat.le_of_ble_eq_true rfl) (Nat.le_of_ble_eq_true rfl) g18.1 rfl (Nat.le_of_ble_eq_true rfl) (cc_Rows_fd (a := 250) (b := 252) (ca := 96) (cb := 96) (rs := rsort outs) (ss := rsort told) g18 g14 (rsort_ok p1) (rsort_ok p2)) rfl (fun h19 r20 q21 => ?_)
    obtain ⟨rfl, qe⟩ := q21
    have qe := qe.symm
    subst qe
    show px_to 10 48 [some (.ref (249)), some (.ref (a)), some (.ref (b))] [.int (rfd (rsort outs) (rsort told) 0)] h11 _
    refine e_iret f_10_48 rfl (rfl) ?_
    unfold fdiff
    rw [if_pos c_6, if_pos c_6, if_pos c_6]
    exact ⟨rfl, g17, g18, g14, fr16⟩
  · skip
    have c_6 : os ≠ 126 := cv_ne c_6
    refine e_aload_n f_10_9 rfl rfl ?_
    refine e_aload_n f_10_10 rfl rfl ?_
    refine e_getf f_10_11 H3.1 rfl rfl ?_
    refine e_callV (As := [.ref (a + 5)]) (rest := []) f_10_14 rfl rfl rfl (Nat.le_of_ble_eq_true rfl) (Nat.le_of_ble_eq_true rfl) H4.1 rfl (Nat.le_of_ble_eq_true rfl) (cc_Rows_fd (a := b) (b := a + 5) (ca := 96) (cb := 16) (rs := outs) (ss := told) H4 H3.2.2.2.2.2.1 (p1) (p2)) rfl (fun h22 r23 q24 => ?_)
    obtain ⟨rfl, qe⟩ := q24
    have qe := qe.symm
    subst qe
    show px_to 10 17 [some (.ref (249)), some (.ref (a)), some (.ref (b))] [.int (rfd outs told 0)] h _
    refine e_iret f_10_17 rfl (rfl) ?_
    unfold fdiff
    rw [if_neg c_6, if_neg c_6, if_neg c_6]
    exact ⟨rfl, H0, H1, H2, fr0⟩

set_option maxRecDepth 20000 in
set_option maxHeartbeats 4000000 in
theorem cc_Jud_vd {h : px_H} {outs s1 s2 : List Row} {jb gv : Nat} {la lb : Bool} {z : Option Nat} {dn wo : Int32} {a : Nat} {ev : List Ev} {told : List Row} {os : Nat} {ks : Int32} {kept : List Nat} {ck : Nat} {un : List Nat} (H0 : h.2.2 249 = some (1, [.ref (250), .ref (252)])) (H1 : pRows h 250 96 s1) (H2 : pRows h 252 96 s2) (H3 : pCase h a ev told os ks kept ck un) (H4 : pRows h 246 96 outs) (H5 : h.2.2 177 = some (6, [.ref (jb), .ref (182), .ref (214), .ref (246), .int (nI gv), .int (bI la), .int (bI lb), .int (oI z), .int (dn), .int (wo), .ref (248)])) (p0 : os < 65536) (p1 : ∀ r ∈ outs, rwOk r) (p2 : ∀ r ∈ told, rwOk r) (p3 : a + 9 ≤ 249 ∨ 254 ≤ a) (p4 : ∀ q, z = some q → q < 6) : px_wp 11 [.ref (249), .ref (a), .ref (177)] h (fun h1 r => r = some (.int (nI (vd os z outs told))) ∧ h1.2.2 249 = some (1, [.ref (250), .ref (252)]) ∧ pRows h1 250 96 (if os = 126 then rsort outs else s1) ∧ pRows h1 252 96 (if os = 126 then rsort told else s2) ∧ px_fi 249 5 h h1) := by
  have fr0 : px_fi 249 5 h h := fi_rf _ _ _
  show px_to 11 0 [some (.ref (249)), some (.ref (a)), some (.ref (177)), none, none] [] h _
  refine e_aload_n f_11_0 rfl rfl ?_
  refine e_getf f_11_1 H5 rfl rfl ?_
  refine e_bipush (v := (-3)) f_11_4 (by decide) rfl ?_
  refine e_icmp_eq f_11_6 rfl (fun c_6 => ?_) (fun c_6 => ?_)
  · skip
    have hz := oI_z c_6 p4
    have hzn : ¬ z ≠ none := fun q => q hz
    refine e_iconst (v := nI 0) f_11_13 (by decide) rfl ?_
    refine e_istore_n (L' := [some (.ref (249)), some (.ref (a)), some (.ref (177)), some (.int (nI 0)), none]) f_11_14 (Nat.le_of_ble_eq_true rfl) rfl rfl ?_
    refine e_aload_n f_11_15 rfl rfl ?_
    refine e_aload_n f_11_16 rfl rfl ?_
    refine e_aload_n f_11_17 rfl rfl ?_
    refine e_getf f_11_18 H5 rfl rfl ?_
    refine e_callV (As := [.ref (a), .ref (246)]) (rest := []) f_11_21 rfl rfl rfl (Nat.le_of_ble_eq_true rfl) (Nat.le_of_ble_eq_true rfl) H0 rfl (Nat.le_of_ble_eq_true rfl) (cc_Jud_fd (b := 246) (outs := outs) (s1 := s1) (s2 := s2) (a := a) (ev := ev) (told := told) (os := os) (ks := ks) (kept := kept) (ck := ck) (un := un) H0 H1 H2 H3 H4 (by omega) (p1) (p2) (by omega) (by omega)) rfl (fun h1 r2 q3 => ?_)
    obtain ⟨rfl, g4, g5, g6, fx7⟩ := q3
    have fr8 : px_fi 249 5 h h1 := fi_tr fr0 fx7 (by omega)
    show px_to 11 24 [some (.ref (249)), some (.ref (a)), some (.ref (177)), some (.int (nI 0)), none] [.int (fdiff os outs told)] h1 _
    refine e_bipush (v := (-3)) f_11_24 (by decide) rfl ?_
    refine e_icmp_ne f_11_26 rfl (fun c_26 => ?_) (fun c_26 => ?_)
    · skip
      refine e_iconst (v := nI 0) f_11_33 (by decide) rfl ?_
      refine e_istore (L' := [some (.ref (249)), some (.ref (a)), some (.ref (177)), some (.int (nI 0)), some (.int (nI 0))]) f_11_34 (Nat.le_of_ble_eq_true rfl) rfl rfl ?_
      refine e_aload_n f_11_36 rfl rfl ?_
      have g9 : pCase h1 a ev told os ks kept ck un := pCase_fi H3 fr8 (by omega)
      refine e_getf f_11_37 g9.1 rfl rfl ?_
      refine e_bipush (v := nI 33) f_11_40 (by decide) rfl ?_
      refine e_icmp_ne f_11_42 rfl (fun c_42 => ?_) (fun c_42 => ?_)
      · skip
        have c_42 : os ≠ 33 := cv_ne c_42
        refine e_iload_n f_11_60 rfl rfl ?_
        refine e_if_eq_t f_11_61 (by decide) ?_
        refine e_iload f_11_68 rfl rfl ?_
        refine e_if_eq_t f_11_70 (by decide) ?_
        refine e_iconst (v := nI 0) f_11_77 (by decide) rfl ?_
        refine e_iret f_11_78 rfl (rfl) ?_
        have es : ¬ fdiff os outs told = -3 := c_26
        exact ⟨congrArg (fun n => some (Value.int (nI n))) (show 0 = vd os z outs told by unfold vd; rw [if_neg c_42, if_neg hzn, if_neg es]), g4, g5, g6, fr8⟩
      · skip
        have c_42 : os = 33 := cv_nne (by omega) (by omega) c_42
        refine e_iload_n f_11_45 rfl rfl ?_
        refine e_if_eq_t f_11_46 (by decide) ?_
        refine e_iconst (v := nI 0) f_11_58 (by decide) rfl ?_
        refine e_iret f_11_59 rfl (rfl) ?_
        have es : ¬ fdiff os outs told = -3 := c_26
        exact ⟨congrArg (fun n => some (Value.int (nI n))) (show 0 = vd os z outs told by unfold vd; rw [if_pos c_42, if_neg (fun q => hzn q.1)]), g4, g5, g6, fr8⟩
    · skip
      refine e_iconst (v := nI 1) f_11_29 (by decide) rfl ?_
      refine e_goto f_11_30 ?_
      refine e_istore (L' := [some (.ref (249)), some (.ref (a)), some (.ref (177)), some (.int (nI 0)), some (.int (nI 1))]) f_11_34 (Nat.le_of_ble_eq_true rfl) rfl rfl ?_
      refine e_aload_n f_11_36 rfl rfl ?_
      have g10 : pCase h1 a ev told os ks kept ck un := pCase_fi H3 fr8 (by omega)
      refine e_getf f_11_37 g10.1 rfl rfl ?_
      refine e_bipush (v := nI 33) f_11_40 (by decide) rfl ?_
      refine e_icmp_ne f_11_42 rfl (fun c_42 => ?_) (fun c_42 => ?_)
      · skip
        have c_42 : os ≠ 33 := cv_ne c_42
        refine e_iload_n f_11_60 rfl rfl ?_
        refine e_if_eq_t f_11_61 (by decide) ?_
        refine e_iload f_11_68 rfl rfl ?_
        refine e_if_eq_f f_11_70 (by decide) rfl ?_
        refine e_iconst (v := nI 1) f_11_73 (by decide) rfl ?_
        refine e_goto f_11_74 ?_
        refine e_iret f_11_78 rfl (rfl) ?_
        have es : fdiff os outs told = -3 := Classical.not_not.mp c_26
        exact ⟨congrArg (fun n => some (Value.int (nI n))) (show 1 = vd os z outs told by unfold vd; rw [if_neg c_42, if_neg hzn, if_pos es]), g4, g5, g6, fr8⟩
      · skip
        have c_42 : os = 33 := cv_nne (by omega) (by omega) c_42
        refine e_iload_n f_11_45 rfl rfl ?_
        refine e_if_eq_t f_11_46 (by decide) ?_
        refine e_iconst (v := nI 0) f_11_58 (by decide) rfl ?_
        refine e_iret f_11_59 rfl (rfl) ?_
        have es : fdiff os outs told = -3 := Classical.not_not.mp c_26
        exact ⟨congrArg (fun n => some (Value.int (nI n))) (show 0 = vd os z outs told by unfold vd; rw [if_pos c_42, if_neg (fun q => hzn q.1)]), g4, g5, g6, fr8⟩
  · skip
    obtain ⟨zq, hz⟩ := oI_ne c_6
    have hzn : z ≠ none := by rw [hz]; exact fun q => nomatch q
    refine e_iconst (v := nI 1) f_11_9 (by decide) rfl ?_
    refine e_goto f_11_10 ?_
    refine e_istore_n (L' := [some (.ref (249)), some (.ref (a)), some (.ref (177)), some (.int (nI 1)), none]) f_11_14 (Nat.le_of_ble_eq_true rfl) rfl rfl ?_
    refine e_aload_n f_11_15 rfl rfl ?_
    refine e_aload_n f_11_16 rfl rfl ?_
    refine e_aload_n f_11_17 rfl rfl ?_
    refine e_getf f_11_18 H5 rfl rfl ?_
    refine e_callV (As := [.ref (a), .ref (246)]) (rest := []) f_11_21 rfl rfl rfl (Nat.le_of_ble_eq_true rfl) (Nat.le_of_ble_eq_true rfl) H0 rfl (Nat.le_of_ble_eq_true rfl) (cc_Jud_fd (b := 246) (outs := outs) (s1 := s1) (s2 := s2) (a := a) (ev := ev) (told := told) (os := os) (ks := ks) (kept := kept) (ck := ck) (un := un) H0 H1 H2 H3 H4 (by omega) (p1) (p2) (by omega) (by omega)) rfl (fun h11 r12 q13 => ?_)
    obtain ⟨rfl, g14, g15, g16, fx17⟩ := q13
    have fr18 : px_fi 249 5 h h11 := fi_tr fr0 fx17 (by omega)
    show px_to 11 24 [some (.ref (249)), some (.ref (a)), some (.ref (177)), some (.int (nI 1)), none] [.int (fdiff os outs told)] h11 _
    refine e_bipush (v := (-3)) f_11_24 (by decide) rfl ?_
    refine e_icmp_ne f_11_26 rfl (fun c_26 => ?_) (fun c_26 => ?_)
    · skip
      refine e_iconst (v := nI 0) f_11_33 (by decide) rfl ?_
      refine e_istore (L' := [some (.ref (249)), some (.ref (a)), some (.ref (177)), some (.int (nI 1)), some (.int (nI 0))]) f_11_34 (Nat.le_of_ble_eq_true rfl) rfl rfl ?_
      refine e_aload_n f_11_36 rfl rfl ?_
      have g19 : pCase h11 a ev told os ks kept ck un := pCase_fi H3 fr18 (by omega)
      refine e_getf f_11_37 g19.1 rfl rfl ?_
      refine e_bipush (v := nI 33) f_11_40 (by decide) rfl ?_
      refine e_icmp_ne f_11_42 rfl (fun c_42 => ?_) (fun c_42 => ?_)
      · skip
        have c_42 : os ≠ 33 := cv_ne c_42
        refine e_iload_n f_11_60 rfl rfl ?_
        refine e_if_eq_f f_11_61 (by decide) rfl ?_
        refine e_iconst (v := nI 2) f_11_64 (by decide) rfl ?_
        refine e_goto f_11_65 ?_
        refine e_iret f_11_78 rfl (rfl) ?_
        have es : ¬ fdiff os outs told = -3 := c_26
        exact ⟨congrArg (fun n => some (Value.int (nI n))) (show 2 = vd os z outs told by unfold vd; rw [if_neg c_42, if_pos hzn]), g14, g15, g16, fr18⟩
      · skip
        have c_42 : os = 33 := cv_nne (by omega) (by omega) c_42
        refine e_iload_n f_11_45 rfl rfl ?_
        refine e_if_eq_f f_11_46 (by decide) rfl ?_
        refine e_iload f_11_49 rfl rfl ?_
        refine e_if_eq_t f_11_51 (by decide) ?_
        refine e_iconst (v := nI 0) f_11_58 (by decide) rfl ?_
        refine e_iret f_11_59 rfl (rfl) ?_
        have es : ¬ fdiff os outs told = -3 := c_26
        exact ⟨congrArg (fun n => some (Value.int (nI n))) (show 0 = vd os z outs told by unfold vd; rw [if_pos c_42, if_neg (fun q => es q.2)]), g14, g15, g16, fr18⟩
    · skip
      refine e_iconst (v := nI 1) f_11_29 (by decide) rfl ?_
      refine e_goto f_11_30 ?_
      refine e_istore (L' := [some (.ref (249)), some (.ref (a)), some (.ref (177)), some (.int (nI 1)), some (.int (nI 1))]) f_11_34 (Nat.le_of_ble_eq_true rfl) rfl rfl ?_
      refine e_aload_n f_11_36 rfl rfl ?_
      have g20 : pCase h11 a ev told os ks kept ck un := pCase_fi H3 fr18 (by omega)
      refine e_getf f_11_37 g20.1 rfl rfl ?_
      refine e_bipush (v := nI 33) f_11_40 (by decide) rfl ?_
      refine e_icmp_ne f_11_42 rfl (fun c_42 => ?_) (fun c_42 => ?_)
      · skip
        have c_42 : os ≠ 33 := cv_ne c_42
        refine e_iload_n f_11_60 rfl rfl ?_
        refine e_if_eq_f f_11_61 (by decide) rfl ?_
        refine e_iconst (v := nI 2) f_11_64 (by decide) rfl ?_
        refine e_goto f_11_65 ?_
        refine e_iret f_11_78 rfl (rfl) ?_
        have es : fdiff os outs told = -3 := Classical.not_not.mp c_26
        exact ⟨congrArg (fun n => some (Value.int (nI n))) (show 2 = vd os z outs told by unfold vd; rw [if_neg c_42, if_pos hzn]), g14, g15, g16, fr18⟩
      · skip
        have c_42 : os = 33 := cv_nne (by omega) (by omega) c_42
        refine e_iload_n f_11_45 rfl rfl ?_
        refine e_if_eq_f f_11_46 (by decide) rfl ?_
        refine e_iload f_11_49 rfl rfl ?_
        refine e_if_eq_f f_11_51 (by decide) rfl ?_
        refine e_iconst (v := nI 1) f_11_54 (by decide) rfl ?_
        refine e_goto f_11_55 ?_
        refine e_iret f_11_59 rfl (rfl) ?_
        have es : fdiff os outs told = -3 := Classical.not_not.mp c_26
        exact ⟨congrArg (fun n => some (Value.int (nI n))) (show 1 = vd os z outs told by unfold vd; rw [if_pos c_42, if_pos ⟨hzn, es⟩]), g14, g15, g16, fr18⟩

set_option maxRecDepth 20000 in
set_option maxHeartbeats 4000000 in
theorem cc_Jud_as {h : px_H} {p b cs : Nat} {ss outs s1 s2 : List Row} (H0 : h.2.2 249 = some (1, [.ref (250), .ref (252)])) (H1 : pRows h 250 96 s1) (H2 : pRows h 252 96 s2) (H3 : pRows h p cs ss) (H4 : pRows h b 96 outs) (p0 : ∀ r ∈ ss, rwOk r) (p1 : ∀ r ∈ outs, rwOk r) (p2 : p + 2 ≤ 249 ∨ 254 ≤ p) (p3 : b + 2 ≤ 249 ∨ 254 ≤ b) (p4 : cs < 1000) : px_wp 12 [.ref (249), .ref (p), .ref (b)] h (fun h1 r => r = some (.int (bI (decide (rsort outs = ss)))) ∧ h1.2.2 249 = some (1, [.ref (250), .ref (252)]) ∧ pRows h1 250 96 (if ss.length = outs.length then rsort outs else s1) ∧ pRows h1 252 96 s2 ∧ px_fi 249 5 h h1) := by
  have fr0 : px_fi 249 5 h h := fi_rf _ _ _
  have lo := pa_len H4.2
  have ls := pa_len H3.2
  show px_to 12 0 [some (.ref (249)), some (.ref (p)), some (.ref (b))] [] h _
  refine e_aload_n f_12_0 rfl rfl ?_
  refine e_getf f_12_1 H3.1 rfl rfl ?_
  refine e_aload_n f_12_4 rfl rfl ?_
  refine e_getf f_12_5 H4.1 rfl rfl ?_
  refine e_icmp_eq f_12_8 rfl (fun c_8 => ?_) (fun c_8 => ?_)
  · skip
    have c_8 : ss.length = outs.length := cv_eq (by omega) (by omega) c_8
    refine e_aload_n f_12_13 rfl rfl ?_
    refine e_getf f_12_14 H0 rfl rfl ?_
    refine e_aload_n f_12_17 rfl rfl ?_
    refine e_callV (As := [.ref (b)]) (rest := []) f_12_18 rfl rfl rfl (Nat.le_of_ble_eq_true rfl) (Nat.le_of_ble_eq_true rfl) H1.1 rfl (Nat.le_of_ble_eq_true rfl) (cc_Rows_sort (a := 250) (b := b) (ca := 96) (cb := 96) (rs := s1) (ss := outs) H1 H4 (by omega) (by omega) (by omega) (p1)) rfl (fun h1 r2 q3 => ?_)
    obtain ⟨rfl, g4, fx5⟩ := q3
    have fr6 : px_fi 249 5 h h1 := fi_tr fr0 fx5 (by omega)
    show px_to 12 21 [some (.ref (249)), some (.ref (p)), some (.ref (b))] [] h1 _
    refine e_aload_n f_12_21 rfl rfl ?_
    have g7 : h1.2.2 249 = some (1, [.ref (250), .ref (252)]) := fi_at H0 fx5 (by omega)
    refine e_getf f_12_22 g7 rfl rfl ?_
    refine e_aload_n f_12_25 rfl rfl ?_
    have g8 : pRows h1 p cs ss := pRows_fi H3 fr6 (by omega)
    refine e_callV (As := [.ref (p)]) (rest := []) f_12_26 rfl rfl rfl (Nat.le_of_ble_eq_true rfl) (Nat.le_of_ble_eq_true rfl) g4.1 rfl (Nat.le_of_ble_eq_true rfl) (cc_Rows_fd (a := 250) (b := p) (ca := 96) (cb := cs) (rs := rsort outs) (ss := ss) g4 g8 (rsort_ok p1) (p0)) rfl (fun h9 r10 q11 => ?_)
    obtain ⟨rfl, qe⟩ := q11
    have qe := qe.symm
    subst qe
    show px_to 12 29 [some (.ref (249)), some (.ref (p)), some (.ref (b))] [.int (rfd (rsort outs) ss 0)] h1 _
    refine e_bipush (v := (-3)) f_12_29 (by decide) rfl ?_
    refine e_icmp_ne f_12_31 rfl (fun c_31 => ?_) (fun c_31 => ?_)
    · skip
      refine e_iconst (v := nI 0) f_12_38 (by decide) rfl ?_
      refine e_iret f_12_39 rfl (rfl) ?_
      have g12 : pRows h1 252 96 s2 := pRows_fi H2 fx5 (by omega)
      rw [if_pos c_8]
      exact ⟨congrArg (fun z => some (Value.int z)) (b0 (decide_eq_false (fun e => c_31 ((rfd_eq (by rw [rsort_len]; omega)).mpr e)))), g7, g4, g12, fr6⟩
    · skip
      refine e_iconst (v := nI 1) f_12_34 (by decide) rfl ?_
      refine e_goto f_12_35 ?_
      refine e_iret f_12_39 rfl (rfl) ?_
      have g13 : pRows h1 252 96 s2 := pRows_fi H2 fx5 (by omega)
      rw [if_pos c_8]
      exact ⟨congrArg (fun z => some (Value.int z)) (b1 (decide_eq_true ((rfd_eq (by rw [rsort_len]; omega)).mp (Classical.not_not.mp c_31)))), g7, g4, g13, fr6⟩
  · skip
    have c_8 : ss.length ≠ outs.length := cv_ne c_8
    refine e_iconst (v := nI 0) f_12_11 (by decide) rfl ?_
    refine e_iret f_12_12 rfl (rfl) ?_
    rw [if_neg c_8]
    exact ⟨congrArg (fun z => some (Value.int z)) (b0 (decide_eq_false (fun e => c_8 (by rw [← e, rsort_len])))), H0, H1, H2, fr0⟩
