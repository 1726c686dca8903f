def spPos (m : Int64) : List Int64 → Nat
  | [] => 0
  | x :: r => if x < m then spPos m r + 1 else 0
theorem spPos_le (m : Int64) : ∀ ms : List Int64, spPos m ms ≤ ms.length
  | [] => Nat.le_refl _
  | x :: r => by
    have := spPos_le m r
    rw [spPos, List.length_cons]
    split <;> omega
/-- one more for the span m -/
def spAdd (m : Int64) (ms : List Int64) (cs : List Int32) : List Int64 × List Int32 :=
  if ms.getD (spPos m ms) 0 = m ∧ spPos m ms < ms.length then (ms, cs.set (spPos m ms) (cs.getD (spPos m ms) 0 + nI 1))
  else if 96 ≤ ms.length then (ms, cs)
  else (ms.take (spPos m ms) ++ m :: ms.drop (spPos m ms), cs.take (spPos m ms) ++ nI 1 :: cs.drop (spPos m ms))
theorem lgc_ge {x y : Int64} (h : 0 ≤ lg_cmp x y) : ¬ x < y := by
  unfold lg_cmp at h
  intro z
  rw [if_neg (fun w => absurd (Int64.lt_trans z w) (Int64.lt_irrefl)), if_neg (fun w => by rw [w] at z; exact Int64.lt_irrefl z)] at h
  exact absurd h (by decide)
theorem lgc_nge {x y : Int64} (h : ¬ 0 ≤ lg_cmp x y) : x < y := by
  unfold lg_cmp at h
  by_cases z : y < x
  · rw [if_pos z] at h
    exact absurd (by decide) h
  · by_cases e : x = y
    · rw [if_neg z, if_pos e] at h
      exact absurd (by decide) h
    · rcases Int64.lt_or_lt_of_ne e with q | q
      · exact q
      · exact absurd q z
theorem shift_eq {cs ws : List Int32} {w : Int32} {q : Nat} (h : q < cs.length) : (cs.take (q + 1) ++ w :: (cs.drop (q + 1) ++ ws)).set (q + 1) ((cs.take (q + 1) ++ w :: (cs.drop (q + 1) ++ ws)).getD q 0) = cs.take q ++ cs.getD q 0 :: (cs.drop q ++ ws) := by
  have e : (cs.take (q + 1)).length = q + 1 := by rw [List.length_take]; omega
  rw [getD_app (by omega), List.set_append_right _ _ (by omega), e, Nat.sub_self, List.set_cons_zero, drop_step 0 h, take_s 0 h]
  have e2 : (cs.take q ++ [cs.getD q 0]).getD q 0 = cs.getD q 0 := by
    rw [← take_s 0 h, List.getD_eq_getElem?_getD, List.getElem?_take, if_pos (by omega), ← List.getD_eq_getElem?_getD]
  rw [e2, List.append_assoc]
  rfl
theorem fill_eq {cs ws : List Int32} {w x : Int32} {q : Nat} (h : q ≤ cs.length) : (cs.take q ++ w :: (cs.drop q ++ ws)).set q x = (cs.take q ++ x :: cs.drop q) ++ ws := by
  have e : (cs.take q).length = q := by rw [List.length_take]; omega
  rw [List.set_append_right _ _ (by omega), e, Nat.sub_self, List.set_cons_zero, List.append_assoc]
  rfl
theorem set_app {cs ws : List Int32} {x : Int32} {q : Nat} (h : q < cs.length) : (cs ++ ws).set q x = cs.set q x ++ ws := List.set_append_left _ _ h

set_option maxRecDepth 20000 in
set_option maxHeartbeats 4000000 in
theorem ll_SM_pos {P : px_H → Option Value → Prop} {h : px_H} {k t n e p0 : Nat} {a : Nat} {to : Int32} {su ti : List Int32} {ms : List Int64} {cs : List Int32} (H0 : pSM h a (to, su, ti, ms, cs)) (hk : px_to 73 76 [some (.ref (a)), some (.int (nI k)), some (.int (nI t)), some (.int (nI n)), some (.int (nI n)), some (.int (nI e)), some (.long (mkM k (nI e))), none, some (.int (nI p0)), none] [] h P) : ∀ (d : Nat) (i : Nat), (ms.length ≤ i + d) → (i ≤ ms.length) → (i + spPos (mkM k (nI e)) (ms.drop i) = p0) → px_to 73 48 [some (.ref (a)), some (.int (nI k)), some (.int (nI t)), some (.int (nI n)), some (.int (nI n)), some (.int (nI e)), some (.long (mkM k (nI e))), none, some (.int (nI i)), none] [] h P := by
  intro d
  induction d using Nat.strongRecOn with
  | ind d ih =>
    intro i q0 q1 q2
    have l3 : ms.length ≤ 96 := pa_len H0.2.2.2.1
    refine e_iload f_73_48 rfl rfl ?_
    refine e_aload_n f_73_50 rfl rfl ?_
    refine e_getf f_73_51 H0.1 rfl rfl ?_
    refine e_icmp_ge f_73_54 rfl (fun c_54 => ?_) (fun c_54 => ?_)
    · skip
      have c_54 : ms.length ≤ i := cv_le (by omega) (by omega) c_54
      rw [List.drop_eq_nil_of_le (by omega), spPos] at q2
      subst q2
      exact hk
    · skip
      have c_54 : i < ms.length := cv_nle (by omega) (by omega) c_54
      refine e_aload_n f_73_57 rfl rfl ?_
      refine e_getf f_73_58 H0.1 rfl rfl ?_
      refine e_iload f_73_61 rfl rfl ?_
      refine e_laload_p (xs := ms) f_73_63 H0.2.2.2.1 (d := 0) (by first | omega | (simp only [List.length_set]; omega)) rfl ?_
      show px_to 73 64 [some (.ref (a)), some (.int (nI k)), some (.int (nI t)), some (.int (nI n)), some (.int (nI n)), some (.int (nI e)), some (.long (mkM k (nI e))), none, some (.int (nI i)), none] [.long (ms.getD i 0)] h _
      refine e_lload f_73_64 rfl rfl ?_
      refine e_lcmp f_73_66 rfl ?_
      refine e_if_ge f_73_67 rfl (fun c_67 => ?_) (fun c_67 => ?_)
      · skip
        rw [drop_step 0 (show i < ms.length by omega), spPos, if_neg (lgc_ge c_67)] at q2
        subst q2
        exact hk
      · skip
        refine e_iinc (y := nI (i + 1)) (L' := [some (.ref (a)), some (.int (nI k)), some (.int (nI t)), some (.int (nI n)), some (.int (nI n)), some (.int (nI e)), some (.long (mkM k (nI e))), none, some (.int (nI (i + 1))), none]) f_73_70 rfl (by rw [show Int32.ofInt 1 = nI 1 by decide]; exact (nI_add _ _)) rfl rfl ?_
        refine e_goto f_73_73 ?_
        first | (exfalso; omega) | exact ih (d - 1) (by omega) (i + 1)  (by omega) (by omega) (by rw [drop_step 0 (show i < ms.length by omega), spPos, if_pos (lgc_nge c_67)] at q2; omega)  

set_option maxRecDepth 20000 in
set_option maxHeartbeats 4000000 in
theorem ll_SM_shift {P : px_H → Option Value → Prop} {h0 : px_H} {k t n e p0 : Nat} {a : Nat} {to : Int32} {su ti : List Int32} {ms : List Int64} {cs ws : List Int32} (p17 : 17 ≤ a) (hcs : cs.length = ms.length) (hm : ms.length < 96) (kx : ∀ g x, g.2.2 a = some (9, [.int (to), .ref (a + 1), .ref (a + 2), .ref (a + 3), .ref (a + 4), .int (nI ms.length)]) → px_pa g (a + 1) 50 4 Value.int su → px_pa g (a + 2) 50 4 Value.int ti → px_ho g (a + 3) 51 96 Value.long (ms.take p0) (ms.drop p0) → px_pa g (a + 4) 50 96 Value.int (cs.take p0 ++ x :: (cs.drop p0 ++ ws)) → px_fi a 5 h0 g → px_to 73 172 [some (.ref (a)), some (.int (nI k)), some (.int (nI t)), some (.int (nI n)), some (.int (nI n)), some (.int (nI e)), some (.long (mkM k (nI e))), none, some (.int (nI p0)), some (.int (nI p0))] [] g P) : ∀ (d : Nat) (p : Nat) (x : Int32) (g : px_H), (p ≤ d) → (p ≤ ms.length) → (p0 ≤ p) → g.2.2 a = some (9, [.int (to), .ref (a + 1), .ref (a + 2), .ref (a + 3), .ref (a + 4), .int (nI ms.length)]) → px_pa g (a + 1) 50 4 Value.int su → px_pa g (a + 2) 50 4 Value.int ti → px_ho g (a + 3) 51 96 Value.long (ms.take p) (ms.drop p) → px_pa g (a + 4) 50 96 Value.int (cs.take p ++ x :: (cs.drop p ++ ws)) → px_fi a 5 h0 g → px_to 73 127 [some (.ref (a)), some (.int (nI k)), some (.int (nI t)), some (.int (nI n)), some (.int (nI n)), some (.int (nI e)), some (.long (mkM k (nI e))), none, some (.int (nI p0)), some (.int (nI p))] [] g P := by
  intro d
  induction d using Nat.strongRecOn with
  | ind d ih =>
    intro p x g q0 q1 q2 G0 G1 G2 G3 G4 frg
    refine e_iload f_73_127 rfl rfl ?_
    refine e_iload f_73_129 rfl rfl ?_
    refine e_icmp_le f_73_131 rfl (fun c_131 => ?_) (fun c_131 => ?_)
    · skip
      have c_131 : p ≤ p0 := cv_le (by omega) (by omega) c_131
      have e : p = p0 := by omega
      subst e
      exact kx g x G0 G1 G2 G3 G4 frg
    · skip
      have c_131 : p0 < p := cv_nle (by omega) (by omega) c_131
      obtain ⟨q, rfl⟩ : ∃ q, p = q + 1 := ⟨p - 1, by omega⟩
      refine e_aload_n f_73_134 rfl rfl ?_
      refine e_getf f_73_135 G0 rfl rfl ?_
      refine e_iload f_73_138 rfl rfl ?_
      refine e_aload_n f_73_140 rfl rfl ?_
      refine e_getf f_73_141 G0 rfl rfl ?_
      refine e_iload f_73_144 rfl rfl ?_
      refine e_iconst (v := nI 1) f_73_146 (by decide) rfl ?_
      refine e_isub (z := nI q) f_73_147 ((pk_sub (by omega)).trans (congrArg nI (by omega))) rfl ?_
      refine e_laload_h f_73_148 G3 (d := 0) (by omega) (by omega) rfl ?_
      show px_to 73 149 [some (.ref (a)), some (.int (nI k)), some (.int (nI t)), some (.int (nI n)), some (.int (nI n)), some (.int (nI e)), some (.long (mkM k (nI e))), none, some (.int (nI p0)), some (.int (nI (q + 1)))] [.long (ms.getD q 0), .int (nI (q + 1)), .ref (a + 3)] g _
      refine e_lastore_h (k := q) (d := 0) f_73_149 G3 (by omega) (by first | omega | (simp only [List.length_set]; omega)) (rfl) rfl (fun h1 g2 fx3 => ?_)
      have fr4 : px_fi a 5 h0 h1 := fi_tr frg fx3 (by omega)
      refine e_aload_n f_73_150 rfl rfl ?_
      have g5 : h1.2.2 a = some (9, [.int (to), .ref (a + 1), .ref (a + 2), .ref (a + 3), .ref (a + 4), .int (nI ms.length)]) := fi_at G0 fx3 (by omega)
      refine e_getf f_73_151 g5 rfl rfl ?_
      refine e_iload f_73_154 rfl rfl ?_
      refine e_aload_n f_73_156 rfl rfl ?_
      refine e_getf f_73_157 g5 rfl rfl ?_
      refine e_iload f_73_160 rfl rfl ?_
      refine e_iconst (v := nI 1) f_73_162 (by decide) rfl ?_
      refine e_isub (z := nI q) f_73_163 ((pk_sub (by omega)).trans (congrArg nI (by omega))) rfl ?_
      have g6 : px_pa h1 (a + 4) 50 96 Value.int (cs.take (q + 1) ++ x :: (cs.drop (q + 1) ++ ws)) := pa_fi G4 fx3 (by omega)
      refine e_iaload_p (xs := cs.take (q + 1) ++ x :: (cs.drop (q + 1) ++ ws)) f_73_164 g6 (d := 0) (by rw [List.length_append, List.length_cons, List.length_append, List.length_take, List.length_drop]; omega) rfl ?_
      show px_to 73 165 [some (.ref (a)), some (.int (nI k)), some (.int (nI t)), some (.int (nI n)), some (.int (nI n)), some (.int (nI e)), some (.long (mkM k (nI e))), none, some (.int (nI p0)), some (.int (nI (q + 1)))] [.int ((cs.take (q + 1) ++ x :: (cs.drop (q + 1) ++ ws)).getD q 0), .int (nI (q + 1)), .ref (a + 4)] h1 _
      refine e_iastore_p (xs := cs.take (q + 1) ++ x :: (cs.drop (q + 1) ++ ws)) (x := (cs.take (q + 1) ++ x :: (cs.drop (q + 1) ++ ws)).getD q 0) f_73_165 g6 (by omega) (by rw [List.length_append, List.length_cons, List.length_append, List.length_take, List.length_drop]; omega) (rfl) rfl (fun h7 g8 fx9 => ?_)
      have fr10 : px_fi a 5 h0 h7 := fi_tr fr4 fx9 (by omega)
      refine e_iinc (y := nI q) (L' := [some (.ref (a)), some (.int (nI k)), some (.int (nI t)), some (.int (nI n)), some (.int (nI n)), some (.int (nI e)), some (.long (mkM k (nI e))), none, some (.int (nI p0)), some (.int (nI q))]) f_73_166 rfl (by rw [show Int32.ofInt (-1) = (-1) by decide]; exact pk_m1 _) rfl rfl ?_
      refine e_goto f_73_169 ?_
      have g11 : px_pa h7 (a + 4) 50 96 Value.int (cs.take q ++ (cs.getD q 0) :: (cs.drop q ++ ws)) := pa_eq g8 (shift_eq (by omega))
      have g12 : h7.2.2 a = some (9, [.int (to), .ref (a + 1), .ref (a + 2), .ref (a + 3), .ref (a + 4), .int (nI ms.length)]) := fi_at g5 fx9 (by omega)
      have g13 : px_pa h1 (a + 1) 50 4 Value.int su := pa_fi G1 fx3 (by omega)
      have g14 : px_pa h7 (a + 1) 50 4 Value.int su := pa_fi g13 fx9 (by omega)
      have g15 : px_pa h1 (a + 2) 50 4 Value.int ti := pa_fi G2 fx3 (by omega)
      have g16 : px_pa h7 (a + 2) 50 4 Value.int ti := pa_fi g15 fx9 (by omega)
      have g17 : px_ho h7 (a + 3) 51 96 Value.long (ms.take q) (ms.drop q) := ho_fi g2 fx9 (by omega)
      first | (exfalso; omega) | exact ih (d - 1) (by omega) q (cs.getD q 0) h7 (by omega) (by omega) (by omega) g12 g14 g16 g17 g11 fr10

set_option maxRecDepth 20000 in
set_option maxHeartbeats 4000000 in
theorem cc_SM_count {h : px_H} {k t n e : Nat} {a : Nat} {to : Int32} {su ti : List Int32} {ms : List Int64} {cs : List Int32} (H0 : pSM h a (to, su, ti, ms, cs)) (p0 : 17 ≤ a) (p1 : (t / n + 1) * n = e) (p2 : 0 < n) (p3 : n < 100000) (p4 : t < 100000) (p5 : cs.length = ms.length) : px_wp 73 [.ref (a), .int (nI k), .int (nI t), .int (nI n)] h (fun h1 r => r = some (.int (bI (!decide (nI e ≤ to)))) ∧ pSM h1 a (to, su, ti, if nI e ≤ to then ms else (spAdd (mkM k (nI e)) ms cs).1, if nI e ≤ to then cs else (spAdd (mkM k (nI e)) ms cs).2) ∧ px_fi a 5 h h1) := by
  have h17 : 17 ≤ a := p0
  have fr0 : px_fi a 5 h h := fi_rf _ _ _
  have l1 : su.length = 4 := H0.2.2.2.2.2.1
  have l2 : ti.length = 4 := H0.2.2.2.2.2.2
  have l3 : ms.length ≤ 96 := pa_len H0.2.2.2.1
  obtain ⟨ws, hz, hzl⟩ : px_pz h (a + 4) 96 cs := H0.2.2.2.2.1
  rw [List.length_append] at hzl
  have hE : e ≤ t + n := by rw [← p1, Nat.add_mul, Nat.one_mul]; have := Nat.div_mul_le_self t n; omega
  show px_to 73 0 [some (.ref (a)), some (.int (nI k)), some (.int (nI t)), some (.int (nI n)), none, none, none, none, none, none] [] h _
  refine e_iload_n f_73_0 rfl rfl ?_
  refine e_if_le_f f_73_1 (nI_nle (by omega) (by omega)) rfl ?_
  refine e_iload_n f_73_4 rfl rfl ?_
  refine e_goto f_73_5 ?_
  refine e_istore (L' := [some (.ref (a)), some (.int (nI k)), some (.int (nI t)), some (.int (nI n)), some (.int (nI n)), none, none, none, none, none]) f_73_9 (Nat.le_of_ble_eq_true rfl) rfl rfl ?_
  refine e_iload_n f_73_11 rfl rfl ?_
  refine e_iload f_73_12 rfl rfl ?_
  refine e_idiv (z := nI (t / n)) f_73_14 (nI_ne0 (by omega) (by omega)) (pk_div (by omega) (by omega) (by omega)) rfl ?_
  refine e_iconst (v := nI 1) f_73_15 (by decide) rfl ?_
  refine e_iadd (z := nI (t / n + 1)) f_73_16 (nI_add _ _) rfl ?_
  refine e_iload f_73_17 rfl rfl ?_
  refine e_imul (z := nI e) f_73_19 ((pk_mul _ _).trans (congrArg nI p1)) rfl ?_
  refine e_istore (L' := [some (.ref (a)), some (.int (nI k)), some (.int (nI t)), some (.int (nI n)), some (.int (nI n)), some (.int (nI e)), none, none, none, none]) f_73_20 (Nat.le_of_ble_eq_true rfl) rfl rfl ?_
  refine e_iload f_73_22 rfl rfl ?_
  refine e_aload_n f_73_24 rfl rfl ?_
  refine e_getf f_73_25 H0.1 rfl rfl ?_
  refine e_icmp_gt f_73_28 rfl (fun c_28 => ?_) (fun c_28 => ?_)
  · skip
    refine e_iload f_73_33 rfl rfl ?_
    refine e_i2l (z := (nI e).toInt64) f_73_35 rfl rfl ?_
    refine e_ldc2 f_73_36 rfl ?_
    refine e_lmul (z := ((nI e).toInt64) * 4) f_73_39 rfl rfl ?_
    refine e_iload_n f_73_40 rfl rfl ?_
    refine e_i2l (z := (nI k).toInt64) f_73_41 rfl rfl ?_
    refine e_ladd (z := mkM k (nI e)) f_73_42 (rfl) rfl ?_
    refine e_lstore (L' := [some (.ref (a)), some (.int (nI k)), some (.int (nI t)), some (.int (nI n)), some (.int (nI n)), some (.int (nI e)), some (.long (mkM k (nI e))), none, none, none]) f_73_43 (Nat.le_of_ble_eq_true rfl) rfl rfl ?_
    refine e_iconst (v := nI 0) f_73_45 (by decide) rfl ?_
    refine e_istore (L' := [some (.ref (a)), some (.int (nI k)), some (.int (nI t)), some (.int (nI n)), some (.int (nI n)), some (.int (nI e)), some (.long (mkM k (nI e))), none, some (.int (nI 0)), none]) f_73_46 (Nat.le_of_ble_eq_true rfl) rfl rfl ?_
    have hps := spPos_le (mkM k (nI e)) ms
    refine ll_SM_pos (p0 := spPos (mkM k (nI e)) ms) H0 ?_ ms.length 0 (by omega) (by omega) (Nat.zero_add _)
    generalize hp0 : spPos (mkM k (nI e)) ms = p0 at hps ⊢
    have g1 : h.2.2 a = some (9, [.int (to), .ref (a + 1), .ref (a + 2), .ref (a + 3), .ref (a + 4), .int (nI ms.length)]) := H0.1
    have g2 : px_pa h (a + 1) 50 4 Value.int su := H0.2.1
    have g3 : px_pa h (a + 2) 50 4 Value.int ti := H0.2.2.1
    have g4 : px_pa h (a + 3) 51 96 Value.long ms := H0.2.2.2.1
    have g5 : px_pz h (a + 4) 96 cs := H0.2.2.2.2.1
    refine e_iload f_73_76 rfl rfl ?_
    refine e_aload_n f_73_78 rfl rfl ?_
    refine e_getf f_73_79 g1 rfl rfl ?_
    refine e_icmp_ge f_73_82 rfl (fun c_82 => ?_) (fun c_82 => ?_)
    · skip
      have c_82 : ms.length ≤ p0 := cv_le (by omega) (by omega) c_82
      refine e_aload_n f_73_112 rfl rfl ?_
      refine e_getf f_73_113 g1 rfl rfl ?_
      refine e_bipush (v := nI 96) f_73_116 (by decide) rfl ?_
      refine e_icmp_ge f_73_118 rfl (fun c_118 => ?_) (fun c_118 => ?_)
      · skip
        have c_118 : 96 ≤ ms.length := cv_le (by omega) (by omega) c_118
        refine e_iconst (v := nI 1) f_73_199 (by decide) rfl ?_
        refine e_iret f_73_200 rfl (rfl) ?_
        have hle : ¬ nI e ≤ to := Int32.not_le.mpr c_28
        have hsp : spAdd (mkM k (nI e)) ms cs = (ms, cs) := by unfold spAdd; rw [hp0, if_neg (fun z => absurd z.2 (by omega)), if_pos (by omega)]
        rw [if_neg hle, if_neg hle, hsp]
        exact ⟨congrArg (fun z => some (Value.int z)) (b1 (by simp [hle])), H0, fr0⟩
      · skip
        have c_118 : ms.length < 96 := cv_nle (by omega) (by omega) c_118
        refine e_aload_n f_73_121 rfl rfl ?_
        refine e_getf f_73_122 g1 rfl rfl ?_
        refine e_istore (L' := [some (.ref (a)), some (.int (nI k)), some (.int (nI t)), some (.int (nI n)), some (.int (nI n)), some (.int (nI e)), some (.long (mkM k (nI e))), none, some (.int (nI p0)), some (.int (nI ms.length))]) f_73_125 (Nat.le_of_ble_eq_true rfl) rfl rfl ?_
        obtain ⟨x, ws, rfl⟩ : ∃ x ws2, ws = x :: ws2 := by cases ws with
          | nil => exact absurd hzl (by simp; omega)
          | cons x y => exact ⟨x, y, rfl⟩
        rw [List.length_cons] at hzl
        refine ll_SM_shift (h0 := h) (p0 := p0) (ws := ws) h17 (by omega) (by omega) (fun g1 y z0 za zb z1 z2 z3 => ?_) ms.length ms.length x h (by omega) (by omega) (by omega) g1 g2 g3 (ho_of g4 (by omega)) (pa_eq hz (by rw [← p5, List.take_length, List.drop_length]; rfl)) fr0
        refine e_aload_n f_73_172 rfl rfl ?_
        refine e_getf f_73_173 z0 rfl rfl ?_
        refine e_iload f_73_176 rfl rfl ?_
        refine e_lload f_73_178 rfl rfl ?_
        refine e_lastore_f (x := mkM k (nI e)) f_73_180 z1 (by omega) (by first | omega | (simp only [List.length_set]; omega)) (rfl) rfl (fun h6 g7 fx8 => ?_)
        have fr9 : px_fi a 5 h h6 := fi_tr z3 fx8 (by omega)
        refine e_aload_n f_73_181 rfl rfl ?_
        have g10 : h6.2.2 a = some (9, [.int (to), .ref (a + 1), .ref (a + 2), .ref (a + 3), .ref (a + 4), .int (nI ms.length)]) := fi_at z0 fx8 (by omega)
        refine e_getf f_73_182 g10 rfl rfl ?_
        refine e_iload f_73_185 rfl rfl ?_
        refine e_iconst (v := nI 1) f_73_187 (by decide) rfl ?_
        have g11 : px_pa h6 (a + 4) 50 96 Value.int (cs.take p0 ++ y :: (cs.drop p0 ++ ws)) := pa_fi z2 fx8 (by omega)
        refine e_iastore_p (xs := cs.take p0 ++ y :: (cs.drop p0 ++ ws)) (x := nI 1) f_73_188 g11 (by omega) (by rw [List.length_append, List.length_cons, List.length_append, List.length_take, List.length_drop]; omega) (rfl) rfl (fun h12 g13 fx14 => ?_)
        have fr15 : px_fi a 5 h h12 := fi_tr fr9 fx14 (by omega)
        refine e_aload_n f_73_189 rfl rfl ?_
        refine e_dup f_73_190 rfl rfl ?_
        have g16 : h12.2.2 a = some (9, [.int (to), .ref (a + 1), .ref (a + 2), .ref (a + 3), .ref (a + 4), .int (nI ms.length)]) := fi_at g10 fx14 (by omega)
        refine e_getf f_73_191 g16 rfl rfl ?_
        refine e_iconst (v := nI 1) f_73_194 (by decide) rfl ?_
        refine e_iadd (z := nI (ms.length + 1)) f_73_195 (nI_add _ _) rfl ?_
        refine e_putp (vs' := [.int (to), .ref (a + 1), .ref (a + 2), .ref (a + 3), .ref (a + 4), .int (nI (ms.length + 1))]) f_73_196 g16 (Nat.le_of_ble_eq_true rfl) (rfl) (rfl) rfl rfl (fun h17 g18 fx19 => ?_)
        have fr20 : px_fi a 5 h h17 := fi_tr fr15 fx19 (by omega)
        refine e_iconst (v := nI 1) f_73_199 (by decide) rfl ?_
        refine e_iret f_73_200 rfl (rfl) ?_
        have hle : ¬ nI e ≤ to := Int32.not_le.mpr c_28
        have g21 : px_pa h6 (a + 1) 50 4 Value.int su := pa_fi za fx8 (by omega)
        have g22 : px_pa h12 (a + 1) 50 4 Value.int su := pa_fi g21 fx14 (by omega)
        have g23 : px_pa h17 (a + 1) 50 4 Value.int su := pa_fi g22 fx19 (by omega)
        have g24 : px_pa h6 (a + 2) 50 4 Value.int ti := pa_fi zb fx8 (by omega)
        have g25 : px_pa h12 (a + 2) 50 4 Value.int ti := pa_fi g24 fx14 (by omega)
        have g26 : px_pa h17 (a + 2) 50 4 Value.int ti := pa_fi g25 fx19 (by omega)
        have g27 : px_pa h12 (a + 3) 51 96 Value.long (ms.take p0 ++ (mkM k (nI e)) :: ms.drop p0) := pa_fi g7 fx14 (by omega)
        have g28 : px_pa h17 (a + 3) 51 96 Value.long (ms.take p0 ++ (mkM k (nI e)) :: ms.drop p0) := pa_fi g27 fx19 (by omega)
        have g29 : px_pa h17 (a + 4) 50 96 Value.int ((cs.take p0 ++ y :: (cs.drop p0 ++ ws)).set p0 (nI 1)) := pa_fi g13 fx19 (by omega)
        have hsp : spAdd (mkM k (nI e)) ms cs = (ms.take p0 ++ mkM k (nI e) :: ms.drop p0, cs.take p0 ++ nI 1 :: cs.drop p0) := by unfold spAdd; rw [hp0, if_neg (fun z => absurd z.2 (by omega)), if_neg (by omega)]
        rw [if_neg hle, if_neg hle, hsp]
        exact ⟨congrArg (fun z => some (Value.int z)) (b1 (by simp [hle])), ⟨by rw [show (ms.take p0 ++ mkM k (nI e) :: ms.drop p0).length = ms.length + 1 by rw [List.length_append, List.length_cons, List.length_take, List.length_drop]; omega]; exact g18, g23, g26, g28, pz_of' (ws := ws) g29 (by rw [List.length_set]; rw [List.length_append, List.length_cons, List.length_append, List.length_take, List.length_drop]; omega) (fill_eq (by omega)), l1, l2⟩, fr20⟩
    · skip
      have c_82 : p0 < ms.length := cv_nle (by omega) (by omega) c_82
      refine e_aload_n f_73_85 rfl rfl ?_
      refine e_getf f_73_86 g1 rfl rfl ?_
      refine e_iload f_73_89 rfl rfl ?_
      refine e_laload_p (xs := ms) f_73_91 g4 (d := 0) (by first | omega | (simp only [List.length_set]; omega)) rfl ?_
      show px_to 73 92 [some (.ref (a)), some (.int (nI k)), some (.int (nI t)), some (.int (nI n)), some (.int (nI n)), some (.int (nI e)), some (.long (mkM k (nI e))), none, some (.int (nI p0)), none] [.long (ms.getD p0 0)] h _
      refine e_lload f_73_92 rfl rfl ?_
      refine e_lcmp f_73_94 rfl ?_
      refine e_if_ne f_73_95 rfl (fun c_95 => ?_) (fun c_95 => ?_)
      · skip
        refine e_aload_n f_73_112 rfl rfl ?_
        refine e_getf f_73_113 g1 rfl rfl ?_
        refine e_bipush (v := nI 96) f_73_116 (by decide) rfl ?_
        refine e_icmp_ge f_73_118 rfl (fun c_118 => ?_) (fun c_118 => ?_)
        · skip
          have c_118 : 96 ≤ ms.length := cv_le (by omega) (by omega) c_118
          refine e_iconst (v := nI 1) f_73_199 (by decide) rfl ?_
          refine e_iret f_73_200 rfl (rfl) ?_
          have hle : ¬ nI e ≤ to := Int32.not_le.mpr c_28
          have hsp : spAdd (mkM k (nI e)) ms cs = (ms, cs) := by unfold spAdd; rw [hp0, if_neg (fun z => c_95 ((lg_cmp0 _ _).mpr z.1)), if_pos (by omega)]
          rw [if_neg hle, if_neg hle, hsp]
          exact ⟨congrArg (fun z => some (Value.int z)) (b1 (by simp [hle])), H0, fr0⟩
        · skip
          have c_118 : ms.length < 96 := cv_nle (by omega) (by omega) c_118
          refine e_aload_n f_73_121 rfl rfl ?_
          refine e_getf f_73_122 g1 rfl rfl ?_
          refine e_istore (L' := [some (.ref (a)), some (.int (nI k)), some (.int (nI t)), some (.int (nI n)), some (.int (nI n)), some (.int (nI e)), some (.long (mkM k (nI e))), none, some (.int (nI p0)), some (.int (nI ms.length))]) f_73_125 (Nat.le_of_ble_eq_true rfl) rfl rfl ?_
          obtain ⟨x, ws, rfl⟩ : ∃ x ws2, ws = x :: ws2 := by cases ws with
            | nil => exact absurd hzl (by simp; omega)
            | cons x y => exact ⟨x, y, rfl⟩
          rw [List.length_cons] at hzl
          refine ll_SM_shift (h0 := h) (p0 := p0) (ws := ws) h17 (by omega) (by omega) (fun g1 y z0 za zb z1 z2 z3 => ?_) ms.length ms.length x h (by omega) (by omega) (by omega) g1 g2 g3 (ho_of g4 (by omega)) (pa_eq hz (by rw [← p5, List.take_length, List.drop_length]; rfl)) fr0
          refine e_aload_n f_73_172 rfl rfl ?_
          refine e_getf f_73_173 z0 rfl rfl ?_
          refine e_iload f_73_176 rfl rfl ?_
          refine e_lload f_73_178 rfl rfl ?_
          refine e_lastore_f (x := mkM k (nI e)) f_73_180 z1 (by omega) (by first | omega | (simp only [List.length_set]; omega)) (rfl) rfl (fun h30 g31 fx32 => ?_)
          have fr33 : px_fi a 5 h h30 := fi_tr z3 fx32 (by omega)
          refine e_aload_n f_73_181 rfl rfl ?_
          have g34 : h30.2.2 a = some (9, [.int (to), .ref (a + 1), .ref (a + 2), .ref (a + 3), .ref (a + 4), .int (nI ms.length)]) := fi_at z0 fx32 (by omega)
          refine e_getf f_73_182 g34 rfl rfl ?_
          refine e_iload f_73_185 rfl rfl ?_
          refine e_iconst (v := nI 1) f_73_187 (by decide) rfl ?_
          have g35 : px_pa h30 (a + 4) 50 96 Value.int (cs.take p0 ++ y :: (cs.drop p0 ++ ws)) := pa_fi z2 fx32 (by omega)
          refine e_iastore_p (xs := cs.take p0 ++ y :: (cs.drop p0 ++ ws)) (x := nI 1) f_73_188 g35 (by omega) (by rw [List.length_append, List.length_cons, List.length_append, List.length_take, List.length_drop]; omega) (rfl) rfl (fun h36 g37 fx38 => ?_)
          have fr39 : px_fi a 5 h h36 := fi_tr fr33 fx38 (by omega)
          refine e_aload_n f_73_189 rfl rfl ?_
          refine e_dup f_73_190 rfl rfl ?_
          have g40 : h36.2.2 a = some (9, [.int (to), .ref (a + 1), .ref (a + 2), .ref (a + 3), .ref (a + 4), .int (nI ms.length)]) := fi_at g34 fx38 (by omega)
          refine e_getf f_73_191 g40 rfl rfl ?_
          refine e_iconst (v := nI 1) f_73_194 (by decide) rfl ?_
          refine e_iadd (z := nI (ms.length + 1)) f_73_195 (nI_add _ _) rfl ?_
          refine e_putp (vs' := [.int (to), .ref (a + 1), .ref (a + 2), .ref (a + 3), .ref (a + 4), .int (nI (ms.length + 1))]) f_73_196 g40 (Nat.le_of_ble_eq_true rfl) (rfl) (rfl) rfl rfl (fun h41 g42 fx43 => ?_)
          have fr44 : px_fi a 5 h h41 := fi_tr fr39 fx43 (by omega)
          refine e_iconst (v := nI 1) f_73_199 (by decide) rfl ?_
          refine e_iret f_73_200 rfl (rfl) ?_
          have hle : ¬ nI e ≤ to := Int32.not_le.mpr c_28
          have g45 : px_pa h30 (a + 1) 50 4 Value.int su := pa_fi za fx32 (by omega)
          have g46 : px_pa h36 (a + 1) 50 4 Value.int su := pa_fi g45 fx38 (by omega)
          have g47 : px_pa h41 (a + 1) 50 4 Value.int su := pa_fi g46 fx43 (by omega)
          have g48 : px_pa h30 (a + 2) 50 4 Value.int ti := pa_fi zb fx32 (by omega)
          have g49 : px_pa h36 (a + 2) 50 4 Value.int ti := pa_fi g48 fx38 (by omega)
          have g50 : px_pa h41 (a + 2) 50 4 Value.int ti := pa_fi g49 fx43 (by omega)
          have g51 : px_pa h36 (a + 3) 51 96 Value.long (ms.take p0 ++ (mkM k (nI e)) :: ms.drop p0) := pa_fi g31 fx38 (by omega)
          have g52 : px_pa h41 (a + 3) 51 96 Value.long (ms.take p0 ++ (mkM k (nI e)) :: ms.drop p0) := pa_fi g51 fx43 (by omega)
          have g53 : px_pa h41 (a + 4) 50 96 Value.int ((cs.take p0 ++ y :: (cs.drop p0 ++ ws)).set p0 (nI 1)) := pa_fi g37 fx43 (by omega)
          have hsp : spAdd (mkM k (nI e)) ms cs = (ms.take p0 ++ mkM k (nI e) :: ms.drop p0, cs.take p0 ++ nI 1 :: cs.drop p0) := by unfold spAdd; rw [hp0, if_neg (fun z => c_95 ((lg_cmp0 _ _).mpr z.1)), if_neg (by omega)]
          rw [if_neg hle, if_neg hle, hsp]
          exact ⟨congrArg (fun z => some (Value.int z)) (b1 (by simp [hle])), ⟨by rw [show (ms.take p0 ++ mkM k (nI e) :: ms.drop p0).length = ms.length + 1 by rw [List.length_append, List.length_cons, List.length_take, List.length_drop]; omega]; exact g42, g47, g50, g52, pz_of' (ws := ws) g53 (by rw [List.length_set]; rw [List.length_append, List.length_cons, List.length_append, List.length_take, List.length_drop]; omega) (fill_eq (by omega)), l1, l2⟩, fr44⟩
      · skip
        refine e_aload_n f_73_98 rfl rfl ?_
        refine e_getf f_73_99 g1 rfl rfl ?_
        refine e_iload f_73_102 rfl rfl ?_
        refine e_dup2 f_73_104 rfl rfl rfl ?_
        refine e_iaload_p (xs := cs ++ ws) f_73_105 hz (d := 0) (by rw [List.length_append]; omega) rfl ?_
        show px_to 73 106 [some (.ref (a)), some (.int (nI k)), some (.int (nI t)), some (.int (nI n)), some (.int (nI n)), some (.int (nI e)), some (.long (mkM k (nI e))), none, some (.int (nI p0)), none] [.int ((cs ++ ws).getD p0 0), .int (nI p0), .ref (a + 4)] h _
        refine e_iconst (v := nI 1) f_73_106 (by decide) rfl ?_
        refine e_iadd (z := ((cs ++ ws).getD p0 0) + (nI 1)) f_73_107 rfl rfl ?_
        refine e_iastore_p (xs := cs ++ ws) (x := ((cs ++ ws).getD p0 0) + (nI 1)) f_73_108 hz (by omega) (by rw [List.length_append]; omega) (rfl) rfl (fun h54 g55 fx56 => ?_)
        have fr57 : px_fi a 5 h h54 := fi_tr fr0 fx56 (by omega)
        refine e_goto f_73_109 ?_
        refine e_iconst (v := nI 1) f_73_199 (by decide) rfl ?_
        refine e_iret f_73_200 rfl (rfl) ?_
        have hle : ¬ nI e ≤ to := Int32.not_le.mpr c_28
        have g58 : h54.2.2 a = some (9, [.int (to), .ref (a + 1), .ref (a + 2), .ref (a + 3), .ref (a + 4), .int (nI ms.length)]) := fi_at g1 fx56 (by omega)
        have g59 : px_pa h54 (a + 1) 50 4 Value.int su := pa_fi g2 fx56 (by omega)
        have g60 : px_pa h54 (a + 2) 50 4 Value.int ti := pa_fi g3 fx56 (by omega)
        have g61 : px_pa h54 (a + 3) 51 96 Value.long ms := pa_fi g4 fx56 (by omega)
        have hsp : spAdd (mkM k (nI e)) ms cs = (ms, cs.set p0 (cs.getD p0 0 + nI 1)) := by unfold spAdd; rw [hp0, if_pos ⟨(lg_cmp0 _ _).mp (Classical.not_not.mp c_95), by omega⟩]
        rw [if_neg hle, if_neg hle, hsp]
        exact ⟨congrArg (fun z => some (Value.int z)) (b1 (by simp [hle])), ⟨g58, g59, g60, g61, pz_of' (ws := ws) g55 (by rw [List.length_set, List.length_append]; omega) (by rw [getD_app (by omega), set_app (by omega)]), l1, l2⟩, fr57⟩
  · skip
    refine e_iconst (v := nI 0) f_73_31 (by decide) rfl ?_
    refine e_iret f_73_32 rfl (rfl) ?_
    exact ⟨congrArg (fun z => some (Value.int z)) (b0 (by simp [Int32.not_lt.mp c_28])), by rw [if_pos (Int32.not_lt.mp c_28), if_pos (Int32.not_lt.mp c_28)]; exact H0, fr0⟩

theorem drop_inv {α : Type} {xs ys : List α} {j i g : Nat} {d : α} (hj : j + g = i) (hi : i < ys.length) (hx : xs.length = ys.length) (e1 : xs.take j = (ys.drop g).take j) (e2 : xs.drop i = ys.drop i) : (xs.set j (xs.getD i d)).take (j + 1) = (ys.drop g).take (j + 1) ∧ (xs.set j (xs.getD i d)).drop (i + 1) = ys.drop (i + 1) := by
  have e3 : xs.getD i d = ys.getD i d := by
    have h1 := drop_step d (show i < xs.length by omega)
    have h2 := drop_step d hi
    rw [e2, h2] at h1
    exact (List.cons.inj h1).1.symm
  constructor
  · rw [take_s d (by rw [List.length_set]; omega), getD_set_same (by omega), List.take_set_of_le (Nat.le_refl _), e1, take_s d (by rw [List.length_drop]; omega), e3]
    congr 2
    rw [List.getD_eq_getElem?_getD, List.getD_eq_getElem?_getD, List.getElem?_drop, Nat.add_comm, hj]
  · rw [List.drop_set_of_lt (by omega)]
    have h1 := drop_step d (show i < xs.length by omega)
    have h2 := drop_step d hi
    rw [e2, h2] at h1
    exact (List.cons.inj h1).2.symm

set_option maxRecDepth 20000 in
set_option maxHeartbeats 4000000 in
theorem ll_SM_drop {h0 : px_H} {a gn : Nat} {to : Int32} {su ti : List Int32} {ms : List Int64} {cs ws : List Int32} (p0 : 17 ≤ a) (p1 : gn ≤ ms.length) (p2 : cs.length = ms.length) (l3 : ms.length ≤ 96) (l1 : su.length = 4) (l2 : ti.length = 4) : ∀ (d : Nat) (i : Nat) (y : List Int64) (c : List Int32) (g : px_H), (ms.length ≤ i + d) → (gn ≤ i) → (i ≤ ms.length) → (y.length = ms.length) → (c.length = cs.length) → (y.take (i - gn) = (ms.drop gn).take (i - gn)) → (y.drop i = ms.drop i) → (c.take (i - gn) = (cs.drop gn).take (i - gn)) → (c.drop i = cs.drop i) → ((c ++ ws).length = 96) → g.2.2 a = some (9, [.int (to), .ref (a + 1), .ref (a + 2), .ref (a + 3), .ref (a + 4), .int (nI ms.length)]) → px_pa g (a + 1) 50 4 Value.int su → px_pa g (a + 2) 50 4 Value.int ti → px_pa g (a + 3) 51 96 Value.long y → px_pa g (a + 4) 50 96 Value.int (c ++ ws) → px_fi a 5 h0 g → px_to 78 2 [some (.ref (a)), some (.int (nI gn)), some (.int (nI i))] [] g (fun h1 r => r = none ∧ pSM h1 a (to, su, ti, ms.drop gn, cs.drop gn) ∧ px_fi a 5 h0 h1) := by
  intro d
  induction d using Nat.strongRecOn with
  | ind d ih =>
    intro i y c g q0 q1 q2 q3 q4 q5 q6 q7 q8 q9 G0 G1 G2 G3 G4 frg
    refine e_iload_n f_78_2 rfl rfl ?_
    refine e_aload_n f_78_3 rfl rfl ?_
    refine e_getf f_78_4 G0 rfl rfl ?_
    refine e_icmp_ge f_78_7 rfl (fun c_7 => ?_) (fun c_7 => ?_)
    · skip
      have c_7 : ms.length ≤ i := cv_le (by omega) (by omega) c_7
      refine e_aload_n f_78_44 rfl rfl ?_
      refine e_iconst (v := nI 0) f_78_45 (by decide) rfl ?_
      refine e_aload_n f_78_46 rfl rfl ?_
      refine e_getf f_78_47 G0 rfl rfl ?_
      refine e_iload_n f_78_50 rfl rfl ?_
      refine e_isub (z := nI (ms.length - gn)) f_78_51 (pk_sub (by omega)) rfl ?_
      refine e_maxN f_78_52 (by omega) (by omega) (Nat.le_of_ble_eq_true rfl) rfl ?_
      refine e_putp (vs' := [.int (to), .ref (a + 1), .ref (a + 2), .ref (a + 3), .ref (a + 4), .int (nI (max 0 (ms.length - gn)))]) f_78_55 G0 (Nat.le_of_ble_eq_true rfl) (rfl) (rfl) rfl rfl (fun h1 g2 fx3 => ?_)
      have fr4 : px_fi a 5 h0 h1 := fi_tr frg fx3 (by omega)
      refine e_vret f_78_58 rfl ?_
      have g5 : px_pa h1 (a + 1) 50 4 Value.int su := pa_fi G1 fx3 (by omega)
      have g6 : px_pa h1 (a + 2) 50 4 Value.int ti := pa_fi G2 fx3 (by omega)
      have g7 : px_pa h1 (a + 3) 51 96 Value.long y := pa_fi G3 fx3 (by omega)
      have g8 : px_pa h1 (a + 4) 50 96 Value.int (c ++ ws) := pa_fi G4 fx3 (by omega)
      have e : i = ms.length := by omega
      subst e
      have e1 : y.take (ms.length - gn) = ms.drop gn := by rw [q5]; exact take_all (by rw [List.length_drop])
      have e2 : c.take (ms.length - gn) = cs.drop gn := by rw [q7]; exact take_all (by rw [List.length_drop]; omega)
      exact ⟨rfl, ⟨by rw [List.length_drop, show ms.length - gn = max 0 (ms.length - gn) by omega]; exact g2, g5, g6, pa_eq (pa_take g7 (ms.length - gn)) e1, pz_of' (ws := c.drop (ms.length - gn) ++ ws) g8 q9 (by rw [← e2, ← List.append_assoc, List.take_append_drop]), l1, l2⟩, fr4⟩
    · skip
      have c_7 : i < ms.length := cv_nle (by omega) (by omega) c_7
      refine e_aload_n f_78_10 rfl rfl ?_
      refine e_getf f_78_11 G0 rfl rfl ?_
      refine e_iload_n f_78_14 rfl rfl ?_
      refine e_iload_n f_78_15 rfl rfl ?_
      refine e_isub (z := nI (i - gn)) f_78_16 (pk_sub (by omega)) rfl ?_
      refine e_aload_n f_78_17 rfl rfl ?_
      refine e_getf f_78_18 G0 rfl rfl ?_
      refine e_iload_n f_78_21 rfl rfl ?_
      refine e_laload_p (xs := y) f_78_22 G3 (d := 0) (by first | omega | (simp only [List.length_set]; omega)) rfl ?_
      show px_to 78 23 [some (.ref (a)), some (.int (nI gn)), some (.int (nI i))] [.long (y.getD i 0), .int (nI (i - gn)), .ref (a + 3)] g _
      refine e_lastore_p (xs := y) (x := y.getD i 0) f_78_23 G3 (by omega) (by first | omega | (simp only [List.length_set]; omega)) (rfl) rfl (fun h9 g10 fx11 => ?_)
      have fr12 : px_fi a 5 h0 h9 := fi_tr frg fx11 (by omega)
      refine e_aload_n f_78_24 rfl rfl ?_
      have g13 : h9.2.2 a = some (9, [.int (to), .ref (a + 1), .ref (a + 2), .ref (a + 3), .ref (a + 4), .int (nI ms.length)]) := fi_at G0 fx11 (by omega)
      refine e_getf f_78_25 g13 rfl rfl ?_
      refine e_iload_n f_78_28 rfl rfl ?_
      refine e_iload_n f_78_29 rfl rfl ?_
      refine e_isub (z := nI (i - gn)) f_78_30 (pk_sub (by omega)) rfl ?_
      refine e_aload_n f_78_31 rfl rfl ?_
      refine e_getf f_78_32 g13 rfl rfl ?_
      refine e_iload_n f_78_35 rfl rfl ?_
      have g14 : px_pa h9 (a + 4) 50 96 Value.int (c ++ ws) := pa_fi G4 fx11 (by omega)
      refine e_iaload_p (xs := c ++ ws) f_78_36 g14 (d := 0) (by rw [List.length_append]; omega) rfl ?_
      show px_to 78 37 [some (.ref (a)), some (.int (nI gn)), some (.int (nI i))] [.int ((c ++ ws).getD i 0), .int (nI (i - gn)), .ref (a + 4)] h9 _
      refine e_iastore_p (xs := c ++ ws) (x := (c ++ ws).getD i 0) f_78_37 g14 (by omega) (by rw [List.length_append]; omega) (rfl) rfl (fun h15 g16 fx17 => ?_)
      have fr18 : px_fi a 5 h0 h15 := fi_tr fr12 fx17 (by omega)
      refine e_iinc (y := nI (i + 1)) (L' := [some (.ref (a)), some (.int (nI gn)), some (.int (nI (i + 1)))]) f_78_38 rfl (by rw [show Int32.ofInt 1 = nI 1 by decide]; exact (nI_add _ _)) rfl rfl ?_
      refine e_goto f_78_41 ?_
      have g19 : px_pa h15 (a + 4) 50 96 Value.int ((c.set (i - gn) (c.getD i 0)) ++ ws) := pa_eq g16 (by rw [getD_app (by omega), set_app (by omega)])
      have d1 := drop_inv (d := 0) (j := i - gn) (by omega) (by omega) q3 q5 q6
      have d2 := drop_inv (d := 0) (j := i - gn) (by omega) (by omega) q4 q7 q8
      have d3 : i + 1 - gn = i - gn + 1 := by omega
      have g20 : h15.2.2 a = some (9, [.int (to), .ref (a + 1), .ref (a + 2), .ref (a + 3), .ref (a + 4), .int (nI ms.length)]) := fi_at g13 fx17 (by omega)
      have g21 : px_pa h9 (a + 1) 50 4 Value.int su := pa_fi G1 fx11 (by omega)
      have g22 : px_pa h15 (a + 1) 50 4 Value.int su := pa_fi g21 fx17 (by omega)
      have g23 : px_pa h9 (a + 2) 50 4 Value.int ti := pa_fi G2 fx11 (by omega)
      have g24 : px_pa h15 (a + 2) 50 4 Value.int ti := pa_fi g23 fx17 (by omega)
      have g25 : px_pa h15 (a + 3) 51 96 Value.long (y.set (i - gn) (y.getD i 0)) := pa_fi g10 fx17 (by omega)
      first | (exfalso; omega) | exact ih (d - 1) (by omega) (i + 1) (y.set (i - gn) (y.getD i 0)) (c.set (i - gn) (c.getD i 0)) h15 (by omega) (by omega) (by omega) (by rw [List.length_set]; exact q3) (by rw [List.length_set]; exact q4) (by rw [d3]; exact d1.1) (d1.2) (by rw [d3]; exact d2.1) (d2.2) (by rw [List.length_append, List.length_set, ← List.length_append]; exact q9) g20 g22 g24 g25 g19 fr18

set_option maxRecDepth 20000 in
set_option maxHeartbeats 4000000 in
theorem cc_SM_drop {h : px_H} {gn : Nat} {a : Nat} {to : Int32} {su ti : List Int32} {ms : List Int64} {cs : List Int32} (H0 : pSM h a (to, su, ti, ms, cs)) (p0 : 17 ≤ a) (p1 : gn ≤ ms.length) (p2 : cs.length = ms.length) : px_wp 78 [.ref (a), .int (nI gn)] h (fun h1 r => r = none ∧ pSM h1 a (to, su, ti, ms.drop gn, cs.drop gn) ∧ px_fi a 5 h h1) := by
  have fr0 : px_fi a 5 h h := fi_rf _ _ _
  have l1 : su.length = 4 := H0.2.2.2.2.2.1
  have l2 : ti.length = 4 := H0.2.2.2.2.2.2
  have l3 : ms.length ≤ 96 := pa_len H0.2.2.2.1
  obtain ⟨ws, hz, hzl⟩ : px_pz h (a + 4) 96 cs := H0.2.2.2.2.1
  show px_to 78 0 [some (.ref (a)), some (.int (nI gn)), none] [] h _
  refine e_iload_n f_78_0 rfl rfl ?_
  refine e_istore_n (L' := [some (.ref (a)), some (.int (nI gn)), some (.int (nI gn))]) f_78_1 (Nat.le_of_ble_eq_true rfl) rfl rfl ?_
  exact ll_SM_drop (h0 := h) p0 p1 p2 l3 l1 l2 ms.length gn ms cs h (by omega) (by omega) (by omega) rfl rfl (by rw [Nat.sub_self]; rfl) rfl (by rw [Nat.sub_self]; rfl) rfl hzl H0.1 H0.2.1 H0.2.2.1 H0.2.2.2.1 hz fr0
