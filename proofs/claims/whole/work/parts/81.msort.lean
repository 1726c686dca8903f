theorem ok_set {zs : List Row} {k : Nat} {r : Row} (h : ∀ x ∈ zs, rwOk x) (hr : rwOk r) : ∀ x ∈ zs.set k r, rwOk x := fun x hx => by
  rcases List.mem_or_eq_of_mem_set hx with z | z
  · exact h x z
  · rw [z]; exact hr
theorem shift_1 {S T zs : List Row} {w : Row} {k : Nat} (hk : k < S.length) (hz : zs = S.take (k + 1) ++ w :: (S.drop (k + 1) ++ T)) : k + 1 < zs.length ∧ zs.getD k (0, 0, 0) = S.getD k (0, 0, 0) ∧ zs.set (k + 1) (zs.getD k (0, 0, 0)) = S.take k ++ zs.getD k (0, 0, 0) :: (S.drop k ++ T) := by
  have hl : (S.take (k + 1)).length = k + 1 := by rw [List.length_take]; omega
  have h1 : zs.getD k (0, 0, 0) = S.getD k (0, 0, 0) := by
    rw [hz, List.getD_eq_getElem?_getD, List.getElem?_append_left (by omega), List.getElem?_take, if_pos (by omega), List.getD_eq_getElem?_getD]
  refine ⟨by rw [hz, List.length_append, hl, List.length_cons]; omega, h1, ?_⟩
  rw [h1, hz, List.set_append_right _ _ (by omega), hl, Nat.sub_self, List.set_cons_zero, take_s (0, 0, 0) hk, List.append_assoc, drop_step (0, 0, 0) hk]
  rfl
theorem put_1 {S T zs : List Row} {w r : Row} {k : Nat} (hk : k ≤ S.length) (hz : zs = S.take k ++ w :: (S.drop k ++ T)) : k < zs.length ∧ zs.set k r = (S.take k ++ r :: S.drop k) ++ T := by
  have hl : (S.take k).length = k := by rw [List.length_take]; omega
  refine ⟨by rw [hz, List.length_append, hl, List.length_cons]; omega, ?_⟩
  rw [hz, List.set_append_right _ _ (by omega), hl, Nat.sub_self, List.set_cons_zero, List.append_assoc]
  rfl
theorem rsort_s {l : List Row} {i : Nat} (h : i < l.length) : rsort (l.take (i + 1)) = rins (rsort (l.take i)) (l.getD i (0, 0, 0)) := by
  unfold rsort
  rw [take_s (0, 0, 0) h, List.foldl_append]
  rfl

set_option maxRecDepth 20000 in
set_option maxHeartbeats 4000000 in
theorem cc_Md_isb {h : px_H} {a c a2 c2 : Nat} {b b2 : Int32}  (p0 : a < 100000 ∧ c < 100000 ∧ a2 < 100000 ∧ c2 < 100000) : px_wp 161 [.int (nI a), .int (b), .int (nI c), .int (nI a2), .int (b2), .int (nI c2)] h (fun h1 r => r = some (.int (bI (rlt (a, b, c) (a2, b2, c2)))) ∧ h1 = h) := by
  show px_to 161 0 [some (.int (nI a)), some (.int (b)), some (.int (nI c)), some (.int (nI a2)), some (.int (b2)), some (.int (nI c2))] [] h _
  refine e_iload_n f_161_0 rfl rfl ?_
  refine e_iload_n f_161_1 rfl rfl ?_
  refine e_icmp_eq f_161_2 rfl (fun c_2 => ?_) (fun c_2 => ?_)
  · skip
    have c_2 : a = a2 := cv_eq (by omega) (by omega) c_2
    refine e_iload_n f_161_18 rfl rfl ?_
    refine e_iload f_161_19 rfl rfl ?_
    refine e_icmp_eq f_161_21 rfl (fun c_21 => ?_) (fun c_21 => ?_)
    · skip
      refine e_iload_n f_161_38 rfl rfl ?_
      refine e_iload f_161_39 rfl rfl ?_
      refine e_icmp_ge f_161_41 rfl (fun c_41 => ?_) (fun c_41 => ?_)
      · skip
        have c_41 : c2 ≤ c := cv_le (by omega) (by omega) c_41
        refine e_iconst (v := nI 0) f_161_48 (by decide) rfl ?_
        refine e_iret f_161_49 rfl (rfl) ?_
        exact ⟨congrArg (fun z => some (Value.int z)) (b0 (by unfold rlt; rw [if_neg (by simp [c_2]), if_neg (by simp [c_21])]; exact decide_eq_false (Nat.not_lt.mpr c_41))), rfl⟩
      · skip
        have c_41 : c < c2 := cv_nle (by omega) (by omega) c_41
        refine e_iconst (v := nI 1) f_161_44 (by decide) rfl ?_
        refine e_goto f_161_45 ?_
        refine e_iret f_161_49 rfl (rfl) ?_
        exact ⟨congrArg (fun z => some (Value.int z)) (b1 (by unfold rlt; rw [if_neg (by simp [c_2]), if_neg (by simp [c_21])]; exact decide_eq_true ((show _ < _ from c_41)))), rfl⟩
    · skip
      refine e_iload_n f_161_24 rfl rfl ?_
      refine e_iload f_161_25 rfl rfl ?_
      refine e_icmp_ge f_161_27 rfl (fun c_27 => ?_) (fun c_27 => ?_)
      · skip
        refine e_iconst (v := nI 0) f_161_34 (by decide) rfl ?_
        refine e_goto f_161_35 ?_
        refine e_iret f_161_49 rfl (rfl) ?_
        exact ⟨congrArg (fun z => some (Value.int z)) (b0 (by unfold rlt; rw [if_neg (by simp [c_2]), if_pos (by simpa using c_21)]; exact decide_eq_false (Int32.not_lt.mpr c_27))), rfl⟩
      · skip
        refine e_iconst (v := nI 1) f_161_30 (by decide) rfl ?_
        refine e_goto f_161_31 ?_
        refine e_iret f_161_49 rfl (rfl) ?_
        exact ⟨congrArg (fun z => some (Value.int z)) (b1 (by unfold rlt; rw [if_neg (by simp [c_2]), if_pos (by simpa using c_21)]; exact decide_eq_true (Int32.not_le.mp c_27))), rfl⟩
  · skip
    have c_2 : a ≠ a2 := cv_ne c_2
    refine e_iload_n f_161_5 rfl rfl ?_
    refine e_iload_n f_161_6 rfl rfl ?_
    refine e_icmp_ge f_161_7 rfl (fun c_7 => ?_) (fun c_7 => ?_)
    · skip
      have c_7 : a2 ≤ a := cv_le (by omega) (by omega) c_7
      refine e_iconst (v := nI 0) f_161_14 (by decide) rfl ?_
      refine e_goto f_161_15 ?_
      refine e_iret f_161_49 rfl (rfl) ?_
      exact ⟨congrArg (fun z => some (Value.int z)) (b0 (by unfold rlt; rw [if_pos (by simpa using c_2)]; exact decide_eq_false (Nat.not_lt.mpr c_7))), rfl⟩
    · skip
      have c_7 : a < a2 := cv_nle (by omega) (by omega) c_7
      refine e_iconst (v := nI 1) f_161_10 (by decide) rfl ?_
      refine e_goto f_161_11 ?_
      refine e_iret f_161_49 rfl (rfl) ?_
      exact ⟨congrArg (fun z => some (Value.int z)) (b1 (by unfold rlt; rw [if_pos (by simpa using c_2)]; exact decide_eq_true ((show _ < _ from c_7)))), rfl⟩

set_option maxRecDepth 20000 in
set_option maxHeartbeats 4000000 in
theorem ll_Md_sortI {P : px_H → Option Value → Prop} {h0 : px_H} {a i : Nat} {l S T : List Row} {r : Row} (ha : 17 ≤ a) (hr : rwOk r) (hS : S.length = i) (hl : i < l.length ∧ l.length ≤ 100) (kx : ∀ g j zs, px_pa g a 54 100 rK zs → px_pa g (a + 1) 50 100 rV zs → px_pa g (a + 2) 50 100 rT zs → px_fi a 3 h0 g → j < zs.length → zs.set j r = rins S r ++ T → (∀ x ∈ zs, rwOk x) → px_to 162 102 [some (.ref (a)), some (.ref (a + 1)), some (.ref (a + 2)), some (.int (nI l.length)), some (.int (nI i)), some (.int (nI r.1)), some (.int (r.2.1)), some (.int (nI r.2.2)), some (.int (nI j))] [] g P) : ∀ (d : Nat) (j : Nat) (zs : List Row) (w : Row) (g : px_H), (j ≤ d) → (j ≤ i) → (zs = S.take j ++ w :: (S.drop j ++ T)) → (rpos S r j = rpos S r S.length) → (∀ x ∈ zs, rwOk x) → px_pa g a 54 100 rK zs → px_pa g (a + 1) 50 100 rV zs → px_pa g (a + 2) 50 100 rT zs → px_fi a 3 h0 g → px_to 162 31 [some (.ref (a)), some (.ref (a + 1)), some (.ref (a + 2)), some (.int (nI l.length)), some (.int (nI i)), some (.int (nI r.1)), some (.int (r.2.1)), some (.int (nI r.2.2)), some (.int (nI j))] [] g P := by
  intro d
  induction d using Nat.strongRecOn with
  | ind d ih =>
    intro j zs w g q0 q1 q2 q3 q4 G0 G1 G2 frg
    have hr2 := hr
    unfold rwOk at hr2
    refine e_iload f_162_31 rfl rfl ?_
    refine e_if_le f_162_33 rfl (fun c_33 => ?_) (fun c_33 => ?_)
    · skip
      rw [← nI_0] at c_33
      have c_33 : j ≤ 0 := cv_le (by omega) (by omega) c_33
      have hp : rpos S r S.length = j := by rw [← q3, show j = 0 by omega]; rfl
      obtain ⟨v1, v2⟩ := put_1 (r := r) (show j ≤ S.length by omega) q2
      exact kx g j zs G0 G1 G2 frg v1 (by rw [v2]; unfold rins; rw [hp]) q4
    · skip
      rw [← nI_0] at c_33
      have c_33 : 0 < j := cv_nle (by omega) (by omega) c_33
      obtain ⟨k, hk⟩ : ∃ k, j = k + 1 := ⟨j - 1, by omega⟩
      have hjk : j - 1 = k := by omega
      obtain ⟨u1, u2, u3⟩ := shift_1 (S := S) (T := T) (zs := zs) (w := w) (show k < S.length by omega) (by rw [← hk]; exact q2)
      rw [← hjk] at u2
      rw [← hk] at u1
      have hw := q4 _ (getD_mem (0, 0, 0) (show j - 1 < zs.length by omega))
      unfold rwOk at hw
      refine e_iload f_162_36 rfl rfl ?_
      refine e_iload f_162_38 rfl rfl ?_
      refine e_iload f_162_40 rfl rfl ?_
      refine e_aload_n f_162_42 rfl rfl ?_
      refine e_iload f_162_43 rfl rfl ?_
      refine e_iconst (v := nI 1) f_162_45 (by decide) rfl ?_
      refine e_isub (z := nI (j - 1)) f_162_46 (pk_sub (by omega)) rfl ?_
      refine e_baload_p (xs := zs) f_162_47 G0 (d := (0, 0, 0)) (by first | omega | (simp only [List.length_set]; omega)) rfl ?_
      show px_to 162 48 [some (.ref (a)), some (.ref (a + 1)), some (.ref (a + 2)), some (.int (nI l.length)), some (.int (nI i)), some (.int (nI r.1)), some (.int (r.2.1)), some (.int (nI r.2.2)), some (.int (nI j))] [.int (nI ((zs.getD (j - 1) (0, 0, 0)).1)), .int (nI r.2.2), .int (r.2.1), .int (nI r.1)] g _
      refine e_aload_n f_162_48 rfl rfl ?_
      refine e_iload f_162_49 rfl rfl ?_
      refine e_iconst (v := nI 1) f_162_51 (by decide) rfl ?_
      refine e_isub (z := nI (j - 1)) f_162_52 (pk_sub (by omega)) rfl ?_
      refine e_iaload_p (xs := zs) f_162_53 G1 (d := (0, 0, 0)) (by first | omega | (simp only [List.length_set]; omega)) rfl ?_
      show px_to 162 54 [some (.ref (a)), some (.ref (a + 1)), some (.ref (a + 2)), some (.int (nI l.length)), some (.int (nI i)), some (.int (nI r.1)), some (.int (r.2.1)), some (.int (nI r.2.2)), some (.int (nI j))] [.int ((zs.getD (j - 1) (0, 0, 0)).2.1), .int (nI ((zs.getD (j - 1) (0, 0, 0)).1)), .int (nI r.2.2), .int (r.2.1), .int (nI r.1)] g _
      refine e_aload_n f_162_54 rfl rfl ?_
      refine e_iload f_162_55 rfl rfl ?_
      refine e_iconst (v := nI 1) f_162_57 (by decide) rfl ?_
      refine e_isub (z := nI (j - 1)) f_162_58 (pk_sub (by omega)) rfl ?_
      refine e_iaload_p (xs := zs) f_162_59 G2 (d := (0, 0, 0)) (by first | omega | (simp only [List.length_set]; omega)) rfl ?_
      show px_to 162 60 [some (.ref (a)), some (.ref (a + 1)), some (.ref (a + 2)), some (.int (nI l.length)), some (.int (nI i)), some (.int (nI r.1)), some (.int (r.2.1)), some (.int (nI r.2.2)), some (.int (nI j))] [.int (nI ((zs.getD (j - 1) (0, 0, 0)).2.2)), .int ((zs.getD (j - 1) (0, 0, 0)).2.1), .int (nI ((zs.getD (j - 1) (0, 0, 0)).1)), .int (nI r.2.2), .int (r.2.1), .int (nI r.1)] g _
      refine e_callS (As := [.int (nI r.1), .int (r.2.1), .int (nI r.2.2), .int (nI ((zs.getD (j - 1) (0, 0, 0)).1)), .int ((zs.getD (j - 1) (0, 0, 0)).2.1), .int (nI ((zs.getD (j - 1) (0, 0, 0)).2.2))]) (rest := []) f_162_60 rfl rfl rfl (Nat.le_of_ble_eq_true rfl) (Nat.le_of_ble_eq_true rfl) (cc_Md_isb (a := r.1) (b := r.2.1) (c := r.2.2) (a2 := (zs.getD (j - 1) (0, 0, 0)).1) (b2 := (zs.getD (j - 1) (0, 0, 0)).2.1) (c2 := (zs.getD (j - 1) (0, 0, 0)).2.2)  (by omega)) rfl (fun h1 r2 q3 => ?_)
      obtain ⟨rfl, qe⟩ := q3
      have qe := qe.symm
      subst qe
      show px_to 162 63 [some (.ref (a)), some (.ref (a + 1)), some (.ref (a + 2)), some (.int (nI l.length)), some (.int (nI i)), some (.int (nI r.1)), some (.int (r.2.1)), some (.int (nI r.2.2)), some (.int (nI j))] [.int (bI (rlt (r.1, r.2.1, r.2.2) ((zs.getD (j - 1) (0, 0, 0)).1, (zs.getD (j - 1) (0, 0, 0)).2.1, (zs.getD (j - 1) (0, 0, 0)).2.2)))] g _
      refine e_if_eq f_162_63 rfl (fun c_63 => ?_) (fun c_63 => ?_)
      · skip
        have c_63 : (rlt (r.1, r.2.1, r.2.2) ((zs.getD (j - 1) (0, 0, 0)).1, (zs.getD (j - 1) (0, 0, 0)).2.1, (zs.getD (j - 1) (0, 0, 0)).2.2)) = false := bI_f c_63
        rw [show (r.1, r.2.1, r.2.2) = r from rfl] at c_63
        have hp : rpos S r S.length = j := by rw [← q3, hk, rpos, if_neg (by rw [← hjk, ← u2, c_63]; decide)]
        obtain ⟨v1, v2⟩ := put_1 (r := r) (show j ≤ S.length by omega) q2
        exact kx g j zs G0 G1 G2 frg v1 (by rw [v2]; unfold rins; rw [hp]) q4
      · skip
        have c_63 : (rlt (r.1, r.2.1, r.2.2) ((zs.getD (j - 1) (0, 0, 0)).1, (zs.getD (j - 1) (0, 0, 0)).2.1, (zs.getD (j - 1) (0, 0, 0)).2.2)) = true := bI_t' c_63
        rw [show (r.1, r.2.1, r.2.2) = r from rfl] at c_63
        refine e_aload_n f_162_66 rfl rfl ?_
        refine e_iload f_162_67 rfl rfl ?_
        refine e_aload_n f_162_69 rfl rfl ?_
        refine e_iload f_162_70 rfl rfl ?_
        refine e_iconst (v := nI 1) f_162_72 (by decide) rfl ?_
        refine e_isub (z := nI (j - 1)) f_162_73 (pk_sub (by omega)) rfl ?_
        refine e_baload_p (xs := zs) f_162_74 G0 (d := (0, 0, 0)) (by first | omega | (simp only [List.length_set]; omega)) rfl ?_
        show px_to 162 75 [some (.ref (a)), some (.ref (a + 1)), some (.ref (a + 2)), some (.int (nI l.length)), some (.int (nI i)), some (.int (nI r.1)), some (.int (r.2.1)), some (.int (nI r.2.2)), some (.int (nI j))] [.int (nI ((zs.getD (j - 1) (0, 0, 0)).1)), .int (nI j), .ref (a)] g _
        refine e_bastore_p (xs := zs) (x := zs.getD (j - 1) (0, 0, 0)) f_162_75 G0 (by omega) (by omega) (nw_y (i2b_id _ (by omega))) rfl (fun h4 g5 fx6 => ?_)
        have fr7 : px_fi a 3 h0 h4 := fi_tr frg fx6 (by omega)
        refine e_aload_n f_162_76 rfl rfl ?_
        refine e_iload f_162_77 rfl rfl ?_
        refine e_aload_n f_162_79 rfl rfl ?_
        refine e_iload f_162_80 rfl rfl ?_
        refine e_iconst (v := nI 1) f_162_82 (by decide) rfl ?_
        refine e_isub (z := nI (j - 1)) f_162_83 (pk_sub (by omega)) rfl ?_
        have g8 : px_pa h4 (a + 1) 50 100 rV zs := pa_fi G1 fx6 (by omega)
        refine e_iaload_p (xs := zs) f_162_84 g8 (d := (0, 0, 0)) (by first | omega | (simp only [List.length_set]; omega)) rfl ?_
        show px_to 162 85 [some (.ref (a)), some (.ref (a + 1)), some (.ref (a + 2)), some (.int (nI l.length)), some (.int (nI i)), some (.int (nI r.1)), some (.int (r.2.1)), some (.int (nI r.2.2)), some (.int (nI j))] [.int ((zs.getD (j - 1) (0, 0, 0)).2.1), .int (nI j), .ref (a + 1)] h4 _
        refine e_iastore_p (xs := zs) (x := zs.getD (j - 1) (0, 0, 0)) f_162_85 g8 (by omega) (by omega) (rfl) rfl (fun h9 g10 fx11 => ?_)
        have fr12 : px_fi a 3 h0 h9 := fi_tr fr7 fx11 (by omega)
        refine e_aload_n f_162_86 rfl rfl ?_
        refine e_iload f_162_87 rfl rfl ?_
        refine e_aload_n f_162_89 rfl rfl ?_
        refine e_iload f_162_90 rfl rfl ?_
        refine e_iconst (v := nI 1) f_162_92 (by decide) rfl ?_
        refine e_isub (z := nI (j - 1)) f_162_93 (pk_sub (by omega)) rfl ?_
        have g13 : px_pa h4 (a + 2) 50 100 rT zs := pa_fi G2 fx6 (by omega)
        have g14 : px_pa h9 (a + 2) 50 100 rT zs := pa_fi g13 fx11 (by omega)
        refine e_iaload_p (xs := zs) f_162_94 g14 (d := (0, 0, 0)) (by first | omega | (simp only [List.length_set]; omega)) rfl ?_
        show px_to 162 95 [some (.ref (a)), some (.ref (a + 1)), some (.ref (a + 2)), some (.int (nI l.length)), some (.int (nI i)), some (.int (nI r.1)), some (.int (r.2.1)), some (.int (nI r.2.2)), some (.int (nI j))] [.int (nI ((zs.getD (j - 1) (0, 0, 0)).2.2)), .int (nI j), .ref (a + 2)] h9 _
        refine e_iastore_p (xs := zs) (x := zs.getD (j - 1) (0, 0, 0)) f_162_95 g14 (by omega) (by omega) (rfl) rfl (fun h15 g16 fx17 => ?_)
        have fr18 : px_fi a 3 h0 h15 := fi_tr fr12 fx17 (by omega)
        refine e_iinc (y := nI (j - 1)) (L' := [some (.ref (a)), some (.ref (a + 1)), some (.ref (a + 2)), some (.int (nI l.length)), some (.int (nI i)), some (.int (nI r.1)), some (.int (r.2.1)), some (.int (nI r.2.2)), some (.int (nI (j - 1)))]) f_162_96 rfl (by rw [show Int32.ofInt (-1) = -(nI 1) by decide, ← Int32.sub_eq_add_neg]; exact pk_sub (by omega)) rfl rfl ?_
        refine e_goto f_162_99 ?_
        have g19 : px_pa h9 a 54 100 rK (zs.set j (zs.getD (j - 1) (0, 0, 0))) := pa_fi g5 fx11 (by omega)
        have g20 : px_pa h15 a 54 100 rK (zs.set j (zs.getD (j - 1) (0, 0, 0))) := pa_fi g19 fx17 (by omega)
        have g21 : px_pa h15 (a + 1) 50 100 rV (zs.set j (zs.getD (j - 1) (0, 0, 0))) := pa_fi g10 fx17 (by omega)
        first | (exfalso; omega) | exact ih (d - 1) (by omega) (j - 1) (zs.set j (zs.getD (j - 1) (0, 0, 0))) (zs.getD (j - 1) (0, 0, 0)) h15 (by omega) (by omega) (by rw [hk, Nat.add_sub_cancel]; exact u3) (by rw [hk, rpos, if_pos (by rw [← hjk, ← u2]; exact c_63)] at q3; rw [hjk]; exact q3) (ok_set q4 hw) g20 g21 g16 fr18

set_option maxRecDepth 20000 in
set_option maxHeartbeats 4000000 in
theorem ll_Md_sorts {h0 : px_H} {a : Nat} {l : List Row} (p0 : 17 ≤ a) (p1 : ∀ x ∈ l, rwOk x) (h100 : l.length ≤ 100) : ∀ (d : Nat) (i : Nat) (zs : List Row) (g : px_H), (l.length ≤ i + d) → (i ≤ 100 ∧ 1 ≤ i) → (zs = rsort (l.take i) ++ l.drop i) → (∀ x ∈ zs, rwOk x) → px_pa g a 54 100 rK zs → px_pa g (a + 1) 50 100 rV zs → px_pa g (a + 2) 50 100 rT zs → px_fi a 3 h0 g → px_to 162 3 [some (.ref (a)), some (.ref (a + 1)), some (.ref (a + 2)), some (.int (nI l.length)), some (.int (nI i)), none, none, none, none] [] g (fun h1 r => r = none ∧ px_pa h1 a 54 100 rK (rsort l) ∧ px_pa h1 (a + 1) 50 100 rV (rsort l) ∧ px_pa h1 (a + 2) 50 100 rT (rsort l) ∧ px_fi a 3 h0 h1) := by
  intro d
  induction d using Nat.strongRecOn with
  | ind d ih =>
    intro i zs g q0 q1 q2 q3 G0 G1 G2 frg
    refine e_iload f_162_3 rfl rfl ?_
    refine e_iload_n f_162_5 rfl rfl ?_
    refine e_icmp_ge f_162_6 rfl (fun c_6 => ?_) (fun c_6 => ?_)
    · skip
      have c_6 : l.length ≤ i := cv_le (by omega) (by omega) c_6
      refine e_vret f_162_126 rfl ?_
      rw [List.take_of_length_le (by omega), List.drop_eq_nil_of_le (by omega), List.append_nil] at q2
      subst q2
      exact ⟨rfl, G0, G1, G2, frg⟩
    · skip
      have c_6 : i < l.length := cv_nle (by omega) (by omega) c_6
      have hS : (rsort (l.take i)).length = i := by rw [rsort_len, List.length_take]; omega
      have hzl : zs.length = l.length := by rw [q2, List.length_append, hS, List.length_drop]; omega
      have hzi : zs.getD i (0, 0, 0) = l.getD i (0, 0, 0) := by rw [q2, List.getD_eq_getElem?_getD, List.getElem?_append_right (by omega), hS, Nat.sub_self, List.getElem?_drop, Nat.add_zero, ← List.getD_eq_getElem?_getD]
      have hro := p1 _ (getD_mem (0, 0, 0) (show i < l.length by omega))
      refine e_aload_n f_162_9 rfl rfl ?_
      refine e_iload f_162_10 rfl rfl ?_
      refine e_baload_p (xs := zs) f_162_12 G0 (d := (0, 0, 0)) (by first | omega | (simp only [List.length_set]; omega)) rfl ?_
      show px_to 162 13 [some (.ref (a)), some (.ref (a + 1)), some (.ref (a + 2)), some (.int (nI l.length)), some (.int (nI i)), none, none, none, none] [.int (nI ((zs.getD i (0, 0, 0)).1))] g _
      refine e_istore (L' := [some (.ref (a)), some (.ref (a + 1)), some (.ref (a + 2)), some (.int (nI l.length)), some (.int (nI i)), some (.int (nI ((zs.getD i (0, 0, 0)).1))), none, none, none]) f_162_13 (Nat.le_of_ble_eq_true rfl) rfl rfl ?_
      refine e_aload_n f_162_15 rfl rfl ?_
      refine e_iload f_162_16 rfl rfl ?_
      refine e_iaload_p (xs := zs) f_162_18 G1 (d := (0, 0, 0)) (by first | omega | (simp only [List.length_set]; omega)) rfl ?_
      show px_to 162 19 [some (.ref (a)), some (.ref (a + 1)), some (.ref (a + 2)), some (.int (nI l.length)), some (.int (nI i)), some (.int (nI ((zs.getD i (0, 0, 0)).1))), none, none, none] [.int ((zs.getD i (0, 0, 0)).2.1)] g _
      refine e_istore (L' := [some (.ref (a)), some (.ref (a + 1)), some (.ref (a + 2)), some (.int (nI l.length)), some (.int (nI i)), some (.int (nI ((zs.getD i (0, 0, 0)).1))), some (.int ((zs.getD i (0, 0, 0)).2.1)), none, none]) f_162_19 (Nat.le_of_ble_eq_true rfl) rfl rfl ?_
      refine e_aload_n f_162_21 rfl rfl ?_
      refine e_iload f_162_22 rfl rfl ?_
      refine e_iaload_p (xs := zs) f_162_24 G2 (d := (0, 0, 0)) (by first | omega | (simp only [List.length_set]; omega)) rfl ?_
      show px_to 162 25 [some (.ref (a)), some (.ref (a + 1)), some (.ref (a + 2)), some (.int (nI l.length)), some (.int (nI i)), some (.int (nI ((zs.getD i (0, 0, 0)).1))), some (.int ((zs.getD i (0, 0, 0)).2.1)), none, none] [.int (nI ((zs.getD i (0, 0, 0)).2.2))] g _
      refine e_istore (L' := [some (.ref (a)), some (.ref (a + 1)), some (.ref (a + 2)), some (.int (nI l.length)), some (.int (nI i)), some (.int (nI ((zs.getD i (0, 0, 0)).1))), some (.int ((zs.getD i (0, 0, 0)).2.1)), some (.int (nI ((zs.getD i (0, 0, 0)).2.2))), none]) f_162_25 (Nat.le_of_ble_eq_true rfl) rfl rfl ?_
      refine e_iload f_162_27 rfl rfl ?_
      rw [hzi]
      refine e_istore (L' := [some (.ref (a)), some (.ref (a + 1)), some (.ref (a + 2)), some (.int (nI l.length)), some (.int (nI i)), some (.int (nI ((l.getD i (0, 0, 0)).1))), some (.int ((l.getD i (0, 0, 0)).2.1)), some (.int (nI ((l.getD i (0, 0, 0)).2.2))), some (.int (nI i))]) f_162_29 (Nat.le_of_ble_eq_true rfl) rfl rfl ?_
      refine ll_Md_sortI (h0 := h0) (l := l) (S := rsort (l.take i)) (T := l.drop (i + 1)) (r := l.getD i (0, 0, 0)) p0 hro hS (by omega) (fun g1 j1 zs1 z0 z1 z2 zf y1 y2 y3 => ?_) i i zs (l.getD i (0, 0, 0)) g (by omega) (by omega) (by rw [List.take_of_length_le (by omega), List.drop_eq_nil_of_le (by omega), q2, drop_step (0, 0, 0) (show i < l.length by omega)]; rfl) (by rw [hS]) q3 G0 G1 G2 frg
      have hjz := pa_len z0
      have hro2 := hro
      unfold rwOk at hro2
      refine e_aload_n f_162_102 rfl rfl ?_
      refine e_iload f_162_103 rfl rfl ?_
      refine e_iload f_162_105 rfl rfl ?_
      refine e_bastore_p (xs := zs1) (x := l.getD i (0, 0, 0)) f_162_107 z0 (by omega) (by omega) (nw_y (i2b_id _ (by omega))) rfl (fun h1 g2 fx3 => ?_)
      have fr4 : px_fi a 3 h0 h1 := fi_tr zf fx3 (by omega)
      refine e_aload_n f_162_108 rfl rfl ?_
      refine e_iload f_162_109 rfl rfl ?_
      refine e_iload f_162_111 rfl rfl ?_
      have g5 : px_pa h1 (a + 1) 50 100 rV zs1 := pa_fi z1 fx3 (by omega)
      refine e_iastore_p (xs := zs1) (x := l.getD i (0, 0, 0)) f_162_113 g5 (by omega) (by omega) (rfl) rfl (fun h6 g7 fx8 => ?_)
      have fr9 : px_fi a 3 h0 h6 := fi_tr fr4 fx8 (by omega)
      refine e_aload_n f_162_114 rfl rfl ?_
      refine e_iload f_162_115 rfl rfl ?_
      refine e_iload f_162_117 rfl rfl ?_
      have g10 : px_pa h1 (a + 2) 50 100 rT zs1 := pa_fi z2 fx3 (by omega)
      have g11 : px_pa h6 (a + 2) 50 100 rT zs1 := pa_fi g10 fx8 (by omega)
      refine e_iastore_p (xs := zs1) (x := l.getD i (0, 0, 0)) f_162_119 g11 (by omega) (by omega) (rfl) rfl (fun h12 g13 fx14 => ?_)
      have fr15 : px_fi a 3 h0 h12 := fi_tr fr9 fx14 (by omega)
      refine e_iinc (y := nI (i + 1)) (L' := [some (.ref (a)), some (.ref (a + 1)), some (.ref (a + 2)), some (.int (nI l.length)), some (.int (nI (i + 1))), some (.int (nI ((l.getD i (0, 0, 0)).1))), some (.int ((l.getD i (0, 0, 0)).2.1)), some (.int (nI ((l.getD i (0, 0, 0)).2.2))), some (.int (nI j1))]) f_162_120 rfl (by rw [show Int32.ofInt 1 = nI 1 by decide]; exact (nI_add _ _)) rfl rfl ?_
      refine e_goto f_162_123 ?_
      refine px_to_L (L := [some (.ref (a)), some (.ref (a + 1)), some (.ref (a + 2)), some (.int (nI l.length)), some (.int (nI (i + 1))), none, none, none, none]) ⟨Or.inr rfl, Or.inr rfl, Or.inr rfl, Or.inr rfl, Or.inr rfl, Or.inl rfl, Or.inl rfl, Or.inl rfl, Or.inl rfl, trivial⟩ ?_
      have g16 : px_pa h6 a 54 100 rK (zs1.set j1 (l.getD i (0, 0, 0))) := pa_fi g2 fx8 (by omega)
      have g17 : px_pa h12 a 54 100 rK (zs1.set j1 (l.getD i (0, 0, 0))) := pa_fi g16 fx14 (by omega)
      have g18 : px_pa h12 (a + 1) 50 100 rV (zs1.set j1 (l.getD i (0, 0, 0))) := pa_fi g7 fx14 (by omega)
      first | (exfalso; omega) | exact ih (d - 1) (by omega) (i + 1) (zs1.set j1 (l.getD i (0, 0, 0))) h12 (by omega) (by omega) (by rw [y2, rsort_s (by omega)]) (ok_set y3 hro) g17 g18 g13 fr15

set_option maxRecDepth 20000 in
set_option maxHeartbeats 4000000 in
theorem cc_Md_sorts {h : px_H} {a : Nat} {l : List Row} (H0 : px_pa h a 54 100 rK l) (H1 : px_pa h (a + 1) 50 100 rV l) (H2 : px_pa h (a + 2) 50 100 rT l) (p0 : 17 ≤ a) (p1 : ∀ x ∈ l, rwOk x) : px_wp 162 [.ref (a), .ref (a + 1), .ref (a + 2), .int (nI l.length)] h (fun h1 r => r = none ∧ px_pa h1 a 54 100 rK (rsort l) ∧ px_pa h1 (a + 1) 50 100 rV (rsort l) ∧ px_pa h1 (a + 2) 50 100 rT (rsort l) ∧ px_fi a 3 h h1) := by
  have fr0 : px_fi a 3 h h := fi_rf _ _ _
  show px_to 162 0 [some (.ref (a)), some (.ref (a + 1)), some (.ref (a + 2)), some (.int (nI l.length)), none, none, none, none, none] [] h _
  refine e_iconst (v := nI 1) f_162_0 (by decide) rfl ?_
  refine e_istore (L' := [some (.ref (a)), some (.ref (a + 1)), some (.ref (a + 2)), some (.int (nI l.length)), some (.int (nI 1)), none, none, none, none]) f_162_1 (Nat.le_of_ble_eq_true rfl) rfl rfl ?_
  have hl100 := pa_len H0
  exact ll_Md_sorts (h0 := h) p0 p1 hl100 100 1 l h (by omega) (by omega) (by cases l with | nil => rfl | cons x t => rfl) p1 H0 H1 H2 fr0

set_option maxRecDepth 20000 in
set_option maxHeartbeats 4000000 in
theorem cc_Md_sortB {h : px_H} {lo lt : List Row} {ga : gA} {gp : gP} {gq : gQ} {gh : gH} {gw : gW} {gu : gU} {gv : gV} (H0 : h.2.2 269 = some (12, mB ga gp gq gh gw (gu.1, nI lo.length, nI lt.length) gv)) (H1 : px_pa h 297 54 100 rK lo) (H2 : px_pa h 298 50 100 rV lo) (H3 : px_pa h 299 50 100 rT lo) (H4 : px_pa h 300 54 100 rK lt) (H5 : px_pa h 301 50 100 rV lt) (H6 : px_pa h 302 50 100 rT lt) (p0 : ∀ x ∈ lo, rwOk x) (p1 : ∀ x ∈ lt, rwOk x) : px_wp 163 [.ref (269)] h (fun h1 r => r = none ∧ px_pa h1 297 54 100 rK (rsort lo) ∧ px_pa h1 298 50 100 rV (rsort lo) ∧ px_pa h1 299 50 100 rT (rsort lo) ∧ px_pa h1 300 54 100 rK (rsort lt) ∧ px_pa h1 301 50 100 rV (rsort lt) ∧ px_pa h1 302 50 100 rT (rsort lt) ∧ px_fi 297 6 h h1) := by
  have fr0 : px_fi 297 6 h h := fi_rf _ _ _
  show px_to 163 0 [some (.ref (269))] [] h _
  refine e_aload_n f_163_0 rfl rfl ?_
  refine e_getf f_163_1 H0 rfl rfl ?_
  refine e_aload_n f_163_4 rfl rfl ?_
  refine e_getf f_163_5 H0 rfl rfl ?_
  refine e_aload_n f_163_8 rfl rfl ?_
  refine e_getf f_163_9 H0 rfl rfl ?_
  refine e_aload_n f_163_12 rfl rfl ?_
  refine e_getf f_163_13 H0 rfl rfl ?_
  show px_to 163 16 [some (.ref (269))] [.int (nI lo.length), .ref (299), .ref (298), .ref (297)] h _
  refine e_callS (As := [.ref (297), .ref (298), .ref (299), .int (nI lo.length)]) (rest := []) f_163_16 rfl rfl rfl (Nat.le_of_ble_eq_true rfl) (Nat.le_of_ble_eq_true rfl) (cc_Md_sorts (a := 297) (l := lo) H1 H2 H3 (by omega) (p0)) rfl (fun h1 r2 q3 => ?_)
  obtain ⟨rfl, g4, g5, g6, fx7⟩ := q3
  have fr8 : px_fi 297 6 h h1 := fi_tr fr0 fx7 (by omega)
  show px_to 163 19 [some (.ref (269))] [] h1 _
  refine e_aload_n f_163_19 rfl rfl ?_
  have g9 : h1.2.2 269 = some (12, mB ga gp gq gh gw (gu.1, nI lo.length, nI lt.length) gv) := fi_at H0 fr8 (by omega)
  refine e_getf f_163_20 g9 rfl rfl ?_
  refine e_aload_n f_163_23 rfl rfl ?_
  refine e_getf f_163_24 g9 rfl rfl ?_
  refine e_aload_n f_163_27 rfl rfl ?_
  refine e_getf f_163_28 g9 rfl rfl ?_
  refine e_aload_n f_163_31 rfl rfl ?_
  refine e_getf f_163_32 g9 rfl rfl ?_
  show px_to 163 35 [some (.ref (269))] [.int (nI lt.length), .ref (302), .ref (301), .ref (300)] h1 _
  have g10 : px_pa h1 300 54 100 rK lt := pa_fi H4 fx7 (by omega)
  have g11 : px_pa h1 301 50 100 rV lt := pa_fi H5 fx7 (by omega)
  have g12 : px_pa h1 302 50 100 rT lt := pa_fi H6 fx7 (by omega)
  refine e_callS (As := [.ref (300), .ref (301), .ref (302), .int (nI lt.length)]) (rest := []) f_163_35 rfl rfl rfl (Nat.le_of_ble_eq_true rfl) (Nat.le_of_ble_eq_true rfl) (cc_Md_sorts (a := 300) (l := lt) g10 g11 g12 (by omega) (p1)) rfl (fun h13 r14 q15 => ?_)
  obtain ⟨rfl, g16, g17, g18, fx19⟩ := q15
  have fr20 : px_fi 297 6 h h13 := fi_tr fr8 fx19 (by omega)
  show px_to 163 38 [some (.ref (269))] [] h13 _
  refine e_vret f_163_38 rfl ?_
  have g21 : px_pa h13 297 54 100 rK (rsort lo) := pa_fi g4 fx19 (by omega)
  have g22 : px_pa h13 298 50 100 rV (rsort lo) := pa_fi g5 fx19 (by omega)
  have g23 : px_pa h13 299 50 100 rT (rsort lo) := pa_fi g6 fx19 (by omega)
  first | (exfalso; omega) | exact ⟨rfl, g21, g22, g23, g16, g17, g18, fr20⟩

theorem rfd_r {n i : Nat} {y : Row} {s : List Row} : rfd [] (y :: s) i = nI i := rfl
theorem rfd_l {n i : Nat} {y : Row} {s : List Row} : rfd (y :: s) [] i = nI i := rfl
theorem row_ne {x y : Row} (h : x.1 ≠ y.1 ∨ x.2.1 ≠ y.2.1 ∨ x.2.2 ≠ y.2.2) : x ≠ y := fun e => by
  subst e
  rcases h with z | z | z <;> exact z rfl
theorem row_eq {x y : Row} (h1 : x.1 = y.1) (h2 : x.2.1 = y.2.1) (h3 : x.2.2 = y.2.2) : x = y := by
  obtain ⟨a, b, c⟩ := x
  obtain ⟨a', b', c'⟩ := y
  simp only at h1 h2 h3
  subst h1 h2 h3
  rfl
theorem rfdE {lo lt : List Row} {i : Nat} (h : i = min lo.length lt.length) : rfd (lo.drop i) (lt.drop i) i = if lo.length = lt.length then -3 else nI i := by
  rcases Nat.lt_trichotomy lo.length lt.length with z | z | z
  · rw [List.drop_eq_nil_of_le (by omega), drop_step (0, 0, 0) (show i < lt.length by omega), if_neg (by omega)]; rfl
  · rw [List.drop_eq_nil_of_le (by omega), List.drop_eq_nil_of_le (by omega), if_pos z]; rfl
  · rw [List.drop_eq_nil_of_le (show lt.length ≤ i by omega), drop_step (0, 0, 0) (show i < lo.length by omega), if_neg (by omega)]; rfl

set_option maxRecDepth 20000 in
set_option maxHeartbeats 4000000 in
theorem ll_Md_unl {P : px_H → Option Value → Prop} {h : px_H} {n : Nat} {y : Int32} {lo lt : List Row} {ga : gA} {gp : gP} {gq : gQ} {gh : gH} {gw : gW} {gu : gU} {gv : gV} (H0 : h.2.2 269 = some (12, mB ga gp gq gh gw (gu.1, nI lo.length, nI lt.length) gv)) (H1 : px_pa h 297 54 100 rK lo) (H2 : px_pa h 298 50 100 rV lo) (H3 : px_pa h 299 50 100 rT lo) (H4 : px_pa h 300 54 100 rK lt) (H5 : px_pa h 301 50 100 rV lt) (H6 : px_pa h 302 50 100 rT lt) (p0 : (∀ x ∈ lo, rwOk x) ∧ ∀ x ∈ lt, rwOk x) (hn : n = min lo.length lt.length) (hk : ∀ {r}, r = some (.int y) → P h r) : ∀ (d : Nat) (i : Nat), (n ≤ i + d) → (i ≤ n) → (rfd (lo.drop i) (lt.drop i) i = y) → px_to 164 25 [some (.ref (269)), some (.int (nI n)), some (.int (nI i))] [] h P := by
  intro d
  induction d using Nat.strongRecOn with
  | ind d ih =>
    intro i q0 q1 q2
    have ll1 := pa_len H1
    have ll2 := pa_len H4
    refine e_iload_n f_164_25 rfl rfl ?_
    refine e_iload_n f_164_26 rfl rfl ?_
    refine e_icmp_ge f_164_27 rfl (fun c_27 => ?_) (fun c_27 => ?_)
    · skip
      have c_27 : n ≤ i := cv_le (by omega) (by omega) c_27
      refine e_aload_n f_164_83 rfl rfl ?_
      refine e_getf f_164_84 H0 rfl rfl ?_
      show px_to 164 87 [some (.ref (269)), some (.int (nI n)), some (.int (nI i))] [.int (nI lo.length)] h _
      refine e_aload_n f_164_87 rfl rfl ?_
      refine e_getf f_164_88 H0 rfl rfl ?_
      show px_to 164 91 [some (.ref (269)), some (.int (nI n)), some (.int (nI i))] [.int (nI lt.length), .int (nI lo.length)] h _
      refine e_icmp_ne f_164_91 rfl (fun c_91 => ?_) (fun c_91 => ?_)
      · skip
        have c_91 : lo.length ≠ lt.length := cv_ne c_91
        refine e_iload_n f_164_99 rfl rfl ?_
        refine e_iret f_164_100 rfl (rfl) ?_
        rw [rfdE (by omega), if_neg c_91] at q2
        exact hk (by rw [← q2]; rw [show n = i by omega])
      · skip
        have c_91 : lo.length = lt.length := cv_nne (by omega) (by omega) c_91
        refine e_bipush (v := (-3)) f_164_94 (by decide) rfl ?_
        refine e_goto f_164_96 ?_
        refine e_iret f_164_100 rfl (rfl) ?_
        rw [rfdE (by omega), if_pos c_91] at q2
        exact hk (by rw [← q2])
    · skip
      have c_27 : i < n := cv_nle (by omega) (by omega) c_27
      have ho1 := p0.1 _ (getD_mem (0, 0, 0) (show i < lo.length by omega))
      have ho2 := p0.2 _ (getD_mem (0, 0, 0) (show i < lt.length by omega))
      unfold rwOk at ho1 ho2
      rw [drop_step (0, 0, 0) (show i < lo.length by omega), drop_step (0, 0, 0) (show i < lt.length by omega), rfd] at q2
      refine e_aload_n f_164_30 rfl rfl ?_
      refine e_getf f_164_31 H0 rfl rfl ?_
      refine e_iload_n f_164_34 rfl rfl ?_
      refine e_baload_p (xs := lo) f_164_35 H1 (d := (0, 0, 0)) (by first | omega | (simp only [List.length_set]; omega)) rfl ?_
      show px_to 164 36 [some (.ref (269)), some (.int (nI n)), some (.int (nI i))] [.int (nI ((lo.getD i (0, 0, 0)).1))] h _
      refine e_aload_n f_164_36 rfl rfl ?_
      refine e_getf f_164_37 H0 rfl rfl ?_
      refine e_iload_n f_164_40 rfl rfl ?_
      refine e_baload_p (xs := lt) f_164_41 H4 (d := (0, 0, 0)) (by first | omega | (simp only [List.length_set]; omega)) rfl ?_
      show px_to 164 42 [some (.ref (269)), some (.int (nI n)), some (.int (nI i))] [.int (nI ((lt.getD i (0, 0, 0)).1)), .int (nI ((lo.getD i (0, 0, 0)).1))] h _
      refine e_icmp_ne f_164_42 rfl (fun c_42 => ?_) (fun c_42 => ?_)
      · skip
        have c_42 : (lo.getD i (0, 0, 0)).1 ≠ (lt.getD i (0, 0, 0)).1 := cv_ne c_42
        refine e_iload_n f_164_75 rfl rfl ?_
        refine e_iret f_164_76 rfl (rfl) ?_
        rw [if_neg (row_ne (Or.inl c_42))] at q2
        exact hk (by rw [← q2])
      · skip
        have c_42 : (lo.getD i (0, 0, 0)).1 = (lt.getD i (0, 0, 0)).1 := cv_nne (by omega) (by omega) c_42
        refine e_aload_n f_164_45 rfl rfl ?_
        refine e_getf f_164_46 H0 rfl rfl ?_
        refine e_iload_n f_164_49 rfl rfl ?_
        refine e_iaload_p (xs := lo) f_164_50 H2 (d := (0, 0, 0)) (by first | omega | (simp only [List.length_set]; omega)) rfl ?_
        show px_to 164 51 [some (.ref (269)), some (.int (nI n)), some (.int (nI i))] [.int ((lo.getD i (0, 0, 0)).2.1)] h _
        refine e_aload_n f_164_51 rfl rfl ?_
        refine e_getf f_164_52 H0 rfl rfl ?_
        refine e_iload_n f_164_55 rfl rfl ?_
        refine e_iaload_p (xs := lt) f_164_56 H5 (d := (0, 0, 0)) (by first | omega | (simp only [List.length_set]; omega)) rfl ?_
        show px_to 164 57 [some (.ref (269)), some (.int (nI n)), some (.int (nI i))] [.int ((lt.getD i (0, 0, 0)).2.1), .int ((lo.getD i (0, 0, 0)).2.1)] h _
        refine e_icmp_ne f_164_57 rfl (fun c_57 => ?_) (fun c_57 => ?_)
        · skip
          refine e_iload_n f_164_75 rfl rfl ?_
          refine e_iret f_164_76 rfl (rfl) ?_
          rw [if_neg (row_ne (Or.inr (Or.inl c_57)))] at q2
          exact hk (by rw [← q2])
        · skip
          refine e_aload_n f_164_60 rfl rfl ?_
          refine e_getf f_164_61 H0 rfl rfl ?_
          refine e_iload_n f_164_64 rfl rfl ?_
          refine e_iaload_p (xs := lo) f_164_65 H3 (d := (0, 0, 0)) (by first | omega | (simp only [List.length_set]; omega)) rfl ?_
          show px_to 164 66 [some (.ref (269)), some (.int (nI n)), some (.int (nI i))] [.int (nI ((lo.getD i (0, 0, 0)).2.2))] h _
          refine e_aload_n f_164_66 rfl rfl ?_
          refine e_getf f_164_67 H0 rfl rfl ?_
          refine e_iload_n f_164_70 rfl rfl ?_
          refine e_iaload_p (xs := lt) f_164_71 H6 (d := (0, 0, 0)) (by first | omega | (simp only [List.length_set]; omega)) rfl ?_
          show px_to 164 72 [some (.ref (269)), some (.int (nI n)), some (.int (nI i))] [.int (nI ((lt.getD i (0, 0, 0)).2.2)), .int (nI ((lo.getD i (0, 0, 0)).2.2))] h _
          refine e_icmp_eq f_164_72 rfl (fun c_72 => ?_) (fun c_72 => ?_)
          · skip
            have c_72 : (lo.getD i (0, 0, 0)).2.2 = (lt.getD i (0, 0, 0)).2.2 := cv_eq (by omega) (by omega) c_72
            refine e_iinc (y := nI (i + 1)) (L' := [some (.ref (269)), some (.int (nI n)), some (.int (nI (i + 1)))]) f_164_77 rfl (by rw [show Int32.ofInt 1 = nI 1 by decide]; exact (nI_add _ _)) rfl rfl ?_
            refine e_goto f_164_80 ?_
            first | (exfalso; omega) | exact ih (d - 1) (by omega) (i + 1)  (by omega) (by omega) (by rw [if_pos (row_eq c_42 (Classical.not_not.mp c_57) c_72)] at q2; exact q2)  
          · skip
            have c_72 : (lo.getD i (0, 0, 0)).2.2 ≠ (lt.getD i (0, 0, 0)).2.2 := cv_ne c_72
            refine e_iload_n f_164_75 rfl rfl ?_
            refine e_iret f_164_76 rfl (rfl) ?_
            rw [if_neg (row_ne (Or.inr (Or.inr c_72)))] at q2
            exact hk (by rw [← q2])

set_option maxRecDepth 20000 in
set_option maxHeartbeats 4000000 in
theorem cc_Md_unl {h : px_H} {lo lt : List Row} {ga : gA} {gp : gP} {gq : gQ} {gh : gH} {gw : gW} {gu : gU} {gv : gV} (H0 : h.2.2 269 = some (12, mB ga gp gq gh gw (gu.1, nI lo.length, nI lt.length) gv)) (H1 : px_pa h 297 54 100 rK lo) (H2 : px_pa h 298 50 100 rV lo) (H3 : px_pa h 299 50 100 rT lo) (H4 : px_pa h 300 54 100 rK lt) (H5 : px_pa h 301 50 100 rV lt) (H6 : px_pa h 302 50 100 rT lt) (p0 : (∀ x ∈ lo, rwOk x) ∧ ∀ x ∈ lt, rwOk x) : px_wp 164 [.ref (269)] h (fun h1 r => r = some (.int (rfd lo lt 0)) ∧ h1 = h) := by
  have ll1 := pa_len H1
  have ll2 := pa_len H4
  show px_to 164 0 [some (.ref (269)), none, none] [] h _
  refine e_aload_n f_164_0 rfl rfl ?_
  refine e_getf f_164_1 H0 rfl rfl ?_
  show px_to 164 4 [some (.ref (269)), none, none] [.int (nI lo.length)] h _
  refine e_aload_n f_164_4 rfl rfl ?_
  refine e_getf f_164_5 H0 rfl rfl ?_
  show px_to 164 8 [some (.ref (269)), none, none] [.int (nI lt.length), .int (nI lo.length)] h _
  refine e_icmp_ge f_164_8 rfl (fun c_8 => ?_) (fun c_8 => ?_)
  · skip
    have c_8 : lt.length ≤ lo.length := cv_le (by omega) (by omega) c_8
    refine e_aload_n f_164_18 rfl rfl ?_
    refine e_getf f_164_19 H0 rfl rfl ?_
    show px_to 164 22 [some (.ref (269)), none, none] [.int (nI lt.length)] h _
    refine e_istore_n (L' := [some (.ref (269)), some (.int (nI lt.length)), none]) f_164_22 (Nat.le_of_ble_eq_true rfl) rfl rfl ?_
    refine e_iconst (v := nI 0) f_164_23 (by decide) rfl ?_
    refine e_istore_n (L' := [some (.ref (269)), some (.int (nI lt.length)), some (.int (nI 0))]) f_164_24 (Nat.le_of_ble_eq_true rfl) rfl rfl ?_
    exact ll_Md_unl H0 H1 H2 H3 H4 H5 H6 p0 (show lt.length = _ by omega) (fun e => ⟨e, rfl⟩) 100 0 (by omega) (by omega) rfl
  · skip
    have c_8 : lo.length < lt.length := cv_nle (by omega) (by omega) c_8
    refine e_aload_n f_164_11 rfl rfl ?_
    refine e_getf f_164_12 H0 rfl rfl ?_
    show px_to 164 15 [some (.ref (269)), none, none] [.int (nI lo.length)] h _
    refine e_goto f_164_15 ?_
    refine e_istore_n (L' := [some (.ref (269)), some (.int (nI lo.length)), none]) f_164_22 (Nat.le_of_ble_eq_true rfl) rfl rfl ?_
    refine e_iconst (v := nI 0) f_164_23 (by decide) rfl ?_
    refine e_istore_n (L' := [some (.ref (269)), some (.int (nI lo.length)), some (.int (nI 0))]) f_164_24 (Nat.le_of_ble_eq_true rfl) rfl rfl ?_
    exact ll_Md_unl H0 H1 H2 H3 H4 H5 H6 p0 (show lo.length = _ by omega) (fun e => ⟨e, rfl⟩) 100 0 (by omega) (by omega) rfl
