theorem ones_s (n : Nat) : ones (n + 1) = 1 + 2 * ones n := by
  have h2 : 0 < 2 ^ n := Nat.two_pow_pos n
  unfold ones
  rw [Nat.pow_succ]
  omega
theorem app_s (x n p : Nat) : x + 1 * 2 ^ p + ones n * 2 ^ (p + 1) = x + ones (n + 1) * 2 ^ p := by
  rw [ones_s, Nat.pow_succ, Nat.add_mul, Nat.one_mul, Nat.mul_comm 2 (ones n), Nat.mul_assoc, Nat.mul_comm 2 (2 ^ p), Nat.add_assoc]
theorem two_s {x p : Nat} (h : x < 2 ^ p) : x + 1 * 2 ^ p < 2 ^ (p + 1) := by
  rw [Nat.pow_succ]
  omega
/-- bits after n more -/
def apB (b : Bool) (n x p : Nat) : Nat := if b = true then x + ones n * 2 ^ p else x
theorem apB_0 (b : Bool) (x p : Nat) : apB b 0 x p = x := by
  unfold apB
  rw [show ones 0 = 0 by decide, Nat.zero_mul, Nat.add_zero]
  split <;> rfl

set_option maxRecDepth 20000 in
set_option maxHeartbeats 4000000 in
theorem ll_Md_app {h0 : px_H} {b : Bool} {n y z : Nat} {ga : gA} {gp : gP} {gq : gQ} {gh : gH} {gw : gW} {gu : gU} {gv : gV}  : ∀ (d : Nat) (k : Nat) (x : Nat) (p : Nat) (g : px_H), (n ≤ k + d) → (k ≤ n) → (apB b (n - k) x p = y) → (x < 2 ^ p) → (p + (n - k) = z) → (z ≤ 31 ∧ n ≤ 31) → g.2.2 269 = some (12, mB ga gp gq gh gw gu (gv.1, gv.2.1, nI x, nI p, gv.2.2.2.2.1, gv.2.2.2.2.2.1, gv.2.2.2.2.2.2.1, gv.2.2.2.2.2.2.2.1, gv.2.2.2.2.2.2.2.2)) → px_fi 269 1 h0 g → px_to 175 2 [some (.ref (269)), some (.int (bI b)), some (.int (nI n)), some (.int (nI k))] [] g (fun h1 r => r = none ∧ h1.2.2 269 = some (12, mB ga gp gq gh gw gu (gv.1, gv.2.1, nI y, nI z, gv.2.2.2.2.1, gv.2.2.2.2.2.1, gv.2.2.2.2.2.2.1, gv.2.2.2.2.2.2.2.1, gv.2.2.2.2.2.2.2.2)) ∧ px_fi 269 1 h0 h1) := by
  intro d
  induction d using Nat.strongRecOn with
  | ind d ih =>
    intro k x p g q0 q1 q2 q3 q4 q5 G0 frg
    refine e_iload_n f_175_2 rfl rfl ?_
    refine e_iload_n f_175_3 rfl rfl ?_
    refine e_icmp_ge f_175_4 rfl (fun c_4 => ?_) (fun c_4 => ?_)
    · skip
      have c_4 : n ≤ k := cv_le (by omega) (by omega) c_4
      refine e_vret f_175_49 rfl ?_
      have ey : x = y := by rw [show n - k = 0 by omega, apB_0] at q2; exact q2
      have ez : p = z := by omega
      subst ey
      subst ez
      exact ⟨rfl, G0, frg⟩
    · skip
      have c_4 : k < n := cv_nle (by omega) (by omega) c_4
      refine e_aload_n f_175_7 rfl rfl ?_
      refine e_iload_n f_175_8 rfl rfl ?_
      refine e_if_eq f_175_9 rfl (fun c_9 => ?_) (fun c_9 => ?_)
      · skip
        have c_9 : b = false := bI_f c_9
        refine e_aload_n f_175_26 rfl rfl ?_
        refine e_getf f_175_27 G0 rfl rfl ?_
        show px_to 175 30 [some (.ref (269)), some (.int (bI b)), some (.int (nI n)), some (.int (nI k))] [.int (nI x), .ref (269)] g _
        refine e_putp (vs' := mB ga gp gq gh gw gu (gv.1, gv.2.1, nI x, nI p, gv.2.2.2.2.1, gv.2.2.2.2.2.1, gv.2.2.2.2.2.2.1, gv.2.2.2.2.2.2.2.1, gv.2.2.2.2.2.2.2.2)) f_175_30 G0 (Nat.le_of_ble_eq_true rfl) (rfl) (rfl) rfl rfl (fun h1 g2 fx3 => ?_)
        have fr4 : px_fi 269 1 h0 h1 := fi_tr frg fx3 (by omega)
        refine e_aload_n f_175_33 rfl rfl ?_
        refine e_dup f_175_34 rfl rfl ?_
        refine e_getf f_175_35 g2 rfl rfl ?_
        show px_to 175 38 [some (.ref (269)), some (.int (bI b)), some (.int (nI n)), some (.int (nI k))] [.int (nI p), .ref (269)] h1 _
        refine e_iconst (v := nI 1) f_175_38 (by decide) rfl ?_
        refine e_iadd (z := nI (p + 1)) f_175_39 (nI_add _ _) rfl ?_
        refine e_putp (vs' := mB ga gp gq gh gw gu (gv.1, gv.2.1, nI x, nI (p + 1), gv.2.2.2.2.1, gv.2.2.2.2.2.1, gv.2.2.2.2.2.2.1, gv.2.2.2.2.2.2.2.1, gv.2.2.2.2.2.2.2.2)) f_175_40 g2 (Nat.le_of_ble_eq_true rfl) (rfl) (rfl) rfl rfl (fun h5 g6 fx7 => ?_)
        have fr8 : px_fi 269 1 h0 h5 := fi_tr fr4 fx7 (by omega)
        refine e_iinc (y := nI (k + 1)) (L' := [some (.ref (269)), some (.int (bI b)), some (.int (nI n)), some (.int (nI (k + 1)))]) f_175_43 rfl (by rw [show Int32.ofInt 1 = nI 1 by decide]; exact (nI_add _ _)) rfl rfl ?_
        refine e_goto f_175_46 ?_
        first | (exfalso; omega) | exact ih (d - 1) (by omega) (k + 1) x (p + 1) h5 (by omega) (by omega) (by unfold apB at q2 ⊢; rw [if_neg (by rw [c_9]; decide)] at q2 ⊢; exact q2) (Nat.lt_of_lt_of_le q3 (Nat.pow_le_pow_right (by decide) (by omega))) (by omega) (by omega) g6 fr8
      · skip
        have c_9 : b = true := bI_t' c_9
        refine e_aload_n f_175_12 rfl rfl ?_
        refine e_getf f_175_13 G0 rfl rfl ?_
        show px_to 175 16 [some (.ref (269)), some (.int (bI b)), some (.int (nI n)), some (.int (nI k))] [.int (nI x), .ref (269)] g _
        refine e_iconst (v := nI 1) f_175_16 (by decide) rfl ?_
        refine e_aload_n f_175_17 rfl rfl ?_
        refine e_getf f_175_18 G0 rfl rfl ?_
        show px_to 175 21 [some (.ref (269)), some (.int (bI b)), some (.int (nI n)), some (.int (nI k))] [.int (nI p), .int (nI 1), .int (nI x), .ref (269)] g _
        refine e_ishl (z := nI (1 * 2 ^ p)) f_175_21 (shlN _ (by omega)) rfl ?_
        refine e_ior (z := nI (x + 1 * 2 ^ p)) f_175_22 (orN q3) rfl ?_
        refine e_goto f_175_23 ?_
        refine e_putp (vs' := mB ga gp gq gh gw gu (gv.1, gv.2.1, nI (x + 1 * 2 ^ p), nI p, gv.2.2.2.2.1, gv.2.2.2.2.2.1, gv.2.2.2.2.2.2.1, gv.2.2.2.2.2.2.2.1, gv.2.2.2.2.2.2.2.2)) f_175_30 G0 (Nat.le_of_ble_eq_true rfl) (rfl) (rfl) rfl rfl (fun h9 g10 fx11 => ?_)
        have fr12 : px_fi 269 1 h0 h9 := fi_tr frg fx11 (by omega)
        refine e_aload_n f_175_33 rfl rfl ?_
        refine e_dup f_175_34 rfl rfl ?_
        refine e_getf f_175_35 g10 rfl rfl ?_
        show px_to 175 38 [some (.ref (269)), some (.int (bI b)), some (.int (nI n)), some (.int (nI k))] [.int (nI p), .ref (269)] h9 _
        refine e_iconst (v := nI 1) f_175_38 (by decide) rfl ?_
        refine e_iadd (z := nI (p + 1)) f_175_39 (nI_add _ _) rfl ?_
        refine e_putp (vs' := mB ga gp gq gh gw gu (gv.1, gv.2.1, nI (x + 1 * 2 ^ p), nI (p + 1), gv.2.2.2.2.1, gv.2.2.2.2.2.1, gv.2.2.2.2.2.2.1, gv.2.2.2.2.2.2.2.1, gv.2.2.2.2.2.2.2.2)) f_175_40 g10 (Nat.le_of_ble_eq_true rfl) (rfl) (rfl) rfl rfl (fun h13 g14 fx15 => ?_)
        have fr16 : px_fi 269 1 h0 h13 := fi_tr fr12 fx15 (by omega)
        refine e_iinc (y := nI (k + 1)) (L' := [some (.ref (269)), some (.int (bI b)), some (.int (nI n)), some (.int (nI (k + 1)))]) f_175_43 rfl (by rw [show Int32.ofInt 1 = nI 1 by decide]; exact (nI_add _ _)) rfl rfl ?_
        refine e_goto f_175_46 ?_
        first | (exfalso; omega) | exact ih (d - 1) (by omega) (k + 1) (x + 1 * 2 ^ p) (p + 1) h13 (by omega) (by omega) (by unfold apB at q2 ⊢; rw [if_pos c_9] at q2 ⊢; rw [show n - k = (n - (k + 1)) + 1 by omega, ← app_s] at q2; exact q2) (two_s q3) (by omega) (by omega) g14 fr16

set_option maxRecDepth 20000 in
set_option maxHeartbeats 4000000 in
theorem cc_Md_app {h : px_H} {b : Bool} {n x p : Nat} {ga : gA} {gp : gP} {gq : gQ} {gh : gH} {gw : gW} {gu : gU} {gv : gV} (H0 : h.2.2 269 = some (12, mB ga gp gq gh gw gu (gv.1, gv.2.1, nI x, nI p, gv.2.2.2.2.1, gv.2.2.2.2.2.1, gv.2.2.2.2.2.2.1, gv.2.2.2.2.2.2.2.1, gv.2.2.2.2.2.2.2.2))) (p0 : x < 2 ^ p) (p1 : p + n ≤ 31) : px_wp 175 [.ref (269), .int (bI b), .int (nI n)] h (fun h1 r => r = none ∧ h1.2.2 269 = some (12, mB ga gp gq gh gw gu (gv.1, gv.2.1, nI (apB b n x p), nI (p + n), gv.2.2.2.2.1, gv.2.2.2.2.2.1, gv.2.2.2.2.2.2.1, gv.2.2.2.2.2.2.2.1, gv.2.2.2.2.2.2.2.2)) ∧ px_fi 269 1 h h1) := by
  have fr0 : px_fi 269 1 h h := fi_rf _ _ _
  show px_to 175 0 [some (.ref (269)), some (.int (bI b)), some (.int (nI n)), none] [] h _
  refine e_iconst (v := nI 0) f_175_0 (by decide) rfl ?_
  refine e_istore_n (L' := [some (.ref (269)), some (.int (bI b)), some (.int (nI n)), some (.int (nI 0))]) f_175_1 (Nat.le_of_ble_eq_true rfl) rfl rfl ?_
  exact ll_Md_app (h0 := h) n 0 x p h (by omega) (by omega) rfl p0 rfl ⟨p1, by omega⟩ H0 fr0

theorem or_raw {x : Int32} {i : Nat} : x ||| (nI 1 <<< (nI i &&& 31)) = x ||| (nI 1 <<< (nI i &&& 31)) := rfl

set_option maxRecDepth 20000 in
set_option maxHeartbeats 4000000 in
theorem cc_Md_app1 {h : px_H} {b : Bool} {bt : Int32} {p : Nat} {ga : gA} {gp : gP} {gq : gQ} {gh : gH} {gw : gW} {gu : gU} {gv : gV} (H0 : h.2.2 269 = some (12, mB ga gp gq gh gw gu (gv.1, gv.2.1, bt, nI p, gv.2.2.2.2.1, gv.2.2.2.2.2.1, gv.2.2.2.2.2.2.1, gv.2.2.2.2.2.2.2.1, gv.2.2.2.2.2.2.2.2)))  : px_wp 175 [.ref (269), .int (bI b), .int (nI 1)] h (fun h1 r => r = none ∧ h1.2.2 269 = some (12, mB ga gp gq gh gw gu (gv.1, gv.2.1, if b = true then bt ||| (nI 1 <<< (nI p &&& 31)) else bt, nI (p + 1), gv.2.2.2.2.1, gv.2.2.2.2.2.1, gv.2.2.2.2.2.2.1, gv.2.2.2.2.2.2.2.1, gv.2.2.2.2.2.2.2.2)) ∧ px_fi 269 1 h h1) := by
  have fr0 : px_fi 269 1 h h := fi_rf _ _ _
  show px_to 175 0 [some (.ref (269)), some (.int (bI b)), some (.int (nI 1)), none] [] h _
  refine e_iconst (v := nI 0) f_175_0 (by decide) rfl ?_
  refine e_istore_n (L' := [some (.ref (269)), some (.int (bI b)), some (.int (nI 1)), some (.int (nI 0))]) f_175_1 (Nat.le_of_ble_eq_true rfl) rfl rfl ?_
  refine e_iload_n f_175_2 rfl rfl ?_
  refine e_iload_n f_175_3 rfl rfl ?_
  refine e_icmp_ge_f f_175_4 (by decide) rfl ?_
  refine e_aload_n f_175_7 rfl rfl ?_
  refine e_iload_n f_175_8 rfl rfl ?_
  refine e_if_eq f_175_9 rfl (fun c_9 => ?_) (fun c_9 => ?_)
  · skip
    have c_9 : b = false := bI_f c_9
    refine e_aload_n f_175_26 rfl rfl ?_
    refine e_getf f_175_27 H0 rfl rfl ?_
    show px_to 175 30 [some (.ref (269)), some (.int (bI b)), some (.int (nI 1)), some (.int (nI 0))] [.int (bt), .ref (269)] h _
    refine e_putp (vs' := mB ga gp gq gh gw gu (gv.1, gv.2.1, bt, nI p, gv.2.2.2.2.1, gv.2.2.2.2.2.1, gv.2.2.2.2.2.2.1, gv.2.2.2.2.2.2.2.1, gv.2.2.2.2.2.2.2.2)) f_175_30 H0 (Nat.le_of_ble_eq_true rfl) (rfl) (rfl) rfl rfl (fun h1 g2 fx3 => ?_)
    have fr4 : px_fi 269 1 h h1 := fi_tr fr0 fx3 (by omega)
    refine e_aload_n f_175_33 rfl rfl ?_
    refine e_dup f_175_34 rfl rfl ?_
    refine e_getf f_175_35 g2 rfl rfl ?_
    show px_to 175 38 [some (.ref (269)), some (.int (bI b)), some (.int (nI 1)), some (.int (nI 0))] [.int (nI p), .ref (269)] h1 _
    refine e_iconst (v := nI 1) f_175_38 (by decide) rfl ?_
    refine e_iadd (z := nI (p + 1)) f_175_39 (nI_add _ _) rfl ?_
    refine e_putp (vs' := mB ga gp gq gh gw gu (gv.1, gv.2.1, bt, nI (p + 1), gv.2.2.2.2.1, gv.2.2.2.2.2.1, gv.2.2.2.2.2.2.1, gv.2.2.2.2.2.2.2.1, gv.2.2.2.2.2.2.2.2)) f_175_40 g2 (Nat.le_of_ble_eq_true rfl) (rfl) (rfl) rfl rfl (fun h5 g6 fx7 => ?_)
    have fr8 : px_fi 269 1 h h5 := fi_tr fr4 fx7 (by omega)
    refine e_iinc (y := nI 1) (L' := [some (.ref (269)), some (.int (bI b)), some (.int (nI 1)), some (.int (nI 1))]) f_175_43 rfl (by rw [show Int32.ofInt 1 = nI 1 by decide]; exact (nI_add _ _).trans (congrArg nI (by omega))) rfl rfl ?_
    refine e_goto f_175_46 ?_
    refine e_iload_n f_175_2 rfl rfl ?_
    refine e_iload_n f_175_3 rfl rfl ?_
    refine e_icmp_ge_t f_175_4 (by decide) ?_
    refine e_vret f_175_49 rfl ?_
    first | (rw [if_pos c_9]; exact ⟨rfl, g6, fr8⟩) | (rw [if_neg (by rw [c_9]; decide)]; exact ⟨rfl, g6, fr8⟩)
  · skip
    have c_9 : b = true := bI_t' c_9
    refine e_aload_n f_175_12 rfl rfl ?_
    refine e_getf f_175_13 H0 rfl rfl ?_
    show px_to 175 16 [some (.ref (269)), some (.int (bI b)), some (.int (nI 1)), some (.int (nI 0))] [.int (bt), .ref (269)] h _
    refine e_iconst (v := nI 1) f_175_16 (by decide) rfl ?_
    refine e_aload_n f_175_17 rfl rfl ?_
    refine e_getf f_175_18 H0 rfl rfl ?_
    show px_to 175 21 [some (.ref (269)), some (.int (bI b)), some (.int (nI 1)), some (.int (nI 0))] [.int (nI p), .int (nI 1), .int (bt), .ref (269)] h _
    refine e_ishl (z := (nI 1) <<< ((nI p) &&& 31)) f_175_21 rfl rfl ?_
    refine e_ior (z := bt ||| ((nI 1) <<< ((nI p) &&& 31))) f_175_22 rfl rfl ?_
    refine e_goto f_175_23 ?_
    refine e_putp (vs' := mB ga gp gq gh gw gu (gv.1, gv.2.1, bt ||| ((nI 1) <<< ((nI p) &&& 31)), nI p, gv.2.2.2.2.1, gv.2.2.2.2.2.1, gv.2.2.2.2.2.2.1, gv.2.2.2.2.2.2.2.1, gv.2.2.2.2.2.2.2.2)) f_175_30 H0 (Nat.le_of_ble_eq_true rfl) (rfl) (rfl) rfl rfl (fun h9 g10 fx11 => ?_)
    have fr12 : px_fi 269 1 h h9 := fi_tr fr0 fx11 (by omega)
    refine e_aload_n f_175_33 rfl rfl ?_
    refine e_dup f_175_34 rfl rfl ?_
    refine e_getf f_175_35 g10 rfl rfl ?_
    show px_to 175 38 [some (.ref (269)), some (.int (bI b)), some (.int (nI 1)), some (.int (nI 0))] [.int (nI p), .ref (269)] h9 _
    refine e_iconst (v := nI 1) f_175_38 (by decide) rfl ?_
    refine e_iadd (z := nI (p + 1)) f_175_39 (nI_add _ _) rfl ?_
    refine e_putp (vs' := mB ga gp gq gh gw gu (gv.1, gv.2.1, bt ||| ((nI 1) <<< ((nI p) &&& 31)), nI (p + 1), gv.2.2.2.2.1, gv.2.2.2.2.2.1, gv.2.2.2.2.2.2.1, gv.2.2.2.2.2.2.2.1, gv.2.2.2.2.2.2.2.2)) f_175_40 g10 (Nat.le_of_ble_eq_true rfl) (rfl) (rfl) rfl rfl (fun h13 g14 fx15 => ?_)
    have fr16 : px_fi 269 1 h h13 := fi_tr fr12 fx15 (by omega)
    refine e_iinc (y := nI 1) (L' := [some (.ref (269)), some (.int (bI b)), some (.int (nI 1)), some (.int (nI 1))]) f_175_43 rfl (by rw [show Int32.ofInt 1 = nI 1 by decide]; exact (nI_add _ _).trans (congrArg nI (by omega))) rfl rfl ?_
    refine e_goto f_175_46 ?_
    refine e_iload_n f_175_2 rfl rfl ?_
    refine e_iload_n f_175_3 rfl rfl ?_
    refine e_icmp_ge_t f_175_4 (by decide) ?_
    refine e_vret f_175_49 rfl ?_
    first | (rw [if_pos c_9]; exact ⟨rfl, g14, fr16⟩) | (rw [if_neg (by rw [c_9]; decide)]; exact ⟨rfl, g14, fr16⟩)

set_option maxRecDepth 20000 in
set_option maxHeartbeats 4000000 in
theorem ll_MD_shuf {P : px_H → Option Value → Prop} {h0 : px_H} {c al : Nat} {s y oa ob : Int32} {ga : gA} {gp : gP} {gq : gQ} {gh : gH} {gw : gW} {gu : gU} {gv : gV} (h24 : al ≤ 24) (hk : ∀ g i, g.2.2 269 = some (12, mB ga gp gq gh gw gu (oa, ob, y, nI i, gv.2.2.2.2.1, gv.2.2.2.2.2.1, gv.2.2.2.2.2.2.1, gv.2.2.2.2.2.2.2.1, gv.2.2.2.2.2.2.2.2)) → px_fi 269 1 h0 g → P g (some (.int y))) : ∀ (d : Nat) (a : Nat) (b : Nat) (x : Int32) (bits : Int32) (i : Nat) (g : px_H), (al < i + d + 1) → (a + b + i = al) → (shG (al - i) i a b x bits = y) → g.2.2 269 = some (12, mB ga gp gq gh gw gu (oa, ob, bits, nI i, gv.2.2.2.2.1, gv.2.2.2.2.2.1, gv.2.2.2.2.2.2.1, gv.2.2.2.2.2.2.2.1, gv.2.2.2.2.2.2.2.2)) → px_fi 269 1 h0 g → px_to 188 39 [some (.ref (269)), some (.int (nI c)), some (.int (s)), some (.int (x)), some (.int (nI a)), some (.int (nI b)), none] [] g P := by
  intro d
  induction d using Nat.strongRecOn with
  | ind d ih =>
    intro a b x bits i g q0 q1 q2 G0 frg
    refine e_iload f_188_39 rfl rfl ?_
    refine e_iload f_188_41 rfl rfl ?_
    refine e_iadd (z := nI (a + b)) f_188_43 (nI_add _ _) rfl ?_
    refine e_if_le f_188_44 rfl (fun c_44 => ?_) (fun c_44 => ?_)
    · skip
      rw [← nI_0] at c_44
      have c_44 : a + b ≤ 0 := cv_le (by omega) (by omega) c_44
      refine e_aload_n f_188_138 rfl rfl ?_
      refine e_getf f_188_139 G0 rfl rfl ?_
      show px_to 188 142 [some (.ref (269)), some (.int (nI c)), some (.int (s)), some (.int (x)), some (.int (nI a)), some (.int (nI b)), none] [.int (bits)] g _
      refine e_iret f_188_142 rfl (rfl) ?_
      have e : al - i = 0 := by omega
      rw [e, shG] at q2
      subst q2
      exact hk g i G0 frg
    · skip
      rw [← nI_0] at c_44
      have c_44 : 0 < a + b := cv_nle (by omega) (by omega) c_44
      refine e_iload f_188_47 rfl rfl ?_
      refine e_if_ne f_188_49 rfl (fun c_49 => ?_) (fun c_49 => ?_)
      · skip
        rw [← nI_0] at c_49
        have c_49 : a ≠ 0 := cv_ne c_49
        refine e_iconst (v := nI 0) f_188_56 (by decide) rfl ?_
        refine e_istore (L' := [some (.ref (269)), some (.int (nI c)), some (.int (s)), some (.int (x)), some (.int (nI a)), some (.int (nI b)), some (.int (nI 0))]) f_188_57 (Nat.le_of_ble_eq_true rfl) rfl rfl ?_
        refine e_iload f_188_59 rfl rfl ?_
        refine e_if_le f_188_61 rfl (fun c_61 => ?_) (fun c_61 => ?_)
        · skip
          rw [← nI_0] at c_61
          have c_61 : a ≤ 0 := cv_le (by omega) (by omega) c_61
          show px_to 188 96 [some (.ref (269)), some (.int (nI c)), some (.int (s)), some (.int (x)), some (.int (nI a)), some (.int (nI b)), some (.int (bI false))] [] g _
          refine e_aload_n f_188_96 rfl rfl ?_
          refine e_iload f_188_97 rfl rfl ?_
          refine e_iconst (v := nI 1) f_188_99 (by decide) rfl ?_
          refine e_callV (As := [.int (bI false), .int (nI 1)]) (rest := []) f_188_100 rfl rfl rfl (Nat.le_of_ble_eq_true rfl) (Nat.le_of_ble_eq_true rfl) G0 rfl (Nat.le_of_ble_eq_true rfl) (cc_Md_app1 (b := false) (bt := bits) (p := i) (ga := ga) (gp := gp) (gq := gq) (gh := gh) (gw := gw) (gu := gu) (gv := (oa, ob, bits, nI i, gv.2.2.2.2.1, gv.2.2.2.2.2.1, gv.2.2.2.2.2.2.1, gv.2.2.2.2.2.2.2.1, gv.2.2.2.2.2.2.2.2)) G0 ) rfl (fun h1 r2 q3 => ?_)
          obtain ⟨rfl, g4, fx5⟩ := q3
          have fr6 : px_fi 269 1 h0 h1 := fi_tr frg fx5 (by omega)
          show px_to 188 103 [some (.ref (269)), some (.int (nI c)), some (.int (s)), some (.int (x)), some (.int (nI a)), some (.int (nI b)), some (.int (bI false))] [] h1 _
          refine e_iload f_188_103 rfl rfl ?_
          refine e_if_eq_t f_188_105 (by decide) ?_
          refine e_iload f_188_113 rfl rfl ?_
          refine e_iconst (v := nI 1) f_188_115 (by decide) rfl ?_
          refine e_isub (z := nI (a - 1)) f_188_116 (pk_sub (by omega)) rfl ?_
          refine e_istore (L' := [some (.ref (269)), some (.int (nI c)), some (.int (s)), some (.int (x)), some (.int (nI (a - 1))), some (.int (nI b)), some (.int (bI false))]) f_188_117 (Nat.le_of_ble_eq_true rfl) rfl rfl ?_
          refine e_iload f_188_119 rfl rfl ?_
          refine e_if_eq_t f_188_121 (by decide) ?_
          refine e_iload f_188_131 rfl rfl ?_
          refine e_istore (L' := [some (.ref (269)), some (.int (nI c)), some (.int (s)), some (.int (x)), some (.int (nI (a - 1))), some (.int (nI b)), some (.int (bI false))]) f_188_133 (Nat.le_of_ble_eq_true rfl) rfl rfl ?_
          refine e_goto f_188_135 ?_
          have g7 : h1.2.2 269 = some (12, mB ga gp gq gh gw gu (oa, ob, bits, nI (i + 1), gv.2.2.2.2.1, gv.2.2.2.2.2.1, gv.2.2.2.2.2.2.1, gv.2.2.2.2.2.2.2.1, gv.2.2.2.2.2.2.2.2)) := by have z := g4; rw [if_neg (by decide)] at z; exact z
          refine px_to_L (L := [some (.ref (269)), some (.int (nI c)), some (.int (s)), some (.int (x)), some (.int (nI (a - 1))), some (.int (nI b)), none]) ⟨Or.inr rfl, Or.inr rfl, Or.inr rfl, Or.inr rfl, Or.inr rfl, Or.inr rfl, Or.inl rfl, trivial⟩ ?_
          first | (exfalso; omega) | exact ih (d - 1) (by omega) (a - 1) b x bits (i + 1) h1 (by omega) (by omega) (by rw [show al - i = (al - (i + 1)) + 1 by omega, shG, if_pos (by omega), if_neg (by omega)] at q2; exact q2) g7 fr6
        · skip
          rw [← nI_0] at c_61
          have c_61 : 0 < a := cv_nle (by omega) (by omega) c_61
          refine e_iload f_188_64 rfl rfl ?_
          refine e_if_le f_188_66 rfl (fun c_66 => ?_) (fun c_66 => ?_)
          · skip
            rw [← nI_0] at c_66
            have c_66 : b ≤ 0 := cv_le (by omega) (by omega) c_66
            show px_to 188 96 [some (.ref (269)), some (.int (nI c)), some (.int (s)), some (.int (x)), some (.int (nI a)), some (.int (nI b)), some (.int (bI false))] [] g _
            refine e_aload_n f_188_96 rfl rfl ?_
            refine e_iload f_188_97 rfl rfl ?_
            refine e_iconst (v := nI 1) f_188_99 (by decide) rfl ?_
            refine e_callV (As := [.int (bI false), .int (nI 1)]) (rest := []) f_188_100 rfl rfl rfl (Nat.le_of_ble_eq_true rfl) (Nat.le_of_ble_eq_true rfl) G0 rfl (Nat.le_of_ble_eq_true rfl) (cc_Md_app1 (b := false) (bt := bits) (p := i) (ga := ga) (gp := gp) (gq := gq) (gh := gh) (gw := gw) (gu := gu) (gv := (oa, ob, bits, nI i, gv.2.2.2.2.1, gv.2.2.2.2.2.1, gv.2.2.2.2.2.2.1, gv.2.2.2.2.2.2.2.1, gv.2.2.2.2.2.2.2.2)) G0 ) rfl (fun h8 r9 q10 => ?_)
            obtain ⟨rfl, g11, fx12⟩ := q10
            have fr13 : px_fi 269 1 h0 h8 := fi_tr frg fx12 (by omega)
            show px_to 188 103 [some (.ref (269)), some (.int (nI c)), some (.int (s)), some (.int (x)), some (.int (nI a)), some (.int (nI b)), some (.int (bI false))] [] h8 _
            refine e_iload f_188_103 rfl rfl ?_
            refine e_if_eq_t f_188_105 (by decide) ?_
            refine e_iload f_188_113 rfl rfl ?_
            refine e_iconst (v := nI 1) f_188_115 (by decide) rfl ?_
            refine e_isub (z := nI (a - 1)) f_188_116 (pk_sub (by omega)) rfl ?_
            refine e_istore (L' := [some (.ref (269)), some (.int (nI c)), some (.int (s)), some (.int (x)), some (.int (nI (a - 1))), some (.int (nI b)), some (.int (bI false))]) f_188_117 (Nat.le_of_ble_eq_true rfl) rfl rfl ?_
            refine e_iload f_188_119 rfl rfl ?_
            refine e_if_eq_t f_188_121 (by decide) ?_
            refine e_iload f_188_131 rfl rfl ?_
            refine e_istore (L' := [some (.ref (269)), some (.int (nI c)), some (.int (s)), some (.int (x)), some (.int (nI (a - 1))), some (.int (nI b)), some (.int (bI false))]) f_188_133 (Nat.le_of_ble_eq_true rfl) rfl rfl ?_
            refine e_goto f_188_135 ?_
            have g14 : h8.2.2 269 = some (12, mB ga gp gq gh gw gu (oa, ob, bits, nI (i + 1), gv.2.2.2.2.1, gv.2.2.2.2.2.1, gv.2.2.2.2.2.2.1, gv.2.2.2.2.2.2.2.1, gv.2.2.2.2.2.2.2.2)) := by have z := g11; rw [if_neg (by decide)] at z; exact z
            refine px_to_L (L := [some (.ref (269)), some (.int (nI c)), some (.int (s)), some (.int (x)), some (.int (nI (a - 1))), some (.int (nI b)), none]) ⟨Or.inr rfl, Or.inr rfl, Or.inr rfl, Or.inr rfl, Or.inr rfl, Or.inr rfl, Or.inl rfl, trivial⟩ ?_
            first | (exfalso; omega) | exact ih (d - 1) (by omega) (a - 1) b x bits (i + 1) h8 (by omega) (by omega) (by rw [show al - i = (al - (i + 1)) + 1 by omega, shG, if_pos (by omega), if_neg (by omega)] at q2; exact q2) g14 fr13
          · skip
            rw [← nI_0] at c_66
            have c_66 : 0 < b := cv_nle (by omega) (by omega) c_66
            refine e_iload_n f_188_69 rfl rfl ?_
            refine e_ldcw f_188_70 rfl ?_
            refine e_imul (z := x * 1103515245) f_188_73 (rfl) rfl ?_
            refine e_sipush (v := nI 12345) f_188_74 (by decide) rfl ?_
            refine e_iadd (z := (x * 1103515245) + (nI 12345)) f_188_77 rfl rfl ?_
            refine e_istore_n (L' := [some (.ref (269)), some (.int (nI c)), some (.int (s)), some (.int ((x * 1103515245) + (nI 12345))), some (.int (nI a)), some (.int (nI b)), some (.int (nI 0))]) f_188_78 (Nat.le_of_ble_eq_true rfl) rfl rfl ?_
            refine e_iload_n f_188_79 rfl rfl ?_
            refine e_bipush (v := nI 16) f_188_80 (by decide) rfl ?_
            refine e_ishr (z := ((x * 1103515245) + (nI 12345)) >>> ((nI 16) &&& 31)) f_188_82 rfl rfl ?_
            refine e_iconst (v := nI 1) f_188_83 (by decide) rfl ?_
            refine e_iand (z := (((x * 1103515245) + (nI 12345)) >>> ((nI 16) &&& 31)) &&& (nI 1)) f_188_84 rfl rfl ?_
            refine e_iconst (v := nI 1) f_188_85 (by decide) rfl ?_
            refine e_icmp_ne f_188_86 rfl (fun c_86 => ?_) (fun c_86 => ?_)
            · skip
              refine e_iconst (v := nI 0) f_188_93 (by decide) rfl ?_
              refine e_istore (L' := [some (.ref (269)), some (.int (nI c)), some (.int (s)), some (.int ((x * 1103515245) + (nI 12345))), some (.int (nI a)), some (.int (nI b)), some (.int (nI 0))]) f_188_94 (Nat.le_of_ble_eq_true rfl) rfl rfl ?_
              have hsb : shB (x * 1103515245 + nI 12345) = false := decide_eq_false c_86
              show px_to 188 96 [some (.ref (269)), some (.int (nI c)), some (.int (s)), some (.int ((x * 1103515245) + (nI 12345))), some (.int (nI a)), some (.int (nI b)), some (.int (bI false))] [] g _
              refine e_aload_n f_188_96 rfl rfl ?_
              refine e_iload f_188_97 rfl rfl ?_
              refine e_iconst (v := nI 1) f_188_99 (by decide) rfl ?_
              refine e_callV (As := [.int (bI false), .int (nI 1)]) (rest := []) f_188_100 rfl rfl rfl (Nat.le_of_ble_eq_true rfl) (Nat.le_of_ble_eq_true rfl) G0 rfl (Nat.le_of_ble_eq_true rfl) (cc_Md_app1 (b := false) (bt := bits) (p := i) (ga := ga) (gp := gp) (gq := gq) (gh := gh) (gw := gw) (gu := gu) (gv := (oa, ob, bits, nI i, gv.2.2.2.2.1, gv.2.2.2.2.2.1, gv.2.2.2.2.2.2.1, gv.2.2.2.2.2.2.2.1, gv.2.2.2.2.2.2.2.2)) G0 ) rfl (fun h15 r16 q17 => ?_)
              obtain ⟨rfl, g18, fx19⟩ := q17
              have fr20 : px_fi 269 1 h0 h15 := fi_tr frg fx19 (by omega)
              show px_to 188 103 [some (.ref (269)), some (.int (nI c)), some (.int (s)), some (.int ((x * 1103515245) + (nI 12345))), some (.int (nI a)), some (.int (nI b)), some (.int (bI false))] [] h15 _
              refine e_iload f_188_103 rfl rfl ?_
              refine e_if_eq_t f_188_105 (by decide) ?_
              refine e_iload f_188_113 rfl rfl ?_
              refine e_iconst (v := nI 1) f_188_115 (by decide) rfl ?_
              refine e_isub (z := nI (a - 1)) f_188_116 (pk_sub (by omega)) rfl ?_
              refine e_istore (L' := [some (.ref (269)), some (.int (nI c)), some (.int (s)), some (.int ((x * 1103515245) + (nI 12345))), some (.int (nI (a - 1))), some (.int (nI b)), some (.int (bI false))]) f_188_117 (Nat.le_of_ble_eq_true rfl) rfl rfl ?_
              refine e_iload f_188_119 rfl rfl ?_
              refine e_if_eq_t f_188_121 (by decide) ?_
              refine e_iload f_188_131 rfl rfl ?_
              refine e_istore (L' := [some (.ref (269)), some (.int (nI c)), some (.int (s)), some (.int ((x * 1103515245) + (nI 12345))), some (.int (nI (a - 1))), some (.int (nI b)), some (.int (bI false))]) f_188_133 (Nat.le_of_ble_eq_true rfl) rfl rfl ?_
              refine e_goto f_188_135 ?_
              have g21 : h15.2.2 269 = some (12, mB ga gp gq gh gw gu (oa, ob, bits, nI (i + 1), gv.2.2.2.2.1, gv.2.2.2.2.2.1, gv.2.2.2.2.2.2.1, gv.2.2.2.2.2.2.2.1, gv.2.2.2.2.2.2.2.2)) := by have z := g18; rw [if_neg (by decide)] at z; exact z
              refine px_to_L (L := [some (.ref (269)), some (.int (nI c)), some (.int (s)), some (.int ((x * 1103515245 + nI 12345))), some (.int (nI (a - 1))), some (.int (nI b)), none]) ⟨Or.inr rfl, Or.inr rfl, Or.inr rfl, Or.inr rfl, Or.inr rfl, Or.inr rfl, Or.inl rfl, trivial⟩ ?_
              first | (exfalso; omega) | exact ih (d - 1) (by omega) (a - 1) b (x * 1103515245 + nI 12345) bits (i + 1) h15 (by omega) (by omega) (by rw [show al - i = (al - (i + 1)) + 1 by omega, shG, if_neg (by omega), if_neg (by rw [hsb]; decide)] at q2; exact q2) g21 fr20
            · skip
              refine e_iconst (v := nI 1) f_188_89 (by decide) rfl ?_
              refine e_goto f_188_90 ?_
              refine e_istore (L' := [some (.ref (269)), some (.int (nI c)), some (.int (s)), some (.int ((x * 1103515245) + (nI 12345))), some (.int (nI a)), some (.int (nI b)), some (.int (nI 1))]) f_188_94 (Nat.le_of_ble_eq_true rfl) rfl rfl ?_
              have hsb : shB (x * 1103515245 + nI 12345) = true := decide_eq_true (Classical.not_not.mp c_86)
              show px_to 188 96 [some (.ref (269)), some (.int (nI c)), some (.int (s)), some (.int ((x * 1103515245) + (nI 12345))), some (.int (nI a)), some (.int (nI b)), some (.int (bI true))] [] g _
              refine e_aload_n f_188_96 rfl rfl ?_
              refine e_iload f_188_97 rfl rfl ?_
              refine e_iconst (v := nI 1) f_188_99 (by decide) rfl ?_
              refine e_callV (As := [.int (bI true), .int (nI 1)]) (rest := []) f_188_100 rfl rfl rfl (Nat.le_of_ble_eq_true rfl) (Nat.le_of_ble_eq_true rfl) G0 rfl (Nat.le_of_ble_eq_true rfl) (cc_Md_app1 (b := true) (bt := bits) (p := i) (ga := ga) (gp := gp) (gq := gq) (gh := gh) (gw := gw) (gu := gu) (gv := (oa, ob, bits, nI i, gv.2.2.2.2.1, gv.2.2.2.2.2.1, gv.2.2.2.2.2.2.1, gv.2.2.2.2.2.2.2.1, gv.2.2.2.2.2.2.2.2)) G0 ) rfl (fun h22 r23 q24 => ?_)
              obtain ⟨rfl, g25, fx26⟩ := q24
              have fr27 : px_fi 269 1 h0 h22 := fi_tr frg fx26 (by omega)
              show px_to 188 103 [some (.ref (269)), some (.int (nI c)), some (.int (s)), some (.int ((x * 1103515245) + (nI 12345))), some (.int (nI a)), some (.int (nI b)), some (.int (bI true))] [] h22 _
              refine e_iload f_188_103 rfl rfl ?_
              refine e_if_eq_f f_188_105 (by decide) rfl ?_
              refine e_iload f_188_108 rfl rfl ?_
              refine e_goto f_188_110 ?_
              refine e_istore (L' := [some (.ref (269)), some (.int (nI c)), some (.int (s)), some (.int ((x * 1103515245) + (nI 12345))), some (.int (nI a)), some (.int (nI b)), some (.int (bI true))]) f_188_117 (Nat.le_of_ble_eq_true rfl) rfl rfl ?_
              refine e_iload f_188_119 rfl rfl ?_
              refine e_if_eq_f f_188_121 (by decide) rfl ?_
              refine e_iload f_188_124 rfl rfl ?_
              refine e_iconst (v := nI 1) f_188_126 (by decide) rfl ?_
              refine e_isub (z := nI (b - 1)) f_188_127 (pk_sub (by omega)) rfl ?_
              refine e_goto f_188_128 ?_
              refine e_istore (L' := [some (.ref (269)), some (.int (nI c)), some (.int (s)), some (.int ((x * 1103515245) + (nI 12345))), some (.int (nI a)), some (.int (nI (b - 1))), some (.int (bI true))]) f_188_133 (Nat.le_of_ble_eq_true rfl) rfl rfl ?_
              refine e_goto f_188_135 ?_
              have g28 : h22.2.2 269 = some (12, mB ga gp gq gh gw gu (oa, ob, bits ||| (nI 1 <<< (nI i &&& 31)), nI (i + 1), gv.2.2.2.2.1, gv.2.2.2.2.2.1, gv.2.2.2.2.2.2.1, gv.2.2.2.2.2.2.2.1, gv.2.2.2.2.2.2.2.2)) := by have z := g25; rw [if_pos rfl] at z; exact z
              refine px_to_L (L := [some (.ref (269)), some (.int (nI c)), some (.int (s)), some (.int ((x * 1103515245 + nI 12345))), some (.int (nI a)), some (.int (nI (b - 1))), none]) ⟨Or.inr rfl, Or.inr rfl, Or.inr rfl, Or.inr rfl, Or.inr rfl, Or.inr rfl, Or.inl rfl, trivial⟩ ?_
              first | (exfalso; omega) | exact ih (d - 1) (by omega) a (b - 1) (x * 1103515245 + nI 12345) (bits ||| (nI 1 <<< (nI i &&& 31))) (i + 1) h22 (by omega) (by omega) (by rw [show al - i = (al - (i + 1)) + 1 by omega, shG, if_neg (by omega), if_pos hsb] at q2; exact q2) g28 fr27
      · skip
        rw [← nI_0] at c_49
        have c_49 : a = 0 := cv_nne (by omega) (by omega) c_49
        refine e_iconst (v := nI 1) f_188_52 (by decide) rfl ?_
        refine e_goto f_188_53 ?_
        refine e_istore (L' := [some (.ref (269)), some (.int (nI c)), some (.int (s)), some (.int (x)), some (.int (nI a)), some (.int (nI b)), some (.int (nI 1))]) f_188_57 (Nat.le_of_ble_eq_true rfl) rfl rfl ?_
        refine e_iload f_188_59 rfl rfl ?_
        refine e_if_le f_188_61 rfl (fun c_61 => ?_) (fun c_61 => ?_)
        · skip
          rw [← nI_0] at c_61
          have c_61 : a ≤ 0 := cv_le (by omega) (by omega) c_61
          show px_to 188 96 [some (.ref (269)), some (.int (nI c)), some (.int (s)), some (.int (x)), some (.int (nI a)), some (.int (nI b)), some (.int (bI true))] [] g _
          refine e_aload_n f_188_96 rfl rfl ?_
          refine e_iload f_188_97 rfl rfl ?_
          refine e_iconst (v := nI 1) f_188_99 (by decide) rfl ?_
          refine e_callV (As := [.int (bI true), .int (nI 1)]) (rest := []) f_188_100 rfl rfl rfl (Nat.le_of_ble_eq_true rfl) (Nat.le_of_ble_eq_true rfl) G0 rfl (Nat.le_of_ble_eq_true rfl) (cc_Md_app1 (b := true) (bt := bits) (p := i) (ga := ga) (gp := gp) (gq := gq) (gh := gh) (gw := gw) (gu := gu) (gv := (oa, ob, bits, nI i, gv.2.2.2.2.1, gv.2.2.2.2.2.1, gv.2.2.2.2.2.2.1, gv.2.2.2.2.2.2.2.1, gv.2.2.2.2.2.2.2.2)) G0 ) rfl (fun h29 r30 q31 => ?_)
          obtain ⟨rfl, g32, fx33⟩ := q31
          have fr34 : px_fi 269 1 h0 h29 := fi_tr frg fx33 (by omega)
          show px_to 188 103 [some (.ref (269)), some (.int (nI c)), some (.int (s)), some (.int (x)), some (.int (nI a)), some (.int (nI b)), some (.int (bI true))] [] h29 _
          refine e_iload f_188_103 rfl rfl ?_
          refine e_if_eq_f f_188_105 (by decide) rfl ?_
          refine e_iload f_188_108 rfl rfl ?_
          refine e_goto f_188_110 ?_
          refine e_istore (L' := [some (.ref (269)), some (.int (nI c)), some (.int (s)), some (.int (x)), some (.int (nI a)), some (.int (nI b)), some (.int (bI true))]) f_188_117 (Nat.le_of_ble_eq_true rfl) rfl rfl ?_
          refine e_iload f_188_119 rfl rfl ?_
          refine e_if_eq_f f_188_121 (by decide) rfl ?_
          refine e_iload f_188_124 rfl rfl ?_
          refine e_iconst (v := nI 1) f_188_126 (by decide) rfl ?_
          refine e_isub (z := nI (b - 1)) f_188_127 (pk_sub (by omega)) rfl ?_
          refine e_goto f_188_128 ?_
          refine e_istore (L' := [some (.ref (269)), some (.int (nI c)), some (.int (s)), some (.int (x)), some (.int (nI a)), some (.int (nI (b - 1))), some (.int (bI true))]) f_188_133 (Nat.le_of_ble_eq_true rfl) rfl rfl ?_
          refine e_goto f_188_135 ?_
          have g35 : h29.2.2 269 = some (12, mB ga gp gq gh gw gu (oa, ob, bits ||| (nI 1 <<< (nI i &&& 31)), nI (i + 1), gv.2.2.2.2.1, gv.2.2.2.2.2.1, gv.2.2.2.2.2.2.1, gv.2.2.2.2.2.2.2.1, gv.2.2.2.2.2.2.2.2)) := by have z := g32; rw [if_pos rfl] at z; exact z
          refine px_to_L (L := [some (.ref (269)), some (.int (nI c)), some (.int (s)), some (.int (x)), some (.int (nI a)), some (.int (nI (b - 1))), none]) ⟨Or.inr rfl, Or.inr rfl, Or.inr rfl, Or.inr rfl, Or.inr rfl, Or.inr rfl, Or.inl rfl, trivial⟩ ?_
          first | (exfalso; omega) | exact ih (d - 1) (by omega) a (b - 1) x (bits ||| (nI 1 <<< (nI i &&& 31))) (i + 1) h29 (by omega) (by omega) (by rw [show al - i = (al - (i + 1)) + 1 by omega, shG, if_pos (by omega), if_pos (by omega)] at q2; exact q2) g35 fr34
        · skip
          rw [← nI_0] at c_61
          have c_61 : 0 < a := cv_nle (by omega) (by omega) c_61
          refine e_iload f_188_64 rfl rfl ?_
          refine e_if_le f_188_66 rfl (fun c_66 => ?_) (fun c_66 => ?_)
          · skip
            rw [← nI_0] at c_66
            have c_66 : b ≤ 0 := cv_le (by omega) (by omega) c_66
            show px_to 188 96 [some (.ref (269)), some (.int (nI c)), some (.int (s)), some (.int (x)), some (.int (nI a)), some (.int (nI b)), some (.int (bI true))] [] g _
            refine e_aload_n f_188_96 rfl rfl ?_
            refine e_iload f_188_97 rfl rfl ?_
            refine e_iconst (v := nI 1) f_188_99 (by decide) rfl ?_
            refine e_callV (As := [.int (bI true), .int (nI 1)]) (rest := []) f_188_100 rfl rfl rfl (Nat.le_of_ble_eq_true rfl) (Nat.le_of_ble_eq_true rfl) G0 rfl (Nat.le_of_ble_eq_true rfl) (cc_Md_app1 (b := true) (bt := bits) (p := i) (ga := ga) (gp := gp) (gq := gq) (gh := gh) (gw := gw) (gu := gu) (gv := (oa, ob, bits, nI i, gv.2.2.2.2.1, gv.2.2.2.2.2.1, gv.2.2.2.2.2.2.1, gv.2.2.2.2.2.2.2.1, gv.2.2.2.2.2.2.2.2)) G0 ) rfl (fun h36 r37 q38 => ?_)
            obtain ⟨rfl, g39, fx40⟩ := q38
            have fr41 : px_fi 269 1 h0 h36 := fi_tr frg fx40 (by omega)
            show px_to 188 103 [some (.ref (269)), some (.int (nI c)), some (.int (s)), some (.int (x)), some (.int (nI a)), some (.int (nI b)), some (.int (bI true))] [] h36 _
            refine e_iload f_188_103 rfl rfl ?_
            refine e_if_eq_f f_188_105 (by decide) rfl ?_
            refine e_iload f_188_108 rfl rfl ?_
            refine e_goto f_188_110 ?_
            refine e_istore (L' := [some (.ref (269)), some (.int (nI c)), some (.int (s)), some (.int (x)), some (.int (nI a)), some (.int (nI b)), some (.int (bI true))]) f_188_117 (Nat.le_of_ble_eq_true rfl) rfl rfl ?_
            refine e_iload f_188_119 rfl rfl ?_
            refine e_if_eq_f f_188_121 (by decide) rfl ?_
            refine e_iload f_188_124 rfl rfl ?_
            refine e_iconst (v := nI 1) f_188_126 (by decide) rfl ?_
            refine e_isub (z := nI (b - 1)) f_188_127 (pk_sub (by omega)) rfl ?_
            refine e_goto f_188_128 ?_
            refine e_istore (L' := [some (.ref (269)), some (.int (nI c)), some (.int (s)), some (.int (x)), some (.int (nI a)), some (.int (nI (b - 1))), some (.int (bI true))]) f_188_133 (Nat.le_of_ble_eq_true rfl) rfl rfl ?_
            refine e_goto f_188_135 ?_
            have g42 : h36.2.2 269 = some (12, mB ga gp gq gh gw gu (oa, ob, bits ||| (nI 1 <<< (nI i &&& 31)), nI (i + 1), gv.2.2.2.2.1, gv.2.2.2.2.2.1, gv.2.2.2.2.2.2.1, gv.2.2.2.2.2.2.2.1, gv.2.2.2.2.2.2.2.2)) := by have z := g39; rw [if_pos rfl] at z; exact z
            refine px_to_L (L := [some (.ref (269)), some (.int (nI c)), some (.int (s)), some (.int (x)), some (.int (nI a)), some (.int (nI (b - 1))), none]) ⟨Or.inr rfl, Or.inr rfl, Or.inr rfl, Or.inr rfl, Or.inr rfl, Or.inr rfl, Or.inl rfl, trivial⟩ ?_
            first | (exfalso; omega) | exact ih (d - 1) (by omega) a (b - 1) x (bits ||| (nI 1 <<< (nI i &&& 31))) (i + 1) h36 (by omega) (by omega) (by rw [show al - i = (al - (i + 1)) + 1 by omega, shG, if_pos (by omega), if_pos (by omega)] at q2; exact q2) g42 fr41
          · skip
            rw [← nI_0] at c_66
            have c_66 : 0 < b := cv_nle (by omega) (by omega) c_66
            refine e_iload_n f_188_69 rfl rfl ?_
            refine e_ldcw f_188_70 rfl ?_
            refine e_imul (z := x * 1103515245) f_188_73 (rfl) rfl ?_
            refine e_sipush (v := nI 12345) f_188_74 (by decide) rfl ?_
            refine e_iadd (z := (x * 1103515245) + (nI 12345)) f_188_77 rfl rfl ?_
            refine e_istore_n (L' := [some (.ref (269)), some (.int (nI c)), some (.int (s)), some (.int ((x * 1103515245) + (nI 12345))), some (.int (nI a)), some (.int (nI b)), some (.int (nI 1))]) f_188_78 (Nat.le_of_ble_eq_true rfl) rfl rfl ?_
            refine e_iload_n f_188_79 rfl rfl ?_
            refine e_bipush (v := nI 16) f_188_80 (by decide) rfl ?_
            refine e_ishr (z := ((x * 1103515245) + (nI 12345)) >>> ((nI 16) &&& 31)) f_188_82 rfl rfl ?_
            refine e_iconst (v := nI 1) f_188_83 (by decide) rfl ?_
            refine e_iand (z := (((x * 1103515245) + (nI 12345)) >>> ((nI 16) &&& 31)) &&& (nI 1)) f_188_84 rfl rfl ?_
            refine e_iconst (v := nI 1) f_188_85 (by decide) rfl ?_
            refine e_icmp_ne f_188_86 rfl (fun c_86 => ?_) (fun c_86 => ?_)
            · skip
              refine e_iconst (v := nI 0) f_188_93 (by decide) rfl ?_
              refine e_istore (L' := [some (.ref (269)), some (.int (nI c)), some (.int (s)), some (.int ((x * 1103515245) + (nI 12345))), some (.int (nI a)), some (.int (nI b)), some (.int (nI 0))]) f_188_94 (Nat.le_of_ble_eq_true rfl) rfl rfl ?_
              have hsb : shB (x * 1103515245 + nI 12345) = false := decide_eq_false c_86
              show px_to 188 96 [some (.ref (269)), some (.int (nI c)), some (.int (s)), some (.int ((x * 1103515245) + (nI 12345))), some (.int (nI a)), some (.int (nI b)), some (.int (bI false))] [] g _
              refine e_aload_n f_188_96 rfl rfl ?_
              refine e_iload f_188_97 rfl rfl ?_
              refine e_iconst (v := nI 1) f_188_99 (by decide) rfl ?_
              refine e_callV (As := [.int (bI false), .int (nI 1)]) (rest := []) f_188_100 rfl rfl rfl (Nat.le_of_ble_eq_true rfl) (Nat.le_of_ble_eq_true rfl) G0 rfl (Nat.le_of_ble_eq_true rfl) (cc_Md_app1 (b := false) (bt := bits) (p := i) (ga := ga) (gp := gp) (gq := gq) (gh := gh) (gw := gw) (gu := gu) (gv := (oa, ob, bits, nI i, gv.2.2.2.2.1, gv.2.2.2.2.2.1, gv.2.2.2.2.2.2.1, gv.2.2.2.2.2.2.2.1, gv.2.2.2.2.2.2.2.2)) G0 ) rfl (fun h43 r44 q45 => ?_)
              obtain ⟨rfl, g46, fx47⟩ := q45
              have fr48 : px_fi 269 1 h0 h43 := fi_tr frg fx47 (by omega)
              show px_to 188 103 [some (.ref (269)), some (.int (nI c)), some (.int (s)), some (.int ((x * 1103515245) + (nI 12345))), some (.int (nI a)), some (.int (nI b)), some (.int (bI false))] [] h43 _
              refine e_iload f_188_103 rfl rfl ?_
              refine e_if_eq_t f_188_105 (by decide) ?_
              refine e_iload f_188_113 rfl rfl ?_
              refine e_iconst (v := nI 1) f_188_115 (by decide) rfl ?_
              refine e_isub (z := nI (a - 1)) f_188_116 (pk_sub (by omega)) rfl ?_
              refine e_istore (L' := [some (.ref (269)), some (.int (nI c)), some (.int (s)), some (.int ((x * 1103515245) + (nI 12345))), some (.int (nI (a - 1))), some (.int (nI b)), some (.int (bI false))]) f_188_117 (Nat.le_of_ble_eq_true rfl) rfl rfl ?_
              refine e_iload f_188_119 rfl rfl ?_
              refine e_if_eq_t f_188_121 (by decide) ?_
              refine e_iload f_188_131 rfl rfl ?_
              refine e_istore (L' := [some (.ref (269)), some (.int (nI c)), some (.int (s)), some (.int ((x * 1103515245) + (nI 12345))), some (.int (nI (a - 1))), some (.int (nI b)), some (.int (bI false))]) f_188_133 (Nat.le_of_ble_eq_true rfl) rfl rfl ?_
              refine e_goto f_188_135 ?_
              have g49 : h43.2.2 269 = some (12, mB ga gp gq gh gw gu (oa, ob, bits, nI (i + 1), gv.2.2.2.2.1, gv.2.2.2.2.2.1, gv.2.2.2.2.2.2.1, gv.2.2.2.2.2.2.2.1, gv.2.2.2.2.2.2.2.2)) := by have z := g46; rw [if_neg (by decide)] at z; exact z
              refine px_to_L (L := [some (.ref (269)), some (.int (nI c)), some (.int (s)), some (.int ((x * 1103515245 + nI 12345))), some (.int (nI (a - 1))), some (.int (nI b)), none]) ⟨Or.inr rfl, Or.inr rfl, Or.inr rfl, Or.inr rfl, Or.inr rfl, Or.inr rfl, Or.inl rfl, trivial⟩ ?_
              first | (exfalso; omega) | exact ih (d - 1) (by omega) (a - 1) b (x * 1103515245 + nI 12345) bits (i + 1) h43 (by omega) (by omega) (by rw [show al - i = (al - (i + 1)) + 1 by omega, shG, if_neg (by omega), if_neg (by rw [hsb]; decide)] at q2; exact q2) g49 fr48
            · skip
              refine e_iconst (v := nI 1) f_188_89 (by decide) rfl ?_
              refine e_goto f_188_90 ?_
              refine e_istore (L' := [some (.ref (269)), some (.int (nI c)), some (.int (s)), some (.int ((x * 1103515245) + (nI 12345))), some (.int (nI a)), some (.int (nI b)), some (.int (nI 1))]) f_188_94 (Nat.le_of_ble_eq_true rfl) rfl rfl ?_
              have hsb : shB (x * 1103515245 + nI 12345) = true := decide_eq_true (Classical.not_not.mp c_86)
              show px_to 188 96 [some (.ref (269)), some (.int (nI c)), some (.int (s)), some (.int ((x * 1103515245) + (nI 12345))), some (.int (nI a)), some (.int (nI b)), some (.int (bI true))] [] g _
              refine e_aload_n f_188_96 rfl rfl ?_
              refine e_iload f_188_97 rfl rfl ?_
              refine e_iconst (v := nI 1) f_188_99 (by decide) rfl ?_
              refine e_callV (As := [.int (bI true), .int (nI 1)]) (rest := []) f_188_100 rfl rfl rfl (Nat.le_of_ble_eq_true rfl) (Nat.le_of_ble_eq_true rfl) G0 rfl (Nat.le_of_ble_eq_true rfl) (cc_Md_app1 (b := true) (bt := bits) (p := i) (ga := ga) (gp := gp) (gq := gq) (gh := gh) (gw := gw) (gu := gu) (gv := (oa, ob, bits, nI i, gv.2.2.2.2.1, gv.2.2.2.2.2.1, gv.2.2.2.2.2.2.1, gv.2.2.2.2.2.2.2.1, gv.2.2.2.2.2.2.2.2)) G0 ) rfl (fun h50 r51 q52 => ?_)
              obtain ⟨rfl, g53, fx54⟩ := q52
              have fr55 : px_fi 269 1 h0 h50 := fi_tr frg fx54 (by omega)
              show px_to 188 103 [some (.ref (269)), some (.int (nI c)), some (.int (s)), some (.int ((x * 1103515245) + (nI 12345))), some (.int (nI a)), some (.int (nI b)), some (.int (bI true))] [] h50 _
              refine e_iload f_188_103 rfl rfl ?_
              refine e_if_eq_f f_188_105 (by decide) rfl ?_
              refine e_iload f_188_108 rfl rfl ?_
              refine e_goto f_188_110 ?_
              refine e_istore (L' := [some (.ref (269)), some (.int (nI c)), some (.int (s)), some (.int ((x * 1103515245) + (nI 12345))), some (.int (nI a)), some (.int (nI b)), some (.int (bI true))]) f_188_117 (Nat.le_of_ble_eq_true rfl) rfl rfl ?_
              refine e_iload f_188_119 rfl rfl ?_
              refine e_if_eq_f f_188_121 (by decide) rfl ?_
              refine e_iload f_188_124 rfl rfl ?_
              refine e_iconst (v := nI 1) f_188_126 (by decide) rfl ?_
              refine e_isub (z := nI (b - 1)) f_188_127 (pk_sub (by omega)) rfl ?_
              refine e_goto f_188_128 ?_
              refine e_istore (L' := [some (.ref (269)), some (.int (nI c)), some (.int (s)), some (.int ((x * 1103515245) + (nI 12345))), some (.int (nI a)), some (.int (nI (b - 1))), some (.int (bI true))]) f_188_133 (Nat.le_of_ble_eq_true rfl) rfl rfl ?_
              refine e_goto f_188_135 ?_
              have g56 : h50.2.2 269 = some (12, mB ga gp gq gh gw gu (oa, ob, bits ||| (nI 1 <<< (nI i &&& 31)), nI (i + 1), gv.2.2.2.2.1, gv.2.2.2.2.2.1, gv.2.2.2.2.2.2.1, gv.2.2.2.2.2.2.2.1, gv.2.2.2.2.2.2.2.2)) := by have z := g53; rw [if_pos rfl] at z; exact z
              refine px_to_L (L := [some (.ref (269)), some (.int (nI c)), some (.int (s)), some (.int ((x * 1103515245 + nI 12345))), some (.int (nI a)), some (.int (nI (b - 1))), none]) ⟨Or.inr rfl, Or.inr rfl, Or.inr rfl, Or.inr rfl, Or.inr rfl, Or.inr rfl, Or.inl rfl, trivial⟩ ?_
              first | (exfalso; omega) | exact ih (d - 1) (by omega) a (b - 1) (x * 1103515245 + nI 12345) (bits ||| (nI 1 <<< (nI i &&& 31))) (i + 1) h50 (by omega) (by omega) (by rw [show al - i = (al - (i + 1)) + 1 by omega, shG, if_neg (by omega), if_pos hsb] at q2; exact q2) g56 fr55

set_option maxRecDepth 20000 in
set_option maxHeartbeats 4000000 in
theorem cc_MD_shuf {h : px_H} {tx : List Nat} {j : List St} {xs : List CS3} {c : Int32} {s : Int32} (H0 : pMD h tx j xs)  : px_wp 188 [.ref (269), .int (c), .int (s)] h (fun h1 r => r = some (.int (aShuf xs c s)) ∧ pMD h1 tx j xs ∧ px_fi 269 35 h h1) := by
  have fr0 : px_fi 269 35 h h := fi_rf _ _ _
  show px_to 188 0 [some (.ref (269)), some (.int (c)), some (.int (s)), none, none, none, none] [] h _
  obtain ⟨gp, gq, gh, gw, gu, gv, jn, sl, sl2, lh, lg, lo, lt, cv, pl, ke, g1, g2, g3, g4, g5, g6, g7, g8, g9, g10, g11, g12, g13, g14, g15, g16, g17, g18, g19, g20, g21, g22, g23, g24, g25, g26, ok⟩ := id H0
  have h8 : xs.length ≤ 8 := ok.2.2.1.1
  have hj6 : j.length ≤ 6 := ok.2.1.1.1
  have htl : tx.length ≤ 500 := pa_len g2
  refine e_aload_n f_188_0 rfl rfl ?_
  refine e_iload_n f_188_1 rfl rfl ?_
  refine e_callV (As := [.int (c)]) (rest := []) f_188_2 rfl rfl rfl (Nat.le_of_ble_eq_true rfl) (Nat.le_of_ble_eq_true rfl) g1 rfl (Nat.le_of_ble_eq_true rfl) (cc_Md_isCase (c := c) (L := nI tx.length) (sn := nI j.length) (xs := xs) (gp := gp) (gq := gq) (gh := gh) (gw := gw) (gu := gu) (gv := gv) g1 (by omega)) rfl (fun h27 r28 q29 => ?_)
  obtain ⟨rfl, qe⟩ := q29
  have qe := qe.symm
  subst qe
  show px_to 188 5 [some (.ref (269)), some (.int (c)), some (.int (s)), none, none, none, none] [.int (bI (hasC c xs.length))] h _
  refine e_if_ne f_188_5 rfl (fun c_5 => ?_) (fun c_5 => ?_)
  · skip
    have c_5 : (hasC c xs.length) = true := bI_t c_5
    obtain ⟨k, hk, hkc⟩ := hasC_t (by omega) c_5
    subst hkc
    have hcx : okC3 (xs.getD k c30) := ok.2.2.1.2 _ (getD_mem _ hk)
    obtain ⟨em30, es31, om32, ro33, wn34, g35, g36, g37, g38, g39, g40, g41, g42, g43, g44, hA45⟩ := id g6
    obtain ⟨hA1, hA2, hA3, hA4, hA5⟩ := hA45.2 k hk
    have hAl := hA45.1
    have hel := hcx.1
    have hoe : ∀ e ∈ (xs.getD k c30).1, e.1 < 65536 := fun e he => by have := (hcx.2.1 e he).1; omega
    refine e_aload_n f_188_10 rfl rfl ?_
    refine e_iload_n f_188_11 rfl rfl ?_
    refine e_callV (As := [.int (nI k)]) (rest := []) f_188_12 rfl rfl rfl (Nat.le_of_ble_eq_true rfl) (Nat.le_of_ble_eq_true rfl) g1 rfl (Nat.le_of_ble_eq_true rfl) (cc_Md_inp (c := k) (ev := (xs.getD k c30).1) (em := em30) (es := es31) (ga := (nI tx.length, nI j.length, nI xs.length)) (gp := gp) (gq := gq) (gh := gh) (gw := gw) (gu := gu) (gv := gv) g1 g35 g36 (by omega) (⟨hAl.1, hAl.2.1⟩) (hA1) (hA2) (hcx.1) (hoe)) rfl (fun h46 r47 q48 => ?_)
    obtain ⟨rfl, g49, fx50⟩ := q48
    have fr51 : px_fi 269 35 h h46 := fi_tr fr0 fx50 (by omega)
    show px_to 188 15 [some (.ref (269)), some (.int (nI k)), some (.int (s)), none, none, none, none] [] h46 _
    refine e_iload_n f_188_15 rfl rfl ?_
    refine e_istore_n (L' := [some (.ref (269)), some (.int (nI k)), some (.int (s)), some (.int (s)), none, none, none]) f_188_16 (Nat.le_of_ble_eq_true rfl) rfl rfl ?_
    refine e_aload_n f_188_17 rfl rfl ?_
    refine e_iconst (v := nI 0) f_188_18 (by decide) rfl ?_
    refine e_putp (vs' := mB (nI tx.length, nI j.length, nI xs.length) gp gq gh gw gu (nI (evCnt false ((xs.getD k c30).1)), nI (evCnt true ((xs.getD k c30).1)), nI 0, gv.2.2.2.1, gv.2.2.2.2.1, gv.2.2.2.2.2.1, gv.2.2.2.2.2.2.1, gv.2.2.2.2.2.2.2.1, gv.2.2.2.2.2.2.2.2)) f_188_19 g49 (Nat.le_of_ble_eq_true rfl) (rfl) (rfl) rfl rfl (fun h52 g53 fx54 => ?_)
    have fr55 : px_fi 269 35 h h52 := fi_tr fr51 fx54 (by omega)
    refine e_aload_n f_188_22 rfl rfl ?_
    refine e_iconst (v := nI 0) f_188_23 (by decide) rfl ?_
    refine e_putp (vs' := mB (nI tx.length, nI j.length, nI xs.length) gp gq gh gw gu (nI (evCnt false ((xs.getD k c30).1)), nI (evCnt true ((xs.getD k c30).1)), nI 0, nI 0, gv.2.2.2.2.1, gv.2.2.2.2.2.1, gv.2.2.2.2.2.2.1, gv.2.2.2.2.2.2.2.1, gv.2.2.2.2.2.2.2.2)) f_188_24 g53 (Nat.le_of_ble_eq_true rfl) (rfl) (rfl) rfl rfl (fun h56 g57 fx58 => ?_)
    have fr59 : px_fi 269 35 h h56 := fi_tr fr55 fx58 (by omega)
    refine e_aload_n f_188_27 rfl rfl ?_
    refine e_getf f_188_28 g57 rfl rfl ?_
    show px_to 188 31 [some (.ref (269)), some (.int (nI k)), some (.int (s)), some (.int (s)), none, none, none] [.int (nI (evCnt false ((xs.getD k c30).1)))] h56 _
    refine e_istore (L' := [some (.ref (269)), some (.int (nI k)), some (.int (s)), some (.int (s)), some (.int (nI (evCnt false ((xs.getD k c30).1)))), none, none]) f_188_31 (Nat.le_of_ble_eq_true rfl) rfl rfl ?_
    refine e_aload_n f_188_33 rfl rfl ?_
    refine e_getf f_188_34 g57 rfl rfl ?_
    show px_to 188 37 [some (.ref (269)), some (.int (nI k)), some (.int (s)), some (.int (s)), some (.int (nI (evCnt false ((xs.getD k c30).1)))), none, none] [.int (nI (evCnt true ((xs.getD k c30).1)))] h56 _
    refine e_istore (L' := [some (.ref (269)), some (.int (nI k)), some (.int (s)), some (.int (s)), some (.int (nI (evCnt false ((xs.getD k c30).1)))), some (.int (nI (evCnt true ((xs.getD k c30).1)))), none]) f_188_37 (Nat.le_of_ble_eq_true rfl) rfl rfl ?_
    have hab : nAB (xs.getD k c30).1 ≤ 24 := Nat.le_trans (evCnt_sum _) hcx.1
    refine ll_MD_shuf (h0 := h56) (y := aShuf xs (nI k) s) (al := nAB (xs.getD k c30).1) hab (fun g1 i1 z0 zf => ?_) (nAB (xs.getD k c30).1) _ _ _ _ 0 h56 (by omega) rfl (by unfold aShuf; rw [onC_k h8 hk]; rfl) g57 (fi_rf _ _ _)
    have fr60 : px_fi 269 35 h g1 := fi_tr fr59 zf (by omega)
    have g61 : px_pa h46 274 50 8 vN em30 := pa_fi g35 fx50 (by omega)
    have g62 : px_pa h52 274 50 8 vN em30 := pa_fi g61 fx54 (by omega)
    have g63 : px_pa h56 274 50 8 vN em30 := pa_fi g62 fx58 (by omega)
    have g64 : px_pa g1 274 50 8 vN em30 := pa_fi g63 zf (by omega)
    have g65 : px_pa h46 275 52 192 evS es31 := pa_fi g36 fx50 (by omega)
    have g66 : px_pa h52 275 52 192 evS es31 := pa_fi g65 fx54 (by omega)
    have g67 : px_pa h56 275 52 192 evS es31 := pa_fi g66 fx58 (by omega)
    have g68 : px_pa g1 275 52 192 evS es31 := pa_fi g67 zf (by omega)
    have g69 : px_pa h46 276 54 192 evK es31 := pa_fi g37 fx50 (by omega)
    have g70 : px_pa h52 276 54 192 evK es31 := pa_fi g69 fx54 (by omega)
    have g71 : px_pa h56 276 54 192 evK es31 := pa_fi g70 fx58 (by omega)
    have g72 : px_pa g1 276 54 192 evK es31 := pa_fi g71 zf (by omega)
    have g73 : px_pa h46 277 53 192 evV es31 := pa_fi g38 fx50 (by omega)
    have g74 : px_pa h52 277 53 192 evV es31 := pa_fi g73 fx54 (by omega)
    have g75 : px_pa h56 277 53 192 evV es31 := pa_fi g74 fx58 (by omega)
    have g76 : px_pa g1 277 53 192 evV es31 := pa_fi g75 zf (by omega)
    have g77 : px_pa h46 278 53 192 evT es31 := pa_fi g39 fx50 (by omega)
    have g78 : px_pa h52 278 53 192 evT es31 := pa_fi g77 fx54 (by omega)
    have g79 : px_pa h56 278 53 192 evT es31 := pa_fi g78 fx58 (by omega)
    have g80 : px_pa g1 278 53 192 evT es31 := pa_fi g79 zf (by omega)
    have g81 : px_pa h46 279 50 8 vN om32 := pa_fi g40 fx50 (by omega)
    have g82 : px_pa h52 279 50 8 vN om32 := pa_fi g81 fx54 (by omega)
    have g83 : px_pa h56 279 50 8 vN om32 := pa_fi g82 fx58 (by omega)
    have g84 : px_pa g1 279 50 8 vN om32 := pa_fi g83 zf (by omega)
    have g85 : px_pa h46 280 54 128 rK ro33 := pa_fi g41 fx50 (by omega)
    have g86 : px_pa h52 280 54 128 rK ro33 := pa_fi g85 fx54 (by omega)
    have g87 : px_pa h56 280 54 128 rK ro33 := pa_fi g86 fx58 (by omega)
    have g88 : px_pa g1 280 54 128 rK ro33 := pa_fi g87 zf (by omega)
    have g89 : px_pa h46 281 53 128 rV ro33 := pa_fi g42 fx50 (by omega)
    have g90 : px_pa h52 281 53 128 rV ro33 := pa_fi g89 fx54 (by omega)
    have g91 : px_pa h56 281 53 128 rV ro33 := pa_fi g90 fx58 (by omega)
    have g92 : px_pa g1 281 53 128 rV ro33 := pa_fi g91 zf (by omega)
    have g93 : px_pa h46 282 53 128 rT ro33 := pa_fi g43 fx50 (by omega)
    have g94 : px_pa h52 282 53 128 rT ro33 := pa_fi g93 fx54 (by omega)
    have g95 : px_pa h56 282 53 128 rT ro33 := pa_fi g94 fx58 (by omega)
    have g96 : px_pa g1 282 53 128 rT ro33 := pa_fi g95 zf (by omega)
    have g97 : px_pa h46 283 52 8 vN wn34 := pa_fi g44 fx50 (by omega)
    have g98 : px_pa h52 283 52 8 vN wn34 := pa_fi g97 fx54 (by omega)
    have g99 : px_pa h56 283 52 8 vN wn34 := pa_fi g98 fx58 (by omega)
    have g100 : px_pa g1 283 52 8 vN wn34 := pa_fi g99 zf (by omega)
    have g101 : pMA g1 xs := ⟨_, _, _, _, _, g64, g68, g72, g76, g80, g84, g88, g92, g96, g100, hA45⟩
    have g102 : px_pa h46 270 52 500 vN tx := pa_fi g2 fx50 (by omega)
    have g103 : px_pa h52 270 52 500 vN tx := pa_fi g102 fx54 (by omega)
    have g104 : px_pa h56 270 52 500 vN tx := pa_fi g103 fx58 (by omega)
    have g105 : px_pa g1 270 52 500 vN tx := pa_fi g104 zf (by omega)
    have g106 : px_pa h46 271 52 6 stS j := pa_fi g3 fx50 (by omega)
    have g107 : px_pa h52 271 52 6 stS j := pa_fi g106 fx54 (by omega)
    have g108 : px_pa h56 271 52 6 stS j := pa_fi g107 fx58 (by omega)
    have g109 : px_pa g1 271 52 6 stS j := pa_fi g108 zf (by omega)
    have g110 : px_pa h46 272 52 6 stA j := pa_fi g4 fx50 (by omega)
    have g111 : px_pa h52 272 52 6 stA j := pa_fi g110 fx54 (by omega)
    have g112 : px_pa h56 272 52 6 stA j := pa_fi g111 fx58 (by omega)
    have g113 : px_pa g1 272 52 6 stA j := pa_fi g112 zf (by omega)
    have g114 : px_pa h46 273 50 6 stN j := pa_fi g5 fx50 (by omega)
    have g115 : px_pa h52 273 50 6 stN j := pa_fi g114 fx54 (by omega)
    have g116 : px_pa h56 273 50 6 stN j := pa_fi g115 fx58 (by omega)
    have g117 : px_pa g1 273 50 6 stN j := pa_fi g116 zf (by omega)
    have g118 : px_pa h46 284 52 6 stS jn := pa_fi g7 fx50 (by omega)
    have g119 : px_pa h52 284 52 6 stS jn := pa_fi g118 fx54 (by omega)
    have g120 : px_pa h56 284 52 6 stS jn := pa_fi g119 fx58 (by omega)
    have g121 : px_pa g1 284 52 6 stS jn := pa_fi g120 zf (by omega)
    have g122 : px_pa h46 285 52 6 stA jn := pa_fi g8 fx50 (by omega)
    have g123 : px_pa h52 285 52 6 stA jn := pa_fi g122 fx54 (by omega)
    have g124 : px_pa h56 285 52 6 stA jn := pa_fi g123 fx58 (by omega)
    have g125 : px_pa g1 285 52 6 stA jn := pa_fi g124 zf (by omega)
    have g126 : px_pa h46 286 50 6 stN jn := pa_fi g9 fx50 (by omega)
    have g127 : px_pa h52 286 50 6 stN jn := pa_fi g126 fx54 (by omega)
    have g128 : px_pa h56 286 50 6 stN jn := pa_fi g127 fx58 (by omega)
    have g129 : px_pa g1 286 50 6 stN jn := pa_fi g128 zf (by omega)
    have g130 : px_pa h46 287 50 3070 Value.int sl := pa_fi g10 fx50 (by omega)
    have g131 : px_pa h52 287 50 3070 Value.int sl := pa_fi g130 fx54 (by omega)
    have g132 : px_pa h56 287 50 3070 Value.int sl := pa_fi g131 fx58 (by omega)
    have g133 : px_pa g1 287 50 3070 Value.int sl := pa_fi g132 zf (by omega)
    have g134 : px_pa h46 288 50 3070 Value.int sl2 := pa_fi g11 fx50 (by omega)
    have g135 : px_pa h52 288 50 3070 Value.int sl2 := pa_fi g134 fx54 (by omega)
    have g136 : px_pa h56 288 50 3070 Value.int sl2 := pa_fi g135 fx58 (by omega)
    have g137 : px_pa g1 288 50 3070 Value.int sl2 := pa_fi g136 zf (by omega)
    have g138 : px_pa h46 289 54 100 rK lh := pa_fi g12 fx50 (by omega)
    have g139 : px_pa h52 289 54 100 rK lh := pa_fi g138 fx54 (by omega)
    have g140 : px_pa h56 289 54 100 rK lh := pa_fi g139 fx58 (by omega)
    have g141 : px_pa g1 289 54 100 rK lh := pa_fi g140 zf (by omega)
    have g142 : px_pa h46 290 50 100 rV lh := pa_fi g13 fx50 (by omega)
    have g143 : px_pa h52 290 50 100 rV lh := pa_fi g142 fx54 (by omega)
    have g144 : px_pa h56 290 50 100 rV lh := pa_fi g143 fx58 (by omega)
    have g145 : px_pa g1 290 50 100 rV lh := pa_fi g144 zf (by omega)
    have g146 : px_pa h46 291 50 100 rT lh := pa_fi g14 fx50 (by omega)
    have g147 : px_pa h52 291 50 100 rT lh := pa_fi g146 fx54 (by omega)
    have g148 : px_pa h56 291 50 100 rT lh := pa_fi g147 fx58 (by omega)
    have g149 : px_pa g1 291 50 100 rT lh := pa_fi g148 zf (by omega)
    have g150 : px_pa h46 292 54 100 rK lg := pa_fi g15 fx50 (by omega)
    have g151 : px_pa h52 292 54 100 rK lg := pa_fi g150 fx54 (by omega)
    have g152 : px_pa h56 292 54 100 rK lg := pa_fi g151 fx58 (by omega)
    have g153 : px_pa g1 292 54 100 rK lg := pa_fi g152 zf (by omega)
    have g154 : px_pa h46 293 50 100 rV lg := pa_fi g16 fx50 (by omega)
    have g155 : px_pa h52 293 50 100 rV lg := pa_fi g154 fx54 (by omega)
    have g156 : px_pa h56 293 50 100 rV lg := pa_fi g155 fx58 (by omega)
    have g157 : px_pa g1 293 50 100 rV lg := pa_fi g156 zf (by omega)
    have g158 : px_pa h46 294 50 100 rT lg := pa_fi g17 fx50 (by omega)
    have g159 : px_pa h52 294 50 100 rT lg := pa_fi g158 fx54 (by omega)
    have g160 : px_pa h56 294 50 100 rT lg := pa_fi g159 fx58 (by omega)
    have g161 : px_pa g1 294 50 100 rT lg := pa_fi g160 zf (by omega)
    have g162 : px_pa h46 295 50 30 Value.int cv := pa_fi g18 fx50 (by omega)
    have g163 : px_pa h52 295 50 30 Value.int cv := pa_fi g162 fx54 (by omega)
    have g164 : px_pa h56 295 50 30 Value.int cv := pa_fi g163 fx58 (by omega)
    have g165 : px_pa g1 295 50 30 Value.int cv := pa_fi g164 zf (by omega)
    have g166 : px_pa h46 296 50 24 vN pl := pa_fi g19 fx50 (by omega)
    have g167 : px_pa h52 296 50 24 vN pl := pa_fi g166 fx54 (by omega)
    have g168 : px_pa h56 296 50 24 vN pl := pa_fi g167 fx58 (by omega)
    have g169 : px_pa g1 296 50 24 vN pl := pa_fi g168 zf (by omega)
    have g170 : px_pa h46 297 54 100 rK lo := pa_fi g20 fx50 (by omega)
    have g171 : px_pa h52 297 54 100 rK lo := pa_fi g170 fx54 (by omega)
    have g172 : px_pa h56 297 54 100 rK lo := pa_fi g171 fx58 (by omega)
    have g173 : px_pa g1 297 54 100 rK lo := pa_fi g172 zf (by omega)
    have g174 : px_pa h46 298 50 100 rV lo := pa_fi g21 fx50 (by omega)
    have g175 : px_pa h52 298 50 100 rV lo := pa_fi g174 fx54 (by omega)
    have g176 : px_pa h56 298 50 100 rV lo := pa_fi g175 fx58 (by omega)
    have g177 : px_pa g1 298 50 100 rV lo := pa_fi g176 zf (by omega)
    have g178 : px_pa h46 299 50 100 rT lo := pa_fi g22 fx50 (by omega)
    have g179 : px_pa h52 299 50 100 rT lo := pa_fi g178 fx54 (by omega)
    have g180 : px_pa h56 299 50 100 rT lo := pa_fi g179 fx58 (by omega)
    have g181 : px_pa g1 299 50 100 rT lo := pa_fi g180 zf (by omega)
    have g182 : px_pa h46 300 54 100 rK lt := pa_fi g23 fx50 (by omega)
    have g183 : px_pa h52 300 54 100 rK lt := pa_fi g182 fx54 (by omega)
    have g184 : px_pa h56 300 54 100 rK lt := pa_fi g183 fx58 (by omega)
    have g185 : px_pa g1 300 54 100 rK lt := pa_fi g184 zf (by omega)
    have g186 : px_pa h46 301 50 100 rV lt := pa_fi g24 fx50 (by omega)
    have g187 : px_pa h52 301 50 100 rV lt := pa_fi g186 fx54 (by omega)
    have g188 : px_pa h56 301 50 100 rV lt := pa_fi g187 fx58 (by omega)
    have g189 : px_pa g1 301 50 100 rV lt := pa_fi g188 zf (by omega)
    have g190 : px_pa h46 302 50 100 rT lt := pa_fi g25 fx50 (by omega)
    have g191 : px_pa h52 302 50 100 rT lt := pa_fi g190 fx54 (by omega)
    have g192 : px_pa h56 302 50 100 rT lt := pa_fi g191 fx58 (by omega)
    have g193 : px_pa g1 302 50 100 rT lt := pa_fi g192 zf (by omega)
    have g194 : px_pa h46 303 50 24 vN ke := pa_fi g26 fx50 (by omega)
    have g195 : px_pa h52 303 50 24 vN ke := pa_fi g194 fx54 (by omega)
    have g196 : px_pa h56 303 50 24 vN ke := pa_fi g195 fx58 (by omega)
    have g197 : px_pa g1 303 50 24 vN ke := pa_fi g196 zf (by omega)
    have g198 : pMD g1 tx j xs := ⟨gp, gq, gh, gw, gu, (nI (evCnt false (xs.getD k c30).1), nI (evCnt true (xs.getD k c30).1), aShuf xs (nI k) s, nI i1, gv.2.2.2.2.1, gv.2.2.2.2.2.1, gv.2.2.2.2.2.2.1, gv.2.2.2.2.2.2.2.1, gv.2.2.2.2.2.2.2.2), jn, sl, sl2, lh, lg, lo, lt, cv, pl, ke, z0, g105, g109, g113, g117, g101, g121, g125, g129, g133, g137, g141, g145, g149, g153, g157, g161, g165, g169, g173, g177, g181, g185, g189, g193, g197, ok⟩
    exact ⟨congrArg (fun z => some (Value.int z)) (show aShuf xs (nI k) s = _ from rfl), g198, fr60⟩
  · skip
    have c_5 : (hasC c xs.length) = false := bI_f' c_5
    refine e_iconst (v := (-1)) f_188_8 (by decide) rfl ?_
    refine e_iret f_188_9 rfl (rfl) ?_
    have g199 : pMD h tx j xs := ⟨gp, gq, gh, gw, gu, gv, jn, sl, sl2, lh, lg, lo, lt, cv, pl, ke, g1, g2, g3, g4, g5, g6, g7, g8, g9, g10, g11, g12, g13, g14, g15, g16, g17, g18, g19, g20, g21, g22, g23, g24, g25, g26, ok⟩
    exact ⟨congrArg (fun z => some (Value.int z)) (show (-1) = _ from (onC_no c_5).symm), g199, fr0⟩
