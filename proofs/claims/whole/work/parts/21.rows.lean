def rw_pk (k v t : Int32) : Int64 := ((k).toInt64 <<< ((nI 45).toInt64 &&& 63) ||| (v.toInt64 - (-2147483648)) <<< ((nI 13).toInt64 &&& 63)) ||| t.toInt64

set_option maxRecDepth 20000 in
set_option maxHeartbeats 4000000 in
theorem c_Rows_add {h : px_H} {a n : Nat} {k v t : Int32} {xs : List Int64} (ha : h.2.2 a = some (5, [.ref (a + 1), .int (nI n)])) (hp : h.2.2 (a + 1) = some (51, xs.map Value.long)) (hx : xs.length < 2 ^ 31) (hn : n ≤ xs.length) (h17 : 17 ≤ a) : px_wp 39 [.ref a, .int k, .int v, .int t] h (fun h1 r => r = none ∧ h1.2.2 a = some (5, [.ref (a + 1), .int (nI (if n < xs.length then n + 1 else n))]) ∧ h1.2.2 (a + 1) = some (51, (if n < xs.length then xs.set n (rw_pk k v t) else xs).map Value.long) ∧ px_fr (fun q => a ≤ q ∧ q < a + 2) h h1) := by
  have fr0 : px_fr (fun q => a ≤ q ∧ q < a + 2) h h := px_fr_rf _ _
  show px_to 39 0 [some (.ref (a)), some (.int (k)), some (.int (v)), some (.int (t)), none, none] [] h _
  refine e_aload_n f_39_0 rfl rfl ?_
  refine e_getf f_39_1 ha rfl rfl ?_
  refine e_aload_n f_39_4 rfl rfl ?_
  refine e_getf f_39_5 ha rfl rfl ?_
  refine e_alen (n := nI ((xs).length)) f_39_8 hp (by decide) (px_lenM _ _) rfl ?_
  refine e_icmp_ge f_39_9 rfl (fun c_9 => ?_) (fun c_9 => ?_)
  · skip
    have c_9 : (xs).length ≤ n := cv_le (by omega) (by omega) c_9
    refine e_vret f_39_53 rfl ?_
    exact ⟨rfl, by first | (rw [if_pos (by omega)]; exact ha) | (rw [if_neg (by omega)]; exact ha), by first | (rw [if_pos (by omega)]; exact hp) | (rw [if_neg (by omega)]; exact hp), fr0⟩
  · skip
    have c_9 : n < (xs).length := cv_nle (by omega) (by omega) c_9
    refine e_iload_n f_39_12 rfl rfl ?_
    refine e_i2l (z := (v).toInt64) f_39_13 rfl rfl ?_
    refine e_ldc2 f_39_14 rfl ?_
    refine e_lsub (z := ((v).toInt64) - ((-2147483648))) f_39_17 rfl rfl ?_
    refine e_lstore (L' := [some (.ref (a)), some (.int (k)), some (.int (v)), some (.int (t)), some (.long (((v).toInt64) - ((-2147483648)))), none]) f_39_18 (Nat.le_of_ble_eq_true rfl) rfl rfl ?_
    refine e_aload_n f_39_20 rfl rfl ?_
    refine e_getf f_39_21 ha rfl rfl ?_
    refine e_aload_n f_39_24 rfl rfl ?_
    refine e_getf f_39_25 ha rfl rfl ?_
    refine e_iload_n f_39_28 rfl rfl ?_
    refine e_i2l (z := (k).toInt64) f_39_29 rfl rfl ?_
    refine e_bipush (v := nI 45) f_39_30 (by decide) rfl ?_
    refine e_lshl (z := ((k).toInt64) <<< ((nI 45).toInt64 &&& 63)) f_39_32 rfl rfl ?_
    refine e_lload f_39_33 rfl rfl ?_
    refine e_bipush (v := nI 13) f_39_35 (by decide) rfl ?_
    refine e_lshl (z := (((v).toInt64) - ((-2147483648))) <<< ((nI 13).toInt64 &&& 63)) f_39_37 rfl rfl ?_
    refine e_lor (z := (((k).toInt64) <<< ((nI 45).toInt64 &&& 63)) ||| ((((v).toInt64) - ((-2147483648))) <<< ((nI 13).toInt64 &&& 63))) f_39_38 rfl rfl ?_
    refine e_iload_n f_39_39 rfl rfl ?_
    refine e_i2l (z := (t).toInt64) f_39_40 rfl rfl ?_
    refine e_lor (z := ((((k).toInt64) <<< ((nI 45).toInt64 &&& 63)) ||| ((((v).toInt64) - ((-2147483648))) <<< ((nI 13).toInt64 &&& 63))) ||| ((t).toInt64)) f_39_41 rfl rfl ?_
    refine e_lastore (vs' := ((xs).set (n) (((((k).toInt64) <<< ((nI 45).toInt64 &&& 63)) ||| ((((v).toInt64) - ((-2147483648))) <<< ((nI 13).toInt64 &&& 63))) ||| ((t).toInt64))).map Value.long) f_39_42 hp (by omega) (nI_pos (by omega)) (px_ixM _ (by omega) (by omega)) (px_setM _ _ (by omega) _) rfl (fun h1 e2 => ?_)
    have g3 : h1.2.2 (a) = some (5, [.ref (a + 1), .int (nI n)]) := by rw [e2]; exact (px_set_ne (by omega)).trans ha
    have g4 : h1.2.2 (a + 1) = some (51, ((xs).set (n) (((((k).toInt64) <<< ((nI 45).toInt64 &&& 63)) ||| ((((v).toInt64) - ((-2147483648))) <<< ((nI 13).toInt64 &&& 63))) ||| ((t).toInt64))).map Value.long) := by rw [e2]; exact px_set_at _ _ _
    have fr5 : px_fr (fun q => a ≤ q ∧ q < a + 2) h h1 := by rw [e2]; exact px_fr_set (by dsimp only; omega) fr0
    refine e_aload_n f_39_43 rfl rfl ?_
    refine e_dup f_39_44 rfl rfl ?_
    refine e_getf f_39_45 g3 rfl rfl ?_
    refine e_iconst (v := nI 1) f_39_48 (by decide) rfl ?_
    refine e_iadd (z := nI (n + 1)) f_39_49 (nI_add _ _) rfl ?_
    refine e_putf (vs' := [.ref (a + 1), .int (nI (n + 1))]) f_39_50 g3 (Nat.le_of_ble_eq_true rfl) (rfl) (rfl) rfl rfl (fun h6 e7 => ?_)
    have g8 : h6.2.2 (a) = some (5, [.ref (a + 1), .int (nI (n + 1))]) := by rw [e7]; exact px_set_at _ _ _
    have g9 : h6.2.2 (a + 1) = some (51, ((xs).set (n) (((((k).toInt64) <<< ((nI 45).toInt64 &&& 63)) ||| ((((v).toInt64) - ((-2147483648))) <<< ((nI 13).toInt64 &&& 63))) ||| ((t).toInt64))).map Value.long) := by rw [e7]; exact (px_set_ne (by omega)).trans g4
    have fr10 : px_fr (fun q => a ≤ q ∧ q < a + 2) h h6 := by rw [e7]; exact px_fr_set (by dsimp only; omega) fr5
    refine e_vret f_39_53 rfl ?_
    exact ⟨rfl, by first | (rw [if_pos (by omega)]; exact g8) | (rw [if_neg (by omega)]; exact g8), by first | (rw [if_pos (by omega)]; exact g9) | (rw [if_neg (by omega)]; exact g9), fr10⟩

set_option maxRecDepth 20000 in
set_option maxHeartbeats 4000000 in
theorem c_Rows_keyAt {h : px_H} {a n i : Nat} {xs : List Int64} (ha : h.2.2 a = some (5, [.ref (a + 1), .int (nI n)])) (hp : h.2.2 (a + 1) = some (51, xs.map Value.long)) (hx : xs.length < 2 ^ 31) (hn : n ≤ xs.length) (hi : i < n) : px_wp 41 [.ref a, .int (nI i)] h (fun h1 r => r = some (.int (((xs.getD i 0) >>> ((nI 45).toInt64 &&& 63)).toInt32)) ∧ h1 = h) := by
  show px_to 41 0 [some (.ref (a)), some (.int (nI i))] [] h _
  refine e_iload_n f_41_0 rfl rfl ?_
  refine e_if_lt_f f_41_1 (nI_pos (by omega)) rfl ?_
  refine e_iload_n f_41_4 rfl rfl ?_
  refine e_aload_n f_41_5 rfl rfl ?_
  refine e_getf f_41_6 ha rfl rfl ?_
  refine e_icmp_lt f_41_9 rfl (fun c_9 => ?_) (fun c_9 => ?_)
  · skip
    have c_9 : i < n := cv_lt (by omega) (by omega) c_9
    refine e_aload_n f_41_16 rfl rfl ?_
    refine e_getf f_41_17 ha rfl rfl ?_
    refine e_iload_n f_41_20 rfl rfl ?_
    refine e_laload f_41_21 hp (nI_pos (by omega)) (px_ldM Value.long (0) (by omega) (by omega)) rfl ?_
    refine e_bipush (v := nI 45) f_41_22 (by decide) rfl ?_
    refine e_lshr (z := ((xs).getD (i) 0) >>> ((nI 45).toInt64 &&& 63)) f_41_24 rfl rfl ?_
    refine e_l2i (z := (((xs).getD (i) 0) >>> ((nI 45).toInt64 &&& 63)).toInt32) f_41_25 rfl rfl ?_
    refine e_iret f_41_26 rfl rfl ?_
    first | exact ⟨rfl, rfl⟩ | (exfalso; omega)
  · skip
    have c_9 : n ≤ i := cv_nlt (by omega) (by omega) c_9
    refine e_iconst (v := nI 0) f_41_12 (by decide) rfl ?_
    refine e_goto f_41_13 ?_
    refine e_iret f_41_26 rfl rfl ?_
    first | exact ⟨rfl, rfl⟩ | (exfalso; omega)

set_option maxRecDepth 20000 in
set_option maxHeartbeats 4000000 in
theorem c_Rows_valueAt {h : px_H} {a n i : Nat} {xs : List Int64} (ha : h.2.2 a = some (5, [.ref (a + 1), .int (nI n)])) (hp : h.2.2 (a + 1) = some (51, xs.map Value.long)) (hx : xs.length < 2 ^ 31) (hn : n ≤ xs.length) (hi : i < n) : px_wp 42 [.ref a, .int (nI i)] h (fun h1 r => r = some (.int (((xs.getD i 0) >>> ((nI 13).toInt64 &&& 63)).toInt32 + (-2147483648))) ∧ h1 = h) := by
  show px_to 42 0 [some (.ref (a)), some (.int (nI i))] [] h _
  refine e_iload_n f_42_0 rfl rfl ?_
  refine e_if_lt_f f_42_1 (nI_pos (by omega)) rfl ?_
  refine e_iload_n f_42_4 rfl rfl ?_
  refine e_aload_n f_42_5 rfl rfl ?_
  refine e_getf f_42_6 ha rfl rfl ?_
  refine e_icmp_lt f_42_9 rfl (fun c_9 => ?_) (fun c_9 => ?_)
  · skip
    have c_9 : i < n := cv_lt (by omega) (by omega) c_9
    refine e_aload_n f_42_16 rfl rfl ?_
    refine e_getf f_42_17 ha rfl rfl ?_
    refine e_iload_n f_42_20 rfl rfl ?_
    refine e_laload f_42_21 hp (nI_pos (by omega)) (px_ldM Value.long (0) (by omega) (by omega)) rfl ?_
    refine e_bipush (v := nI 13) f_42_22 (by decide) rfl ?_
    refine e_lshr (z := ((xs).getD (i) 0) >>> ((nI 13).toInt64 &&& 63)) f_42_24 rfl rfl ?_
    refine e_l2i (z := (((xs).getD (i) 0) >>> ((nI 13).toInt64 &&& 63)).toInt32) f_42_25 rfl rfl ?_
    refine e_ldc f_42_26 rfl ?_
    refine e_iadd (z := ((((xs).getD (i) 0) >>> ((nI 13).toInt64 &&& 63)).toInt32) + ((-2147483648))) f_42_28 rfl rfl ?_
    refine e_iret f_42_29 rfl rfl ?_
    first | exact ⟨rfl, rfl⟩ | (exfalso; omega)
  · skip
    have c_9 : n ≤ i := cv_nlt (by omega) (by omega) c_9
    refine e_iconst (v := nI 0) f_42_12 (by decide) rfl ?_
    refine e_goto f_42_13 ?_
    refine e_iret f_42_29 rfl rfl ?_
    first | exact ⟨rfl, rfl⟩ | (exfalso; omega)

set_option maxRecDepth 20000 in
set_option maxHeartbeats 4000000 in
theorem c_Rows_timeAt {h : px_H} {a n i : Nat} {xs : List Int64} (ha : h.2.2 a = some (5, [.ref (a + 1), .int (nI n)])) (hp : h.2.2 (a + 1) = some (51, xs.map Value.long)) (hx : xs.length < 2 ^ 31) (hn : n ≤ xs.length) (hi : i < n) : px_wp 43 [.ref a, .int (nI i)] h (fun h1 r => r = some (.int ((xs.getD i 0).toInt32 &&& nI 8191)) ∧ h1 = h) := by
  show px_to 43 0 [some (.ref (a)), some (.int (nI i))] [] h _
  refine e_iload_n f_43_0 rfl rfl ?_
  refine e_if_lt_f f_43_1 (nI_pos (by omega)) rfl ?_
  refine e_iload_n f_43_4 rfl rfl ?_
  refine e_aload_n f_43_5 rfl rfl ?_
  refine e_getf f_43_6 ha rfl rfl ?_
  refine e_icmp_lt f_43_9 rfl (fun c_9 => ?_) (fun c_9 => ?_)
  · skip
    have c_9 : i < n := cv_lt (by omega) (by omega) c_9
    refine e_aload_n f_43_16 rfl rfl ?_
    refine e_getf f_43_17 ha rfl rfl ?_
    refine e_iload_n f_43_20 rfl rfl ?_
    refine e_laload f_43_21 hp (nI_pos (by omega)) (px_ldM Value.long (0) (by omega) (by omega)) rfl ?_
    refine e_l2i (z := ((xs).getD (i) 0).toInt32) f_43_22 rfl rfl ?_
    refine e_sipush (v := nI 8191) f_43_23 (by decide) rfl ?_
    refine e_iand (z := (((xs).getD (i) 0).toInt32) &&& (nI 8191)) f_43_26 rfl rfl ?_
    refine e_iret f_43_27 rfl rfl ?_
    first | exact ⟨rfl, rfl⟩ | (exfalso; omega)
  · skip
    have c_9 : n ≤ i := cv_nlt (by omega) (by omega) c_9
    refine e_iconst (v := nI 0) f_43_12 (by decide) rfl ?_
    refine e_goto f_43_13 ?_
    refine e_iret f_43_27 rfl rfl ?_
    first | exact ⟨rfl, rfl⟩ | (exfalso; omega)
