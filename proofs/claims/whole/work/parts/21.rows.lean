def rw_pk (k v t : Int32) : Int64 := ((k).toInt64 <<< ((nI 45).toInt64 &&& 63) ||| (v.toInt64 - (-2147483648)) <<< ((nI 13).toInt64 &&& 63)) ||| t.toInt64

set_option maxRecDepth 20000 in
set_option maxHeartbeats 4000000 in
theorem c_Rows_add {h : px_H} {a n : Nat} {k v t : Int32} {xs : List Int64} (ha : h.2.2 a = some (5, [.ref (a + 1), .int (nI n)])) (hp : h.2.2 (a + 1) = some (51, xs.map Value.long)) (hx : xs.length < 2 ^ 31) (hn : n ≤ xs.length) (h17 : 17 ≤ a) : px_wp 39 [.ref a, .int k, .int v, .int t] h (fun h1 r => r = none ∧ h1.2.2 a = some (5, [.ref (a + 1), .int (nI (if n < xs.length then n + 1 else n))]) ∧ h1.2.2 (a + 1) = some (51, (if n < xs.length then xs.set n (rw_pk k v t) else xs).map Value.long) ∧ px_fr (fun q => a ≤ q ∧ q < a + 2) h h1) := by
  have fr0 : px_fr (fun q => a ≤ q ∧ q < a + 2) h h := px_fr_rf _ _
  show px_to 39 0 [some (.ref (a)), some (.int (k)), some (.int (v)), some (.int (t)), none, none] [] h _
  refine e_aload_n f_39_0 rfl rfl ?_
  refine e_getf f_39_1 ha rfl rfl ?_
  refine e_aload_n f_39_4 rfl rfl ?_
  refine e_getf f_39_5 ha rfl rfl ?_
  refine e_alen (n := nI ((xs).length)) f_39_8 hp (by decide) (px_lenM _ _) rfl ?_
  refine e_icmp_ge f_39_9 rfl (fun c_9 => ?_) (fun c_9 => ?_)
  · skip
    have c_9 : (xs).length ≤ n := cv_le (by omega) (by omega) c_9
    refine e_vret f_39_53 rfl ?_
    exact ⟨rfl, by first | (rw [if_pos (by omega)]; exact ha) | (rw [if_neg (by omega)]; exact ha), by first | (rw [if_pos (by omega)]; exact hp) | (rw [if_neg (by omega)]; exact hp), fr0⟩
  · skip
    have c_9 : n < (xs).length := cv_nle (by omega) (by omega) c_9
    refine e_iload_n f_39_12 rfl rfl ?_
    refine e_i2l (z := (v).toInt64) f_39_13 rfl rfl ?_
    refine e_ldc2 f_39_14 rfl ?_
    refine e_lsub (z := ((v).toInt64) - ((-2147483648))) f_39_17 rfl rfl ?_
    refine e_lstore (L' := [some (.ref (a)), some (.int (k)), some (.int (v)), some (.int (t)), some (.long (((v).toInt64) - ((-2147483648)))), none]) f_39_18 (Nat.le_of_ble_eq_true rfl) rfl rfl ?_
    refine e_aload_n f_39_20 rfl rfl ?_
    refine e_getf f_39_21 ha rfl rfl ?_
    refine e_aload_n f_39_24 rfl rfl ?_
    refine e_getf f_39_25 ha rfl rfl ?_
    refine e_iload_n f_39_28 rfl rfl ?_
    refine e_i2l (z := (k).toInt64) f_39_29 rfl rfl ?_
    refine e_bipush (v := nI 45) f_39_30 (by decide) rfl ?_
    refine e_lshl (z := ((k).toInt64) <<< ((nI 45).toInt64 &&& 63)) f_39_32 rfl rfl ?_
    refine e_lload f_39_33 rfl rfl ?_
    refine e_bipush (v := nI 13) f_39_35 (by decide) rfl ?_
    refine e_lshl (z := (((v).toInt64) - ((-2147483648))) <<< ((nI 13).toInt64 &&& 63)) f_39_37 rfl rfl ?_
    refine e_lor (z := (((k).toInt64) <<< ((nI 45).toInt64 &&& 63)) ||| ((((v).toInt64) - ((-2147483648))) <<< ((nI 13).toInt64 &&& 63))) f_39_38 rfl rfl ?_
    refine e_iload_n f_39_39 rfl rfl ?_
    refine e_i2l (z := (t).toInt64) f_39_40 rfl rfl ?_
    refine e_lor (z := ((((k).toInt64) <<< ((nI 45).toInt64 &&& 63)) ||| ((((v).toInt64) - ((-2147483648))) <<< ((nI 13).toInt64 &&& 63))) ||| ((t).toInt64)) f_39_41 rfl rfl ?_
    refine e_lastore (vs' := ((xs).set (n) (((((k).toInt64) <<< ((nI 45).toInt64 &&& 63)) ||| ((((v).toInt64) - ((-2147483648))) <<< ((nI 13).toInt64 &&& 63))) ||| ((t).toInt64))).map Value.long) f_39_42 hp (by omega) (nI_pos (by omega)) (px_ixM _ (by omega) (by omega)) (px_setM _ _ (by omega) _) rfl (fun h1 e2 => ?_)
    have g3 : h1.2.2 (a) = some (5, [.ref (a + 1), .int (nI n)]) := by rw [e2]; exact (px_set_ne (by omega)).trans ha
    have g4 : h1.2.2 (a + 1) = some (51, ((xs).set (n) (((((k).toInt64) <<< ((nI 45).toInt64 &&& 63)) ||| ((((v).toInt64) - ((-2147483648))) <<< ((nI 13).toInt64 &&& 63))) ||| ((t).toInt64))).map Value.long) := by rw [e2]; exact px_set_at _ _ _
    have fr5 : px_fr (fun q => a ≤ q ∧ q < a + 2) h h1 := by rw [e2]; exact px_fr_set (by omega) fr0
    refine e_aload_n f_39_43 rfl rfl ?_
    refine e_dup f_39_44 rfl rfl ?_
    refine e_getf f_39_45 g3 rfl rfl ?_
    refine e_iconst (v := nI 1) f_39_48 (by decide) rfl ?_
    refine e_iadd (z := nI (n + 1)) f_39_49 (nI_add _ _) rfl ?_
    refine e_putf (vs' := [.ref (a + 1), .int (nI (n + 1))]) f_39_50 g3 (Nat.le_of_ble_eq_true rfl) (rfl) (rfl) rfl rfl (fun h6 e7 => ?_)
    have g8 : h6.2.2 (a) = some (5, [.ref (a + 1), .int (nI (n + 1))]) := by rw [e7]; exact px_set_at _ _ _
    have g9 : h6.2.2 (a + 1) = some (51, ((xs).set (n) (((((k).toInt64) <<< ((nI 45).toInt64 &&& 63)) ||| ((((v).toInt64) - ((-2147483648))) <<< ((nI 13).toInt64 &&& 63))) ||| ((t).toInt64))).map Value.long) := by rw [e7]; exact (px_set_ne (by omega)).trans g4
    have fr10 : px_fr (fun q => a ≤ q ∧ q < a + 2) h h6 := by rw [e7]; exact px_fr_set (by omega) fr5
    refine e_vret f_39_53 rfl ?_
    exact ⟨rfl, by first | (rw [if_pos (by omega)]; exact g8) | (rw [if_neg (by omega)]; exact g8), by first | (rw [if_pos (by omega)]; exact g9) | (rw [if_neg (by omega)]; exact g9), fr10⟩

set_option maxRecDepth 20000 in
set_option maxHeartbeats 4000000 in
theorem c_Rows_keyAt {h : px_H} {a n i : Nat} {xs : List Int64} (ha : h.2.2 a = some (5, [.ref (a + 1), .int (nI n)])) (hp : h.2.2 (a + 1) = some (51, xs.map Value.long)) (hx : xs.length < 2 ^ 31) (hn : n ≤ xs.length) (hi : i < n) : px_wp 41 [.ref a, .int (nI i)] h (fun h1 r => r = some (.int (((xs.getD i 0) >>> ((nI 45).toInt64 &&& 63)).toInt32)) ∧ h1 = h) := by
  show px_to 41 0 [some (.ref (a)), some (.int (nI i))] [] h _
  refine e_iload_n f_41_0 rfl rfl ?_
  refine e_if_lt_f f_41_1 (nI_pos (by omega)) rfl ?_
  refine e_iload_n f_41_4 rfl rfl ?_
  refine e_aload_n f_41_5 rfl rfl ?_
  refine e_getf f_41_6 ha rfl rfl ?_
  refine e_icmp_lt f_41_9 rfl (fun c_9 => ?_) (fun c_9 => ?_)
  · skip
    have c_9 : i < n := cv_lt (by omega) (by omega) c_9
    refine e_aload_n f_41_16 rfl rfl ?_
    refine e_getf f_41_17 ha rfl rfl ?_
    refine e_iload_n f_41_20 rfl rfl ?_
    refine e_laload f_41_21 hp (nI_pos (by omega)) (px_ldM Value.long (0) (by omega) (by omega)) rfl ?_
    refine e_bipush (v := nI 45) f_41_22 (by decide) rfl ?_
    refine e_lshr (z := ((xs).getD (i) 0) >>> ((nI 45).toInt64 &&& 63)) f_41_24 rfl rfl ?_
    refine e_l2i (z := (((xs).getD (i) 0) >>> ((nI 45).toInt64 &&& 63)).toInt32) f_41_25 rfl rfl ?_
    refine e_iret f_41_26 rfl rfl ?_
    first | (exfalso; omega) | exact ⟨rfl, rfl⟩
  · skip
    have c_9 : n ≤ i := cv_nlt (by omega) (by omega) c_9
    refine e_iconst (v := nI 0) f_41_12 (by decide) rfl ?_
    refine e_goto f_41_13 ?_
    refine e_iret f_41_26 rfl rfl ?_
    first | (exfalso; omega) | exact ⟨rfl, rfl⟩

set_option maxRecDepth 20000 in
set_option maxHeartbeats 4000000 in
theorem c_Rows_valueAt {h : px_H} {a n i : Nat} {xs : List Int64} (ha : h.2.2 a = some (5, [.ref (a + 1), .int (nI n)])) (hp : h.2.2 (a + 1) = some (51, xs.map Value.long)) (hx : xs.length < 2 ^ 31) (hn : n ≤ xs.length) (hi : i < n) : px_wp 42 [.ref a, .int (nI i)] h (fun h1 r => r = some (.int (((xs.getD i 0) >>> ((nI 13).toInt64 &&& 63)).toInt32 + (-2147483648))) ∧ h1 = h) := by
  show px_to 42 0 [some (.ref (a)), some (.int (nI i))] [] h _
  refine e_iload_n f_42_0 rfl rfl ?_
  refine e_if_lt_f f_42_1 (nI_pos (by omega)) rfl ?_
  refine e_iload_n f_42_4 rfl rfl ?_
  refine e_aload_n f_42_5 rfl rfl ?_
  refine e_getf f_42_6 ha rfl rfl ?_
  refine e_icmp_lt f_42_9 rfl (fun c_9 => ?_) (fun c_9 => ?_)
  · skip
    have c_9 : i < n := cv_lt (by omega) (by omega) c_9
    refine e_aload_n f_42_16 rfl rfl ?_
    refine e_getf f_42_17 ha rfl rfl ?_
    refine e_iload_n f_42_20 rfl rfl ?_
    refine e_laload f_42_21 hp (nI_pos (by omega)) (px_ldM Value.long (0) (by omega) (by omega)) rfl ?_
    refine e_bipush (v := nI 13) f_42_22 (by decide) rfl ?_
    refine e_lshr (z := ((xs).getD (i) 0) >>> ((nI 13).toInt64 &&& 63)) f_42_24 rfl rfl ?_
    refine e_l2i (z := (((xs).getD (i) 0) >>> ((nI 13).toInt64 &&& 63)).toInt32) f_42_25 rfl rfl ?_
    refine e_ldc f_42_26 rfl ?_
    refine e_iadd (z := ((((xs).getD (i) 0) >>> ((nI 13).toInt64 &&& 63)).toInt32) + ((-2147483648))) f_42_28 rfl rfl ?_
    refine e_iret f_42_29 rfl rfl ?_
    first | (exfalso; omega) | exact ⟨rfl, rfl⟩
  · skip
    have c_9 : n ≤ i := cv_nlt (by omega) (by omega) c_9
    refine e_iconst (v := nI 0) f_42_12 (by decide) rfl ?_
    refine e_goto f_42_13 ?_
    refine e_iret f_42_29 rfl rfl ?_
    first | (exfalso; omega) | exact ⟨rfl, rfl⟩

set_option maxRecDepth 20000 in
set_option maxHeartbeats 4000000 in
theorem c_Rows_timeAt {h : px_H} {a n i : Nat} {xs : List Int64} (ha : h.2.2 a = some (5, [.ref (a + 1), .int (nI n)])) (hp : h.2.2 (a + 1) = some (51, xs.map Value.long)) (hx : xs.length < 2 ^ 31) (hn : n ≤ xs.length) (hi : i < n) : px_wp 43 [.ref a, .int (nI i)] h (fun h1 r => r = some (.int ((xs.getD i 0).toInt32 &&& nI 8191)) ∧ h1 = h) := by
  show px_to 43 0 [some (.ref (a)), some (.int (nI i))] [] h _
  refine e_iload_n f_43_0 rfl rfl ?_
  refine e_if_lt_f f_43_1 (nI_pos (by omega)) rfl ?_
  refine e_iload_n f_43_4 rfl rfl ?_
  refine e_aload_n f_43_5 rfl rfl ?_
  refine e_getf f_43_6 ha rfl rfl ?_
  refine e_icmp_lt f_43_9 rfl (fun c_9 => ?_) (fun c_9 => ?_)
  · skip
    have c_9 : i < n := cv_lt (by omega) (by omega) c_9
    refine e_aload_n f_43_16 rfl rfl ?_
    refine e_getf f_43_17 ha rfl rfl ?_
    refine e_iload_n f_43_20 rfl rfl ?_
    refine e_laload f_43_21 hp (nI_pos (by omega)) (px_ldM Value.long (0) (by omega) (by omega)) rfl ?_
    refine e_l2i (z := ((xs).getD (i) 0).toInt32) f_43_22 rfl rfl ?_
    refine e_sipush (v := nI 8191) f_43_23 (by decide) rfl ?_
    refine e_iand (z := (((xs).getD (i) 0).toInt32) &&& (nI 8191)) f_43_26 rfl rfl ?_
    refine e_iret f_43_27 rfl rfl ?_
    first | (exfalso; omega) | exact ⟨rfl, rfl⟩
  · skip
    have c_9 : n ≤ i := cv_nlt (by omega) (by omega) c_9
    refine e_iconst (v := nI 0) f_43_12 (by decide) rfl ?_
    refine e_goto f_43_13 ?_
    refine e_iret f_43_27 rfl rfl ?_
    first | (exfalso; omega) | exact ⟨rfl, rfl⟩

set_option maxRecDepth 20000 in
set_option maxHeartbeats 4000000 in
theorem c_Rows_cutTo {h : px_H} {a n k : Nat} {xs : List Int64} (ha : h.2.2 a = some (5, [.ref (a + 1), .int (nI n)])) (hp : h.2.2 (a + 1) = some (51, xs.map Value.long)) (hx : xs.length < 2 ^ 31) (hn : n ≤ xs.length) (hk : k < 2 ^ 31) : px_wp 40 [.ref a, .int (nI k)] h (fun h1 r => r = none ∧ h1.2.2 a = some (5, [.ref (a + 1), .int (nI (min n k))]) ∧ h1.2.2 (a + 1) = some (51, xs.map Value.long) ∧ px_fr (fun q => a ≤ q ∧ q < a + 2) h h1) := by
  have fr0 : px_fr (fun q => a ≤ q ∧ q < a + 2) h h := px_fr_rf _ _
  show px_to 40 0 [some (.ref (a)), some (.int (nI k))] [] h _
  refine e_aload_n f_40_0 rfl rfl ?_
  refine e_iconst (v := nI 0) f_40_1 (by decide) rfl ?_
  refine e_aload_n f_40_2 rfl rfl ?_
  refine e_getf f_40_3 ha rfl rfl ?_
  refine e_iload_n f_40_6 rfl rfl ?_
  refine e_minN f_40_7 (by omega) (by omega) (Nat.le_of_ble_eq_true rfl) rfl ?_
  refine e_maxN f_40_10 (by omega) (by omega) (Nat.le_of_ble_eq_true rfl) rfl ?_
  refine e_putf (vs' := [.ref (a + 1), .int (nI (max (0) (min (n) (k))))]) f_40_13 ha (Nat.le_of_ble_eq_true rfl) (rfl) (rfl) rfl rfl (fun h1 e2 => ?_)
  have g3 : h1.2.2 (a) = some (5, [.ref (a + 1), .int (nI (max (0) (min (n) (k))))]) := by rw [e2]; exact px_set_at _ _ _
  have g4 : h1.2.2 (a + 1) = some (51, (xs).map Value.long) := by rw [e2]; exact (px_set_ne (by omega)).trans hp
  have fr5 : px_fr (fun q => a ≤ q ∧ q < a + 2) h h1 := by rw [e2]; exact px_fr_set (by omega) fr0
  refine e_vret f_40_16 rfl ?_
  exact ⟨rfl, by rw [show min n k = max 0 (min n k) by omega]; exact g3, g4, fr5⟩

/-- the first place at which two lists part; -3 where they are the same -/
def lfd : List Int64 → List Int64 → Nat → Int32
  | [], [], _ => -3
  | x :: r, y :: s, i => if x = y then lfd r s (i + 1) else nI i
  | _, _, i => nI i
theorem lfd_step {xs ys : List Int64} {i : Nat} (h1 : i < xs.length) (h2 : i < ys.length) : lfd (xs.drop i) (ys.drop i) i = if xs.getD i 0 = ys.getD i 0 then lfd (xs.drop (i + 1)) (ys.drop (i + 1)) (i + 1) else nI i := by
  rw [List.drop_eq_getElem_cons h1, List.drop_eq_getElem_cons h2, lfd]
  simp [List.getD_eq_getElem?_getD, h1, h2]
theorem lfd_end {xs ys : List Int64} {i : Nat} (h : xs.length ≤ i ∨ ys.length ≤ i) (hi : i ≤ xs.length) (hj : i ≤ ys.length) : lfd (xs.drop i) (ys.drop i) i = if xs.length = ys.length then -3 else nI i := by
  rcases Nat.lt_or_ge i xs.length with h1 | h1
  · have h2 : ys.length ≤ i := by omega
    rw [if_neg (by omega), List.drop_eq_getElem_cons h1, List.drop_eq_nil_of_le h2]
    rfl
  · rcases Nat.lt_or_ge i ys.length with h2 | h2
    · rw [if_neg (by omega), List.drop_eq_getElem_cons h2, List.drop_eq_nil_of_le h1]
      rfl
    · rw [if_pos (by omega), List.drop_eq_nil_of_le h1, List.drop_eq_nil_of_le h2]
      rfl
theorem lg_cmp0 (x y : Int64) : lg_cmp x y = 0 ↔ x = y := by
  unfold lg_cmp
  by_cases h1 : y < x
  · rw [if_pos h1]
    exact ⟨fun z => absurd z (by decide), fun z => absurd (z ▸ h1) (Int64.lt_irrefl)⟩
  · rw [if_neg h1]
    by_cases h2 : x = y
    · rw [if_pos h2]
      exact ⟨fun _ => h2, fun _ => rfl⟩
    · rw [if_neg h2]
      exact ⟨fun z => absurd z (by decide), fun z => absurd z h2⟩
theorem getD_take {xs : List Int64} {n i : Nat} (h : i < n) : (xs.take n).getD i 0 = xs.getD i 0 := by
  rw [List.getD_eq_getElem?_getD, List.getElem?_take, if_pos h, ← List.getD_eq_getElem?_getD]

set_option maxRecDepth 20000 in
set_option maxHeartbeats 4000000 in
theorem l_Rows_fd {h : px_H} {a n b k : Nat} {xs ys : List Int64} (ha : h.2.2 a = some (5, [.ref (a + 1), .int (nI n)])) (hp : h.2.2 (a + 1) = some (51, xs.map Value.long)) (hx : xs.length < 2 ^ 31) (hn : n ≤ xs.length) (hab : h.2.2 b = some (5, [.ref (b + 1), .int (nI k)])) (hpb : h.2.2 (b + 1) = some (51, ys.map Value.long)) (hxb : ys.length < 2 ^ 31) (hnb : k ≤ ys.length) : ∀ (d i : Nat), min n k ≤ i + d → i ≤ min n k → px_to 45 14 [some (.ref a), some (.ref b), some (.int (nI (min n k))), some (.int (nI i))] [] h (fun h1 r => r = some (.int (lfd ((xs.take n).drop i) ((ys.take k).drop i) i)) ∧ h1 = h) := by
  intro d
  induction d with
  | zero =>
    intro i hd hi
    refine e_iload_n f_45_14 rfl rfl ?_
    refine e_iload_n f_45_15 rfl rfl ?_
    refine e_icmp_ge f_45_16 rfl (fun c_16 => ?_) (fun c_16 => ?_)
    · skip
      have c_16 : min n k ≤ i := cv_le (by omega) (by omega) c_16
      refine e_aload_n f_45_43 rfl rfl ?_
      refine e_getf f_45_44 ha rfl rfl ?_
      refine e_aload_n f_45_47 rfl rfl ?_
      refine e_getf f_45_48 hab rfl rfl ?_
      refine e_icmp_ne f_45_51 rfl (fun c_51 => ?_) (fun c_51 => ?_)
      · skip
        have c_51 : n ≠ k := cv_ne c_51
        refine e_iload_n f_45_59 rfl rfl ?_
        refine e_iret f_45_60 rfl rfl ?_
        refine ⟨?_, rfl⟩
        rw [lfd_end (by rw [List.length_take, List.length_take]; omega) (by rw [List.length_take]; omega) (by rw [List.length_take]; omega), List.length_take, List.length_take]
        first | rw [if_pos (by omega)] | (rw [if_neg (by omega)]; exact congrArg (fun z => some (Value.int (nI z))) (by omega))
      · skip
        have c_51 : n = k := cv_nne (by omega) (by omega) c_51
        refine e_bipush (v := (-3)) f_45_54 (by decide) rfl ?_
        refine e_goto f_45_56 ?_
        refine e_iret f_45_60 rfl rfl ?_
        refine ⟨?_, rfl⟩
        rw [lfd_end (by rw [List.length_take, List.length_take]; omega) (by rw [List.length_take]; omega) (by rw [List.length_take]; omega), List.length_take, List.length_take]
        first | rw [if_pos (by omega)] | (rw [if_neg (by omega)]; exact congrArg (fun z => some (Value.int (nI z))) (by omega))
    · skip
      have c_16 : i < min n k := cv_nle (by omega) (by omega) c_16
      refine e_aload_n f_45_19 rfl rfl ?_
      refine e_getf f_45_20 ha rfl rfl ?_
      refine e_iload_n f_45_23 rfl rfl ?_
      refine e_laload f_45_24 hp (nI_pos (by omega)) (px_ldM Value.long (0) (by omega) (by omega)) rfl ?_
      refine e_aload_n f_45_25 rfl rfl ?_
      refine e_getf f_45_26 hab rfl rfl ?_
      refine e_iload_n f_45_29 rfl rfl ?_
      refine e_laload f_45_30 hpb (nI_pos (by omega)) (px_ldM Value.long (0) (by omega) (by omega)) rfl ?_
      refine e_lcmp f_45_31 rfl ?_
      refine e_if_eq f_45_32 rfl (fun c_32 => ?_) (fun c_32 => ?_)
      · skip
        refine e_iinc (y := nI (i + 1)) (L' := [some (.ref (a)), some (.ref (b)), some (.int (nI (min n k))), some (.int (nI (i + 1)))]) f_45_37 rfl (by rw [show Int32.ofInt 1 = nI 1 by decide]; exact nI_add _ _) rfl rfl ?_
        refine e_goto f_45_40 ?_
        exfalso; omega
      · skip
        refine e_iload_n f_45_35 rfl rfl ?_
        refine e_iret f_45_36 rfl rfl ?_
        refine ⟨?_, rfl⟩
        rw [lfd_step (by rw [List.length_take]; omega) (by rw [List.length_take]; omega), getD_take (by omega), getD_take (by omega), if_neg (fun z => c_32 ((lg_cmp0 _ _).mpr z))]
  | succ d ih =>
    intro i hd hi
    refine e_iload_n f_45_14 rfl rfl ?_
    refine e_iload_n f_45_15 rfl rfl ?_
    refine e_icmp_ge f_45_16 rfl (fun c_16 => ?_) (fun c_16 => ?_)
    · skip
      have c_16 : min n k ≤ i := cv_le (by omega) (by omega) c_16
      refine e_aload_n f_45_43 rfl rfl ?_
      refine e_getf f_45_44 ha rfl rfl ?_
      refine e_aload_n f_45_47 rfl rfl ?_
      refine e_getf f_45_48 hab rfl rfl ?_
      refine e_icmp_ne f_45_51 rfl (fun c_51 => ?_) (fun c_51 => ?_)
      · skip
        have c_51 : n ≠ k := cv_ne c_51
        refine e_iload_n f_45_59 rfl rfl ?_
        refine e_iret f_45_60 rfl rfl ?_
        refine ⟨?_, rfl⟩
        rw [lfd_end (by rw [List.length_take, List.length_take]; omega) (by rw [List.length_take]; omega) (by rw [List.length_take]; omega), List.length_take, List.length_take]
        first | rw [if_pos (by omega)] | (rw [if_neg (by omega)]; exact congrArg (fun z => some (Value.int (nI z))) (by omega))
      · skip
        have c_51 : n = k := cv_nne (by omega) (by omega) c_51
        refine e_bipush (v := (-3)) f_45_54 (by decide) rfl ?_
        refine e_goto f_45_56 ?_
        refine e_iret f_45_60 rfl rfl ?_
        refine ⟨?_, rfl⟩
        rw [lfd_end (by rw [List.length_take, List.length_take]; omega) (by rw [List.length_take]; omega) (by rw [List.length_take]; omega), List.length_take, List.length_take]
        first | rw [if_pos (by omega)] | (rw [if_neg (by omega)]; exact congrArg (fun z => some (Value.int (nI z))) (by omega))
    · skip
      have c_16 : i < min n k := cv_nle (by omega) (by omega) c_16
      refine e_aload_n f_45_19 rfl rfl ?_
      refine e_getf f_45_20 ha rfl rfl ?_
      refine e_iload_n f_45_23 rfl rfl ?_
      refine e_laload f_45_24 hp (nI_pos (by omega)) (px_ldM Value.long (0) (by omega) (by omega)) rfl ?_
      refine e_aload_n f_45_25 rfl rfl ?_
      refine e_getf f_45_26 hab rfl rfl ?_
      refine e_iload_n f_45_29 rfl rfl ?_
      refine e_laload f_45_30 hpb (nI_pos (by omega)) (px_ldM Value.long (0) (by omega) (by omega)) rfl ?_
      refine e_lcmp f_45_31 rfl ?_
      refine e_if_eq f_45_32 rfl (fun c_32 => ?_) (fun c_32 => ?_)
      · skip
        refine e_iinc (y := nI (i + 1)) (L' := [some (.ref (a)), some (.ref (b)), some (.int (nI (min n k))), some (.int (nI (i + 1)))]) f_45_37 rfl (by rw [show Int32.ofInt 1 = nI 1 by decide]; exact nI_add _ _) rfl rfl ?_
        refine e_goto f_45_40 ?_
        exact px_to_mono (ih (i + 1) (by omega) (by omega)) (fun h1 r hh => ⟨by rw [hh.1, lfd_step (i := i) (by rw [List.length_take]; omega) (by rw [List.length_take]; omega), getD_take (by omega), getD_take (by omega), if_pos ((lg_cmp0 _ _).mp c_32)], hh.2⟩)
      · skip
        refine e_iload_n f_45_35 rfl rfl ?_
        refine e_iret f_45_36 rfl rfl ?_
        refine ⟨?_, rfl⟩
        rw [lfd_step (by rw [List.length_take]; omega) (by rw [List.length_take]; omega), getD_take (by omega), getD_take (by omega), if_neg (fun z => c_32 ((lg_cmp0 _ _).mpr z))]

set_option maxRecDepth 20000 in
set_option maxHeartbeats 4000000 in
theorem c_Rows_fd {h : px_H} {a n b k : Nat} {xs ys : List Int64} (ha : h.2.2 a = some (5, [.ref (a + 1), .int (nI n)])) (hp : h.2.2 (a + 1) = some (51, xs.map Value.long)) (hx : xs.length < 2 ^ 31) (hn : n ≤ xs.length) (hab : h.2.2 b = some (5, [.ref (b + 1), .int (nI k)])) (hpb : h.2.2 (b + 1) = some (51, ys.map Value.long)) (hxb : ys.length < 2 ^ 31) (hnb : k ≤ ys.length) : px_wp 45 [.ref a, .ref b] h (fun h1 r => r = some (.int (lfd (xs.take n) (ys.take k) 0)) ∧ h1 = h) := by
  show px_to 45 0 [some (.ref (a)), some (.ref (b)), none, none] [] h _
  refine e_aload_n f_45_0 rfl rfl ?_
  refine e_getf f_45_1 ha rfl rfl ?_
  refine e_aload_n f_45_4 rfl rfl ?_
  refine e_getf f_45_5 hab rfl rfl ?_
  refine e_minN f_45_8 (by omega) (by omega) (Nat.le_of_ble_eq_true rfl) rfl ?_
  refine e_istore_n (L' := [some (.ref (a)), some (.ref (b)), some (.int (nI (min (n) (k)))), none]) f_45_11 (Nat.le_of_ble_eq_true rfl) rfl rfl ?_
  refine e_iconst (v := nI 0) f_45_12 (by decide) rfl ?_
  refine e_istore_n (L' := [some (.ref (a)), some (.ref (b)), some (.int (nI (min (n) (k)))), some (.int (nI 0))]) f_45_13 (Nat.le_of_ble_eq_true rfl) rfl rfl ?_
  exact l_Rows_fd ha hp hx hn hab hpb hxb hnb (min n k) 0 (by omega) (by omega)
