theorem b1 {x : Bool} (h : x = true) : nI 1 = bI x := by rw [h]; rfl
theorem b0 {x : Bool} (h : x = false) : nI 0 = bI x := by rw [h]; rfl
def pRows (h : px_H) (a cap : Nat) (rs : List Row) : Prop := h.2.2 a = some (5, [.ref (a + 1), .int (nI rs.length)]) ∧ px_pa h (a + 1) 51 cap rwP rs
theorem pRows_fi {h h1 : px_H} {a cap lo n : Nat} {rs : List Row} (p : pRows h a cap rs) (f : px_fi lo n h h1) (d : a + 2 ≤ lo ∨ lo + n ≤ a) : pRows h1 a cap rs := ⟨fi_at p.1 f (by omega), pa_fi p.2 f (by omega)⟩
abbrev St := Nat × Nat × Int32
def stS (s : St) : Value := .int (nI s.1)
def stA (s : St) : Value := .int (nI s.2.1)
def stN (s : St) : Value := .int s.2.2
def pJob (h : px_H) (a : Nat) (j : List St) : Prop := h.2.2 a = some (0, [.int (nI j.length), .ref (a + 1), .ref (a + 2), .ref (a + 3)]) ∧ px_pa h (a + 1) 50 6 stS j ∧ px_pa h (a + 2) 50 6 stA j ∧ px_pa h (a + 3) 50 6 stN j
theorem pJob_fi {h h1 : px_H} {a lo n : Nat} {j : List St} (p : pJob h a j) (f : px_fi lo n h h1) (d : a + 4 ≤ lo ∨ lo + n ≤ a) : pJob h1 a j := ⟨fi_at p.1 f (by omega), pa_fi p.2.1 f (by omega), pa_fi p.2.2.1 f (by omega), pa_fi p.2.2.2 f (by omega)⟩
abbrev Ev := Nat × Int32 × Int32 × Int32
def evS (e : Ev) : Value := .int (nI e.1)
def evK (e : Ev) : Value := .int e.2.1
def evV (e : Ev) : Value := .int e.2.2.1
def evT (e : Ev) : Value := .int e.2.2.2
def pCase (h : px_H) (a : Nat) (ev : List Ev) (told : List Row) (os : Nat) (ks : Int32) (kept : List Nat) (ck : Nat) (un : List Nat) : Prop := h.2.2 a = some (10, [.int (nI ev.length), .ref (a + 1), .ref (a + 2), .ref (a + 3), .ref (a + 4), .ref (a + 5), .int (nI os), .int ks, .ref (a + 7), .int (nI ck), .int (nI un.length), .ref (a + 8)]) ∧ px_pa h (a + 1) 50 24 evS ev ∧ px_pa h (a + 2) 50 24 evK ev ∧ px_pa h (a + 3) 50 24 evV ev ∧ px_pa h (a + 4) 50 24 evT ev ∧ pRows h (a + 5) 16 told ∧ px_pa h (a + 7) 50 24 vN kept ∧ px_pa h (a + 8) 50 266 vN un
theorem pCase_fi {h h1 : px_H} {a lo n : Nat} {ev : List Ev} {told : List Row} {os : Nat} {ks : Int32} {kept : List Nat} {ck : Nat} {un : List Nat} (p : pCase h a ev told os ks kept ck un) (f : px_fi lo n h h1) (d : a + 9 ≤ lo ∨ lo + n ≤ a) : pCase h1 a ev told os ks kept ck un := ⟨fi_at p.1 f (by omega), pa_fi p.2.1 f (by omega), pa_fi p.2.2.1 f (by omega), pa_fi p.2.2.2.1 f (by omega), pa_fi p.2.2.2.2.1 f (by omega), pRows_fi p.2.2.2.2.2.1 f (by omega), pa_fi p.2.2.2.2.2.2.1 f (by omega), pa_fi p.2.2.2.2.2.2.2 f (by omega)⟩
def pOrd (h : px_H) (a : Nat) (ps : List Nat) : Prop := h.2.2 a = some (3, [.ref (a + 1), .int (nI ps.length)]) ∧ px_pa h (a + 1) 50 24 vN ps
theorem pOrd_fi {h h1 : px_H} {a lo n : Nat} {ps : List Nat} (p : pOrd h a ps) (f : px_fi lo n h h1) (d : a + 2 ≤ lo ∨ lo + n ≤ a) : pOrd h1 a ps := ⟨fi_at p.1 f (by omega), pa_fi p.2 f (by omega)⟩
/-- where a row goes among the first k of xs, from the right -/
def rpos (xs : List Row) (r : Row) : Nat → Nat
  | 0 => 0
  | k + 1 => if rlt r (xs.getD k (0, 0, 0)) = true then rpos xs r k else k + 1
def rins (xs : List Row) (r : Row) : List Row := xs.take (rpos xs r xs.length) ++ r :: xs.drop (rpos xs r xs.length)
def rsort (xs : List Row) : List Row := xs.foldl rins []
theorem rpos_le (xs : List Row) (r : Row) : ∀ k, rpos xs r k ≤ k
  | 0 => Nat.le_refl _
  | k + 1 => by
    unfold rpos
    split
    · exact Nat.le_succ_of_le (rpos_le xs r k)
    · exact Nat.le_refl _
theorem rins_len (xs : List Row) (r : Row) : (rins xs r).length = xs.length + 1 := by
  have := rpos_le xs r xs.length
  unfold rins
  simp
  omega
theorem rins_ok {xs : List Row} {r : Row} (h : ∀ x ∈ xs, rwOk x) (hr : rwOk r) : ∀ x ∈ rins xs r, rwOk x := by
  intro x hx
  unfold rins at hx
  rw [List.mem_append, List.mem_cons] at hx
  rcases hx with z | z | z
  · exact h x (List.mem_of_mem_take z)
  · rw [z]; exact hr
  · exact h x (List.mem_of_mem_drop z)
theorem foldl_rins_len : ∀ (ys acc : List Row), (ys.foldl rins acc).length = acc.length + ys.length
  | [], acc => rfl
  | y :: ys, acc => by rw [List.foldl_cons, foldl_rins_len ys, rins_len, List.length_cons]; omega
theorem rsort_len (xs : List Row) : (rsort xs).length = xs.length := by
  unfold rsort
  rw [foldl_rins_len]
  exact Nat.zero_add _
theorem foldl_rins_ok : ∀ (ys acc : List Row), (∀ x ∈ ys, rwOk x) → (∀ x ∈ acc, rwOk x) → ∀ x ∈ ys.foldl rins acc, rwOk x
  | [], acc, _, ha => ha
  | y :: ys, acc, hy, ha => by
    rw [List.foldl_cons]
    exact foldl_rins_ok ys _ (fun x hx => hy x (List.mem_cons_of_mem _ hx)) (rins_ok ha (hy y List.mem_cons_self))
theorem rsort_ok {xs : List Row} (h : ∀ x ∈ xs, rwOk x) : ∀ x ∈ rsort xs, rwOk x := foldl_rins_ok xs [] h (fun x hx => absurd hx (by simp))
theorem getD_mem {α : Type} {xs : List α} {i : Nat} (d : α) (hi : i < xs.length) : xs.getD i d ∈ xs := by rw [getD_lt d hi]; exact List.getElem_mem hi
theorem take_s {α : Type} {xs : List α} {i : Nat} (d : α) (hi : i < xs.length) : xs.take (i + 1) = xs.take i ++ [xs.getD i d] := by
  rw [List.take_succ, List.getD_eq_getElem?_getD, List.getElem?_eq_getElem hi]
  rfl
theorem lgc_le {x y : Int64} (h : lg_cmp x y ≤ 0) : ¬ y < x := by
  unfold lg_cmp at h
  intro z
  rw [if_pos z] at h
  exact absurd h (by decide)
theorem lgc_nle {x y : Int64} (h : ¬ lg_cmp x y ≤ 0) : y < x := by
  unfold lg_cmp at h
  by_cases z : y < x
  · exact z
  · exfalso
    rw [if_neg z] at h
    by_cases e : x = y
    · rw [if_pos e] at h
      exact h (by decide)
    · rw [if_neg e] at h
      exact h (by decide)
/-- the first place at which two lists of rows part; -3 where they are the same -/
def rfd : List Row → List Row → Nat → Int32
  | [], [], _ => -3
  | x :: r, y :: s, i => if x = y then rfd r s (i + 1) else nI i
  | _, _, i => nI i
/-- how many mutants a step has -/
def ways (s : St) : Nat := if s.1 = 102 ∨ s.1 = 109 then 5 else if s.1 = 100 ∨ s.1 = 115 then 1 else 2
def jMut : List St → Nat
  | [] => 0
  | s :: r => ways s + jMut r
def mutAt : List St → Nat → Nat × Nat
  | [], k => (0, k)
  | s :: r, k => if k < ways s then (0, k) else ((mutAt r (k - ways s)).1 + 1, (mutAt r (k - ways s)).2)
theorem ways_le (s : St) : 1 ≤ ways s ∧ ways s ≤ 5 := by
  unfold ways
  split
  · omega
  · split <;> omega
theorem jMut_le : ∀ j : List St, jMut j ≤ 5 * j.length
  | [] => Nat.le_refl _
  | s :: r => by
    have := jMut_le r
    have := (ways_le s).2
    rw [jMut, List.length_cons]
    omega
/-- is this sign one of the input A (false) or B (true) -/
def evOf (s : Nat) (b : Bool) : Bool := if b then s == 82 || s == 72 else s == 114 || s == 104
def evCnt (b : Bool) : List Ev → Nat
  | [] => 0
  | e :: r => (if evOf e.1 b then 1 else 0) + evCnt b r
theorem evCnt_le (b : Bool) : ∀ ev : List Ev, evCnt b ev ≤ ev.length
  | [] => Nat.le_refl _
  | e :: r => by
    have := evCnt_le b r
    rw [evCnt, List.length_cons]
    split <;> omega
/-- the first event of an input; the length, if there is none -/
def evNext (b : Bool) : List Ev → Nat
  | [] => 0
  | e :: r => if evOf e.1 b then 0 else evNext b r + 1
theorem evNext_le (b : Bool) : ∀ ev : List Ev, evNext b ev ≤ ev.length
  | [] => Nat.le_refl _
  | e :: r => by
    have := evNext_le b r
    rw [evNext, List.length_cons]
    split <;> omega

def radd (cap : Nat) (rs : List Row) (r : Row) : List Row := if rs.length < cap then rs ++ [r] else rs

set_option maxRecDepth 20000 in
set_option maxHeartbeats 4000000 in
theorem cc_Rows_add {h : px_H} {a cap k t : Nat} {v : Int32} {rs : List Row} (H0 : pRows h a cap rs) (p0 : 17 ≤ a) : px_wp 39 [.ref (a), .int (nI k), .int (v), .int (nI t)] h (fun h1 r => r = none ∧ pRows h1 a cap (radd cap rs (k, v, t)) ∧ px_fi a 2 h h1) := by
  have fr0 : px_fi a 2 h h := fi_rf _ _ _
  have hcap := pa_L H0.2
  have hlen := pa_len H0.2
  show px_to 39 0 [some (.ref (a)), some (.int (nI k)), some (.int (v)), some (.int (nI t)), none, none] [] h _
  refine e_aload_n f_39_0 rfl rfl ?_
  refine e_getf f_39_1 H0.1 rfl rfl ?_
  refine e_aload_n f_39_4 rfl rfl ?_
  refine e_getf f_39_5 H0.1 rfl rfl ?_
  refine e_alen_p f_39_8 (Nat.le_of_ble_eq_true rfl) H0.2 rfl ?_
  refine e_icmp_ge f_39_9 rfl (fun c_9 => ?_) (fun c_9 => ?_)
  · skip
    have c_9 : cap ≤ rs.length := cv_le (by omega) (by omega) c_9
    refine e_vret f_39_53 rfl ?_
    unfold radd
    rw [if_neg (by omega)]
    exact ⟨rfl, H0, fr0⟩
  · skip
    have c_9 : rs.length < cap := cv_nle (by omega) (by omega) c_9
    refine e_iload_n f_39_12 rfl rfl ?_
    refine e_i2l (z := v.toInt64) f_39_13 rfl rfl ?_
    refine e_ldc2 f_39_14 rfl ?_
    refine e_lsub (z := v.toInt64 - (-2147483648)) f_39_17 rfl rfl ?_
    refine e_lstore (L' := [some (.ref (a)), some (.int (nI k)), some (.int (v)), some (.int (nI t)), some (.long (v.toInt64 - (-2147483648))), none]) f_39_18 (Nat.le_of_ble_eq_true rfl) rfl rfl ?_
    refine e_aload_n f_39_20 rfl rfl ?_
    refine e_getf f_39_21 H0.1 rfl rfl ?_
    refine e_aload_n f_39_24 rfl rfl ?_
    refine e_getf f_39_25 H0.1 rfl rfl ?_
    refine e_iload_n f_39_28 rfl rfl ?_
    refine e_i2l (z := (nI k).toInt64) f_39_29 rfl rfl ?_
    refine e_bipush (v := nI 45) f_39_30 (by decide) rfl ?_
    refine e_lshl (z := ((nI k).toInt64) <<< ((nI 45).toInt64 &&& 63)) f_39_32 rfl rfl ?_
    refine e_lload f_39_33 rfl rfl ?_
    refine e_bipush (v := nI 13) f_39_35 (by decide) rfl ?_
    refine e_lshl (z := (v.toInt64 - (-2147483648)) <<< ((nI 13).toInt64 &&& 63)) f_39_37 rfl rfl ?_
    refine e_lor (z := (((nI k).toInt64) <<< ((nI 45).toInt64 &&& 63)) ||| ((v.toInt64 - (-2147483648)) <<< ((nI 13).toInt64 &&& 63))) f_39_38 rfl rfl ?_
    refine e_iload_n f_39_39 rfl rfl ?_
    refine e_i2l (z := (nI t).toInt64) f_39_40 rfl rfl ?_
    refine e_lor (z := ((((nI k).toInt64) <<< ((nI 45).toInt64 &&& 63)) ||| ((v.toInt64 - (-2147483648)) <<< ((nI 13).toInt64 &&& 63))) ||| ((nI t).toInt64)) f_39_41 rfl rfl ?_
    have g1 : h.2.2 a = some (5, [.ref (a + 1), .int (nI rs.length)]) := H0.1
    have g2 : px_pa h (a + 1) 51 cap rwP rs := H0.2
    refine e_lastore_a (xs := rs) (x := (k, v, t)) f_39_42 g2 (by omega) (rfl) (by omega) (rfl) rfl (fun h3 g4 fx5 => ?_)
    have fr6 : px_fi a 2 h h3 := fi_tr fr0 fx5 (by omega)
    refine e_aload_n f_39_43 rfl rfl ?_
    refine e_dup f_39_44 rfl rfl ?_
    have g7 : h3.2.2 a = some (5, [.ref (a + 1), .int (nI rs.length)]) := fi_at g1 fx5 (by omega)
    refine e_getf f_39_45 g7 rfl rfl ?_
    refine e_iconst (v := nI 1) f_39_48 (by decide) rfl ?_
    refine e_iadd (z := nI (rs.length + 1)) f_39_49 (nI_add _ _) rfl ?_
    refine e_putp (vs' := [.ref (a + 1), .int (nI (rs.length + 1))]) f_39_50 g7 (Nat.le_of_ble_eq_true rfl) (rfl) (rfl) rfl rfl (fun h8 g9 fx10 => ?_)
    have fr11 : px_fi a 2 h h8 := fi_tr fr6 fx10 (by omega)
    refine e_vret f_39_53 rfl ?_
    have g12 : px_pa h8 (a + 1) 51 cap rwP (rs ++ [(k, v, t)]) := pa_fi g4 fx10 (by omega)
    unfold radd
    rw [if_pos (by omega)]
    exact ⟨rfl, ⟨by rw [List.length_append]; exact g9, g12⟩, fr11⟩

set_option maxRecDepth 20000 in
set_option maxHeartbeats 4000000 in
theorem cc_Rows_cutTo {h : px_H} {a cap k : Nat} {rs : List Row} (H0 : pRows h a cap rs) (p0 : k < 2 ^ 31) : px_wp 40 [.ref (a), .int (nI k)] h (fun h1 r => r = none ∧ pRows h1 a cap (rs.take k) ∧ px_fi a 2 h h1) := by
  have fr0 : px_fi a 2 h h := fi_rf _ _ _
  have hcap := pa_L H0.2
  have hlen := pa_len H0.2
  show px_to 40 0 [some (.ref (a)), some (.int (nI k))] [] h _
  refine e_aload_n f_40_0 rfl rfl ?_
  refine e_iconst (v := nI 0) f_40_1 (by decide) rfl ?_
  refine e_aload_n f_40_2 rfl rfl ?_
  refine e_getf f_40_3 H0.1 rfl rfl ?_
  refine e_iload_n f_40_6 rfl rfl ?_
  refine e_minN f_40_7 (by omega) (by omega) (Nat.le_of_ble_eq_true rfl) rfl ?_
  refine e_maxN f_40_10 (by omega) (by omega) (Nat.le_of_ble_eq_true rfl) rfl ?_
  have g1 : h.2.2 a = some (5, [.ref (a + 1), .int (nI rs.length)]) := H0.1
  have g2 : px_pa h (a + 1) 51 cap rwP rs := H0.2
  refine e_putp (vs' := [.ref (a + 1), .int (nI (max 0 (min rs.length k)))]) f_40_13 g1 (Nat.le_of_ble_eq_true rfl) (rfl) (rfl) rfl rfl (fun h3 g4 fx5 => ?_)
  have fr6 : px_fi a 2 h h3 := fi_tr fr0 fx5 (by omega)
  refine e_vret f_40_16 rfl ?_
  have g7 : px_pa h3 (a + 1) 51 cap rwP rs := pa_fi g2 fx5 (by omega)
  exact ⟨rfl, ⟨by rw [List.length_take, show min k rs.length = max 0 (min rs.length k) by omega]; exact g4, pa_take g7 _⟩, fr6⟩

set_option maxRecDepth 20000 in
set_option maxHeartbeats 4000000 in
theorem cc_Rows_keyAt {h : px_H} {a cap i : Nat} {rs : List Row} (H0 : pRows h a cap rs) (p0 : i < rs.length) (p1 : ∀ r ∈ rs, rwOk r) : px_wp 41 [.ref (a), .int (nI i)] h (fun h1 r => r = some (.int (nI ((rs.getD i (0, 0, 0)).1))) ∧ h1 = h) := by
  have hcap := pa_L H0.2
  have hlen := pa_len H0.2
  show px_to 41 0 [some (.ref (a)), some (.int (nI i))] [] h _
  refine e_iload_n f_41_0 rfl rfl ?_
  refine e_if_lt_f f_41_1 (nI_pos (by omega)) rfl ?_
  refine e_iload_n f_41_4 rfl rfl ?_
  refine e_aload_n f_41_5 rfl rfl ?_
  refine e_getf f_41_6 H0.1 rfl rfl ?_
  refine e_icmp_lt f_41_9 rfl (fun c_9 => ?_) (fun c_9 => ?_)
  · skip
    have c_9 : i < rs.length := cv_lt (by omega) (by omega) c_9
    refine e_aload_n f_41_16 rfl rfl ?_
    refine e_getf f_41_17 H0.1 rfl rfl ?_
    refine e_iload_n f_41_20 rfl rfl ?_
    refine e_laload_p (xs := rs) f_41_21 H0.2 (d := (0, 0, 0)) (by first | omega | (simp only [List.length_set]; omega)) rfl ?_
    show px_to 41 22 [some (.ref (a)), some (.int (nI i))] [.long (rw_pk (nI (rs.getD i (0, 0, 0)).1) (rs.getD i (0, 0, 0)).2.1 (nI (rs.getD i (0, 0, 0)).2.2))] h _
    refine e_bipush (v := nI 45) f_41_22 (by decide) rfl ?_
    refine e_lshr (z := (rw_pk (nI (rs.getD i (0, 0, 0)).1) (rs.getD i (0, 0, 0)).2.1 (nI (rs.getD i (0, 0, 0)).2.2)) >>> ((nI 45).toInt64 &&& 63)) f_41_24 rfl rfl ?_
    refine e_l2i (z := ((rw_pk (nI (rs.getD i (0, 0, 0)).1) (rs.getD i (0, 0, 0)).2.1 (nI (rs.getD i (0, 0, 0)).2.2)) >>> ((nI 45).toInt64 &&& 63)).toInt32) f_41_25 rfl rfl ?_
    refine e_iret f_41_26 rfl (rfl) ?_
    first | (exfalso; omega) | exact ⟨congrArg (fun z => some (Value.int z)) (rw_key (p1 _ (getD_mem _ p0))), rfl⟩
  · skip
    have c_9 : rs.length ≤ i := cv_nlt (by omega) (by omega) c_9
    refine e_iconst (v := nI 0) f_41_12 (by decide) rfl ?_
    refine e_goto f_41_13 ?_
    refine e_iret f_41_26 rfl (rfl) ?_
    first | (exfalso; omega) | exact ⟨congrArg (fun z => some (Value.int z)) (rw_key (p1 _ (getD_mem _ p0))), rfl⟩

set_option maxRecDepth 20000 in
set_option maxHeartbeats 4000000 in
theorem cc_Rows_valueAt {h : px_H} {a cap i : Nat} {rs : List Row} (H0 : pRows h a cap rs) (p0 : i < rs.length) (p1 : ∀ r ∈ rs, rwOk r) : px_wp 42 [.ref (a), .int (nI i)] h (fun h1 r => r = some (.int ((rs.getD i (0, 0, 0)).2.1)) ∧ h1 = h) := by
  have hcap := pa_L H0.2
  have hlen := pa_len H0.2
  show px_to 42 0 [some (.ref (a)), some (.int (nI i))] [] h _
  refine e_iload_n f_42_0 rfl rfl ?_
  refine e_if_lt_f f_42_1 (nI_pos (by omega)) rfl ?_
  refine e_iload_n f_42_4 rfl rfl ?_
  refine e_aload_n f_42_5 rfl rfl ?_
  refine e_getf f_42_6 H0.1 rfl rfl ?_
  refine e_icmp_lt f_42_9 rfl (fun c_9 => ?_) (fun c_9 => ?_)
  · skip
    have c_9 : i < rs.length := cv_lt (by omega) (by omega) c_9
    refine e_aload_n f_42_16 rfl rfl ?_
    refine e_getf f_42_17 H0.1 rfl rfl ?_
    refine e_iload_n f_42_20 rfl rfl ?_
    refine e_laload_p (xs := rs) f_42_21 H0.2 (d := (0, 0, 0)) (by first | omega | (simp only [List.length_set]; omega)) rfl ?_
    show px_to 42 22 [some (.ref (a)), some (.int (nI i))] [.long (rw_pk (nI (rs.getD i (0, 0, 0)).1) (rs.getD i (0, 0, 0)).2.1 (nI (rs.getD i (0, 0, 0)).2.2))] h _
    refine e_bipush (v := nI 13) f_42_22 (by decide) rfl ?_
    refine e_lshr (z := (rw_pk (nI (rs.getD i (0, 0, 0)).1) (rs.getD i (0, 0, 0)).2.1 (nI (rs.getD i (0, 0, 0)).2.2)) >>> ((nI 13).toInt64 &&& 63)) f_42_24 rfl rfl ?_
    refine e_l2i (z := ((rw_pk (nI (rs.getD i (0, 0, 0)).1) (rs.getD i (0, 0, 0)).2.1 (nI (rs.getD i (0, 0, 0)).2.2)) >>> ((nI 13).toInt64 &&& 63)).toInt32) f_42_25 rfl rfl ?_
    refine e_ldc f_42_26 rfl ?_
    refine e_iadd (z := (((rw_pk (nI (rs.getD i (0, 0, 0)).1) (rs.getD i (0, 0, 0)).2.1 (nI (rs.getD i (0, 0, 0)).2.2)) >>> ((nI 13).toInt64 &&& 63)).toInt32) + (-2147483648)) f_42_28 rfl rfl ?_
    refine e_iret f_42_29 rfl (rfl) ?_
    first | (exfalso; omega) | exact ⟨congrArg (fun z => some (Value.int z)) (rw_val (p1 _ (getD_mem _ p0))), rfl⟩
  · skip
    have c_9 : rs.length ≤ i := cv_nlt (by omega) (by omega) c_9
    refine e_iconst (v := nI 0) f_42_12 (by decide) rfl ?_
    refine e_goto f_42_13 ?_
    refine e_iret f_42_29 rfl (rfl) ?_
    first | (exfalso; omega) | exact ⟨congrArg (fun z => some (Value.int z)) (rw_val (p1 _ (getD_mem _ p0))), rfl⟩

set_option maxRecDepth 20000 in
set_option maxHeartbeats 4000000 in
theorem cc_Rows_timeAt {h : px_H} {a cap i : Nat} {rs : List Row} (H0 : pRows h a cap rs) (p0 : i < rs.length) (p1 : ∀ r ∈ rs, rwOk r) : px_wp 43 [.ref (a), .int (nI i)] h (fun h1 r => r = some (.int (nI ((rs.getD i (0, 0, 0)).2.2))) ∧ h1 = h) := by
  have hcap := pa_L H0.2
  have hlen := pa_len H0.2
  show px_to 43 0 [some (.ref (a)), some (.int (nI i))] [] h _
  refine e_iload_n f_43_0 rfl rfl ?_
  refine e_if_lt_f f_43_1 (nI_pos (by omega)) rfl ?_
  refine e_iload_n f_43_4 rfl rfl ?_
  refine e_aload_n f_43_5 rfl rfl ?_
  refine e_getf f_43_6 H0.1 rfl rfl ?_
  refine e_icmp_lt f_43_9 rfl (fun c_9 => ?_) (fun c_9 => ?_)
  · skip
    have c_9 : i < rs.length := cv_lt (by omega) (by omega) c_9
    refine e_aload_n f_43_16 rfl rfl ?_
    refine e_getf f_43_17 H0.1 rfl rfl ?_
    refine e_iload_n f_43_20 rfl rfl ?_
    refine e_laload_p (xs := rs) f_43_21 H0.2 (d := (0, 0, 0)) (by first | omega | (simp only [List.length_set]; omega)) rfl ?_
    show px_to 43 22 [some (.ref (a)), some (.int (nI i))] [.long (rw_pk (nI (rs.getD i (0, 0, 0)).1) (rs.getD i (0, 0, 0)).2.1 (nI (rs.getD i (0, 0, 0)).2.2))] h _
    refine e_l2i (z := (rw_pk (nI (rs.getD i (0, 0, 0)).1) (rs.getD i (0, 0, 0)).2.1 (nI (rs.getD i (0, 0, 0)).2.2)).toInt32) f_43_22 rfl rfl ?_
    refine e_sipush (v := nI 8191) f_43_23 (by decide) rfl ?_
    refine e_iand (z := ((rw_pk (nI (rs.getD i (0, 0, 0)).1) (rs.getD i (0, 0, 0)).2.1 (nI (rs.getD i (0, 0, 0)).2.2)).toInt32) &&& (nI 8191)) f_43_26 rfl rfl ?_
    refine e_iret f_43_27 rfl (rfl) ?_
    first | (exfalso; omega) | exact ⟨congrArg (fun z => some (Value.int z)) (rw_time (p1 _ (getD_mem _ p0))), rfl⟩
  · skip
    have c_9 : rs.length ≤ i := cv_nlt (by omega) (by omega) c_9
    refine e_iconst (v := nI 0) f_43_12 (by decide) rfl ?_
    refine e_goto f_43_13 ?_
    refine e_iret f_43_27 rfl (rfl) ?_
    first | (exfalso; omega) | exact ⟨congrArg (fun z => some (Value.int z)) (rw_time (p1 _ (getD_mem _ p0))), rfl⟩

theorem rfd_step {xs ys : List Row} {i : Nat} (h1 : i < xs.length) (h2 : i < ys.length) : rfd (xs.drop i) (ys.drop i) i = if xs.getD i (0, 0, 0) = ys.getD i (0, 0, 0) then rfd (xs.drop (i + 1)) (ys.drop (i + 1)) (i + 1) else nI i := by
  rw [drop_step (0, 0, 0) h1, drop_step (0, 0, 0) h2, rfd]
theorem rfd_end {xs ys : List Row} {i : Nat} (h : xs.length ≤ i ∨ ys.length ≤ i) (hi : i ≤ xs.length) (hj : i ≤ ys.length) : rfd (xs.drop i) (ys.drop i) i = if xs.length = ys.length then -3 else nI i := by
  rcases Nat.lt_or_ge i xs.length with h1 | h1
  · have h2 : ys.length ≤ i := by omega
    rw [if_neg (by omega), List.drop_eq_getElem_cons h1, List.drop_eq_nil_of_le h2]
    rfl
  · rcases Nat.lt_or_ge i ys.length with h2 | h2
    · rw [if_neg (by omega), List.drop_eq_getElem_cons h2, List.drop_eq_nil_of_le h1]
      rfl
    · rw [if_pos (by omega), List.drop_eq_nil_of_le h1, List.drop_eq_nil_of_le h2]
      rfl

set_option maxRecDepth 20000 in
set_option maxHeartbeats 4000000 in
theorem ll_Rows_fd {P : px_H → Option Value → Prop} {h : px_H} {a b ca cb : Nat} {rs ss : List Row} {res : Int32} (H0 : pRows h a ca rs) (H1 : pRows h b cb ss) (p0 : ∀ r ∈ rs, rwOk r) (p1 : ∀ r ∈ ss, rwOk r) (hk : ∀ {r}, r = some (.int res) → P h r) : ∀ (d : Nat) (i : Nat), (min rs.length ss.length ≤ i + d) → (i ≤ min rs.length ss.length) → (rfd (rs.drop i) (ss.drop i) i = res) → px_to 45 14 [some (.ref (a)), some (.ref (b)), some (.int (nI (min rs.length ss.length))), some (.int (nI i))] [] h P := by
  intro d
  induction d using Nat.strongRecOn with
  | ind d ih =>
    intro i q0 q1 q2
    have la := pa_len H0.2
    have lb := pa_len H1.2
    have ma := pa_L H0.2
    have mb := pa_L H1.2
    refine e_iload_n f_45_14 rfl rfl ?_
    refine e_iload_n f_45_15 rfl rfl ?_
    refine e_icmp_ge f_45_16 rfl (fun c_16 => ?_) (fun c_16 => ?_)
    · skip
      have c_16 : min rs.length ss.length ≤ i := cv_le (by omega) (by omega) c_16
      refine e_aload_n f_45_43 rfl rfl ?_
      refine e_getf f_45_44 H0.1 rfl rfl ?_
      refine e_aload_n f_45_47 rfl rfl ?_
      refine e_getf f_45_48 H1.1 rfl rfl ?_
      refine e_icmp_ne f_45_51 rfl (fun c_51 => ?_) (fun c_51 => ?_)
      · skip
        have c_51 : rs.length ≠ ss.length := cv_ne c_51
        refine e_iload_n f_45_59 rfl rfl ?_
        refine e_iret f_45_60 rfl (rfl) ?_
        rw [rfd_end (by omega) (by omega) (by omega)] at q2
        first | (rw [if_pos (by omega)] at q2; exact hk (by rw [q2])) | (rw [if_neg (by omega)] at q2; exact hk (by rw [← q2]; exact congrArg (fun z => some (Value.int (nI z))) (by omega)))
      · skip
        have c_51 : rs.length = ss.length := cv_nne (by omega) (by omega) c_51
        refine e_bipush (v := (-3)) f_45_54 (by decide) rfl ?_
        refine e_goto f_45_56 ?_
        refine e_iret f_45_60 rfl (rfl) ?_
        rw [rfd_end (by omega) (by omega) (by omega)] at q2
        first | (rw [if_pos (by omega)] at q2; exact hk (by rw [q2])) | (rw [if_neg (by omega)] at q2; exact hk (by rw [← q2]; exact congrArg (fun z => some (Value.int (nI z))) (by omega)))
    · skip
      have c_16 : i < min rs.length ss.length := cv_nle (by omega) (by omega) c_16
      refine e_aload_n f_45_19 rfl rfl ?_
      refine e_getf f_45_20 H0.1 rfl rfl ?_
      refine e_iload_n f_45_23 rfl rfl ?_
      refine e_laload_p (xs := rs) f_45_24 H0.2 (d := (0, 0, 0)) (by first | omega | (simp only [List.length_set]; omega)) rfl ?_
      show px_to 45 25 [some (.ref (a)), some (.ref (b)), some (.int (nI (min rs.length ss.length))), some (.int (nI i))] [.long (rw_pk (nI (rs.getD i (0, 0, 0)).1) (rs.getD i (0, 0, 0)).2.1 (nI (rs.getD i (0, 0, 0)).2.2))] h _
      refine e_aload_n f_45_25 rfl rfl ?_
      refine e_getf f_45_26 H1.1 rfl rfl ?_
      refine e_iload_n f_45_29 rfl rfl ?_
      refine e_laload_p (xs := ss) f_45_30 H1.2 (d := (0, 0, 0)) (by first | omega | (simp only [List.length_set]; omega)) rfl ?_
      show px_to 45 31 [some (.ref (a)), some (.ref (b)), some (.int (nI (min rs.length ss.length))), some (.int (nI i))] [.long (rw_pk (nI (ss.getD i (0, 0, 0)).1) (ss.getD i (0, 0, 0)).2.1 (nI (ss.getD i (0, 0, 0)).2.2)), .long (rw_pk (nI (rs.getD i (0, 0, 0)).1) (rs.getD i (0, 0, 0)).2.1 (nI (rs.getD i (0, 0, 0)).2.2))] h _
      refine e_lcmp f_45_31 rfl ?_
      refine e_if_eq f_45_32 rfl (fun c_32 => ?_) (fun c_32 => ?_)
      · skip
        refine e_iinc (y := nI (i + 1)) (L' := [some (.ref (a)), some (.ref (b)), some (.int (nI (min rs.length ss.length))), some (.int (nI (i + 1)))]) f_45_37 rfl (by rw [show Int32.ofInt 1 = nI 1 by decide]; exact (nI_add _ _)) rfl rfl ?_
        refine e_goto f_45_40 ?_
        first | (exfalso; omega) | exact ih (d - 1) (by omega) (i + 1)  (by omega) (by omega) (by rw [rfd_step (by omega) (by omega), if_pos ((rw_eq (p0 _ (getD_mem _ (by omega))) (p1 _ (getD_mem _ (by omega)))).mp ((lg_cmp0 _ _).mp c_32))] at q2; exact q2)  
      · skip
        refine e_iload_n f_45_35 rfl rfl ?_
        refine e_iret f_45_36 rfl (rfl) ?_
        rw [rfd_step (by omega) (by omega), if_neg (fun z => c_32 ((lg_cmp0 _ _).mpr ((rw_eq (p0 _ (getD_mem _ (by omega))) (p1 _ (getD_mem _ (by omega)))).mpr z)))] at q2
        exact hk (by rw [q2])

set_option maxRecDepth 20000 in
set_option maxHeartbeats 4000000 in
theorem cc_Rows_fd {h : px_H} {a b ca cb : Nat} {rs ss : List Row} (H0 : pRows h a ca rs) (H1 : pRows h b cb ss) (p0 : ∀ r ∈ rs, rwOk r) (p1 : ∀ r ∈ ss, rwOk r) : px_wp 45 [.ref (a), .ref (b)] h (fun h1 r => r = some (.int (rfd rs ss 0)) ∧ h1 = h) := by
  have la := pa_len H0.2
  have lb := pa_len H1.2
  have ma := pa_L H0.2
  have mb := pa_L H1.2
  show px_to 45 0 [some (.ref (a)), some (.ref (b)), none, none] [] h _
  refine e_aload_n f_45_0 rfl rfl ?_
  refine e_getf f_45_1 H0.1 rfl rfl ?_
  refine e_aload_n f_45_4 rfl rfl ?_
  refine e_getf f_45_5 H1.1 rfl rfl ?_
  refine e_minN f_45_8 (by omega) (by omega) (Nat.le_of_ble_eq_true rfl) rfl ?_
  refine e_istore_n (L' := [some (.ref (a)), some (.ref (b)), some (.int (nI (min rs.length ss.length))), none]) f_45_11 (Nat.le_of_ble_eq_true rfl) rfl rfl ?_
  refine e_iconst (v := nI 0) f_45_12 (by decide) rfl ?_
  refine e_istore_n (L' := [some (.ref (a)), some (.ref (b)), some (.int (nI (min rs.length ss.length))), some (.int (nI 0))]) f_45_13 (Nat.le_of_ble_eq_true rfl) rfl rfl ?_
  exact ll_Rows_fd H0 H1 p0 p1 (fun e => ⟨e, rfl⟩) (min rs.length ss.length) 0 (by omega) (by omega) rfl

set_option maxRecDepth 20000 in
set_option maxHeartbeats 4000000 in
theorem ll_Rows_ins {P : px_H → Option Value → Prop} {h0 : px_H} {a b ca i p0 : Nat} {acc : List Row} {r : Row} (h17 : 17 ≤ a) (hca : ca < 2 ^ 31) (ho1 : rwOk r) (ho2 : ∀ x ∈ acc, rwOk x) (kx : ∀ g, g.2.2 a = some (5, [.ref (a + 1), .int (nI acc.length)]) → px_ho g (a + 1) 51 ca rwP (acc.take p0) (acc.drop p0) → px_fi a 2 h0 g → px_to 44 78 [some (.ref (a)), some (.ref (b)), some (.int (nI i)), some (.long (rw_pk (nI r.1) r.2.1 (nI r.2.2))), none, some (.int (nI p0))] [] g P) : ∀ (d : Nat) (p : Nat) (g : px_H), (p ≤ d) → (p ≤ acc.length) → (rpos acc r p = p0) → (acc.length < ca) → g.2.2 a = some (5, [.ref (a + 1), .int (nI acc.length)]) → px_ho g (a + 1) 51 ca rwP (acc.take p) (acc.drop p) → px_fi a 2 h0 g → px_to 44 37 [some (.ref (a)), some (.ref (b)), some (.int (nI i)), some (.long (rw_pk (nI r.1) r.2.1 (nI r.2.2))), none, some (.int (nI p))] [] g P := by
  intro d
  induction d using Nat.strongRecOn with
  | ind d ih =>
    intro p g q0 q1 q2 q3 G0 G1 frg
    refine e_iload f_44_37 rfl rfl ?_
    refine e_if_le f_44_39 rfl (fun c_39 => ?_) (fun c_39 => ?_)
    · skip
      rw [← nI_0] at c_39
      have c_39 : p ≤ 0 := cv_le (by omega) (by omega) c_39
      have e : p = p0 := by have z : p = 0 := (by omega); subst z; exact q2
      subst e
      exact kx g G0 G1 frg
    · skip
      rw [← nI_0] at c_39
      have c_39 : 0 < p := cv_nle (by omega) (by omega) c_39
      obtain ⟨k, rfl⟩ : ∃ k, p = k + 1 := ⟨p - 1, by omega⟩
      refine e_aload_n f_44_42 rfl rfl ?_
      refine e_getf f_44_43 G0 rfl rfl ?_
      refine e_iload f_44_46 rfl rfl ?_
      refine e_iconst (v := nI 1) f_44_48 (by decide) rfl ?_
      refine e_isub (z := nI k) f_44_49 ((pk_sub (by omega)).trans (congrArg nI (by omega))) rfl ?_
      refine e_laload_h f_44_50 G1 (d := (0, 0, 0)) (by omega) (by omega) rfl ?_
      show px_to 44 51 [some (.ref (a)), some (.ref (b)), some (.int (nI i)), some (.long (rw_pk (nI r.1) r.2.1 (nI r.2.2))), none, some (.int (nI (k + 1)))] [.long (rw_pk (nI (acc.getD k (0, 0, 0)).1) (acc.getD k (0, 0, 0)).2.1 (nI (acc.getD k (0, 0, 0)).2.2))] g _
      refine e_lload_n f_44_51 rfl rfl ?_
      refine e_lcmp f_44_52 rfl ?_
      refine e_if_le f_44_53 rfl (fun c_53 => ?_) (fun c_53 => ?_)
      · skip
        have e : k + 1 = p0 := by rw [rpos, if_neg (fun z => lgc_le c_53 ((rw_lt ho1 (ho2 _ (getD_mem _ (by omega)))).mpr z))] at q2; exact q2
        subst e
        exact kx g G0 G1 frg
      · skip
        refine e_aload_n f_44_56 rfl rfl ?_
        refine e_getf f_44_57 G0 rfl rfl ?_
        refine e_iload f_44_60 rfl rfl ?_
        refine e_aload_n f_44_62 rfl rfl ?_
        refine e_getf f_44_63 G0 rfl rfl ?_
        refine e_iload f_44_66 rfl rfl ?_
        refine e_iconst (v := nI 1) f_44_68 (by decide) rfl ?_
        refine e_isub (z := nI k) f_44_69 ((pk_sub (by omega)).trans (congrArg nI (by omega))) rfl ?_
        refine e_laload_h f_44_70 G1 (d := (0, 0, 0)) (by omega) (by omega) rfl ?_
        show px_to 44 71 [some (.ref (a)), some (.ref (b)), some (.int (nI i)), some (.long (rw_pk (nI r.1) r.2.1 (nI r.2.2))), none, some (.int (nI (k + 1)))] [.long (rw_pk (nI (acc.getD k (0, 0, 0)).1) (acc.getD k (0, 0, 0)).2.1 (nI (acc.getD k (0, 0, 0)).2.2)), .int (nI (k + 1)), .ref (a + 1)] g _
        refine e_lastore_h (k := k) (d := (0, 0, 0)) f_44_71 G1 (by omega) (by first | omega | (simp only [List.length_set]; omega)) (rfl) rfl (fun h1 g2 fx3 => ?_)
        have fr4 : px_fi a 2 h0 h1 := fi_tr frg fx3 (by omega)
        refine e_iinc (y := nI k) (L' := [some (.ref (a)), some (.ref (b)), some (.int (nI i)), some (.long (rw_pk (nI r.1) r.2.1 (nI r.2.2))), none, some (.int (nI k))]) f_44_72 rfl (by rw [show Int32.ofInt (-1) = (-1) by decide]; exact pk_m1 _) rfl rfl ?_
        refine e_goto f_44_75 ?_
        have g5 : h1.2.2 a = some (5, [.ref (a + 1), .int (nI acc.length)]) := fi_at G0 fx3 (by omega)
        first | (exfalso; omega) | exact ih (d - 1) (by omega) k h1 (by omega) (by omega) (by rw [rpos, if_pos ((rw_lt ho1 (ho2 _ (getD_mem _ (by omega)))).mp (lgc_nle c_53))] at q2; exact q2) (by omega) g5 g2 fr4

set_option maxRecDepth 20000 in
set_option maxHeartbeats 4000000 in
theorem ll_Rows_sortO {h0 : px_H} {a b ca cb : Nat} {ss : List Row} (H1 : pRows h0 b cb ss) (h17 : 17 ≤ a) (hca : ca < 2 ^ 31) (p1 : ss.length ≤ ca) (p2 : a + 2 ≤ b ∨ b + 2 ≤ a) (p3 : ∀ r ∈ ss, rwOk r) : ∀ (d : Nat) (i : Nat) (acc : List Row) (g : px_H), (ss.length ≤ i + d) → (i ≤ ss.length) → ((ss.drop i).foldl rins acc = rsort ss) → (∀ x ∈ acc, rwOk x) → (acc.length = i) → g.2.2 a = some (5, [.ref (a + 1), .int (nI acc.length)]) → px_pa g (a + 1) 51 ca rwP acc → px_fi a 2 h0 g → px_to 44 7 [some (.ref (a)), some (.ref (b)), some (.int (nI i)), none, none, none] [] g (fun h1 r => r = none ∧ pRows h1 a ca (rsort ss) ∧ px_fi a 2 h0 h1) := by
  intro d
  induction d using Nat.strongRecOn with
  | ind d ih =>
    intro i acc g q0 q1 q2 q3 q4 G0 G1 frg
    have la := pa_len H1.2
    refine e_iload_n f_44_7 rfl rfl ?_
    refine e_aload_n f_44_8 rfl rfl ?_
    have g1 : pRows g b cb ss := pRows_fi H1 frg (by omega)
    refine e_getf f_44_9 g1.1 rfl rfl ?_
    refine e_icmp_ge f_44_12 rfl (fun c_12 => ?_) (fun c_12 => ?_)
    · skip
      have c_12 : ss.length ≤ i := cv_le (by omega) (by omega) c_12
      have e : acc = rsort ss := by rw [List.drop_eq_nil_of_le (by omega)] at q2; exact q2
      subst e
      refine e_vret f_44_102 rfl ?_
      exact ⟨rfl, ⟨G0, G1⟩, frg⟩
    · skip
      have c_12 : i < ss.length := cv_nle (by omega) (by omega) c_12
      refine e_iload_n f_44_15 rfl rfl ?_
      refine e_aload_n f_44_16 rfl rfl ?_
      refine e_getf f_44_17 G0 rfl rfl ?_
      refine e_alen_p f_44_20 (Nat.le_of_ble_eq_true rfl) G1 rfl ?_
      refine e_icmp_ge f_44_21 rfl (fun c_21 => ?_) (fun c_21 => ?_)
      · skip
        have c_21 : ca ≤ i := cv_le (by omega) (by omega) c_21
        have e : acc = rsort ss := by rw [List.drop_eq_nil_of_le (by omega)] at q2; exact q2
        subst e
        refine e_vret f_44_102 rfl ?_
        exact ⟨rfl, ⟨G0, G1⟩, frg⟩
      · skip
        have c_21 : i < ca := cv_nle (by omega) (by omega) c_21
        refine e_aload_n f_44_24 rfl rfl ?_
        refine e_getf f_44_25 g1.1 rfl rfl ?_
        refine e_iload_n f_44_28 rfl rfl ?_
        refine e_laload_p (xs := ss) f_44_29 g1.2 (d := (0, 0, 0)) (by first | omega | (simp only [List.length_set]; omega)) rfl ?_
        show px_to 44 30 [some (.ref (a)), some (.ref (b)), some (.int (nI i)), none, none, none] [.long (rw_pk (nI (ss.getD i (0, 0, 0)).1) (ss.getD i (0, 0, 0)).2.1 (nI (ss.getD i (0, 0, 0)).2.2))] g _
        refine e_lstore_n (L' := [some (.ref (a)), some (.ref (b)), some (.int (nI i)), some (.long (rw_pk (nI (ss.getD i (0, 0, 0)).1) (ss.getD i (0, 0, 0)).2.1 (nI (ss.getD i (0, 0, 0)).2.2))), none, none]) f_44_30 (Nat.le_of_ble_eq_true rfl) rfl rfl ?_
        refine e_aload_n f_44_31 rfl rfl ?_
        refine e_getf f_44_32 G0 rfl rfl ?_
        refine e_istore (L' := [some (.ref (a)), some (.ref (b)), some (.int (nI i)), some (.long (rw_pk (nI (ss.getD i (0, 0, 0)).1) (ss.getD i (0, 0, 0)).2.1 (nI (ss.getD i (0, 0, 0)).2.2))), none, some (.int (nI acc.length))]) f_44_35 (Nat.le_of_ble_eq_true rfl) rfl rfl ?_
        have hsi : rwOk (ss.getD i (0, 0, 0)) := p3 _ (getD_mem _ (by omega))
        have hpo := rpos_le acc (ss.getD i (0, 0, 0)) acc.length
        refine ll_Rows_ins (h0 := h0) (b := b) (i := i) (p0 := rpos acc (ss.getD i (0, 0, 0)) acc.length) h17 (by omega) hsi q3 (fun g1 z1 z2 z3 => ?_) acc.length acc.length g (by omega) (by omega) rfl (by omega) G0 (ho_of G1 (by omega)) frg
        refine e_aload_n f_44_78 rfl rfl ?_
        refine e_getf f_44_79 z1 rfl rfl ?_
        refine e_iload f_44_82 rfl rfl ?_
        refine e_lload_n f_44_84 rfl rfl ?_
        refine e_lastore_f (x := ss.getD i (0, 0, 0)) f_44_85 z2 (by omega) (by first | omega | (simp only [List.length_set]; omega)) (rfl) rfl (fun h2 g3 fx4 => ?_)
        have fr5 : px_fi a 2 h0 h2 := fi_tr z3 fx4 (by omega)
        refine e_aload_n f_44_86 rfl rfl ?_
        refine e_dup f_44_87 rfl rfl ?_
        have g6 : h2.2.2 a = some (5, [.ref (a + 1), .int (nI acc.length)]) := fi_at z1 fx4 (by omega)
        refine e_getf f_44_88 g6 rfl rfl ?_
        refine e_iconst (v := nI 1) f_44_91 (by decide) rfl ?_
        refine e_iadd (z := nI (acc.length + 1)) f_44_92 (nI_add _ _) rfl ?_
        refine e_putp (vs' := [.ref (a + 1), .int (nI (acc.length + 1))]) f_44_93 g6 (Nat.le_of_ble_eq_true rfl) (rfl) (rfl) rfl rfl (fun h7 g8 fx9 => ?_)
        have fr10 : px_fi a 2 h0 h7 := fi_tr fr5 fx9 (by omega)
        refine e_iinc (y := nI (i + 1)) (L' := [some (.ref (a)), some (.ref (b)), some (.int (nI (i + 1))), some (.long (rw_pk (nI (ss.getD i (0, 0, 0)).1) (ss.getD i (0, 0, 0)).2.1 (nI (ss.getD i (0, 0, 0)).2.2))), none, some (.int (nI (rpos acc (ss.getD i (0, 0, 0)) acc.length)))]) f_44_96 rfl (by rw [show Int32.ofInt 1 = nI 1 by decide]; exact (nI_add _ _)) rfl rfl ?_
        refine e_goto f_44_99 ?_
        have g11 : h7.2.2 a = some (5, [.ref (a + 1), .int (nI ((rins acc (ss.getD i (0, 0, 0))).length))]) := by rw [rins_len]; exact g8
        refine px_to_L (L := [some (.ref (a)), some (.ref (b)), some (.int (nI (i + 1))), none, none, none]) ⟨Or.inr rfl, Or.inr rfl, Or.inr rfl, Or.inl rfl, Or.inr rfl, Or.inl rfl, trivial⟩ ?_
        have g12 : px_pa h7 (a + 1) 51 ca rwP (acc.take (rpos acc (ss.getD i (0, 0, 0)) acc.length) ++ (ss.getD i (0, 0, 0)) :: acc.drop (rpos acc (ss.getD i (0, 0, 0)) acc.length)) := pa_fi g3 fx9 (by omega)
        first | (exfalso; omega) | exact ih (d - 1) (by omega) (i + 1) (rins acc (ss.getD i (0, 0, 0))) h7 (by omega) (by omega) (by rw [drop_step (0, 0, 0) (show i < ss.length by omega)] at q2; exact q2) (rins_ok q3 hsi) (by rw [rins_len]; omega) g11 g12 fr10

set_option maxRecDepth 20000 in
set_option maxHeartbeats 4000000 in
theorem cc_Rows_sort {h : px_H} {a b ca cb : Nat} {rs ss : List Row} (H0 : pRows h a ca rs) (H1 : pRows h b cb ss) (p0 : 17 ≤ a) (p1 : ss.length ≤ ca) (p2 : a + 2 ≤ b ∨ b + 2 ≤ a) (p3 : ∀ r ∈ ss, rwOk r) : px_wp 44 [.ref (a), .ref (b)] h (fun h1 r => r = none ∧ pRows h1 a ca (rsort ss) ∧ px_fi a 2 h h1) := by
  have fr0 : px_fi a 2 h h := fi_rf _ _ _
  have la := pa_len H0.2
  have lb := pa_len H1.2
  have hca := pa_L H0.2
  show px_to 44 0 [some (.ref (a)), some (.ref (b)), none, none, none, none] [] h _
  refine e_aload_n f_44_0 rfl rfl ?_
  refine e_iconst (v := nI 0) f_44_1 (by decide) rfl ?_
  have g1 : h.2.2 a = some (5, [.ref (a + 1), .int (nI rs.length)]) := H0.1
  have g2 : px_pa h (a + 1) 51 ca rwP rs := H0.2
  refine e_putp (vs' := [.ref (a + 1), .int (nI 0)]) f_44_2 g1 (Nat.le_of_ble_eq_true rfl) (rfl) (rfl) rfl rfl (fun h3 g4 fx5 => ?_)
  have fr6 : px_fi a 2 h h3 := fi_tr fr0 fx5 (by omega)
  refine e_iconst (v := nI 0) f_44_5 (by decide) rfl ?_
  refine e_istore_n (L' := [some (.ref (a)), some (.ref (b)), some (.int (nI 0)), none, none, none]) f_44_6 (Nat.le_of_ble_eq_true rfl) rfl rfl ?_
  have g7 : px_pa h3 (a + 1) 51 ca rwP rs := pa_fi g2 fx5 (by omega)
  exact ll_Rows_sortO (h0 := h) H1 p0 hca p1 p2 p3 ss.length 0 [] h3 (by omega) (by omega) rfl (fun x hx => absurd hx (by simp)) rfl g4 (pa_nil g7) fr6
