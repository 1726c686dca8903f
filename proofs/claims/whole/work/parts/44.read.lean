def sk : List Nat → Nat
  | [] => 0
  | c :: r => if c = 32 then sk r + 1 else 0
theorem sk_le : ∀ l : List Nat, sk l ≤ l.length
  | [] => Nat.le_refl _
  | c :: r => by
    have := sk_le r
    rw [sk, List.length_cons]
    split <;> omega
def skp (tx : List Nat) (p : Nat) : Nat := p + sk (tx.drop p)
def sgn (tx : List Nat) (p : Nat) : Nat := tx.getD (skp tx p) 0
theorem skp_le {tx : List Nat} {p : Nat} (h : p ≤ tx.length) : skp tx p ≤ tx.length := by
  have := sk_le (tx.drop p)
  rw [List.length_drop] at this
  unfold skp
  omega
def okTx (tx : List Nat) : Prop := ∀ c ∈ tx, 32 ≤ c ∧ c ≤ 126
theorem tx_lt {tx : List Nat} (h : okTx tx) (p : Nat) : tx.getD p 0 < 127 := by
  by_cases c : p < tx.length
  · have := h _ (getD_mem 0 c); omega
  · rw [List.getD_eq_getElem?_getD, List.getElem?_eq_none (by omega)]; decide
theorem sgn_in {tx : List Nat} {p : Nat} (h : sgn tx p ≠ 0) : skp tx p < tx.length := by
  apply Classical.byContradiction
  intro c
  exact h (by unfold sgn; rw [List.getD_eq_getElem?_getD, List.getElem?_eq_none (by omega)]; rfl)
/-- up to f digits: how many, and the number -/
def dgs : Nat → List Nat → Nat → Nat × Nat
  | 0, _, n => (0, n)
  | _ + 1, [], n => (0, n)
  | f + 1, c :: r, n => if 48 ≤ c ∧ c ≤ 57 then ((dgs f r (n * 10 + (c - 48))).1 + 1, (dgs f r (n * 10 + (c - 48))).2) else (0, n)
theorem dgs_le : ∀ (f : Nat) (l : List Nat) (n : Nat), (dgs f l n).1 ≤ l.length ∧ (dgs f l n).1 ≤ f
  | 0, _, _ => ⟨Nat.zero_le _, Nat.le_refl _⟩
  | _ + 1, [], _ => ⟨Nat.le_refl _, Nat.zero_le _⟩
  | f + 1, c :: r, n => by
    rw [dgs]
    split
    · have := dgs_le f r (n * 10 + (c - 48))
      rw [List.length_cons]
      omega
    · exact ⟨Nat.zero_le _, Nat.zero_le _⟩
theorem dgs_b3 {l : List Nat} : (dgs 3 l 0).2 ≤ 999 := by
  have h0 : ∀ (l : List Nat) (n : Nat), (dgs 0 l n).2 = n := fun _ _ => rfl
  have h1 : ∀ (l : List Nat) (n : Nat), (dgs 1 l n).2 ≤ n * 10 + 9 ∨ (dgs 1 l n).2 = n := fun l n => by
    cases l with
    | nil => exact Or.inr rfl
    | cons c r =>
      rw [dgs]
      split
      · rw [h0]; left; omega
      · exact Or.inr rfl
  have h2 : ∀ (l : List Nat) (n : Nat), (dgs 2 l n).2 ≤ n * 100 + 99 ∨ (dgs 2 l n).2 = n := fun l n => by
    cases l with
    | nil => exact Or.inr rfl
    | cons c r =>
      rw [dgs]
      split
      · left
        dsimp only
        rcases h1 r (n * 10 + (c - 48)) with h | h <;> omega
      · exact Or.inr rfl
  cases l with
  | nil => exact Nat.zero_le _
  | cons c r =>
    rw [dgs]
    split
    · dsimp only
      rcases h2 r (0 * 10 + (c - 48)) with h | h <;> omega
    · exact Nat.zero_le _
/-- a number with its sign: did it stand there, the number, the place behind it -/
def rdI (tx : List Nat) (p : Nat) : Bool × Int32 × Nat :=
  if sgn tx p = 45 then (decide (0 < (dgs 3 (tx.drop (skp tx p + 1)) 0).1), -(nI (dgs 3 (tx.drop (skp tx p + 1)) 0).2), skp tx p + 1 + (dgs 3 (tx.drop (skp tx p + 1)) 0).1)
  else (decide (0 < (dgs 3 (tx.drop (skp tx p)) 0).1), nI (dgs 3 (tx.drop (skp tx p)) 0).2, skp tx p + (dgs 3 (tx.drop (skp tx p)) 0).1)
def rdT (tx : List Nat) (p : Nat) : Bool × Nat × Nat := (decide (0 < (dgs 3 (tx.drop (skp tx p)) 0).1), (dgs 3 (tx.drop (skp tx p)) 0).2, skp tx p + (dgs 3 (tx.drop (skp tx p)) 0).1)
theorem dg_in {tx : List Nat} {p : Nat} (h : p ≤ tx.length) : p + (dgs 3 (tx.drop p) 0).1 ≤ tx.length := by
  have := (dgs_le 3 (tx.drop p) 0).1
  rw [List.length_drop] at this
  omega
theorem rdT_le {tx : List Nat} {p : Nat} (h : p ≤ tx.length) : (rdT tx p).2.2 ≤ tx.length := dg_in (skp_le h)
theorem rdT_b {tx : List Nat} {p : Nat} : (rdT tx p).2.1 ≤ 999 := dgs_b3
theorem rdI_le {tx : List Nat} {p : Nat} (h : p ≤ tx.length) : (rdI tx p).2.2 ≤ tx.length := by
  unfold rdI
  split
  · rename_i c
    have := sgn_in (tx := tx) (p := p) (by rw [c]; decide)
    exact dg_in this
  · exact dg_in (skp_le h)

set_option maxRecDepth 20000 in
set_option maxHeartbeats 4000000 in
theorem ll_Rd_next {h0 : px_H} {tx : List Nat} {y : Nat} {n : Int32} (H1 : px_pa h0 18 52 500 vN tx) (p1 : okTx tx) : ∀ (d : Nat) (p : Nat) (g : px_H), (tx.length ≤ p + d) → (p ≤ tx.length) → (p + sk (tx.drop p) = y) → g.2.2 175 = some (4, [.ref (18), .int (nI tx.length), .int (n), .int (nI p)]) → px_fi 175 1 h0 g → px_to 26 0 [some (.ref (175))] [] g (fun h1 r => r = some (.int (nI (tx.getD y 0))) ∧ h1.2.2 175 = some (4, [.ref (18), .int (nI tx.length), .int (n), .int (nI y)]) ∧ px_fi 175 1 h0 h1) := by
  intro d
  induction d using Nat.strongRecOn with
  | ind d ih =>
    intro p g q0 q1 q2 G0 frg
    have le := pa_len H1
    refine e_aload_n f_26_0 rfl rfl ?_
    refine e_getf f_26_1 G0 rfl rfl ?_
    refine e_aload_n f_26_4 rfl rfl ?_
    refine e_getf f_26_5 G0 rfl rfl ?_
    refine e_icmp_ge f_26_8 rfl (fun c_8 => ?_) (fun c_8 => ?_)
    · skip
      have c_8 : tx.length ≤ p := cv_le (by omega) (by omega) c_8
      refine e_aload_n f_26_38 rfl rfl ?_
      refine e_getf f_26_39 G0 rfl rfl ?_
      refine e_aload_n f_26_42 rfl rfl ?_
      refine e_getf f_26_43 G0 rfl rfl ?_
      refine e_icmp_ge f_26_46 rfl (fun c_46 => ?_) (fun c_46 => ?_)
      · skip
        have c_46 : tx.length ≤ p := cv_le (by omega) (by omega) c_46
        refine e_iconst (v := nI 0) f_26_61 (by decide) rfl ?_
        refine e_iret f_26_62 rfl (rfl) ?_
        have ey : p = y := by rw [← q2]; rw [List.drop_eq_nil_of_le (by omega)]; rfl
        subst ey
        first | (exfalso; omega) | exact ⟨rfl, G0, frg⟩ | exact ⟨by rw [List.getD_eq_getElem?_getD, List.getElem?_eq_none (by omega)]; rfl, G0, frg⟩
      · skip
        have c_46 : p < tx.length := cv_nle (by omega) (by omega) c_46
        refine e_aload_n f_26_49 rfl rfl ?_
        refine e_getf f_26_50 G0 rfl rfl ?_
        refine e_aload_n f_26_53 rfl rfl ?_
        refine e_getf f_26_54 G0 rfl rfl ?_
        have g1 : px_pa g 18 52 500 vN tx := pa_fi H1 frg (by omega)
        refine e_caload_p (xs := tx) f_26_57 g1 (d := 0) (by first | omega | (simp only [List.length_set]; omega)) rfl ?_
        show px_to 26 58 [some (.ref (175))] [.int (nI (tx.getD p 0))] g _
        refine e_goto f_26_58 ?_
        refine e_iret f_26_62 rfl (nw_ch (by omega)) ?_
        have ey : p = y := by rw [← q2]; rw [List.drop_eq_nil_of_le (by omega)]; rfl
        subst ey
        first | (exfalso; omega) | exact ⟨rfl, G0, frg⟩ | exact ⟨by rw [List.getD_eq_getElem?_getD, List.getElem?_eq_none (by omega)]; rfl, G0, frg⟩
    · skip
      have c_8 : p < tx.length := cv_nle (by omega) (by omega) c_8
      have htc := p1 _ (getD_mem 0 (show p < tx.length by omega))
      refine e_aload_n f_26_11 rfl rfl ?_
      refine e_getf f_26_12 G0 rfl rfl ?_
      refine e_aload_n f_26_15 rfl rfl ?_
      refine e_getf f_26_16 G0 rfl rfl ?_
      have g2 : px_pa g 18 52 500 vN tx := pa_fi H1 frg (by omega)
      refine e_caload_p (xs := tx) f_26_19 g2 (d := 0) (by first | omega | (simp only [List.length_set]; omega)) rfl ?_
      show px_to 26 20 [some (.ref (175))] [.int (nI (tx.getD p 0))] g _
      refine e_bipush (v := nI 32) f_26_20 (by decide) rfl ?_
      refine e_icmp_ne f_26_22 rfl (fun c_22 => ?_) (fun c_22 => ?_)
      · skip
        have c_22 : tx.getD p 0 ≠ 32 := cv_ne c_22
        refine e_aload_n f_26_38 rfl rfl ?_
        refine e_getf f_26_39 G0 rfl rfl ?_
        refine e_aload_n f_26_42 rfl rfl ?_
        refine e_getf f_26_43 G0 rfl rfl ?_
        refine e_icmp_ge f_26_46 rfl (fun c_46 => ?_) (fun c_46 => ?_)
        · skip
          have c_46 : tx.length ≤ p := cv_le (by omega) (by omega) c_46
          refine e_iconst (v := nI 0) f_26_61 (by decide) rfl ?_
          refine e_iret f_26_62 rfl (rfl) ?_
          have ey : p = y := by rw [← q2]; rw [drop_step 0 (show p < tx.length by omega), sk, if_neg c_22]; rfl
          subst ey
          first | (exfalso; omega) | exact ⟨rfl, G0, frg⟩ | exact ⟨by rw [List.getD_eq_getElem?_getD, List.getElem?_eq_none (by omega)]; rfl, G0, frg⟩
        · skip
          have c_46 : p < tx.length := cv_nle (by omega) (by omega) c_46
          refine e_aload_n f_26_49 rfl rfl ?_
          refine e_getf f_26_50 G0 rfl rfl ?_
          refine e_aload_n f_26_53 rfl rfl ?_
          refine e_getf f_26_54 G0 rfl rfl ?_
          refine e_caload_p (xs := tx) f_26_57 g2 (d := 0) (by first | omega | (simp only [List.length_set]; omega)) rfl ?_
          show px_to 26 58 [some (.ref (175))] [.int (nI (tx.getD p 0))] g _
          refine e_goto f_26_58 ?_
          refine e_iret f_26_62 rfl (nw_ch (by omega)) ?_
          have ey : p = y := by rw [← q2]; rw [drop_step 0 (show p < tx.length by omega), sk, if_neg c_22]; rfl
          subst ey
          first | (exfalso; omega) | exact ⟨rfl, G0, frg⟩ | exact ⟨by rw [List.getD_eq_getElem?_getD, List.getElem?_eq_none (by omega)]; rfl, G0, frg⟩
      · skip
        have c_22 : tx.getD p 0 = 32 := cv_nne (by omega) (by omega) c_22
        refine e_aload_n f_26_25 rfl rfl ?_
        refine e_dup f_26_26 rfl rfl ?_
        refine e_getf f_26_27 G0 rfl rfl ?_
        refine e_iconst (v := nI 1) f_26_30 (by decide) rfl ?_
        refine e_iadd (z := nI (p + 1)) f_26_31 (nI_add _ _) rfl ?_
        refine e_putp (vs' := [.ref (18), .int (nI tx.length), .int (n), .int (nI (p + 1))]) f_26_32 G0 (Nat.le_of_ble_eq_true rfl) (rfl) (rfl) rfl rfl (fun h3 g4 fx5 => ?_)
        have fr6 : px_fi 175 1 h0 h3 := fi_tr frg fx5 (by omega)
        refine e_goto f_26_35 ?_
        first | (exfalso; omega) | exact ih (d - 1) (by omega) (p + 1) h3 (by omega) (by omega) (by rw [drop_step 0 (show p < tx.length by omega), sk, if_pos c_22] at q2; omega) g4 fr6

set_option maxRecDepth 20000 in
set_option maxHeartbeats 4000000 in
theorem cc_Rd_next {h : px_H} {tx : List Nat} {p : Nat} {n : Int32} (H0 : h.2.2 175 = some (4, [.ref (18), .int (nI tx.length), .int (n), .int (nI p)])) (H1 : px_pa h 18 52 500 vN tx) (p0 : p ≤ tx.length) (p1 : okTx tx) : px_wp 26 [.ref (175)] h (fun h1 r => r = some (.int (nI (sgn tx p))) ∧ h1.2.2 175 = some (4, [.ref (18), .int (nI tx.length), .int (n), .int (nI (skp tx p))]) ∧ px_fi 175 1 h h1) := by
  have fr0 : px_fi 175 1 h h := fi_rf _ _ _
  show px_to 26 0 [some (.ref (175))] [] h _
  exact ll_Rd_next (h0 := h) H1 p1 tx.length p h (by omega) p0 rfl H0 fr0

set_option maxRecDepth 20000 in
set_option maxHeartbeats 4000000 in
theorem cc_Rd_take {h : px_H} {c : Nat} {tx : List Nat} {p : Nat} {n : Int32} (H0 : h.2.2 175 = some (4, [.ref (18), .int (nI tx.length), .int (n), .int (nI p)])) (H1 : px_pa h 18 52 500 vN tx) (p0 : p ≤ tx.length) (p1 : okTx tx) (p2 : 0 < c) (p3 : c < 128) : px_wp 27 [.ref (175), .int (nI c)] h (fun h1 r => r = some (.int (bI (decide (sgn tx p = c)))) ∧ h1.2.2 175 = some (4, [.ref (18), .int (nI tx.length), .int (n), .int (nI (if sgn tx p = c then skp tx p + 1 else skp tx p))]) ∧ px_fi 175 1 h h1) := by
  have fr0 : px_fi 175 1 h h := fi_rf _ _ _
  have le := pa_len H1
  have hsl : sgn tx p < 127 := tx_lt p1 _
  have hsk := skp_le p0
  show px_to 27 0 [some (.ref (175)), some (.int (nI c))] [] h _
  refine e_aload_n f_27_0 rfl rfl ?_
  refine e_callV (As := []) (rest := []) f_27_1 rfl rfl rfl (Nat.le_of_ble_eq_true rfl) (Nat.le_of_ble_eq_true rfl) H0 rfl (Nat.le_of_ble_eq_true rfl) (cc_Rd_next (tx := tx) (p := p) (n := n) H0 H1 (by omega) (p1)) rfl (fun h1 r2 q3 => ?_)
  obtain ⟨rfl, g4, fx5⟩ := q3
  have fr6 : px_fi 175 1 h h1 := fi_tr fr0 fx5 (by omega)
  show px_to 27 4 [some (.ref (175)), some (.int (nI c))] [.int (nI (sgn tx p))] h1 _
  refine e_iload_n f_27_4 rfl rfl ?_
  refine e_icmp_eq f_27_5 rfl (fun c_5 => ?_) (fun c_5 => ?_)
  · skip
    have c_5 : sgn tx p = c := cv_eq (by omega) (by omega) c_5
    refine e_aload_n f_27_10 rfl rfl ?_
    refine e_dup f_27_11 rfl rfl ?_
    refine e_getf f_27_12 g4 rfl rfl ?_
    refine e_iconst (v := nI 1) f_27_15 (by decide) rfl ?_
    refine e_iadd (z := nI (skp tx p + 1)) f_27_16 (nI_add _ _) rfl ?_
    refine e_putp (vs' := [.ref (18), .int (nI tx.length), .int (n), .int (nI (skp tx p + 1))]) f_27_17 g4 (Nat.le_of_ble_eq_true rfl) (rfl) (rfl) rfl rfl (fun h7 g8 fx9 => ?_)
    have fr10 : px_fi 175 1 h h7 := fi_tr fr6 fx9 (by omega)
    refine e_iconst (v := nI 1) f_27_20 (by decide) rfl ?_
    refine e_iret f_27_21 rfl (rfl) ?_
    rw [if_pos c_5]
    exact ⟨congrArg (fun z => some (Value.int z)) (b1 (decide_eq_true c_5)), g8, fr10⟩
  · skip
    have c_5 : sgn tx p ≠ c := cv_ne c_5
    refine e_iconst (v := nI 0) f_27_8 (by decide) rfl ?_
    refine e_iret f_27_9 rfl (rfl) ?_
    rw [if_neg c_5]
    exact ⟨congrArg (fun z => some (Value.int z)) (b0 (decide_eq_false c_5)), g4, fr6⟩

set_option maxRecDepth 20000 in
set_option maxHeartbeats 4000000 in
theorem ll_Rd_dig {h0 : px_H} {tx : List Nat} {p0 y v : Nat} (H1 : px_pa h0 18 52 500 vN tx) (p1 : okTx tx) : ∀ (d : Nat) (i : Nat) (p : Nat) (s : Nat) (g : px_H), (3 < i + d) → (p ≤ tx.length) → (p0 + i = p) → (dgs (3 - i) (tx.drop p) s = (y - i, v)) → (i ≤ y) → (i ≤ 3) → g.2.2 175 = some (4, [.ref (18), .int (nI tx.length), .int (nI s), .int (nI p)]) → px_fi 175 1 h0 g → px_to 37 7 [some (.ref (175)), some (.int (nI i))] [] g (fun h1 r => r = some (.int (bI (decide (0 < y)))) ∧ h1.2.2 175 = some (4, [.ref (18), .int (nI tx.length), .int (nI v), .int (nI (p0 + y))]) ∧ px_fi 175 1 h0 h1) := by
  intro d
  induction d using Nat.strongRecOn with
  | ind d ih =>
    intro i p s g q0 q1 q2 q3 q4 q5 G0 frg
    have le := pa_len H1
    have ly := (dgs_le (3 - i) (tx.drop p) s).1
    rw [q3] at ly
    refine e_iload_n f_37_7 rfl rfl ?_
    refine e_iconst (v := nI 3) f_37_8 (by decide) rfl ?_
    refine e_icmp_ge f_37_9 rfl (fun c_9 => ?_) (fun c_9 => ?_)
    · skip
      have c_9 : 3 ≤ i := cv_le (by omega) (by omega) c_9
      refine e_iload_n f_37_91 rfl rfl ?_
      refine e_if_le f_37_92 rfl (fun c_92 => ?_) (fun c_92 => ?_)
      · skip
        rw [← nI_0] at c_92
        have c_92 : i ≤ 0 := cv_le (by omega) (by omega) c_92
        refine e_iconst (v := nI 0) f_37_99 (by decide) rfl ?_
        refine e_iret f_37_100 rfl (rfl) ?_
        rw [show 3 - i = 0 by omega, dgs] at q3
        have e1 := congrArg Prod.fst q3
        have e2 := congrArg Prod.snd q3
        dsimp only at e1 e2
        have ei : y = i := by omega
        subst ei
        subst e2
        have ep : p = p0 + y := by omega
        subst ep
        exact ⟨congrArg (fun z => some (Value.int z)) (b0 (decide_eq_false (by omega))), G0, frg⟩
      · skip
        rw [← nI_0] at c_92
        have c_92 : 0 < i := cv_nle (by omega) (by omega) c_92
        refine e_iconst (v := nI 1) f_37_95 (by decide) rfl ?_
        refine e_goto f_37_96 ?_
        refine e_iret f_37_100 rfl (rfl) ?_
        rw [show 3 - i = 0 by omega, dgs] at q3
        have e1 := congrArg Prod.fst q3
        have e2 := congrArg Prod.snd q3
        dsimp only at e1 e2
        have ei : y = i := by omega
        subst ei
        subst e2
        have ep : p = p0 + y := by omega
        subst ep
        exact ⟨congrArg (fun z => some (Value.int z)) (b1 (decide_eq_true (by omega))), G0, frg⟩
    · skip
      have c_9 : i < 3 := cv_nle (by omega) (by omega) c_9
      refine e_aload_n f_37_12 rfl rfl ?_
      refine e_getf f_37_13 G0 rfl rfl ?_
      refine e_aload_n f_37_16 rfl rfl ?_
      refine e_getf f_37_17 G0 rfl rfl ?_
      refine e_icmp_ge f_37_20 rfl (fun c_20 => ?_) (fun c_20 => ?_)
      · skip
        have c_20 : tx.length ≤ p := cv_le (by omega) (by omega) c_20
        refine e_iload_n f_37_91 rfl rfl ?_
        refine e_if_le f_37_92 rfl (fun c_92 => ?_) (fun c_92 => ?_)
        · skip
          rw [← nI_0] at c_92
          have c_92 : i ≤ 0 := cv_le (by omega) (by omega) c_92
          refine e_iconst (v := nI 0) f_37_99 (by decide) rfl ?_
          refine e_iret f_37_100 rfl (rfl) ?_
          rw [show 3 - i = (3 - (i + 1)) + 1 by omega, List.drop_eq_nil_of_le (by omega), dgs] at q3
          have e1 := congrArg Prod.fst q3
          have e2 := congrArg Prod.snd q3
          dsimp only at e1 e2
          have ei : y = i := by omega
          subst ei
          subst e2
          have ep : p = p0 + y := by omega
          subst ep
          exact ⟨congrArg (fun z => some (Value.int z)) (b0 (decide_eq_false (by omega))), G0, frg⟩
        · skip
          rw [← nI_0] at c_92
          have c_92 : 0 < i := cv_nle (by omega) (by omega) c_92
          refine e_iconst (v := nI 1) f_37_95 (by decide) rfl ?_
          refine e_goto f_37_96 ?_
          refine e_iret f_37_100 rfl (rfl) ?_
          rw [show 3 - i = (3 - (i + 1)) + 1 by omega, List.drop_eq_nil_of_le (by omega), dgs] at q3
          have e1 := congrArg Prod.fst q3
          have e2 := congrArg Prod.snd q3
          dsimp only at e1 e2
          have ei : y = i := by omega
          subst ei
          subst e2
          have ep : p = p0 + y := by omega
          subst ep
          exact ⟨congrArg (fun z => some (Value.int z)) (b1 (decide_eq_true (by omega))), G0, frg⟩
      · skip
        have c_20 : p < tx.length := cv_nle (by omega) (by omega) c_20
        have htc := p1 _ (getD_mem 0 (show p < tx.length by omega))
        refine e_aload_n f_37_23 rfl rfl ?_
        refine e_getf f_37_24 G0 rfl rfl ?_
        refine e_aload_n f_37_27 rfl rfl ?_
        refine e_getf f_37_28 G0 rfl rfl ?_
        have g1 : px_pa g 18 52 500 vN tx := pa_fi H1 frg (by omega)
        refine e_caload_p (xs := tx) f_37_31 g1 (d := 0) (by first | omega | (simp only [List.length_set]; omega)) rfl ?_
        show px_to 37 32 [some (.ref (175)), some (.int (nI i))] [.int (nI (tx.getD p 0))] g _
        refine e_bipush (v := nI 48) f_37_32 (by decide) rfl ?_
        refine e_icmp_lt f_37_34 rfl (fun c_34 => ?_) (fun c_34 => ?_)
        · skip
          have c_34 : tx.getD p 0 < 48 := cv_lt (by omega) (by omega) c_34
          refine e_iload_n f_37_91 rfl rfl ?_
          refine e_if_le f_37_92 rfl (fun c_92 => ?_) (fun c_92 => ?_)
          · skip
            rw [← nI_0] at c_92
            have c_92 : i ≤ 0 := cv_le (by omega) (by omega) c_92
            refine e_iconst (v := nI 0) f_37_99 (by decide) rfl ?_
            refine e_iret f_37_100 rfl (rfl) ?_
            rw [show 3 - i = (3 - (i + 1)) + 1 by omega, drop_step 0 (show p < tx.length by omega), dgs, if_neg (by omega)] at q3
            have e1 := congrArg Prod.fst q3
            have e2 := congrArg Prod.snd q3
            dsimp only at e1 e2
            have ei : y = i := by omega
            subst ei
            subst e2
            have ep : p = p0 + y := by omega
            subst ep
            exact ⟨congrArg (fun z => some (Value.int z)) (b0 (decide_eq_false (by omega))), G0, frg⟩
          · skip
            rw [← nI_0] at c_92
            have c_92 : 0 < i := cv_nle (by omega) (by omega) c_92
            refine e_iconst (v := nI 1) f_37_95 (by decide) rfl ?_
            refine e_goto f_37_96 ?_
            refine e_iret f_37_100 rfl (rfl) ?_
            rw [show 3 - i = (3 - (i + 1)) + 1 by omega, drop_step 0 (show p < tx.length by omega), dgs, if_neg (by omega)] at q3
            have e1 := congrArg Prod.fst q3
            have e2 := congrArg Prod.snd q3
            dsimp only at e1 e2
            have ei : y = i := by omega
            subst ei
            subst e2
            have ep : p = p0 + y := by omega
            subst ep
            exact ⟨congrArg (fun z => some (Value.int z)) (b1 (decide_eq_true (by omega))), G0, frg⟩
        · skip
          have c_34 : 48 ≤ tx.getD p 0 := cv_nlt (by omega) (by omega) c_34
          refine e_aload_n f_37_37 rfl rfl ?_
          refine e_getf f_37_38 G0 rfl rfl ?_
          refine e_aload_n f_37_41 rfl rfl ?_
          refine e_getf f_37_42 G0 rfl rfl ?_
          refine e_caload_p (xs := tx) f_37_45 g1 (d := 0) (by first | omega | (simp only [List.length_set]; omega)) rfl ?_
          show px_to 37 46 [some (.ref (175)), some (.int (nI i))] [.int (nI (tx.getD p 0))] g _
          refine e_bipush (v := nI 57) f_37_46 (by decide) rfl ?_
          refine e_icmp_gt f_37_48 rfl (fun c_48 => ?_) (fun c_48 => ?_)
          · skip
            have c_48 : 57 < tx.getD p 0 := cv_lt (by omega) (by omega) c_48
            refine e_iload_n f_37_91 rfl rfl ?_
            refine e_if_le f_37_92 rfl (fun c_92 => ?_) (fun c_92 => ?_)
            · skip
              rw [← nI_0] at c_92
              have c_92 : i ≤ 0 := cv_le (by omega) (by omega) c_92
              refine e_iconst (v := nI 0) f_37_99 (by decide) rfl ?_
              refine e_iret f_37_100 rfl (rfl) ?_
              rw [show 3 - i = (3 - (i + 1)) + 1 by omega, drop_step 0 (show p < tx.length by omega), dgs, if_neg (by omega)] at q3
              have e1 := congrArg Prod.fst q3
              have e2 := congrArg Prod.snd q3
              dsimp only at e1 e2
              have ei : y = i := by omega
              subst ei
              subst e2
              have ep : p = p0 + y := by omega
              subst ep
              exact ⟨congrArg (fun z => some (Value.int z)) (b0 (decide_eq_false (by omega))), G0, frg⟩
            · skip
              rw [← nI_0] at c_92
              have c_92 : 0 < i := cv_nle (by omega) (by omega) c_92
              refine e_iconst (v := nI 1) f_37_95 (by decide) rfl ?_
              refine e_goto f_37_96 ?_
              refine e_iret f_37_100 rfl (rfl) ?_
              rw [show 3 - i = (3 - (i + 1)) + 1 by omega, drop_step 0 (show p < tx.length by omega), dgs, if_neg (by omega)] at q3
              have e1 := congrArg Prod.fst q3
              have e2 := congrArg Prod.snd q3
              dsimp only at e1 e2
              have ei : y = i := by omega
              subst ei
              subst e2
              have ep : p = p0 + y := by omega
              subst ep
              exact ⟨congrArg (fun z => some (Value.int z)) (b1 (decide_eq_true (by omega))), G0, frg⟩
          · skip
            have c_48 : tx.getD p 0 ≤ 57 := cv_nlt (by omega) (by omega) c_48
            refine e_aload_n f_37_51 rfl rfl ?_
            refine e_aload_n f_37_52 rfl rfl ?_
            refine e_getf f_37_53 G0 rfl rfl ?_
            refine e_bipush (v := nI 10) f_37_56 (by decide) rfl ?_
            refine e_imul (z := nI (s * 10)) f_37_58 ((pk_mul _ _)) rfl ?_
            refine e_aload_n f_37_59 rfl rfl ?_
            refine e_getf f_37_60 G0 rfl rfl ?_
            refine e_aload_n f_37_63 rfl rfl ?_
            refine e_getf f_37_64 G0 rfl rfl ?_
            refine e_caload_p (xs := tx) f_37_67 g1 (d := 0) (by first | omega | (simp only [List.length_set]; omega)) rfl ?_
            show px_to 37 68 [some (.ref (175)), some (.int (nI i))] [.int (nI (tx.getD p 0)), .int (nI (s * 10)), .ref (175)] g _
            refine e_bipush (v := nI 48) f_37_68 (by decide) rfl ?_
            refine e_isub (z := nI (tx.getD p 0 - 48)) f_37_70 (pk_sub (by omega)) rfl ?_
            refine e_iadd (z := nI (s * 10 + (tx.getD p 0 - 48))) f_37_71 (nI_add _ _) rfl ?_
            refine e_putp (vs' := [.ref (18), .int (nI tx.length), .int (nI (s * 10 + (tx.getD p 0 - 48))), .int (nI p)]) f_37_72 G0 (Nat.le_of_ble_eq_true rfl) (rfl) (rfl) rfl rfl (fun h2 g3 fx4 => ?_)
            have fr5 : px_fi 175 1 h0 h2 := fi_tr frg fx4 (by omega)
            refine e_aload_n f_37_75 rfl rfl ?_
            refine e_dup f_37_76 rfl rfl ?_
            refine e_getf f_37_77 g3 rfl rfl ?_
            refine e_iconst (v := nI 1) f_37_80 (by decide) rfl ?_
            refine e_iadd (z := nI (p + 1)) f_37_81 (nI_add _ _) rfl ?_
            refine e_putp (vs' := [.ref (18), .int (nI tx.length), .int (nI (s * 10 + (tx.getD p 0 - 48))), .int (nI (p + 1))]) f_37_82 g3 (Nat.le_of_ble_eq_true rfl) (rfl) (rfl) rfl rfl (fun h6 g7 fx8 => ?_)
            have fr9 : px_fi 175 1 h0 h6 := fi_tr fr5 fx8 (by omega)
            refine e_iinc (y := nI (i + 1)) (L' := [some (.ref (175)), some (.int (nI (i + 1)))]) f_37_85 rfl (by rw [show Int32.ofInt 1 = nI 1 by decide]; exact (nI_add _ _)) rfl rfl ?_
            refine e_goto f_37_88 ?_
            rw [show 3 - i = (3 - (i + 1)) + 1 by omega, drop_step 0 (show p < tx.length by omega), dgs, if_pos ⟨by omega, by omega⟩] at q3
            have e1 := congrArg Prod.fst q3
            have e2 := congrArg Prod.snd q3
            dsimp only at e1 e2
            first | (exfalso; omega) | exact ih (d - 1) (by omega) (i + 1) (p + 1) (s * 10 + (tx.getD p 0 - 48)) h6 (by omega) (by omega) (by omega) (Prod.ext (by show _ = y - (i + 1); omega) e2) (by omega) (by omega) g7 fr9

set_option maxRecDepth 20000 in
set_option maxHeartbeats 4000000 in
theorem cc_Rd_dig {h : px_H} {tx : List Nat} {p : Nat} {n : Int32} (H0 : h.2.2 175 = some (4, [.ref (18), .int (nI tx.length), .int (n), .int (nI p)])) (H1 : px_pa h 18 52 500 vN tx) (p0 : p ≤ tx.length) (p1 : okTx tx) : px_wp 37 [.ref (175)] h (fun h1 r => r = some (.int (bI (decide (0 < (dgs 3 (tx.drop p) 0).1)))) ∧ h1.2.2 175 = some (4, [.ref (18), .int (nI tx.length), .int (nI (dgs 3 (tx.drop p) 0).2), .int (nI (p + (dgs 3 (tx.drop p) 0).1))]) ∧ px_fi 175 1 h h1) := by
  have fr0 : px_fi 175 1 h h := fi_rf _ _ _
  show px_to 37 0 [some (.ref (175)), none] [] h _
  refine e_iconst (v := nI 0) f_37_0 (by decide) rfl ?_
  refine e_istore_n (L' := [some (.ref (175)), some (.int (nI 0))]) f_37_1 (Nat.le_of_ble_eq_true rfl) rfl rfl ?_
  refine e_aload_n f_37_2 rfl rfl ?_
  refine e_iconst (v := nI 0) f_37_3 (by decide) rfl ?_
  refine e_putp (vs' := [.ref (18), .int (nI tx.length), .int (nI 0), .int (nI p)]) f_37_4 H0 (Nat.le_of_ble_eq_true rfl) (rfl) (rfl) rfl rfl (fun h1 g2 fx3 => ?_)
  have fr4 : px_fi 175 1 h h1 := fi_tr fr0 fx3 (by omega)
  exact ll_Rd_dig (h0 := h) (p0 := p) H1 p1 4 0 p 0 h1 (by omega) p0 rfl rfl (Nat.zero_le _) (by omega) g2 fr4

set_option maxRecDepth 20000 in
set_option maxHeartbeats 4000000 in
theorem cc_Rd_time {h : px_H} {tx : List Nat} {p : Nat} {n : Int32} (H0 : h.2.2 175 = some (4, [.ref (18), .int (nI tx.length), .int (n), .int (nI p)])) (H1 : px_pa h 18 52 500 vN tx) (p0 : p ≤ tx.length) (p1 : okTx tx) : px_wp 36 [.ref (175)] h (fun h1 r => r = some (.int (bI ((rdT tx p).1))) ∧ h1.2.2 175 = some (4, [.ref (18), .int (nI tx.length), .int (nI (rdT tx p).2.1), .int (nI ((rdT tx p).2.2))]) ∧ px_fi 175 1 h h1) := by
  have fr0 : px_fi 175 1 h h := fi_rf _ _ _
  show px_to 36 0 [some (.ref (175))] [] h _
  refine e_aload_n f_36_0 rfl rfl ?_
  refine e_callV (As := []) (rest := []) f_36_1 rfl rfl rfl (Nat.le_of_ble_eq_true rfl) (Nat.le_of_ble_eq_true rfl) H0 rfl (Nat.le_of_ble_eq_true rfl) (cc_Rd_next (tx := tx) (p := p) (n := n) H0 H1 (by omega) (p1)) rfl (fun h1 r2 q3 => ?_)
  obtain ⟨rfl, g4, fx5⟩ := q3
  have fr6 : px_fi 175 1 h h1 := fi_tr fr0 fx5 (by omega)
  show px_to 36 4 [some (.ref (175))] [.int (nI (sgn tx p))] h1 _
  refine e_pop f_36_4 rfl rfl ?_
  refine e_aload_n f_36_5 rfl rfl ?_
  have g7 : px_pa h1 18 52 500 vN tx := pa_fi H1 fr6 (by omega)
  refine e_callV (As := []) (rest := []) f_36_6 rfl rfl rfl (Nat.le_of_ble_eq_true rfl) (Nat.le_of_ble_eq_true rfl) g4 rfl (Nat.le_of_ble_eq_true rfl) (cc_Rd_dig (tx := tx) (p := skp tx p) (n := n) g4 g7 (skp_le p0) (p1)) rfl (fun h8 r9 q10 => ?_)
  obtain ⟨rfl, g11, fx12⟩ := q10
  have fr13 : px_fi 175 1 h h8 := fi_tr fr6 fx12 (by omega)
  show px_to 36 9 [some (.ref (175))] [.int (bI (decide (0 < (dgs 3 (tx.drop (skp tx p)) 0).1)))] h8 _
  refine e_iret f_36_9 rfl (nw_bI _) ?_
  first | (exfalso; omega) | exact ⟨rfl, g11, fr13⟩

set_option maxRecDepth 20000 in
set_option maxHeartbeats 4000000 in
theorem cc_Rd_int {h : px_H} {tx : List Nat} {p : Nat} {n : Int32} (H0 : h.2.2 175 = some (4, [.ref (18), .int (nI tx.length), .int (n), .int (nI p)])) (H1 : px_pa h 18 52 500 vN tx) (p0 : p ≤ tx.length) (p1 : okTx tx) : px_wp 35 [.ref (175)] h (fun h1 r => r = some (.int (bI ((rdI tx p).1))) ∧ h1.2.2 175 = some (4, [.ref (18), .int (nI tx.length), .int ((rdI tx p).2.1), .int (nI ((rdI tx p).2.2))]) ∧ px_fi 175 1 h h1) := by
  have fr0 : px_fi 175 1 h h := fi_rf _ _ _
  have le := pa_len H1
  have hsl : sgn tx p < 127 := tx_lt p1 _
  have hsk := skp_le p0
  show px_to 35 0 [some (.ref (175)), none, none] [] h _
  refine e_aload_n f_35_0 rfl rfl ?_
  refine e_callV (As := []) (rest := []) f_35_1 rfl rfl rfl (Nat.le_of_ble_eq_true rfl) (Nat.le_of_ble_eq_true rfl) H0 rfl (Nat.le_of_ble_eq_true rfl) (cc_Rd_next (tx := tx) (p := p) (n := n) H0 H1 (by omega) (p1)) rfl (fun h1 r2 q3 => ?_)
  obtain ⟨rfl, g4, fx5⟩ := q3
  have fr6 : px_fi 175 1 h h1 := fi_tr fr0 fx5 (by omega)
  show px_to 35 4 [some (.ref (175)), none, none] [.int (nI (sgn tx p))] h1 _
  refine e_bipush (v := nI 45) f_35_4 (by decide) rfl ?_
  refine e_icmp_ne f_35_6 rfl (fun c_6 => ?_) (fun c_6 => ?_)
  · skip
    have c_6 : sgn tx p ≠ 45 := cv_ne c_6
    refine e_iconst (v := nI 0) f_35_13 (by decide) rfl ?_
    refine e_istore_n (L' := [some (.ref (175)), some (.int (nI 0)), none]) f_35_14 (Nat.le_of_ble_eq_true rfl) rfl rfl ?_
    refine e_iload_n f_35_15 rfl rfl ?_
    refine e_if_eq_t f_35_16 (by decide) ?_
    refine e_aload_n f_35_29 rfl rfl ?_
    have g7 : px_pa h1 18 52 500 vN tx := pa_fi H1 fr6 (by omega)
    refine e_callV (As := []) (rest := []) f_35_30 rfl rfl rfl (Nat.le_of_ble_eq_true rfl) (Nat.le_of_ble_eq_true rfl) g4 rfl (Nat.le_of_ble_eq_true rfl) (cc_Rd_dig (tx := tx) (p := skp tx p) (n := n) g4 g7 (by first | exact sgn_in (by rw [c_6]; decide) | exact skp_le p0) (p1)) rfl (fun h8 r9 q10 => ?_)
    obtain ⟨rfl, g11, fx12⟩ := q10
    have fr13 : px_fi 175 1 h h8 := fi_tr fr6 fx12 (by omega)
    show px_to 35 33 [some (.ref (175)), some (.int (nI 0)), none] [.int (bI (decide (0 < (dgs 3 (tx.drop (skp tx p)) 0).1)))] h8 _
    refine e_istore_n (L' := [some (.ref (175)), some (.int (nI 0)), some (.int (bI (decide (0 < (dgs 3 (tx.drop (skp tx p)) 0).1))))]) f_35_33 (Nat.le_of_ble_eq_true rfl) rfl rfl ?_
    refine e_iload_n f_35_34 rfl rfl ?_
    refine e_if_eq_t f_35_35 (by decide) ?_
    refine e_iload_n f_35_47 rfl rfl ?_
    refine e_iret f_35_48 rfl (nw_bI _) ?_
    have ei : rdI tx p = (decide (0 < (dgs 3 (tx.drop (skp tx p)) 0).1), nI (dgs 3 (tx.drop (skp tx p)) 0).2, skp tx p + (dgs 3 (tx.drop (skp tx p)) 0).1) := by unfold rdI; rw [if_neg c_6]
    rw [ei]
    exact ⟨rfl, g11, fr13⟩
  · skip
    have c_6 : sgn tx p = 45 := cv_nne (by omega) (by omega) c_6
    refine e_iconst (v := nI 1) f_35_9 (by decide) rfl ?_
    refine e_goto f_35_10 ?_
    refine e_istore_n (L' := [some (.ref (175)), some (.int (nI 1)), none]) f_35_14 (Nat.le_of_ble_eq_true rfl) rfl rfl ?_
    refine e_iload_n f_35_15 rfl rfl ?_
    refine e_if_eq_f f_35_16 (by decide) rfl ?_
    refine e_aload_n f_35_19 rfl rfl ?_
    refine e_dup f_35_20 rfl rfl ?_
    refine e_getf f_35_21 g4 rfl rfl ?_
    refine e_iconst (v := nI 1) f_35_24 (by decide) rfl ?_
    refine e_iadd (z := nI (skp tx p + 1)) f_35_25 (nI_add _ _) rfl ?_
    refine e_putp (vs' := [.ref (18), .int (nI tx.length), .int (n), .int (nI (skp tx p + 1))]) f_35_26 g4 (Nat.le_of_ble_eq_true rfl) (rfl) (rfl) rfl rfl (fun h14 g15 fx16 => ?_)
    have fr17 : px_fi 175 1 h h14 := fi_tr fr6 fx16 (by omega)
    refine e_aload_n f_35_29 rfl rfl ?_
    have g18 : px_pa h14 18 52 500 vN tx := pa_fi H1 fr17 (by omega)
    refine e_callV (As := []) (rest := []) f_35_30 rfl rfl rfl (Nat.le_of_ble_eq_true rfl) (Nat.le_of_ble_eq_true rfl) g15 rfl (Nat.le_of_ble_eq_true rfl) (cc_Rd_dig (tx := tx) (p := skp tx p + 1) (n := n) g15 g18 (by first | exact sgn_in (by rw [c_6]; decide) | exact skp_le p0) (p1)) rfl (fun h19 r20 q21 => ?_)
    obtain ⟨rfl, g22, fx23⟩ := q21
    have fr24 : px_fi 175 1 h h19 := fi_tr fr17 fx23 (by omega)
    show px_to 35 33 [some (.ref (175)), some (.int (nI 1)), none] [.int (bI (decide (0 < (dgs 3 (tx.drop (skp tx p + 1)) 0).1)))] h19 _
    refine e_istore_n (L' := [some (.ref (175)), some (.int (nI 1)), some (.int (bI (decide (0 < (dgs 3 (tx.drop (skp tx p + 1)) 0).1))))]) f_35_33 (Nat.le_of_ble_eq_true rfl) rfl rfl ?_
    refine e_iload_n f_35_34 rfl rfl ?_
    refine e_if_eq_f f_35_35 (by decide) rfl ?_
    refine e_aload_n f_35_38 rfl rfl ?_
    refine e_aload_n f_35_39 rfl rfl ?_
    refine e_getf f_35_40 g22 rfl rfl ?_
    refine e_ineg (z := -(nI (dgs 3 (tx.drop (skp tx p + 1)) 0).2)) f_35_43 rfl rfl ?_
    refine e_putp (vs' := [.ref (18), .int (nI tx.length), .int (-(nI (dgs 3 (tx.drop (skp tx p + 1)) 0).2)), .int (nI (skp tx p + 1 + (dgs 3 (tx.drop (skp tx p + 1)) 0).1))]) f_35_44 g22 (Nat.le_of_ble_eq_true rfl) (rfl) (rfl) rfl rfl (fun h25 g26 fx27 => ?_)
    have fr28 : px_fi 175 1 h h25 := fi_tr fr24 fx27 (by omega)
    refine e_iload_n f_35_47 rfl rfl ?_
    refine e_iret f_35_48 rfl (nw_bI _) ?_
    have ei : rdI tx p = (decide (0 < (dgs 3 (tx.drop (skp tx p + 1)) 0).1), -(nI (dgs 3 (tx.drop (skp tx p + 1)) 0).2), skp tx p + 1 + (dgs 3 (tx.drop (skp tx p + 1)) 0).1) := by unfold rdI; rw [if_pos c_6]
    rw [ei]
    exact ⟨rfl, g26, fr28⟩
