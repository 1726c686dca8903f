def fsB (ts : List TS) (w : Nat) (o : Option Nat) (i : Nat) : Bool := decide ((ts.getD i (0, 0, 0)).2.1 ≤ w) && (match o with
  | none => true
  | some q => decide (tKy (ts.getD i (0, 0, 0)) < tKy (ts.getD q (0, 0, 0))))
def fsG (ts : List TS) (w : Nat) : Nat → Option Nat
  | 0 => none
  | i + 1 => if fsB ts w (fsG ts w i) i = true then some i else fsG ts w i
theorem fsG_sp {ts : List TS} {w : Nat} : ∀ i, (fsG ts w i = none → ∀ r, r < i → w < (ts.getD r (0, 0, 0)).2.1) ∧ (∀ q, fsG ts w i = some q → q < i ∧ (ts.getD q (0, 0, 0)).2.1 ≤ w ∧ ∀ r, r < i → (ts.getD r (0, 0, 0)).2.1 ≤ w → tKy (ts.getD q (0, 0, 0)) ≤ tKy (ts.getD r (0, 0, 0)))
  | 0 => ⟨fun _ r hr => absurd hr (by omega), fun q h => nomatch h⟩
  | i + 1 => by
    have ih := fsG_sp (ts := ts) (w := w) i
    rw [fsG]
    cases hb : fsB ts w (fsG ts w i) i with
    | true =>
      rw [if_pos rfl]
      refine ⟨fun h => (nomatch h), fun q h => ?_⟩
      injection h with h
      subst h
      unfold fsB at hb
      rw [Bool.and_eq_true] at hb
      have h1 := of_decide_eq_true hb.1
      refine ⟨Nat.lt_succ_self _, h1, fun r hr hw => ?_⟩
      rcases Nat.lt_or_ge r i with z | z
      · cases ho : fsG ts w i with
        | none => have := ih.1 ho r z; omega
        | some q0 =>
          have h2 := hb.2
          rw [ho] at h2
          have h3 := of_decide_eq_true h2
          have h4 := (ih.2 q0 ho).2.2 r z hw
          omega
      · rw [show r = i by omega]; exact Nat.le_refl _
    | false =>
      rw [if_neg (by decide)]
      have hb2 : ¬ ((ts.getD i (0, 0, 0)).2.1 ≤ w ∧ ∀ q, fsG ts w i = some q → tKy (ts.getD i (0, 0, 0)) < tKy (ts.getD q (0, 0, 0))) := fun z => by
        unfold fsB at hb
        rw [decide_eq_true z.1, Bool.true_and] at hb
        cases ho : fsG ts w i with
        | none => rw [ho] at hb; exact nomatch hb
        | some q => rw [ho] at hb; exact (of_decide_eq_false hb) (z.2 q ho)
      refine ⟨fun h r hr => ?_, fun q h => ?_⟩
      · rcases Nat.lt_or_ge r i with z | z
        · exact ih.1 h r z
        · rw [show r = i by omega]
          exact Nat.lt_of_not_le (fun y => hb2 ⟨y, fun q hq => by rw [h] at hq; exact nomatch hq⟩)
      · have h1 := ih.2 q h
        refine ⟨by omega, h1.2.1, fun r hr hw => ?_⟩
        rcases Nat.lt_or_ge r i with z | z
        · exact h1.2.2 r z hw
        · rw [show r = i by omega] at hw ⊢
          exact Nat.le_of_not_lt (fun y => hb2 ⟨hw, fun q' hq' => by rw [h] at hq'; injection hq' with hq'; subst hq'; exact y⟩)

set_option maxRecDepth 20000 in
set_option maxHeartbeats 4000000 in
theorem ll_Md_fsp {P : px_H → Option Value → Prop} {h : px_H} {k w : Nat} {sl : List Int32} {ts : List TS} {ga : gA} {gp : gP} {gq : gQ} {gh : gH} {gw : gW} {gu : gU} {gv : gV} (H0 : h.2.2 269 = some (12, mB ga gp gq gh gw gu gv)) (H1 : px_pa h 287 50 3070 Value.int sl) (h6 : k < 6) (hw : w ≤ 5000) (hsl : sl.length = 3070) (ht : tR sl (4 + 511 * k) ts) (hok : ∀ t ∈ ts, t.1 < 4 ∧ 1 ≤ t.2.1 ∧ t.2.1 ≤ 6000) (kx : P h (some (.int (oI (fsG ts w ts.length))))) : ∀ (d : Nat) (i : Nat) (best : Option Nat), (ts.length ≤ i + d) → (i ≤ ts.length) → (best = fsG ts w i) → px_to 147 19 [some (.ref (269)), some (.int (nI k)), some (.int (nI w)), some (.int (nI (4 + 511 * k + 206))), some (.int (oI best)), some (.int (nI i)), none, none] [] h P := by
  intro d
  induction d using Nat.strongRecOn with
  | ind d ih =>
    intro i best q0 q1 q2
    have htl := ht.1
    refine e_iload f_147_19 rfl rfl ?_
    refine e_aload_n f_147_21 rfl rfl ?_
    refine e_getf f_147_22 H0 rfl rfl ?_
    refine e_iload_n f_147_25 rfl rfl ?_
    refine e_iaload_p (xs := sl) f_147_26 H1 (d := 0) (by first | omega | (simp only [List.length_set]; omega)) rfl ?_
    show px_to 147 27 [some (.ref (269)), some (.int (nI k)), some (.int (nI w)), some (.int (nI (4 + 511 * k + 206))), some (.int (oI best)), some (.int (nI i)), none, none] [.int (sl.getD (4 + 511 * k + 206) 0), .int (nI i)] h _
    rw [ht.2.1]
    refine e_icmp_ge f_147_27 rfl (fun c_27 => ?_) (fun c_27 => ?_)
    · skip
      have c_27 : ts.length ≤ i := cv_le (by omega) (by omega) c_27
      refine e_iload f_147_145 rfl rfl ?_
      refine e_iret f_147_147 rfl (rfl) ?_
      have ei : i = ts.length := by omega
      subst ei
      subst q2
      exact kx
    · skip
      have c_27 : i < ts.length := cv_nle (by omega) (by omega) c_27
      have hti := ht.2.2 i (by omega)
      have hko := hok _ (getD_mem (0, 0, 0) (show i < ts.length by omega))
      rcases best with _ | b0
      · skip
        show px_to 147 30 [some (.ref (269)), some (.int (nI k)), some (.int (nI w)), some (.int (nI (4 + 511 * k + 206))), some (.int ((-3))), some (.int (nI i)), none, none] [] h _
        refine e_iconst (v := nI 4) f_147_30 (by decide) rfl ?_
        refine e_aload_n f_147_31 rfl rfl ?_
        refine e_getf f_147_32 H0 rfl rfl ?_
        refine e_iload_n f_147_35 rfl rfl ?_
        refine e_iconst (v := nI 2) f_147_36 (by decide) rfl ?_
        refine e_iadd (z := nI (4 + 511 * k + 208)) f_147_37 ((nI_add _ _).trans (congrArg nI (by omega))) rfl ?_
        refine e_iconst (v := nI 3) f_147_38 (by decide) rfl ?_
        refine e_iload f_147_39 rfl rfl ?_
        refine e_imul (z := nI (3 * i)) f_147_41 (pk_mul _ _) rfl ?_
        refine e_iadd (z := nI (4 + 511 * k + 208 + 3 * i)) f_147_42 (nI_add _ _) rfl ?_
        refine e_iaload_p (xs := sl) f_147_43 H1 (d := 0) (by first | omega | (simp only [List.length_set]; omega)) rfl ?_
        show px_to 147 44 [some (.ref (269)), some (.int (nI k)), some (.int (nI w)), some (.int (nI (4 + 511 * k + 206))), some (.int ((-3))), some (.int (nI i)), none, none] [.int (sl.getD (4 + 511 * k + 208 + 3 * i) 0), .int (nI 4)] h _
        rw [hti.2.1]
        refine e_imul (z := nI (4 * ((ts.getD i (0, 0, 0)).2.1))) f_147_44 (pk_mul _ _) rfl ?_
        refine e_aload_n f_147_45 rfl rfl ?_
        refine e_getf f_147_46 H0 rfl rfl ?_
        refine e_iload_n f_147_49 rfl rfl ?_
        refine e_iconst (v := nI 1) f_147_50 (by decide) rfl ?_
        refine e_iadd (z := nI (4 + 511 * k + 207)) f_147_51 ((nI_add _ _).trans (congrArg nI (by omega))) rfl ?_
        refine e_iconst (v := nI 3) f_147_52 (by decide) rfl ?_
        refine e_iload f_147_53 rfl rfl ?_
        refine e_imul (z := nI (3 * i)) f_147_55 (pk_mul _ _) rfl ?_
        refine e_iadd (z := nI (4 + 511 * k + 207 + 3 * i)) f_147_56 (nI_add _ _) rfl ?_
        refine e_iaload_p (xs := sl) f_147_57 H1 (d := 0) (by first | omega | (simp only [List.length_set]; omega)) rfl ?_
        show px_to 147 58 [some (.ref (269)), some (.int (nI k)), some (.int (nI w)), some (.int (nI (4 + 511 * k + 206))), some (.int ((-3))), some (.int (nI i)), none, none] [.int (sl.getD (4 + 511 * k + 207 + 3 * i) 0), .int (nI (4 * ((ts.getD i (0, 0, 0)).2.1)))] h _
        rw [hti.1]
        refine e_iadd (z := nI (4 * ((ts.getD i (0, 0, 0)).2.1) + (ts.getD i (0, 0, 0)).1)) f_147_58 (nI_add _ _) rfl ?_
        refine e_istore (L' := [some (.ref (269)), some (.int (nI k)), some (.int (nI w)), some (.int (nI (4 + 511 * k + 206))), some (.int ((-3))), some (.int (nI i)), some (.int (nI (4 * ((ts.getD i (0, 0, 0)).2.1) + (ts.getD i (0, 0, 0)).1))), none]) f_147_59 (Nat.le_of_ble_eq_true rfl) rfl rfl ?_
        refine e_iload f_147_61 rfl rfl ?_
        refine e_if_ge_f f_147_63 (by decide) rfl ?_
        refine e_iconst (v := nI 0) f_147_66 (by decide) rfl ?_
        refine e_goto f_147_67 ?_
        refine e_istore (L' := [some (.ref (269)), some (.int (nI k)), some (.int (nI w)), some (.int (nI (4 + 511 * k + 206))), some (.int ((-3))), some (.int (nI i)), some (.int (nI (4 * ((ts.getD i (0, 0, 0)).2.1) + (ts.getD i (0, 0, 0)).1))), some (.int (nI 0))]) f_147_99 (Nat.le_of_ble_eq_true rfl) rfl rfl ?_
        refine e_aload_n f_147_101 rfl rfl ?_
        refine e_getf f_147_102 H0 rfl rfl ?_
        refine e_iload_n f_147_105 rfl rfl ?_
        refine e_iconst (v := nI 2) f_147_106 (by decide) rfl ?_
        refine e_iadd (z := nI (4 + 511 * k + 208)) f_147_107 ((nI_add _ _).trans (congrArg nI (by omega))) rfl ?_
        refine e_iconst (v := nI 3) f_147_108 (by decide) rfl ?_
        refine e_iload f_147_109 rfl rfl ?_
        refine e_imul (z := nI (3 * i)) f_147_111 (pk_mul _ _) rfl ?_
        refine e_iadd (z := nI (4 + 511 * k + 208 + 3 * i)) f_147_112 (nI_add _ _) rfl ?_
        refine e_iaload_p (xs := sl) f_147_113 H1 (d := 0) (by first | omega | (simp only [List.length_set]; omega)) rfl ?_
        show px_to 147 114 [some (.ref (269)), some (.int (nI k)), some (.int (nI w)), some (.int (nI (4 + 511 * k + 206))), some (.int ((-3))), some (.int (nI i)), some (.int (nI (4 * ((ts.getD i (0, 0, 0)).2.1) + (ts.getD i (0, 0, 0)).1))), some (.int (nI 0))] [.int (sl.getD (4 + 511 * k + 208 + 3 * i) 0)] h _
        rw [hti.2.1]
        refine e_iload_n f_147_114 rfl rfl ?_
        refine e_icmp_gt f_147_115 rfl (fun c_115 => ?_) (fun c_115 => ?_)
        · skip
          have c_115 : w < (ts.getD i (0, 0, 0)).2.1 := cv_lt (by omega) (by omega) c_115
          refine e_iload f_147_135 rfl rfl ?_
          refine e_istore (L' := [some (.ref (269)), some (.int (nI k)), some (.int (nI w)), some (.int (nI (4 + 511 * k + 206))), some (.int ((-3))), some (.int (nI i)), some (.int (nI (4 * ((ts.getD i (0, 0, 0)).2.1) + (ts.getD i (0, 0, 0)).1))), some (.int (nI 0))]) f_147_137 (Nat.le_of_ble_eq_true rfl) rfl rfl ?_
          refine e_iinc (y := nI (i + 1)) (L' := [some (.ref (269)), some (.int (nI k)), some (.int (nI w)), some (.int (nI (4 + 511 * k + 206))), some (.int ((-3))), some (.int (nI (i + 1))), some (.int (nI (4 * ((ts.getD i (0, 0, 0)).2.1) + (ts.getD i (0, 0, 0)).1))), some (.int (nI 0))]) f_147_139 rfl (by rw [show Int32.ofInt 1 = nI 1 by decide]; exact (nI_add _ _)) rfl rfl ?_
          refine e_goto f_147_142 ?_
          refine px_to_L (L := [some (.ref (269)), some (.int (nI k)), some (.int (nI w)), some (.int (nI (4 + 511 * k + 206))), some (.int (oI none)), some (.int (nI (i + 1))), none, none]) ⟨Or.inr rfl, Or.inr rfl, Or.inr rfl, Or.inr rfl, Or.inr rfl, Or.inr rfl, Or.inl rfl, Or.inl rfl, trivial⟩ ?_
          first | (exfalso; omega) | exact ih (d - 1) (by omega) (i + 1) none  (by omega) (by omega) (by rw [fsG, ← q2, if_neg (by unfold fsB; rw [decide_eq_false (by omega), Bool.false_and]; decide)])  
        · skip
          have c_115 : (ts.getD i (0, 0, 0)).2.1 ≤ w := cv_nlt (by omega) (by omega) c_115
          refine e_iload f_147_118 rfl rfl ?_
          refine e_if_lt_t f_147_120 (by decide) ?_
          refine e_iload f_147_130 rfl rfl ?_
          refine e_goto f_147_132 ?_
          refine e_istore (L' := [some (.ref (269)), some (.int (nI k)), some (.int (nI w)), some (.int (nI (4 + 511 * k + 206))), some (.int (nI i)), some (.int (nI i)), some (.int (nI (4 * ((ts.getD i (0, 0, 0)).2.1) + (ts.getD i (0, 0, 0)).1))), some (.int (nI 0))]) f_147_137 (Nat.le_of_ble_eq_true rfl) rfl rfl ?_
          refine e_iinc (y := nI (i + 1)) (L' := [some (.ref (269)), some (.int (nI k)), some (.int (nI w)), some (.int (nI (4 + 511 * k + 206))), some (.int (nI i)), some (.int (nI (i + 1))), some (.int (nI (4 * ((ts.getD i (0, 0, 0)).2.1) + (ts.getD i (0, 0, 0)).1))), some (.int (nI 0))]) f_147_139 rfl (by rw [show Int32.ofInt 1 = nI 1 by decide]; exact (nI_add _ _)) rfl rfl ?_
          refine e_goto f_147_142 ?_
          refine px_to_L (L := [some (.ref (269)), some (.int (nI k)), some (.int (nI w)), some (.int (nI (4 + 511 * k + 206))), some (.int (oI (some i))), some (.int (nI (i + 1))), none, none]) ⟨Or.inr rfl, Or.inr rfl, Or.inr rfl, Or.inr rfl, Or.inr rfl, Or.inr rfl, Or.inl rfl, Or.inl rfl, trivial⟩ ?_
          first | (exfalso; omega) | exact ih (d - 1) (by omega) (i + 1) (some i)  (by omega) (by omega) (by rw [fsG, ← q2, if_pos (by unfold fsB; rw [decide_eq_true c_115]; rfl)])  
      · skip
        have hb0 := (fsG_sp i).2 b0 q2.symm
        have htb := ht.2.2 b0 (by omega)
        have hkb := hok _ (getD_mem (0, 0, 0) (show b0 < ts.length by omega))
        show px_to 147 30 [some (.ref (269)), some (.int (nI k)), some (.int (nI w)), some (.int (nI (4 + 511 * k + 206))), some (.int (nI b0)), some (.int (nI i)), none, none] [] h _
        refine e_iconst (v := nI 4) f_147_30 (by decide) rfl ?_
        refine e_aload_n f_147_31 rfl rfl ?_
        refine e_getf f_147_32 H0 rfl rfl ?_
        refine e_iload_n f_147_35 rfl rfl ?_
        refine e_iconst (v := nI 2) f_147_36 (by decide) rfl ?_
        refine e_iadd (z := nI (4 + 511 * k + 208)) f_147_37 ((nI_add _ _).trans (congrArg nI (by omega))) rfl ?_
        refine e_iconst (v := nI 3) f_147_38 (by decide) rfl ?_
        refine e_iload f_147_39 rfl rfl ?_
        refine e_imul (z := nI (3 * i)) f_147_41 (pk_mul _ _) rfl ?_
        refine e_iadd (z := nI (4 + 511 * k + 208 + 3 * i)) f_147_42 (nI_add _ _) rfl ?_
        refine e_iaload_p (xs := sl) f_147_43 H1 (d := 0) (by first | omega | (simp only [List.length_set]; omega)) rfl ?_
        show px_to 147 44 [some (.ref (269)), some (.int (nI k)), some (.int (nI w)), some (.int (nI (4 + 511 * k + 206))), some (.int (nI b0)), some (.int (nI i)), none, none] [.int (sl.getD (4 + 511 * k + 208 + 3 * i) 0), .int (nI 4)] h _
        rw [hti.2.1]
        refine e_imul (z := nI (4 * ((ts.getD i (0, 0, 0)).2.1))) f_147_44 (pk_mul _ _) rfl ?_
        refine e_aload_n f_147_45 rfl rfl ?_
        refine e_getf f_147_46 H0 rfl rfl ?_
        refine e_iload_n f_147_49 rfl rfl ?_
        refine e_iconst (v := nI 1) f_147_50 (by decide) rfl ?_
        refine e_iadd (z := nI (4 + 511 * k + 207)) f_147_51 ((nI_add _ _).trans (congrArg nI (by omega))) rfl ?_
        refine e_iconst (v := nI 3) f_147_52 (by decide) rfl ?_
        refine e_iload f_147_53 rfl rfl ?_
        refine e_imul (z := nI (3 * i)) f_147_55 (pk_mul _ _) rfl ?_
        refine e_iadd (z := nI (4 + 511 * k + 207 + 3 * i)) f_147_56 (nI_add _ _) rfl ?_
        refine e_iaload_p (xs := sl) f_147_57 H1 (d := 0) (by first | omega | (simp only [List.length_set]; omega)) rfl ?_
        show px_to 147 58 [some (.ref (269)), some (.int (nI k)), some (.int (nI w)), some (.int (nI (4 + 511 * k + 206))), some (.int (nI b0)), some (.int (nI i)), none, none] [.int (sl.getD (4 + 511 * k + 207 + 3 * i) 0), .int (nI (4 * ((ts.getD i (0, 0, 0)).2.1)))] h _
        rw [hti.1]
        refine e_iadd (z := nI (4 * ((ts.getD i (0, 0, 0)).2.1) + (ts.getD i (0, 0, 0)).1)) f_147_58 (nI_add _ _) rfl ?_
        refine e_istore (L' := [some (.ref (269)), some (.int (nI k)), some (.int (nI w)), some (.int (nI (4 + 511 * k + 206))), some (.int (nI b0)), some (.int (nI i)), some (.int (nI (4 * ((ts.getD i (0, 0, 0)).2.1) + (ts.getD i (0, 0, 0)).1))), none]) f_147_59 (Nat.le_of_ble_eq_true rfl) rfl rfl ?_
        refine e_iload f_147_61 rfl rfl ?_
        refine e_if_ge_t f_147_63 (nI_pos' (by omega)) ?_
        refine e_iconst (v := nI 4) f_147_70 (by decide) rfl ?_
        refine e_aload_n f_147_71 rfl rfl ?_
        refine e_getf f_147_72 H0 rfl rfl ?_
        refine e_iload_n f_147_75 rfl rfl ?_
        refine e_iconst (v := nI 2) f_147_76 (by decide) rfl ?_
        refine e_iadd (z := nI (4 + 511 * k + 208)) f_147_77 ((nI_add _ _).trans (congrArg nI (by omega))) rfl ?_
        refine e_iconst (v := nI 3) f_147_78 (by decide) rfl ?_
        refine e_iload f_147_79 rfl rfl ?_
        refine e_imul (z := nI (3 * b0)) f_147_81 (pk_mul _ _) rfl ?_
        refine e_iadd (z := nI (4 + 511 * k + 208 + 3 * b0)) f_147_82 (nI_add _ _) rfl ?_
        refine e_iaload_p (xs := sl) f_147_83 H1 (d := 0) (by first | omega | (simp only [List.length_set]; omega)) rfl ?_
        show px_to 147 84 [some (.ref (269)), some (.int (nI k)), some (.int (nI w)), some (.int (nI (4 + 511 * k + 206))), some (.int (nI b0)), some (.int (nI i)), some (.int (nI (4 * ((ts.getD i (0, 0, 0)).2.1) + (ts.getD i (0, 0, 0)).1))), none] [.int (sl.getD (4 + 511 * k + 208 + 3 * b0) 0), .int (nI 4)] h _
        rw [htb.2.1]
        refine e_imul (z := nI (4 * ((ts.getD b0 (0, 0, 0)).2.1))) f_147_84 (pk_mul _ _) rfl ?_
        refine e_aload_n f_147_85 rfl rfl ?_
        refine e_getf f_147_86 H0 rfl rfl ?_
        refine e_iload_n f_147_89 rfl rfl ?_
        refine e_iconst (v := nI 1) f_147_90 (by decide) rfl ?_
        refine e_iadd (z := nI (4 + 511 * k + 207)) f_147_91 ((nI_add _ _).trans (congrArg nI (by omega))) rfl ?_
        refine e_iconst (v := nI 3) f_147_92 (by decide) rfl ?_
        refine e_iload f_147_93 rfl rfl ?_
        refine e_imul (z := nI (3 * b0)) f_147_95 (pk_mul _ _) rfl ?_
        refine e_iadd (z := nI (4 + 511 * k + 207 + 3 * b0)) f_147_96 (nI_add _ _) rfl ?_
        refine e_iaload_p (xs := sl) f_147_97 H1 (d := 0) (by first | omega | (simp only [List.length_set]; omega)) rfl ?_
        show px_to 147 98 [some (.ref (269)), some (.int (nI k)), some (.int (nI w)), some (.int (nI (4 + 511 * k + 206))), some (.int (nI b0)), some (.int (nI i)), some (.int (nI (4 * ((ts.getD i (0, 0, 0)).2.1) + (ts.getD i (0, 0, 0)).1))), none] [.int (sl.getD (4 + 511 * k + 207 + 3 * b0) 0), .int (nI (4 * ((ts.getD b0 (0, 0, 0)).2.1)))] h _
        rw [htb.1]
        refine e_iadd (z := nI (4 * ((ts.getD b0 (0, 0, 0)).2.1) + (ts.getD b0 (0, 0, 0)).1)) f_147_98 (nI_add _ _) rfl ?_
        refine e_istore (L' := [some (.ref (269)), some (.int (nI k)), some (.int (nI w)), some (.int (nI (4 + 511 * k + 206))), some (.int (nI b0)), some (.int (nI i)), some (.int (nI (4 * ((ts.getD i (0, 0, 0)).2.1) + (ts.getD i (0, 0, 0)).1))), some (.int (nI (4 * ((ts.getD b0 (0, 0, 0)).2.1) + (ts.getD b0 (0, 0, 0)).1)))]) f_147_99 (Nat.le_of_ble_eq_true rfl) rfl rfl ?_
        refine e_aload_n f_147_101 rfl rfl ?_
        refine e_getf f_147_102 H0 rfl rfl ?_
        refine e_iload_n f_147_105 rfl rfl ?_
        refine e_iconst (v := nI 2) f_147_106 (by decide) rfl ?_
        refine e_iadd (z := nI (4 + 511 * k + 208)) f_147_107 ((nI_add _ _).trans (congrArg nI (by omega))) rfl ?_
        refine e_iconst (v := nI 3) f_147_108 (by decide) rfl ?_
        refine e_iload f_147_109 rfl rfl ?_
        refine e_imul (z := nI (3 * i)) f_147_111 (pk_mul _ _) rfl ?_
        refine e_iadd (z := nI (4 + 511 * k + 208 + 3 * i)) f_147_112 (nI_add _ _) rfl ?_
        refine e_iaload_p (xs := sl) f_147_113 H1 (d := 0) (by first | omega | (simp only [List.length_set]; omega)) rfl ?_
        show px_to 147 114 [some (.ref (269)), some (.int (nI k)), some (.int (nI w)), some (.int (nI (4 + 511 * k + 206))), some (.int (nI b0)), some (.int (nI i)), some (.int (nI (4 * ((ts.getD i (0, 0, 0)).2.1) + (ts.getD i (0, 0, 0)).1))), some (.int (nI (4 * ((ts.getD b0 (0, 0, 0)).2.1) + (ts.getD b0 (0, 0, 0)).1)))] [.int (sl.getD (4 + 511 * k + 208 + 3 * i) 0)] h _
        rw [hti.2.1]
        refine e_iload_n f_147_114 rfl rfl ?_
        refine e_icmp_gt f_147_115 rfl (fun c_115 => ?_) (fun c_115 => ?_)
        · skip
          have c_115 : w < (ts.getD i (0, 0, 0)).2.1 := cv_lt (by omega) (by omega) c_115
          refine e_iload f_147_135 rfl rfl ?_
          refine e_istore (L' := [some (.ref (269)), some (.int (nI k)), some (.int (nI w)), some (.int (nI (4 + 511 * k + 206))), some (.int (nI b0)), some (.int (nI i)), some (.int (nI (4 * ((ts.getD i (0, 0, 0)).2.1) + (ts.getD i (0, 0, 0)).1))), some (.int (nI (4 * ((ts.getD b0 (0, 0, 0)).2.1) + (ts.getD b0 (0, 0, 0)).1)))]) f_147_137 (Nat.le_of_ble_eq_true rfl) rfl rfl ?_
          refine e_iinc (y := nI (i + 1)) (L' := [some (.ref (269)), some (.int (nI k)), some (.int (nI w)), some (.int (nI (4 + 511 * k + 206))), some (.int (nI b0)), some (.int (nI (i + 1))), some (.int (nI (4 * ((ts.getD i (0, 0, 0)).2.1) + (ts.getD i (0, 0, 0)).1))), some (.int (nI (4 * ((ts.getD b0 (0, 0, 0)).2.1) + (ts.getD b0 (0, 0, 0)).1)))]) f_147_139 rfl (by rw [show Int32.ofInt 1 = nI 1 by decide]; exact (nI_add _ _)) rfl rfl ?_
          refine e_goto f_147_142 ?_
          refine px_to_L (L := [some (.ref (269)), some (.int (nI k)), some (.int (nI w)), some (.int (nI (4 + 511 * k + 206))), some (.int (oI (some b0))), some (.int (nI (i + 1))), none, none]) ⟨Or.inr rfl, Or.inr rfl, Or.inr rfl, Or.inr rfl, Or.inr rfl, Or.inr rfl, Or.inl rfl, Or.inl rfl, trivial⟩ ?_
          first | (exfalso; omega) | exact ih (d - 1) (by omega) (i + 1) (some b0)  (by omega) (by omega) (by rw [fsG, ← q2, if_neg (by unfold fsB; rw [decide_eq_false (by omega), Bool.false_and]; decide)])  
        · skip
          have c_115 : (ts.getD i (0, 0, 0)).2.1 ≤ w := cv_nlt (by omega) (by omega) c_115
          refine e_iload f_147_118 rfl rfl ?_
          refine e_if_lt_f f_147_120 (nI_pos (by omega)) rfl ?_
          refine e_iload f_147_123 rfl rfl ?_
          refine e_iload f_147_125 rfl rfl ?_
          refine e_icmp_ge f_147_127 rfl (fun c_127 => ?_) (fun c_127 => ?_)
          · skip
            have c_127 : 4 * ((ts.getD b0 (0, 0, 0)).2.1) + (ts.getD b0 (0, 0, 0)).1 ≤ 4 * ((ts.getD i (0, 0, 0)).2.1) + (ts.getD i (0, 0, 0)).1 := cv_le (by omega) (by omega) c_127
            refine e_iload f_147_135 rfl rfl ?_
            refine e_istore (L' := [some (.ref (269)), some (.int (nI k)), some (.int (nI w)), some (.int (nI (4 + 511 * k + 206))), some (.int (nI b0)), some (.int (nI i)), some (.int (nI (4 * ((ts.getD i (0, 0, 0)).2.1) + (ts.getD i (0, 0, 0)).1))), some (.int (nI (4 * ((ts.getD b0 (0, 0, 0)).2.1) + (ts.getD b0 (0, 0, 0)).1)))]) f_147_137 (Nat.le_of_ble_eq_true rfl) rfl rfl ?_
            refine e_iinc (y := nI (i + 1)) (L' := [some (.ref (269)), some (.int (nI k)), some (.int (nI w)), some (.int (nI (4 + 511 * k + 206))), some (.int (nI b0)), some (.int (nI (i + 1))), some (.int (nI (4 * ((ts.getD i (0, 0, 0)).2.1) + (ts.getD i (0, 0, 0)).1))), some (.int (nI (4 * ((ts.getD b0 (0, 0, 0)).2.1) + (ts.getD b0 (0, 0, 0)).1)))]) f_147_139 rfl (by rw [show Int32.ofInt 1 = nI 1 by decide]; exact (nI_add _ _)) rfl rfl ?_
            refine e_goto f_147_142 ?_
            refine px_to_L (L := [some (.ref (269)), some (.int (nI k)), some (.int (nI w)), some (.int (nI (4 + 511 * k + 206))), some (.int (oI (some b0))), some (.int (nI (i + 1))), none, none]) ⟨Or.inr rfl, Or.inr rfl, Or.inr rfl, Or.inr rfl, Or.inr rfl, Or.inr rfl, Or.inl rfl, Or.inl rfl, trivial⟩ ?_
            first | (exfalso; omega) | exact ih (d - 1) (by omega) (i + 1) (some b0)  (by omega) (by omega) (by rw [fsG, ← q2, if_neg (by unfold fsB; rw [decide_eq_true c_115, Bool.true_and]; exact fun z => absurd (of_decide_eq_true z) (by show ¬ (4 * _ + _ < 4 * _ + _); omega))])  
          · skip
            have c_127 : 4 * ((ts.getD i (0, 0, 0)).2.1) + (ts.getD i (0, 0, 0)).1 < 4 * ((ts.getD b0 (0, 0, 0)).2.1) + (ts.getD b0 (0, 0, 0)).1 := cv_nle (by omega) (by omega) c_127
            refine e_iload f_147_130 rfl rfl ?_
            refine e_goto f_147_132 ?_
            refine e_istore (L' := [some (.ref (269)), some (.int (nI k)), some (.int (nI w)), some (.int (nI (4 + 511 * k + 206))), some (.int (nI i)), some (.int (nI i)), some (.int (nI (4 * ((ts.getD i (0, 0, 0)).2.1) + (ts.getD i (0, 0, 0)).1))), some (.int (nI (4 * ((ts.getD b0 (0, 0, 0)).2.1) + (ts.getD b0 (0, 0, 0)).1)))]) f_147_137 (Nat.le_of_ble_eq_true rfl) rfl rfl ?_
            refine e_iinc (y := nI (i + 1)) (L' := [some (.ref (269)), some (.int (nI k)), some (.int (nI w)), some (.int (nI (4 + 511 * k + 206))), some (.int (nI i)), some (.int (nI (i + 1))), some (.int (nI (4 * ((ts.getD i (0, 0, 0)).2.1) + (ts.getD i (0, 0, 0)).1))), some (.int (nI (4 * ((ts.getD b0 (0, 0, 0)).2.1) + (ts.getD b0 (0, 0, 0)).1)))]) f_147_139 rfl (by rw [show Int32.ofInt 1 = nI 1 by decide]; exact (nI_add _ _)) rfl rfl ?_
            refine e_goto f_147_142 ?_
            refine px_to_L (L := [some (.ref (269)), some (.int (nI k)), some (.int (nI w)), some (.int (nI (4 + 511 * k + 206))), some (.int (oI (some i))), some (.int (nI (i + 1))), none, none]) ⟨Or.inr rfl, Or.inr rfl, Or.inr rfl, Or.inr rfl, Or.inr rfl, Or.inr rfl, Or.inl rfl, Or.inl rfl, trivial⟩ ?_
            first | (exfalso; omega) | exact ih (d - 1) (by omega) (i + 1) (some i)  (by omega) (by omega) (by rw [fsG, ← q2, if_pos (by unfold fsB; rw [decide_eq_true c_115, Bool.true_and]; exact decide_eq_true c_127)])  

set_option maxRecDepth 20000 in
set_option maxHeartbeats 4000000 in
theorem cc_Md_fsp {h : px_H} {k w : Nat} {sl : List Int32} {ts : List TS} {ga : gA} {gp : gP} {gq : gQ} {gh : gH} {gw : gW} {gu : gU} {gv : gV} (H0 : h.2.2 269 = some (12, mB ga gp gq gh gw gu gv)) (H1 : px_pa h 287 50 3070 Value.int sl) (p0 : k < 6) (p1 : w ≤ 5000) (p2 : sl.length = 3070) (p3 : tR sl (4 + 511 * k) ts) (p4 : ∀ t ∈ ts, t.1 < 4 ∧ 1 ≤ t.2.1 ∧ t.2.1 ≤ 6000) : px_wp 147 [.ref (269), .int (nI k), .int (nI w)] h (fun h1 r => r = some (.int (oI (fsG ts w ts.length))) ∧ h1 = h) := by
  show px_to 147 0 [some (.ref (269)), some (.int (nI k)), some (.int (nI w)), none, none, none, none, none] [] h _
  refine e_iconst (v := nI 4) f_147_0 (by decide) rfl ?_
  refine e_sipush (v := nI 511) f_147_1 (by decide) rfl ?_
  refine e_iload_n f_147_4 rfl rfl ?_
  refine e_imul (z := nI (511 * k)) f_147_5 (pk_mul _ _) rfl ?_
  refine e_iadd (z := nI (4 + 511 * k)) f_147_6 (nI_add _ _) rfl ?_
  refine e_sipush (v := nI 206) f_147_7 (by decide) rfl ?_
  refine e_iadd (z := nI (4 + 511 * k + 206)) f_147_10 (nI_add _ _) rfl ?_
  refine e_istore_n (L' := [some (.ref (269)), some (.int (nI k)), some (.int (nI w)), some (.int (nI (4 + 511 * k + 206))), none, none, none, none]) f_147_11 (Nat.le_of_ble_eq_true rfl) rfl rfl ?_
  refine e_bipush (v := (-3)) f_147_12 (by decide) rfl ?_
  refine e_istore (L' := [some (.ref (269)), some (.int (nI k)), some (.int (nI w)), some (.int (nI (4 + 511 * k + 206))), some (.int ((-3))), none, none, none]) f_147_14 (Nat.le_of_ble_eq_true rfl) rfl rfl ?_
  refine e_iconst (v := nI 0) f_147_16 (by decide) rfl ?_
  refine e_istore (L' := [some (.ref (269)), some (.int (nI k)), some (.int (nI w)), some (.int (nI (4 + 511 * k + 206))), some (.int ((-3))), some (.int (nI 0)), none, none]) f_147_17 (Nat.le_of_ble_eq_true rfl) rfl rfl ?_
  exact ll_Md_fsp H0 H1 p0 p1 p2 p3 p4 ⟨rfl, rfl⟩ ts.length 0 none (by omega) (by omega) rfl

theorem PB_pass {j : List St} {k key t : Nat} {v : Int32} {x : RX} (hj : okJ j) (hl : x.2.1.length = j.length) (hk : k ≤ j.length) (b : bd j x k) : PB j (pass j 7 k key v t x) 96 := fun q hq => Nat.le_trans (pass_Phi hj 7 k v x hl hk q) (b q hq)
def popY (k : Nat) (x : RX) : RX := noted k (setS x k (smDrop 1 (getS x k)))
theorem bd_popY {j : List St} {k : Nat} {x : RX} (hk : k < j.length) (hl : x.2.1.length = j.length) (hs : (j.getD k (0, 0, 0)).1 = 119) (h0 : 0 < (getS x k).2.2.2.1.length) (p : PB j x 96) : bd j (popY k x) (k + 1) := by
  refine bd_pop hk hl ?_ ?_ (Nat.le_refl _) p
  · unfold pend smDrop
    rw [if_pos hs, if_pos hs]
    dsimp only
    rw [List.length_drop]
    omega
  · unfold sizM smDrop
    rw [if_pos (Or.inr hs), if_pos (Or.inr hs)]
    dsimp only
    rw [List.length_drop]
    omega
theorem relX_pop {j : List St} {cb : Bool} {lg lh : List Row} {A B W : Int32} {x : RX} {sl cv : List Int32} {k q : Nat} {ts : List TS} (h : relX j cb lg A B W x sl lh cv) (hk : k < j.length) (h6 : j.length ≤ 6) (hl : x.2.1.length = j.length) (hs : (j.getD k (0, 0, 0)).1 = 119) (ht : tR sl (4 + 511 * k) ts) (hp : spR ts (getS x k).2.2.2.1 (getS x k).2.2.2.2) (hq : q < ts.length) (h0 : mkM (ts.getD q (0, 0, 0)).1 (nI (ts.getD q (0, 0, 0)).2.1) = (getS x k).2.2.2.1.getD 0 0) : relX j cb lg A B W (popY k x) (tDelS sl (4 + 511 * k) q (ts.getD (ts.length - 1) (0, 0, 0)) (ts.length - 1)) lh (tI cb (tI cb cv (5 * k + 1)) (5 * k + 2)) := by
  have h100 := ht.1
  have ha := tDelS_ags (sl := sl) (b := 4 + 511 * k) (i := q) (n := ts.length - 1) (t := ts.getD (ts.length - 1) (0, 0, 0)) (by omega)
  refine ⟨ha.1.trans h.1, ⟨(ha.2 0 (by omega)).trans h.2.1.1, (ha.2 1 (by omega)).trans h.2.1.2.1, (ha.2 2 (by omega)).trans h.2.1.2.2.1, (ha.2 3 (by omega)).trans h.2.1.2.2.2⟩, ?_, h.2.2.2.1, by rw [tI_len, tI_len]; exact h.2.2.2.2.1, cvR (cvR h.2.2.2.2.2 (by omega)) (by omega)⟩
  refine MSt_set h.2.2.1 hk hl ha ?_
  have hst := h.2.2.1 k hk
  refine ⟨?_, fun z => by omega, fun z => by omega, fun _ => ⟨_, tR_del ht (by have := h.1; omega) hq, (spR_pop hp hq h0).1⟩, fun z => by omega⟩
  unfold tDelS
  rw [getD_set_ne (by omega), getD_set_ne (by omega), getD_set_ne (by omega), getD_set_ne (by omega)]
  exact hst.1
theorem popS_s {j : List St} {k w d e key : Nat} {c : Int32} {x : RX} (hz : x.2.2.2.2 = none) (hu : 0 < spUp (nI w) (getS x k).2.2.2.1) (hm : mkM key (nI e) = (getS x k).2.2.2.1.getD 0 0) (hc : c = (getS x k).2.2.2.2.getD 0 0) (hk : key < 4) (he : e ≤ 6000) : popS j k w (d + 1) x = popS j k w d (pass j 7 (k + 1) key c (e - 1) (popY k x)) := by
  rw [popS, if_pos ⟨hz, hu⟩, ← hm, ← hc, mkK_mk hk he, mkE_mk hk he]
  rfl
theorem some_f {z : Option Nat} (h : z.isSome = false) : z = none := by
  cases z with
  | none => rfl
  | some _ => exact nomatch h
theorem some_t {z : Option Nat} (h : z.isSome = true) : z ≠ none := by
  cases z with
  | none => exact nomatch h
  | some _ => exact fun y => nomatch y

set_option maxRecDepth 20000 in
set_option maxHeartbeats 4000000 in
theorem ll_Md_tsp {h0 : px_H} {k w : Nat} {res : RX} {A B W : Int32} {ga : gA} {gp : gP} {gu : gU} {gv : gV} {j : List St} {dn : Int32} {la lb cb : Bool} {lg : List Row}  (K0 : px_pa h0 284 52 6 stS j) (K1 : px_pa h0 285 52 6 stA j) (K2 : px_pa h0 286 50 6 stN j) (hj : okZ j) (hk : k < j.length) (hsg : (j.getD k (0, 0, 0)).1 = 119) (hw : w ≤ 5000) : ∀ (d : Nat) (x : RX) (gw : gW) (sl : List Int32) (lh : List Row) (cv : List Int32) (ts : List TS) (g : px_H), ((getS x k).2.2.2.1.length < d) → (popS j k w d x = res) → (okX j x) → (PB j x 96) → (relX j cb lg A B W x sl lh cv) → (tR sl (4 + 511 * k) ts) → (spR ts (getS x k).2.2.2.1 (getS x k).2.2.2.2) → g.2.2 269 = some (12, mB ga gp (nI j.length, x.2.2.2.2.isSome, oI x.2.2.2.2, dn, la, lb, cb) (nI lh.length, nI lg.length) gw gu gv) → px_pa g 287 50 3070 Value.int sl → px_pa g 295 50 30 Value.int cv → px_pa g 289 54 100 rK lh → px_pa g 290 50 100 rV lh → px_pa g 291 50 100 rT lh → px_fl [(269, 1), (287, 1), (289, 3), (295, 1)] h0 g → px_to 148 20 [some (.ref (269)), some (.int (nI k)), some (.int (nI w)), some (.int (nI (4 + 511 * k + 206))), some (.int (oI (fsG ts w ts.length))), none] [] g (fun h1 r => r = none ∧ pRE h1 ga gp gu gv j dn la lb cb lg A B W res ∧ px_fl [(269, 1), (287, 1), (289, 3), (295, 1)] h0 h1) := by
  intro d
  induction d using Nat.strongRecOn with
  | ind d ih =>
    intro x gw sl lh cv ts g q0 q1 q2 q3 q4 q5 q6 G0 G1 G2 G3 G4 G5 frg
    have h6 := hj.1.1
    have h100 := q5.1
    rcases hf : fsG ts w ts.length with _ | q
    · skip
      show px_to 148 20 [some (.ref (269)), some (.int (nI k)), some (.int (nI w)), some (.int (nI (4 + 511 * k + 206))), some (.int ((-3))), none] [] g _
      refine e_iload f_148_20 rfl rfl ?_
      refine e_if_lt_t f_148_22 (by decide) ?_
      refine e_vret f_148_172 rfl ?_
      have er : res = x := by rw [← q1]; exact popS_no (fun z => absurd z.2 (by rw [spR_none q6 hw ((fsG_sp ts.length).1 hf)]; exact Nat.lt_irrefl 0))
      rw [er]
      exact ⟨rfl, ⟨gw, sl, lh, cv, G0, G1, G2, G3, G4, G5, q4⟩, frg⟩
    · skip
      have hq := (fsG_sp ts.length).2 q hf
      have htq := q5.2.2 q hq.1
      have hbq := q6.2.2.2 _ (getD_mem (0, 0, 0) hq.1)
      have hmin := spR_min q6 hw hq.1 hq.2.1 hq.2.2
      have hlt := q5.2.2 (ts.length - 1) (by omega)
      have hln := spR_len q6
      have hsl := q4.1
      show px_to 148 20 [some (.ref (269)), some (.int (nI k)), some (.int (nI w)), some (.int (nI (4 + 511 * k + 206))), some (.int (nI q)), none] [] g _
      refine e_iload f_148_20 rfl rfl ?_
      refine e_if_lt_f f_148_22 (nI_pos (by omega)) rfl ?_
      refine e_aload_n f_148_25 rfl rfl ?_
      refine e_getf f_148_26 G0 rfl rfl ?_
      show px_to 148 29 [some (.ref (269)), some (.int (nI k)), some (.int (nI w)), some (.int (nI (4 + 511 * k + 206))), some (.int (nI q)), none] [.int (bI x.2.2.2.2.isSome)] g _
      refine e_if_ne f_148_29 rfl (fun c_29 => ?_) (fun c_29 => ?_)
      · skip
        have c_29 : x.2.2.2.2.isSome = true := bI_t c_29
        refine e_vret f_148_172 rfl ?_
        have er : res = x := by rw [← q1]; exact popS_no (fun z => some_t c_29 z.1)
        rw [er]
        exact ⟨rfl, ⟨gw, sl, lh, cv, G0, G1, G2, G3, G4, G5, q4⟩, frg⟩
      · skip
        have c_29 : x.2.2.2.2.isSome = false := bI_f' c_29
        have hz := some_f c_29
        have hRp := relX_pop (q := q) q4 hk hj.1.1 q2.1.1 hsg q5 q6 hq.1 hmin.1
        refine e_aload_n f_148_32 rfl rfl ?_
        refine e_aload_n f_148_33 rfl rfl ?_
        refine e_getf f_148_34 G0 rfl rfl ?_
        refine e_iload_n f_148_37 rfl rfl ?_
        refine e_iconst (v := nI 1) f_148_38 (by decide) rfl ?_
        refine e_iadd (z := nI (4 + 511 * k + 207)) f_148_39 ((nI_add _ _).trans (congrArg nI (by omega))) rfl ?_
        refine e_iconst (v := nI 3) f_148_40 (by decide) rfl ?_
        refine e_iload f_148_41 rfl rfl ?_
        refine e_imul (z := nI (3 * q)) f_148_43 (pk_mul _ _) rfl ?_
        refine e_iadd (z := nI (4 + 511 * k + 207 + 3 * q)) f_148_44 (nI_add _ _) rfl ?_
        refine e_iaload_p (xs := sl) f_148_45 G1 (d := 0) (by first | omega | (simp only [List.length_set]; omega)) rfl ?_
        show px_to 148 46 [some (.ref (269)), some (.int (nI k)), some (.int (nI w)), some (.int (nI (4 + 511 * k + 206))), some (.int (nI q)), none] [.int (sl.getD (4 + 511 * k + 207 + 3 * q) 0), .ref (269)] g _
        rw [htq.1]
        refine e_putp (vs' := mB ga gp (nI j.length, x.2.2.2.2.isSome, oI x.2.2.2.2, dn, la, lb, cb) (nI lh.length, nI lg.length) (nI ((ts.getD q (0, 0, 0)).1), gw.2.1, gw.2.2) gu gv) f_148_46 G0 (Nat.le_of_ble_eq_true rfl) (rfl) (rfl) rfl rfl (fun h1 g2 fx3 => ?_)
        have fr4 : px_fl [(269, 1), (287, 1), (289, 3), (295, 1)] h0 h1 := fl_tr frg fx3 (by first | exact ⟨_, List.mem_cons_self, by omega, by omega⟩ | exact ⟨_, List.mem_cons_of_mem _ (List.mem_cons_self), by omega, by omega⟩ | exact ⟨_, List.mem_cons_of_mem _ (List.mem_cons_of_mem _ (List.mem_cons_self)), by omega, by omega⟩ | exact ⟨_, List.mem_cons_of_mem _ (List.mem_cons_of_mem _ (List.mem_cons_of_mem _ (List.mem_cons_self))), by omega, by omega⟩)
        refine e_aload_n f_148_49 rfl rfl ?_
        refine e_aload_n f_148_50 rfl rfl ?_
        refine e_getf f_148_51 g2 rfl rfl ?_
        refine e_iload_n f_148_54 rfl rfl ?_
        refine e_iconst (v := nI 2) f_148_55 (by decide) rfl ?_
        refine e_iadd (z := nI (4 + 511 * k + 208)) f_148_56 ((nI_add _ _).trans (congrArg nI (by omega))) rfl ?_
        refine e_iconst (v := nI 3) f_148_57 (by decide) rfl ?_
        refine e_iload f_148_58 rfl rfl ?_
        refine e_imul (z := nI (3 * q)) f_148_60 (pk_mul _ _) rfl ?_
        refine e_iadd (z := nI (4 + 511 * k + 208 + 3 * q)) f_148_61 (nI_add _ _) rfl ?_
        have g5 : px_pa h1 287 50 3070 Value.int sl := pa_fi G1 fx3 (by omega)
        refine e_iaload_p (xs := sl) f_148_62 g5 (d := 0) (by first | omega | (simp only [List.length_set]; omega)) rfl ?_
        show px_to 148 63 [some (.ref (269)), some (.int (nI k)), some (.int (nI w)), some (.int (nI (4 + 511 * k + 206))), some (.int (nI q)), none] [.int (sl.getD (4 + 511 * k + 208 + 3 * q) 0), .ref (269)] h1 _
        rw [htq.2.1]
        refine e_iconst (v := nI 1) f_148_63 (by decide) rfl ?_
        refine e_isub (z := nI ((ts.getD q (0, 0, 0)).2.1 - 1)) f_148_64 (pk_sub (by omega)) rfl ?_
        refine e_putp (vs' := mB ga gp (nI j.length, x.2.2.2.2.isSome, oI x.2.2.2.2, dn, la, lb, cb) (nI lh.length, nI lg.length) (nI ((ts.getD q (0, 0, 0)).1), gw.2.1, nI ((ts.getD q (0, 0, 0)).2.1 - 1)) gu gv) f_148_65 g2 (Nat.le_of_ble_eq_true rfl) (rfl) (rfl) rfl rfl (fun h6 g7 fx8 => ?_)
        have fr9 : px_fl [(269, 1), (287, 1), (289, 3), (295, 1)] h0 h6 := fl_tr fr4 fx8 (by first | exact ⟨_, List.mem_cons_self, by omega, by omega⟩ | exact ⟨_, List.mem_cons_of_mem _ (List.mem_cons_self), by omega, by omega⟩ | exact ⟨_, List.mem_cons_of_mem _ (List.mem_cons_of_mem _ (List.mem_cons_self)), by omega, by omega⟩ | exact ⟨_, List.mem_cons_of_mem _ (List.mem_cons_of_mem _ (List.mem_cons_of_mem _ (List.mem_cons_self))), by omega, by omega⟩)
        refine e_aload_n f_148_68 rfl rfl ?_
        refine e_aload_n f_148_69 rfl rfl ?_
        refine e_getf f_148_70 g7 rfl rfl ?_
        refine e_iload_n f_148_73 rfl rfl ?_
        refine e_iconst (v := nI 3) f_148_74 (by decide) rfl ?_
        refine e_iadd (z := nI (4 + 511 * k + 209)) f_148_75 ((nI_add _ _).trans (congrArg nI (by omega))) rfl ?_
        refine e_iconst (v := nI 3) f_148_76 (by decide) rfl ?_
        refine e_iload f_148_77 rfl rfl ?_
        refine e_imul (z := nI (3 * q)) f_148_79 (pk_mul _ _) rfl ?_
        refine e_iadd (z := nI (4 + 511 * k + 209 + 3 * q)) f_148_80 (nI_add _ _) rfl ?_
        have g10 : px_pa h6 287 50 3070 Value.int sl := pa_fi g5 fx8 (by omega)
        refine e_iaload_p (xs := sl) f_148_81 g10 (d := 0) (by first | omega | (simp only [List.length_set]; omega)) rfl ?_
        show px_to 148 82 [some (.ref (269)), some (.int (nI k)), some (.int (nI w)), some (.int (nI (4 + 511 * k + 206))), some (.int (nI q)), none] [.int (sl.getD (4 + 511 * k + 209 + 3 * q) 0), .ref (269)] h6 _
        rw [htq.2.2]
        refine e_putp (vs' := mB ga gp (nI j.length, x.2.2.2.2.isSome, oI x.2.2.2.2, dn, la, lb, cb) (nI lh.length, nI lg.length) (nI ((ts.getD q (0, 0, 0)).1), (ts.getD q (0, 0, 0)).2.2, nI ((ts.getD q (0, 0, 0)).2.1 - 1)) gu gv) f_148_82 g7 (Nat.le_of_ble_eq_true rfl) (rfl) (rfl) rfl rfl (fun h11 g12 fx13 => ?_)
        have fr14 : px_fl [(269, 1), (287, 1), (289, 3), (295, 1)] h0 h11 := fl_tr fr9 fx13 (by first | exact ⟨_, List.mem_cons_self, by omega, by omega⟩ | exact ⟨_, List.mem_cons_of_mem _ (List.mem_cons_self), by omega, by omega⟩ | exact ⟨_, List.mem_cons_of_mem _ (List.mem_cons_of_mem _ (List.mem_cons_self)), by omega, by omega⟩ | exact ⟨_, List.mem_cons_of_mem _ (List.mem_cons_of_mem _ (List.mem_cons_of_mem _ (List.mem_cons_self))), by omega, by omega⟩)
        refine e_aload_n f_148_85 rfl rfl ?_
        refine e_getf f_148_86 g12 rfl rfl ?_
        refine e_iload_n f_148_89 rfl rfl ?_
        refine e_dup2 f_148_90 rfl rfl rfl ?_
        have g15 : px_pa h11 287 50 3070 Value.int sl := pa_fi g10 fx13 (by omega)
        refine e_iaload_p (xs := sl) f_148_91 g15 (d := 0) (by first | omega | (simp only [List.length_set]; omega)) rfl ?_
        show px_to 148 92 [some (.ref (269)), some (.int (nI k)), some (.int (nI w)), some (.int (nI (4 + 511 * k + 206))), some (.int (nI q)), none] [.int (sl.getD (4 + 511 * k + 206) 0), .int (nI (4 + 511 * k + 206)), .ref (287)] h11 _
        rw [q5.2.1]
        refine e_iconst (v := nI 1) f_148_92 (by decide) rfl ?_
        refine e_isub (z := nI (ts.length - 1)) f_148_93 (pk_sub (by omega)) rfl ?_
        refine e_iastore_p (xs := sl) (x := nI (ts.length - 1)) f_148_94 g15 (by omega) (by first | omega | (simp only [List.length_set]; omega)) (rfl) rfl (fun h16 g17 fx18 => ?_)
        have fr19 : px_fl [(269, 1), (287, 1), (289, 3), (295, 1)] h0 h16 := fl_tr fr14 fx18 (by first | exact ⟨_, List.mem_cons_self, by omega, by omega⟩ | exact ⟨_, List.mem_cons_of_mem _ (List.mem_cons_self), by omega, by omega⟩ | exact ⟨_, List.mem_cons_of_mem _ (List.mem_cons_of_mem _ (List.mem_cons_self)), by omega, by omega⟩ | exact ⟨_, List.mem_cons_of_mem _ (List.mem_cons_of_mem _ (List.mem_cons_of_mem _ (List.mem_cons_self))), by omega, by omega⟩)
        refine e_iconst (v := nI 1) f_148_95 (by decide) rfl ?_
        refine e_istore (L' := [some (.ref (269)), some (.int (nI k)), some (.int (nI w)), some (.int (nI (4 + 511 * k + 206))), some (.int (nI q)), some (.int (nI 1))]) f_148_96 (Nat.le_of_ble_eq_true rfl) rfl rfl ?_
        refine e_iload f_148_98 rfl rfl ?_
        refine e_iconst (v := nI 4) f_148_100 (by decide) rfl ?_
        refine e_icmp_ge_f f_148_101 (by decide) rfl ?_
        refine e_aload_n f_148_104 rfl rfl ?_
        have g20 : h16.2.2 269 = some (12, mB ga gp (nI j.length, x.2.2.2.2.isSome, oI x.2.2.2.2, dn, la, lb, cb) (nI lh.length, nI lg.length) (nI ((ts.getD q (0, 0, 0)).1), (ts.getD q (0, 0, 0)).2.2, nI ((ts.getD q (0, 0, 0)).2.1 - 1)) gu gv) := fi_at g12 fx18 (by omega)
        refine e_getf f_148_105 g20 rfl rfl ?_
        refine e_iload_n f_148_108 rfl rfl ?_
        refine e_iload f_148_109 rfl rfl ?_
        refine e_iadd (z := nI (4 + 511 * k + 207)) f_148_111 ((nI_add _ _).trans (congrArg nI (by omega))) rfl ?_
        refine e_iconst (v := nI 3) f_148_112 (by decide) rfl ?_
        refine e_iload f_148_113 rfl rfl ?_
        refine e_imul (z := nI (3 * q)) f_148_115 (pk_mul _ _) rfl ?_
        refine e_iadd (z := nI (4 + 511 * k + 207 + 3 * q)) f_148_116 (nI_add _ _) rfl ?_
        refine e_aload_n f_148_117 rfl rfl ?_
        refine e_getf f_148_118 g20 rfl rfl ?_
        refine e_iload_n f_148_121 rfl rfl ?_
        refine e_iload f_148_122 rfl rfl ?_
        refine e_iadd (z := nI (4 + 511 * k + 207)) f_148_124 ((nI_add _ _).trans (congrArg nI (by omega))) rfl ?_
        refine e_iconst (v := nI 3) f_148_125 (by decide) rfl ?_
        refine e_aload_n f_148_126 rfl rfl ?_
        refine e_getf f_148_127 g20 rfl rfl ?_
        refine e_iload_n f_148_130 rfl rfl ?_
        refine e_iaload_p (xs := sl.set (4 + 511 * k + 206) (nI (ts.length - 1))) f_148_131 g17 (d := 0) (by first | omega | (simp only [List.length_set]; omega)) rfl ?_
        show px_to 148 132 [some (.ref (269)), some (.int (nI k)), some (.int (nI w)), some (.int (nI (4 + 511 * k + 206))), some (.int (nI q)), some (.int (nI 1))] [.int ((sl.set (4 + 511 * k + 206) (nI (ts.length - 1))).getD (4 + 511 * k + 206) 0), .int (nI 3), .int (nI (4 + 511 * k + 207)), .ref (287), .int (nI (4 + 511 * k + 207 + 3 * q)), .ref (287)] h16 _
        rw [getD_set_same (by omega)]
        refine e_imul (z := nI (3 * (ts.length - 1))) f_148_132 (pk_mul _ _) rfl ?_
        refine e_iadd (z := nI (4 + 511 * k + 207 + (3 * (ts.length - 1)))) f_148_133 (nI_add _ _) rfl ?_
        refine e_iaload_p (xs := sl.set (4 + 511 * k + 206) (nI (ts.length - 1))) f_148_134 g17 (d := 0) (by first | omega | (simp only [List.length_set]; omega)) rfl ?_
        show px_to 148 135 [some (.ref (269)), some (.int (nI k)), some (.int (nI w)), some (.int (nI (4 + 511 * k + 206))), some (.int (nI q)), some (.int (nI 1))] [.int ((sl.set (4 + 511 * k + 206) (nI (ts.length - 1))).getD (4 + 511 * k + 207 + (3 * (ts.length - 1))) 0), .int (nI (4 + 511 * k + 207 + 3 * q)), .ref (287)] h16 _
        rw [getD_set_ne (by omega), hlt.1]
        refine e_iastore_p (xs := sl.set (4 + 511 * k + 206) (nI (ts.length - 1))) (x := nI ((ts.getD (ts.length - 1) (0, 0, 0)).1)) f_148_135 g17 (by omega) (by first | omega | (simp only [List.length_set]; omega)) (rfl) rfl (fun h21 g22 fx23 => ?_)
        have fr24 : px_fl [(269, 1), (287, 1), (289, 3), (295, 1)] h0 h21 := fl_tr fr19 fx23 (by first | exact ⟨_, List.mem_cons_self, by omega, by omega⟩ | exact ⟨_, List.mem_cons_of_mem _ (List.mem_cons_self), by omega, by omega⟩ | exact ⟨_, List.mem_cons_of_mem _ (List.mem_cons_of_mem _ (List.mem_cons_self)), by omega, by omega⟩ | exact ⟨_, List.mem_cons_of_mem _ (List.mem_cons_of_mem _ (List.mem_cons_of_mem _ (List.mem_cons_self))), by omega, by omega⟩)
        refine e_iinc (y := nI 2) (L' := [some (.ref (269)), some (.int (nI k)), some (.int (nI w)), some (.int (nI (4 + 511 * k + 206))), some (.int (nI q)), some (.int (nI 2))]) f_148_136 rfl (by rw [show Int32.ofInt 1 = nI 1 by decide]; exact (nI_add _ _).trans (congrArg nI (by omega))) rfl rfl ?_
        refine e_goto f_148_139 ?_
        refine e_iload f_148_98 rfl rfl ?_
        refine e_iconst (v := nI 4) f_148_100 (by decide) rfl ?_
        refine e_icmp_ge_f f_148_101 (by decide) rfl ?_
        refine e_aload_n f_148_104 rfl rfl ?_
        have g25 : h21.2.2 269 = some (12, mB ga gp (nI j.length, x.2.2.2.2.isSome, oI x.2.2.2.2, dn, la, lb, cb) (nI lh.length, nI lg.length) (nI ((ts.getD q (0, 0, 0)).1), (ts.getD q (0, 0, 0)).2.2, nI ((ts.getD q (0, 0, 0)).2.1 - 1)) gu gv) := fi_at g20 fx23 (by omega)
        refine e_getf f_148_105 g25 rfl rfl ?_
        refine e_iload_n f_148_108 rfl rfl ?_
        refine e_iload f_148_109 rfl rfl ?_
        refine e_iadd (z := nI (4 + 511 * k + 208)) f_148_111 ((nI_add _ _).trans (congrArg nI (by omega))) rfl ?_
        refine e_iconst (v := nI 3) f_148_112 (by decide) rfl ?_
        refine e_iload f_148_113 rfl rfl ?_
        refine e_imul (z := nI (3 * q)) f_148_115 (pk_mul _ _) rfl ?_
        refine e_iadd (z := nI (4 + 511 * k + 208 + 3 * q)) f_148_116 (nI_add _ _) rfl ?_
        refine e_aload_n f_148_117 rfl rfl ?_
        refine e_getf f_148_118 g25 rfl rfl ?_
        refine e_iload_n f_148_121 rfl rfl ?_
        refine e_iload f_148_122 rfl rfl ?_
        refine e_iadd (z := nI (4 + 511 * k + 208)) f_148_124 ((nI_add _ _).trans (congrArg nI (by omega))) rfl ?_
        refine e_iconst (v := nI 3) f_148_125 (by decide) rfl ?_
        refine e_aload_n f_148_126 rfl rfl ?_
        refine e_getf f_148_127 g25 rfl rfl ?_
        refine e_iload_n f_148_130 rfl rfl ?_
        refine e_iaload_p (xs := (sl.set (4 + 511 * k + 206) (nI (ts.length - 1))).set (4 + 511 * k + 207 + 3 * q) (nI ((ts.getD (ts.length - 1) (0, 0, 0)).1))) f_148_131 g22 (d := 0) (by first | omega | (simp only [List.length_set]; omega)) rfl ?_
        show px_to 148 132 [some (.ref (269)), some (.int (nI k)), some (.int (nI w)), some (.int (nI (4 + 511 * k + 206))), some (.int (nI q)), some (.int (nI 2))] [.int (((sl.set (4 + 511 * k + 206) (nI (ts.length - 1))).set (4 + 511 * k + 207 + 3 * q) (nI ((ts.getD (ts.length - 1) (0, 0, 0)).1))).getD (4 + 511 * k + 206) 0), .int (nI 3), .int (nI (4 + 511 * k + 208)), .ref (287), .int (nI (4 + 511 * k + 208 + 3 * q)), .ref (287)] h21 _
        rw [getD_set_ne (by omega), getD_set_same (by omega)]
        refine e_imul (z := nI (3 * (ts.length - 1))) f_148_132 (pk_mul _ _) rfl ?_
        refine e_iadd (z := nI (4 + 511 * k + 208 + (3 * (ts.length - 1)))) f_148_133 (nI_add _ _) rfl ?_
        refine e_iaload_p (xs := (sl.set (4 + 511 * k + 206) (nI (ts.length - 1))).set (4 + 511 * k + 207 + 3 * q) (nI ((ts.getD (ts.length - 1) (0, 0, 0)).1))) f_148_134 g22 (d := 0) (by first | omega | (simp only [List.length_set]; omega)) rfl ?_
        show px_to 148 135 [some (.ref (269)), some (.int (nI k)), some (.int (nI w)), some (.int (nI (4 + 511 * k + 206))), some (.int (nI q)), some (.int (nI 2))] [.int (((sl.set (4 + 511 * k + 206) (nI (ts.length - 1))).set (4 + 511 * k + 207 + 3 * q) (nI ((ts.getD (ts.length - 1) (0, 0, 0)).1))).getD (4 + 511 * k + 208 + (3 * (ts.length - 1))) 0), .int (nI (4 + 511 * k + 208 + 3 * q)), .ref (287)] h21 _
        rw [getD_set_ne (by omega), getD_set_ne (by omega), hlt.2.1]
        refine e_iastore_p (xs := (sl.set (4 + 511 * k + 206) (nI (ts.length - 1))).set (4 + 511 * k + 207 + 3 * q) (nI ((ts.getD (ts.length - 1) (0, 0, 0)).1))) (x := nI ((ts.getD (ts.length - 1) (0, 0, 0)).2.1)) f_148_135 g22 (by omega) (by first | omega | (simp only [List.length_set]; omega)) (rfl) rfl (fun h26 g27 fx28 => ?_)
        have fr29 : px_fl [(269, 1), (287, 1), (289, 3), (295, 1)] h0 h26 := fl_tr fr24 fx28 (by first | exact ⟨_, List.mem_cons_self, by omega, by omega⟩ | exact ⟨_, List.mem_cons_of_mem _ (List.mem_cons_self), by omega, by omega⟩ | exact ⟨_, List.mem_cons_of_mem _ (List.mem_cons_of_mem _ (List.mem_cons_self)), by omega, by omega⟩ | exact ⟨_, List.mem_cons_of_mem _ (List.mem_cons_of_mem _ (List.mem_cons_of_mem _ (List.mem_cons_self))), by omega, by omega⟩)
        refine e_iinc (y := nI 3) (L' := [some (.ref (269)), some (.int (nI k)), some (.int (nI w)), some (.int (nI (4 + 511 * k + 206))), some (.int (nI q)), some (.int (nI 3))]) f_148_136 rfl (by rw [show Int32.ofInt 1 = nI 1 by decide]; exact (nI_add _ _).trans (congrArg nI (by omega))) rfl rfl ?_
        refine e_goto f_148_139 ?_
        refine e_iload f_148_98 rfl rfl ?_
        refine e_iconst (v := nI 4) f_148_100 (by decide) rfl ?_
        refine e_icmp_ge_f f_148_101 (by decide) rfl ?_
        refine e_aload_n f_148_104 rfl rfl ?_
        have g30 : h26.2.2 269 = some (12, mB ga gp (nI j.length, x.2.2.2.2.isSome, oI x.2.2.2.2, dn, la, lb, cb) (nI lh.length, nI lg.length) (nI ((ts.getD q (0, 0, 0)).1), (ts.getD q (0, 0, 0)).2.2, nI ((ts.getD q (0, 0, 0)).2.1 - 1)) gu gv) := fi_at g25 fx28 (by omega)
        refine e_getf f_148_105 g30 rfl rfl ?_
        refine e_iload_n f_148_108 rfl rfl ?_
        refine e_iload f_148_109 rfl rfl ?_
        refine e_iadd (z := nI (4 + 511 * k + 209)) f_148_111 ((nI_add _ _).trans (congrArg nI (by omega))) rfl ?_
        refine e_iconst (v := nI 3) f_148_112 (by decide) rfl ?_
        refine e_iload f_148_113 rfl rfl ?_
        refine e_imul (z := nI (3 * q)) f_148_115 (pk_mul _ _) rfl ?_
        refine e_iadd (z := nI (4 + 511 * k + 209 + 3 * q)) f_148_116 (nI_add _ _) rfl ?_
        refine e_aload_n f_148_117 rfl rfl ?_
        refine e_getf f_148_118 g30 rfl rfl ?_
        refine e_iload_n f_148_121 rfl rfl ?_
        refine e_iload f_148_122 rfl rfl ?_
        refine e_iadd (z := nI (4 + 511 * k + 209)) f_148_124 ((nI_add _ _).trans (congrArg nI (by omega))) rfl ?_
        refine e_iconst (v := nI 3) f_148_125 (by decide) rfl ?_
        refine e_aload_n f_148_126 rfl rfl ?_
        refine e_getf f_148_127 g30 rfl rfl ?_
        refine e_iload_n f_148_130 rfl rfl ?_
        refine e_iaload_p (xs := ((sl.set (4 + 511 * k + 206) (nI (ts.length - 1))).set (4 + 511 * k + 207 + 3 * q) (nI ((ts.getD (ts.length - 1) (0, 0, 0)).1))).set (4 + 511 * k + 208 + 3 * q) (nI ((ts.getD (ts.length - 1) (0, 0, 0)).2.1))) f_148_131 g27 (d := 0) (by first | omega | (simp only [List.length_set]; omega)) rfl ?_
        show px_to 148 132 [some (.ref (269)), some (.int (nI k)), some (.int (nI w)), some (.int (nI (4 + 511 * k + 206))), some (.int (nI q)), some (.int (nI 3))] [.int ((((sl.set (4 + 511 * k + 206) (nI (ts.length - 1))).set (4 + 511 * k + 207 + 3 * q) (nI ((ts.getD (ts.length - 1) (0, 0, 0)).1))).set (4 + 511 * k + 208 + 3 * q) (nI ((ts.getD (ts.length - 1) (0, 0, 0)).2.1))).getD (4 + 511 * k + 206) 0), .int (nI 3), .int (nI (4 + 511 * k + 209)), .ref (287), .int (nI (4 + 511 * k + 209 + 3 * q)), .ref (287)] h26 _
        rw [getD_set_ne (by omega), getD_set_ne (by omega), getD_set_same (by omega)]
        refine e_imul (z := nI (3 * (ts.length - 1))) f_148_132 (pk_mul _ _) rfl ?_
        refine e_iadd (z := nI (4 + 511 * k + 209 + (3 * (ts.length - 1)))) f_148_133 (nI_add _ _) rfl ?_
        refine e_iaload_p (xs := ((sl.set (4 + 511 * k + 206) (nI (ts.length - 1))).set (4 + 511 * k + 207 + 3 * q) (nI ((ts.getD (ts.length - 1) (0, 0, 0)).1))).set (4 + 511 * k + 208 + 3 * q) (nI ((ts.getD (ts.length - 1) (0, 0, 0)).2.1))) f_148_134 g27 (d := 0) (by first | omega | (simp only [List.length_set]; omega)) rfl ?_
        show px_to 148 135 [some (.ref (269)), some (.int (nI k)), some (.int (nI w)), some (.int (nI (4 + 511 * k + 206))), some (.int (nI q)), some (.int (nI 3))] [.int ((((sl.set (4 + 511 * k + 206) (nI (ts.length - 1))).set (4 + 511 * k + 207 + 3 * q) (nI ((ts.getD (ts.length - 1) (0, 0, 0)).1))).set (4 + 511 * k + 208 + 3 * q) (nI ((ts.getD (ts.length - 1) (0, 0, 0)).2.1))).getD (4 + 511 * k + 209 + (3 * (ts.length - 1))) 0), .int (nI (4 + 511 * k + 209 + 3 * q)), .ref (287)] h26 _
        rw [getD_set_ne (by omega), getD_set_ne (by omega), getD_set_ne (by omega), hlt.2.2]
        refine e_iastore_p (xs := ((sl.set (4 + 511 * k + 206) (nI (ts.length - 1))).set (4 + 511 * k + 207 + 3 * q) (nI ((ts.getD (ts.length - 1) (0, 0, 0)).1))).set (4 + 511 * k + 208 + 3 * q) (nI ((ts.getD (ts.length - 1) (0, 0, 0)).2.1))) (x := (ts.getD (ts.length - 1) (0, 0, 0)).2.2) f_148_135 g27 (by omega) (by first | omega | (simp only [List.length_set]; omega)) (rfl) rfl (fun h31 g32 fx33 => ?_)
        have fr34 : px_fl [(269, 1), (287, 1), (289, 3), (295, 1)] h0 h31 := fl_tr fr29 fx33 (by first | exact ⟨_, List.mem_cons_self, by omega, by omega⟩ | exact ⟨_, List.mem_cons_of_mem _ (List.mem_cons_self), by omega, by omega⟩ | exact ⟨_, List.mem_cons_of_mem _ (List.mem_cons_of_mem _ (List.mem_cons_self)), by omega, by omega⟩ | exact ⟨_, List.mem_cons_of_mem _ (List.mem_cons_of_mem _ (List.mem_cons_of_mem _ (List.mem_cons_self))), by omega, by omega⟩)
        refine e_iinc (y := nI 4) (L' := [some (.ref (269)), some (.int (nI k)), some (.int (nI w)), some (.int (nI (4 + 511 * k + 206))), some (.int (nI q)), some (.int (nI 4))]) f_148_136 rfl (by rw [show Int32.ofInt 1 = nI 1 by decide]; exact (nI_add _ _).trans (congrArg nI (by omega))) rfl rfl ?_
        refine e_goto f_148_139 ?_
        refine e_iload f_148_98 rfl rfl ?_
        refine e_iconst (v := nI 4) f_148_100 (by decide) rfl ?_
        refine e_icmp_ge_t f_148_101 (by decide) ?_
        refine e_aload_n f_148_142 rfl rfl ?_
        refine e_iload_n f_148_143 rfl rfl ?_
        refine e_iconst (v := nI 1) f_148_144 (by decide) rfl ?_
        have g35 : h31.2.2 269 = some (12, mB ga gp (nI j.length, x.2.2.2.2.isSome, oI x.2.2.2.2, dn, la, lb, cb) (nI lh.length, nI lg.length) (nI ((ts.getD q (0, 0, 0)).1), (ts.getD q (0, 0, 0)).2.2, nI ((ts.getD q (0, 0, 0)).2.1 - 1)) gu gv) := fi_at g30 fx33 (by omega)
        have g36 : px_pa h1 295 50 30 Value.int cv := pa_fi G2 fx3 (by omega)
        have g37 : px_pa h6 295 50 30 Value.int cv := pa_fi g36 fx8 (by omega)
        have g38 : px_pa h11 295 50 30 Value.int cv := pa_fi g37 fx13 (by omega)
        have g39 : px_pa h16 295 50 30 Value.int cv := pa_fi g38 fx18 (by omega)
        have g40 : px_pa h21 295 50 30 Value.int cv := pa_fi g39 fx23 (by omega)
        have g41 : px_pa h26 295 50 30 Value.int cv := pa_fi g40 fx28 (by omega)
        have g42 : px_pa h31 295 50 30 Value.int cv := pa_fi g41 fx33 (by omega)
        refine e_callV (As := [.int (nI k), .int (nI 1)]) (rest := []) f_148_145 rfl rfl rfl (Nat.le_of_ble_eq_true rfl) (Nat.le_of_ble_eq_true rfl) g35 rfl (Nat.le_of_ble_eq_true rfl) (cc_Md_cnt (k := k) (q := 1) (cb := cb) (cv := cv) (ga := ga) (gp := gp) (gq := (nI j.length, x.2.2.2.2.isSome, oI x.2.2.2.2, dn, la, lb, cb)) (gh := (nI lh.length, nI lg.length)) (gw := (nI ((ts.getD q (0, 0, 0)).1), (ts.getD q (0, 0, 0)).2.2, nI ((ts.getD q (0, 0, 0)).2.1 - 1))) (gu := gu) (gv := gv) g35 g42 (by omega) (by omega) (q4.2.2.2.2.1)) rfl (fun h43 r44 q45 => ?_)
        obtain ⟨rfl, g46, fx47⟩ := q45
        have fr48 : px_fl [(269, 1), (287, 1), (289, 3), (295, 1)] h0 h43 := fl_tr fr34 fx47 (by first | exact ⟨_, List.mem_cons_self, by omega, by omega⟩ | exact ⟨_, List.mem_cons_of_mem _ (List.mem_cons_self), by omega, by omega⟩ | exact ⟨_, List.mem_cons_of_mem _ (List.mem_cons_of_mem _ (List.mem_cons_self)), by omega, by omega⟩ | exact ⟨_, List.mem_cons_of_mem _ (List.mem_cons_of_mem _ (List.mem_cons_of_mem _ (List.mem_cons_self))), by omega, by omega⟩)
        show px_to 148 148 [some (.ref (269)), some (.int (nI k)), some (.int (nI w)), some (.int (nI (4 + 511 * k + 206))), some (.int (nI q)), some (.int (nI 4))] [] h43 _
        refine e_aload_n f_148_148 rfl rfl ?_
        refine e_iload_n f_148_149 rfl rfl ?_
        refine e_iconst (v := nI 2) f_148_150 (by decide) rfl ?_
        have g49 : h43.2.2 269 = some (12, mB ga gp (nI j.length, x.2.2.2.2.isSome, oI x.2.2.2.2, dn, la, lb, cb) (nI lh.length, nI lg.length) (nI ((ts.getD q (0, 0, 0)).1), (ts.getD q (0, 0, 0)).2.2, nI ((ts.getD q (0, 0, 0)).2.1 - 1)) gu gv) := fi_at g35 fx47 (by omega)
        refine e_callV (As := [.int (nI k), .int (nI 2)]) (rest := []) f_148_151 rfl rfl rfl (Nat.le_of_ble_eq_true rfl) (Nat.le_of_ble_eq_true rfl) g49 rfl (Nat.le_of_ble_eq_true rfl) (cc_Md_cnt (k := k) (q := 2) (cb := cb) (cv := tI cb cv (5 * k + 1)) (ga := ga) (gp := gp) (gq := (nI j.length, x.2.2.2.2.isSome, oI x.2.2.2.2, dn, la, lb, cb)) (gh := (nI lh.length, nI lg.length)) (gw := (nI ((ts.getD q (0, 0, 0)).1), (ts.getD q (0, 0, 0)).2.2, nI ((ts.getD q (0, 0, 0)).2.1 - 1))) (gu := gu) (gv := gv) g49 g46 (by omega) (by omega) (by rw [tI_len]; exact q4.2.2.2.2.1)) rfl (fun h50 r51 q52 => ?_)
        obtain ⟨rfl, g53, fx54⟩ := q52
        have fr55 : px_fl [(269, 1), (287, 1), (289, 3), (295, 1)] h0 h50 := fl_tr fr48 fx54 (by first | exact ⟨_, List.mem_cons_self, by omega, by omega⟩ | exact ⟨_, List.mem_cons_of_mem _ (List.mem_cons_self), by omega, by omega⟩ | exact ⟨_, List.mem_cons_of_mem _ (List.mem_cons_of_mem _ (List.mem_cons_self)), by omega, by omega⟩ | exact ⟨_, List.mem_cons_of_mem _ (List.mem_cons_of_mem _ (List.mem_cons_of_mem _ (List.mem_cons_self))), by omega, by omega⟩)
        show px_to 148 154 [some (.ref (269)), some (.int (nI k)), some (.int (nI w)), some (.int (nI (4 + 511 * k + 206))), some (.int (nI q)), some (.int (nI 4))] [] h50 _
        refine e_aload_n f_148_154 rfl rfl ?_
        refine e_iload_n f_148_155 rfl rfl ?_
        refine e_iconst (v := nI 1) f_148_156 (by decide) rfl ?_
        refine e_iadd (z := nI (k + 1)) f_148_157 (nI_add _ _) rfl ?_
        have g56 : h50.2.2 269 = some (12, mB ga gp (nI j.length, x.2.2.2.2.isSome, oI x.2.2.2.2, dn, la, lb, cb) (nI lh.length, nI lg.length) (nI ((ts.getD q (0, 0, 0)).1), (ts.getD q (0, 0, 0)).2.2, nI ((ts.getD q (0, 0, 0)).2.1 - 1)) gu gv) := fi_at g49 fx54 (by omega)
        obtain ⟨hm58, fa59, fb60⟩ := fl_mid fr55
        obtain ⟨hm61, fa62, fb63⟩ := fl_mid fb60
        obtain ⟨hm64, fa65, fb66⟩ := fl_mid fb63
        have g57 : px_pa h50 284 52 6 stS j := pa_fi (pa_fi (pa_fi (pa_fi K0 fa59 (by omega)) fa62 (by omega)) fa65 (by omega)) (fl_one fb66) (by omega)
        obtain ⟨hm68, fa69, fb70⟩ := fl_mid fr55
        obtain ⟨hm71, fa72, fb73⟩ := fl_mid fb70
        obtain ⟨hm74, fa75, fb76⟩ := fl_mid fb73
        have g67 : px_pa h50 285 52 6 stA j := pa_fi (pa_fi (pa_fi (pa_fi K1 fa69 (by omega)) fa72 (by omega)) fa75 (by omega)) (fl_one fb76) (by omega)
        obtain ⟨hm78, fa79, fb80⟩ := fl_mid fr55
        obtain ⟨hm81, fa82, fb83⟩ := fl_mid fb80
        obtain ⟨hm84, fa85, fb86⟩ := fl_mid fb83
        have g77 : px_pa h50 286 50 6 stN j := pa_fi (pa_fi (pa_fi (pa_fi K2 fa79 (by omega)) fa82 (by omega)) fa85 (by omega)) (fl_one fb86) (by omega)
        have g87 : px_pa h43 287 50 3070 Value.int ((((sl.set (4 + 511 * k + 206) (nI (ts.length - 1))).set (4 + 511 * k + 207 + 3 * q) (nI ((ts.getD (ts.length - 1) (0, 0, 0)).1))).set (4 + 511 * k + 208 + 3 * q) (nI ((ts.getD (ts.length - 1) (0, 0, 0)).2.1))).set (4 + 511 * k + 209 + 3 * q) ((ts.getD (ts.length - 1) (0, 0, 0)).2.2)) := pa_fi g32 fx47 (by omega)
        have g88 : px_pa h50 287 50 3070 Value.int ((((sl.set (4 + 511 * k + 206) (nI (ts.length - 1))).set (4 + 511 * k + 207 + 3 * q) (nI ((ts.getD (ts.length - 1) (0, 0, 0)).1))).set (4 + 511 * k + 208 + 3 * q) (nI ((ts.getD (ts.length - 1) (0, 0, 0)).2.1))).set (4 + 511 * k + 209 + 3 * q) ((ts.getD (ts.length - 1) (0, 0, 0)).2.2)) := pa_fi g87 fx54 (by omega)
        have g89 : px_pa h1 289 54 100 rK lh := pa_fi G3 fx3 (by omega)
        have g90 : px_pa h6 289 54 100 rK lh := pa_fi g89 fx8 (by omega)
        have g91 : px_pa h11 289 54 100 rK lh := pa_fi g90 fx13 (by omega)
        have g92 : px_pa h16 289 54 100 rK lh := pa_fi g91 fx18 (by omega)
        have g93 : px_pa h21 289 54 100 rK lh := pa_fi g92 fx23 (by omega)
        have g94 : px_pa h26 289 54 100 rK lh := pa_fi g93 fx28 (by omega)
        have g95 : px_pa h31 289 54 100 rK lh := pa_fi g94 fx33 (by omega)
        have g96 : px_pa h43 289 54 100 rK lh := pa_fi g95 fx47 (by omega)
        have g97 : px_pa h50 289 54 100 rK lh := pa_fi g96 fx54 (by omega)
        have g98 : px_pa h1 290 50 100 rV lh := pa_fi G4 fx3 (by omega)
        have g99 : px_pa h6 290 50 100 rV lh := pa_fi g98 fx8 (by omega)
        have g100 : px_pa h11 290 50 100 rV lh := pa_fi g99 fx13 (by omega)
        have g101 : px_pa h16 290 50 100 rV lh := pa_fi g100 fx18 (by omega)
        have g102 : px_pa h21 290 50 100 rV lh := pa_fi g101 fx23 (by omega)
        have g103 : px_pa h26 290 50 100 rV lh := pa_fi g102 fx28 (by omega)
        have g104 : px_pa h31 290 50 100 rV lh := pa_fi g103 fx33 (by omega)
        have g105 : px_pa h43 290 50 100 rV lh := pa_fi g104 fx47 (by omega)
        have g106 : px_pa h50 290 50 100 rV lh := pa_fi g105 fx54 (by omega)
        have g107 : px_pa h1 291 50 100 rT lh := pa_fi G5 fx3 (by omega)
        have g108 : px_pa h6 291 50 100 rT lh := pa_fi g107 fx8 (by omega)
        have g109 : px_pa h11 291 50 100 rT lh := pa_fi g108 fx13 (by omega)
        have g110 : px_pa h16 291 50 100 rT lh := pa_fi g109 fx18 (by omega)
        have g111 : px_pa h21 291 50 100 rT lh := pa_fi g110 fx23 (by omega)
        have g112 : px_pa h26 291 50 100 rT lh := pa_fi g111 fx28 (by omega)
        have g113 : px_pa h31 291 50 100 rT lh := pa_fi g112 fx33 (by omega)
        have g114 : px_pa h43 291 50 100 rT lh := pa_fi g113 fx47 (by omega)
        have g115 : px_pa h50 291 50 100 rT lh := pa_fi g114 fx54 (by omega)
        refine e_callV (As := [.int (nI (k + 1))]) (rest := []) f_148_158 rfl rfl rfl (Nat.le_of_ble_eq_true rfl) (Nat.le_of_ble_eq_true rfl) g56 rfl (Nat.le_of_ble_eq_true rfl) (cc_Md_flo (f := k + 1) (key := (ts.getD q (0, 0, 0)).1) (t := (ts.getD q (0, 0, 0)).2.1 - 1) (v := (ts.getD q (0, 0, 0)).2.2) (x := (popY k x)) (sl := (((sl.set (4 + 511 * k + 206) (nI (ts.length - 1))).set (4 + 511 * k + 207 + 3 * q) (nI ((ts.getD (ts.length - 1) (0, 0, 0)).1))).set (4 + 511 * k + 208 + 3 * q) (nI ((ts.getD (ts.length - 1) (0, 0, 0)).2.1))).set (4 + 511 * k + 209 + 3 * q) ((ts.getD (ts.length - 1) (0, 0, 0)).2.2)) (lh := lh) (cv := tI cb (tI cb cv (5 * k + 1)) (5 * k + 2)) (A := A) (B := B) (W := W) (ga := ga) (gp := gp) (gu := gu) (gv := gv) (j := j) (dn := dn) (la := la) (lb := lb) (cb := cb) (lg := lg) g56 g57 g67 g77 g88 g53 g97 g106 g115 (hj) (by omega) (hbq.1) (by omega) ((noted_ok (setS_ok q2 (smDrop_ok (q2.1.2 k hk)))).1) (hz) (hRp) (bd_popY hk q2.1.1 hsg (by omega) q3)) rfl (fun h116 r117 q118 => ?_)
        obtain ⟨rfl, g119, fx120⟩ := q118
        obtain ⟨hm121, fa122, fb123⟩ := fl_mid fx120
        have fr124 : px_fl [(269, 1), (287, 1), (289, 3), (295, 1)] h0 hm121 := fl_tr fr55 fa122 (by first | exact ⟨_, List.mem_cons_self, by omega, by omega⟩ | exact ⟨_, List.mem_cons_of_mem _ (List.mem_cons_self), by omega, by omega⟩ | exact ⟨_, List.mem_cons_of_mem _ (List.mem_cons_of_mem _ (List.mem_cons_self)), by omega, by omega⟩ | exact ⟨_, List.mem_cons_of_mem _ (List.mem_cons_of_mem _ (List.mem_cons_of_mem _ (List.mem_cons_self))), by omega, by omega⟩)
        obtain ⟨hm125, fa126, fb127⟩ := fl_mid fb123
        have fr128 : px_fl [(269, 1), (287, 1), (289, 3), (295, 1)] h0 hm125 := fl_tr fr124 fa126 (by first | exact ⟨_, List.mem_cons_self, by omega, by omega⟩ | exact ⟨_, List.mem_cons_of_mem _ (List.mem_cons_self), by omega, by omega⟩ | exact ⟨_, List.mem_cons_of_mem _ (List.mem_cons_of_mem _ (List.mem_cons_self)), by omega, by omega⟩ | exact ⟨_, List.mem_cons_of_mem _ (List.mem_cons_of_mem _ (List.mem_cons_of_mem _ (List.mem_cons_self))), by omega, by omega⟩)
        obtain ⟨hm129, fa130, fb131⟩ := fl_mid fb127
        have fr132 : px_fl [(269, 1), (287, 1), (289, 3), (295, 1)] h0 hm129 := fl_tr fr128 fa130 (by first | exact ⟨_, List.mem_cons_self, by omega, by omega⟩ | exact ⟨_, List.mem_cons_of_mem _ (List.mem_cons_self), by omega, by omega⟩ | exact ⟨_, List.mem_cons_of_mem _ (List.mem_cons_of_mem _ (List.mem_cons_self)), by omega, by omega⟩ | exact ⟨_, List.mem_cons_of_mem _ (List.mem_cons_of_mem _ (List.mem_cons_of_mem _ (List.mem_cons_self))), by omega, by omega⟩)
        have fb133 := fl_one fb131
        have fr134 : px_fl [(269, 1), (287, 1), (289, 3), (295, 1)] h0 h116 := fl_tr fr132 fb133 (by first | exact ⟨_, List.mem_cons_self, by omega, by omega⟩ | exact ⟨_, List.mem_cons_of_mem _ (List.mem_cons_self), by omega, by omega⟩ | exact ⟨_, List.mem_cons_of_mem _ (List.mem_cons_of_mem _ (List.mem_cons_self)), by omega, by omega⟩ | exact ⟨_, List.mem_cons_of_mem _ (List.mem_cons_of_mem _ (List.mem_cons_of_mem _ (List.mem_cons_self))), by omega, by omega⟩)
        show px_to 148 161 [some (.ref (269)), some (.int (nI k)), some (.int (nI w)), some (.int (nI (4 + 511 * k + 206))), some (.int (nI q)), some (.int (nI 4))] [] h116 _
        obtain ⟨gw135, sl136, lh137, cv138, g139, g140, g141, g142, g143, g144, hR145⟩ := id g119
        have hRn := hR145
        have hx2 : okX j (pass j 7 (k + 1) (ts.getD q (0, 0, 0)).1 (ts.getD q (0, 0, 0)).2.2 ((ts.getD q (0, 0, 0)).2.1 - 1) (popY k x)) := pass_ok hj.1 hbq.1 (by omega) _ _ _ _ (noted_ok (setS_ok q2 (smDrop_ok (q2.1.2 k hk))))
        obtain ⟨ts2, ht2, hs2⟩ := (hR145.2.2.1 k hk).2.2.2.1 hsg
        have hPB2 : PB j (pass j 7 (k + 1) (ts.getD q (0, 0, 0)).1 (ts.getD q (0, 0, 0)).2.2 ((ts.getD q (0, 0, 0)).2.1 - 1) (popY k x)) 96 := PB_pass hj.1 (noted_ok (setS_ok q2 (smDrop_ok (q2.1.2 k hk)))).1.1 hk (bd_popY hk q2.1.1 hsg (by omega) q3)
        have hgk : getS (pass j 7 (k + 1) (ts.getD q (0, 0, 0)).1 (ts.getD q (0, 0, 0)).2.2 ((ts.getD q (0, 0, 0)).2.1 - 1) (popY k x)) k = smDrop 1 (getS x k) := (pass_keep _ _ _ _ (Nat.lt_succ_self k)).trans (getS_setS (show k < x.2.1.length by have := q2.1.1; omega))
        have eP : popS j k w (d - 1) (pass j 7 (k + 1) (ts.getD q (0, 0, 0)).1 (ts.getD q (0, 0, 0)).2.2 ((ts.getD q (0, 0, 0)).2.1 - 1) (popY k x)) = res := by rw [← q1, show popS j k w d x = popS j k w ((d - 1) + 1) x from by rw [show (d - 1) + 1 = d by omega], popS_s hz hmin.2 hmin.1 (spR_pop q6 hq.1 hmin.1).2 hbq.1 hbq.2.2]
        refine e_aload_n f_148_161 rfl rfl ?_
        refine e_iload_n f_148_162 rfl rfl ?_
        refine e_iload_n f_148_163 rfl rfl ?_
        refine e_callV (As := [.int (nI k), .int (nI w)]) (rest := []) f_148_164 rfl rfl rfl (Nat.le_of_ble_eq_true rfl) (Nat.le_of_ble_eq_true rfl) g139 rfl (Nat.le_of_ble_eq_true rfl) (cc_Md_fsp (k := k) (w := w) (sl := sl136) (ts := ts2) (ga := ga) (gp := gp) (gq := (nI j.length, ((pass j 7 (k + 1) ((ts.getD q (0, 0, 0)).1) ((ts.getD q (0, 0, 0)).2.2) ((ts.getD q (0, 0, 0)).2.1 - 1) (popY k x)).2.2.2.2).isSome, oI ((pass j 7 (k + 1) ((ts.getD q (0, 0, 0)).1) ((ts.getD q (0, 0, 0)).2.2) ((ts.getD q (0, 0, 0)).2.1 - 1) (popY k x)).2.2.2.2), dn, la, lb, cb)) (gh := (nI lh137.length, nI lg.length)) (gw := gw135) (gu := gu) (gv := gv) g139 g140 (by omega) (by omega) (hRn.1) (ht2) (hs2.2.2.2)) rfl (fun h146 r147 q148 => ?_)
        obtain ⟨rfl, qe⟩ := q148
        have qe := qe.symm
        subst qe
        show px_to 148 167 [some (.ref (269)), some (.int (nI k)), some (.int (nI w)), some (.int (nI (4 + 511 * k + 206))), some (.int (nI q)), some (.int (nI 4))] [.int (oI (fsG ts2 w ts2.length))] h116 _
        refine e_istore (L' := [some (.ref (269)), some (.int (nI k)), some (.int (nI w)), some (.int (nI (4 + 511 * k + 206))), some (.int (oI (fsG ts2 w ts2.length))), some (.int (nI 4))]) f_148_167 (Nat.le_of_ble_eq_true rfl) rfl rfl ?_
        refine e_goto f_148_169 ?_
        refine px_to_L (L := [some (.ref (269)), some (.int (nI k)), some (.int (nI w)), some (.int (nI (4 + 511 * k + 206))), some (.int (oI (fsG ts2 w ts2.length))), none]) ⟨Or.inr rfl, Or.inr rfl, Or.inr rfl, Or.inr rfl, Or.inr rfl, Or.inl rfl, trivial⟩ ?_
        first | (exfalso; omega) | exact ih (d - 1) (by omega) (pass j 7 (k + 1) (ts.getD q (0, 0, 0)).1 (ts.getD q (0, 0, 0)).2.2 ((ts.getD q (0, 0, 0)).2.1 - 1) (popY k x)) gw135 sl136 lh137 cv138 ts2 h116 (by rw [hgk]; show (List.drop 1 _).length < d - 1; rw [List.length_drop]; omega) (eP) (hx2) (hPB2) (hR145) (ht2) (hs2) g139 g140 g141 g142 g143 g144 fr134

set_option maxRecDepth 20000 in
set_option maxHeartbeats 4000000 in
theorem cc_Md_tsp {h : px_H} {k w : Nat} {x : RX} {A B W : Int32} {ga : gA} {gp : gP} {gu : gU} {gv : gV} {j : List St} {dn : Int32} {la lb cb : Bool} {lg : List Row}  (H0 : pRE h ga gp gu gv j dn la lb cb lg A B W x) (H1 : px_pa h 284 52 6 stS j) (H2 : px_pa h 285 52 6 stA j) (H3 : px_pa h 286 50 6 stN j) (p0 : okZ j) (p1 : k < j.length) (p2 : (j.getD k (0, 0, 0)).1 = 119) (p3 : w ≤ 5000) (p4 : okX j x) (p5 : PB j x 96) : px_wp 148 [.ref (269), .int (nI k), .int (nI w)] h (fun h1 r => r = none ∧ pRE h1 ga gp gu gv j dn la lb cb lg A B W (popS j k w 97 x) ∧ px_fl [(269, 1), (287, 1), (289, 3), (295, 1)] h h1) := by
  have fr0 : px_fl [(269, 1), (287, 1), (289, 3), (295, 1)] h h := fl_rf _ _
  have h6 := p0.1.1
  show px_to 148 0 [some (.ref (269)), some (.int (nI k)), some (.int (nI w)), none, none, none] [] h _
  refine e_iconst (v := nI 4) f_148_0 (by decide) rfl ?_
  refine e_sipush (v := nI 511) f_148_1 (by decide) rfl ?_
  refine e_iload_n f_148_4 rfl rfl ?_
  refine e_imul (z := nI (511 * k)) f_148_5 (pk_mul _ _) rfl ?_
  refine e_iadd (z := nI (4 + 511 * k)) f_148_6 (nI_add _ _) rfl ?_
  refine e_sipush (v := nI 206) f_148_7 (by decide) rfl ?_
  refine e_iadd (z := nI (4 + 511 * k + 206)) f_148_10 (nI_add _ _) rfl ?_
  refine e_istore_n (L' := [some (.ref (269)), some (.int (nI k)), some (.int (nI w)), some (.int (nI (4 + 511 * k + 206))), none, none]) f_148_11 (Nat.le_of_ble_eq_true rfl) rfl rfl ?_
  obtain ⟨gw1, sl2, lh3, cv4, g5, g6, g7, g8, g9, g10, hR11⟩ := id H0
  have hR0 := hR11
  obtain ⟨ts, hts, hsp⟩ := (hR0.2.2.1 k p1).2.2.2.1 p2
  refine e_aload_n f_148_12 rfl rfl ?_
  refine e_iload_n f_148_13 rfl rfl ?_
  refine e_iload_n f_148_14 rfl rfl ?_
  refine e_callV (As := [.int (nI k), .int (nI w)]) (rest := []) f_148_15 rfl rfl rfl (Nat.le_of_ble_eq_true rfl) (Nat.le_of_ble_eq_true rfl) g5 rfl (Nat.le_of_ble_eq_true rfl) (cc_Md_fsp (k := k) (w := w) (sl := sl2) (ts := ts) (ga := ga) (gp := gp) (gq := (nI j.length, x.2.2.2.2.isSome, oI x.2.2.2.2, dn, la, lb, cb)) (gh := (nI lh3.length, nI lg.length)) (gw := gw1) (gu := gu) (gv := gv) g5 g6 (by omega) (by omega) (hR0.1) (hts) (hsp.2.2.2)) rfl (fun h12 r13 q14 => ?_)
  obtain ⟨rfl, qe⟩ := q14
  have qe := qe.symm
  subst qe
  show px_to 148 18 [some (.ref (269)), some (.int (nI k)), some (.int (nI w)), some (.int (nI (4 + 511 * k + 206))), none, none] [.int (oI (fsG ts w ts.length))] h _
  refine e_istore (L' := [some (.ref (269)), some (.int (nI k)), some (.int (nI w)), some (.int (nI (4 + 511 * k + 206))), some (.int (oI (fsG ts w ts.length))), none]) f_148_18 (Nat.le_of_ble_eq_true rfl) rfl rfl ?_
  have hsz : (getS x k).2.2.2.1.length < 97 := by
    have h2 := p5 k (by omega)
    unfold Phi at h2
    rw [if_pos p1] at h2
    unfold sizM at h2
    rw [if_pos (Or.inr p2)] at h2
    show (x.2.1.getD k sm0).2.2.2.1.length < 97
    omega
  exact ll_Md_tsp (h0 := h) (k := k) (w := w) (res := _) H1 H2 H3 p0 p1 p2 p3 97 x _ _ _ _ ts h hsz rfl p4 p5 hR0 hts hsp g5 g6 g7 g8 g9 g10 fr0
