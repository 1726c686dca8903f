theorem tmV_m1 : tmV (-1) = -3 := rfl
theorem nI_ne1 {t : Nat} (h : t ≤ 6000) : nI t ≠ -1 := fun z => by
  have := congrArg Int32.toInt z
  rw [nI_toInt (by omega), show (-1 : Int32).toInt = -1 by decide] at this
  omega
theorem tmV_nI {t : Nat} (h : t ≤ 6000) : tmV (nI t) = nI t := by
  unfold tmV
  rw [if_neg (nI_ne1 h)]
theorem tmBet_no {ti : List Int32} {w : Int32} {nx : Option Nat} {k : Nat} (h : ti.getD k 0 = -1) : tmBet ti w nx k = false := by
  unfold tmBet
  rw [h]
  rfl
theorem tmBet_w {ti : List Int32} {w t : Nat} {nx : Option Nat} {k : Nat} (h : ti.getD k 0 = nI t) (ht : t ≤ 6000) (hw : w ≤ 5000) (hl : w < t) : tmBet ti (nI w) nx k = false := by
  unfold tmBet
  have e : decide (nI t ≤ nI w) = false := decide_eq_false (fun z => by have := (nI_leI (by omega) (by omega)).mp z; omega)
  rw [h, e, Bool.and_false, Bool.false_and]
theorem tmBet_y {ti : List Int32} {w t : Nat} {k : Nat} (h : ti.getD k 0 = nI t) (ht : t ≤ 6000) (hw : w ≤ 5000) (hl : t ≤ w) : tmBet ti (nI w) none k = true := by
  unfold tmBet
  rw [h, decide_eq_true (nI_ne1 ht), decide_eq_true ((nI_leI (by omega) (by omega)).mpr hl)]
  rfl
theorem tmBet_s {ti : List Int32} {w t u q : Nat} {k : Nat} (h : ti.getD k 0 = nI t) (ht : t ≤ 6000) (hw : w ≤ 5000) (hl : t ≤ w) (h2 : ti.getD q 0 = nI u) (hu : u ≤ 6000) : tmBet ti (nI w) (some q) k = decide (t < u) := by
  unfold tmBet
  rw [h, decide_eq_true (nI_ne1 ht), decide_eq_true ((nI_leI (by omega) (by omega)).mpr hl)]
  show (true && true && decide (nI t < ti.getD q 0)) = _
  rw [h2]
  show (true && true && decide (nI t < nI u)) = _
  rw [Bool.true_and, Bool.true_and]
  exact decide_eq_decide.mpr (nI_ltI (by omega) (by omega))
theorem tmGo_s {ti : List Int32} {w : Int32} {d k : Nat} {nx : Option Nat} : tmGo ti w (d + 1) k nx = tmGo ti w d (k + 1) (if tmBet ti w nx k = true then some k else nx) := rfl

set_option maxRecDepth 20000 in
set_option maxHeartbeats 4000000 in
theorem ll_Md_ftm {P : px_H → Option Value → Prop} {h : px_H} {k w : Nat} {res : Option Nat} {sl ti : List Int32} {ga : gA} {gp : gP} {gq : gQ} {gh : gH} {gw : gW} {gu : gU} {gv : gV} (H0 : h.2.2 269 = some (12, mB ga gp gq gh gw gu gv)) (H1 : px_pa h 287 50 3070 Value.int sl) (h6 : k < 6) (hw : w ≤ 5000) (hsl : sl.length = 3070) (hT1 : ∀ q, q < 4 → sl.getD ((4 + 511 * k) + 507 + q) 0 = tmV (ti.getD q 0)) (hT2 : ∀ q, q < 4 → ti.getD q 0 = -1 ∨ ∃ t, t ≤ 6000 ∧ ti.getD q 0 = nI t) (kx : P h (some (.int (oI res)))) : ∀ (d : Nat) (i : Nat) (nx : Option Nat), (4 = i + d) → (i ≤ 4) → (∀ q, nx = some q → q < 4 ∧ ∃ u, u ≤ 6000 ∧ ti.getD q 0 = nI u) → (tmGo ti (nI w) d i nx = res) → px_to 149 19 [some (.ref (269)), some (.int (nI k)), some (.int (nI w)), some (.int (nI (4 + 511 * k + 507))), some (.int (oI nx)), some (.int (nI i))] [] h P := by
  intro d
  induction d using Nat.strongRecOn with
  | ind d ih =>
    intro i nx q0 q1 q2 q3
    refine e_iload f_149_19 rfl rfl ?_
    refine e_iconst (v := nI 4) f_149_21 (by decide) rfl ?_
    refine e_icmp_ge f_149_22 rfl (fun c_22 => ?_) (fun c_22 => ?_)
    · skip
      have c_22 : 4 ≤ i := cv_le (by omega) (by omega) c_22
      refine e_iload f_149_91 rfl rfl ?_
      refine e_iret f_149_93 rfl (rfl) ?_
      rw [show d = 0 by omega, tmGo] at q3
      subst q3
      exact kx
    · skip
      have c_22 : i < 4 := cv_nle (by omega) (by omega) c_22
      rcases hT2 i (by omega) with hc | ⟨t, ht, hc⟩
      · skip
        rcases nx with _ | b0
        · skip
          show px_to 149 25 [some (.ref (269)), some (.int (nI k)), some (.int (nI w)), some (.int (nI (4 + 511 * k + 507))), some (.int ((-3))), some (.int (nI i))] [] h _
          refine e_aload_n f_149_25 rfl rfl ?_
          refine e_getf f_149_26 H0 rfl rfl ?_
          refine e_iload_n f_149_29 rfl rfl ?_
          refine e_iload f_149_30 rfl rfl ?_
          refine e_iadd (z := nI (4 + 511 * k + 507 + i)) f_149_32 (nI_add _ _) rfl ?_
          refine e_iaload_p (xs := sl) f_149_33 H1 (d := 0) (by first | omega | (simp only [List.length_set]; omega)) rfl ?_
          show px_to 149 34 [some (.ref (269)), some (.int (nI k)), some (.int (nI w)), some (.int (nI (4 + 511 * k + 507))), some (.int ((-3))), some (.int (nI i))] [.int (sl.getD (4 + 511 * k + 507 + i) 0)] h _
          rw [hT1 i (by omega), hc, tmV_m1]
          refine e_if_lt_t f_149_34 (by decide) ?_
          refine e_iload f_149_81 rfl rfl ?_
          refine e_istore (L' := [some (.ref (269)), some (.int (nI k)), some (.int (nI w)), some (.int (nI (4 + 511 * k + 507))), some (.int ((-3))), some (.int (nI i))]) f_149_83 (Nat.le_of_ble_eq_true rfl) rfl rfl ?_
          refine e_iinc (y := nI (i + 1)) (L' := [some (.ref (269)), some (.int (nI k)), some (.int (nI w)), some (.int (nI (4 + 511 * k + 507))), some (.int ((-3))), some (.int (nI (i + 1)))]) f_149_85 rfl (by rw [show Int32.ofInt 1 = nI 1 by decide]; exact (nI_add _ _)) rfl rfl ?_
          refine e_goto f_149_88 ?_
          rw [show d = (d - 1) + 1 by omega, tmGo_s, tmBet_no hc, if_neg (by decide)] at q3
          refine px_to_L (L := [some (.ref (269)), some (.int (nI k)), some (.int (nI w)), some (.int (nI (4 + 511 * k + 507))), some (.int (oI none)), some (.int (nI (i + 1)))]) ⟨Or.inr rfl, Or.inr rfl, Or.inr rfl, Or.inr rfl, Or.inr rfl, Or.inr rfl, trivial⟩ ?_
          first | (exfalso; omega) | exact ih (d - 1) (by omega) (i + 1) none  (by omega) (by omega) (fun q hq => nomatch hq) (q3)  
        · skip
          obtain ⟨hb4, u, hu, hcb⟩ := q2 b0 rfl
          show px_to 149 25 [some (.ref (269)), some (.int (nI k)), some (.int (nI w)), some (.int (nI (4 + 511 * k + 507))), some (.int (nI b0)), some (.int (nI i))] [] h _
          refine e_aload_n f_149_25 rfl rfl ?_
          refine e_getf f_149_26 H0 rfl rfl ?_
          refine e_iload_n f_149_29 rfl rfl ?_
          refine e_iload f_149_30 rfl rfl ?_
          refine e_iadd (z := nI (4 + 511 * k + 507 + i)) f_149_32 (nI_add _ _) rfl ?_
          refine e_iaload_p (xs := sl) f_149_33 H1 (d := 0) (by first | omega | (simp only [List.length_set]; omega)) rfl ?_
          show px_to 149 34 [some (.ref (269)), some (.int (nI k)), some (.int (nI w)), some (.int (nI (4 + 511 * k + 507))), some (.int (nI b0)), some (.int (nI i))] [.int (sl.getD (4 + 511 * k + 507 + i) 0)] h _
          rw [hT1 i (by omega), hc, tmV_m1]
          refine e_if_lt_t f_149_34 (by decide) ?_
          refine e_iload f_149_81 rfl rfl ?_
          refine e_istore (L' := [some (.ref (269)), some (.int (nI k)), some (.int (nI w)), some (.int (nI (4 + 511 * k + 507))), some (.int (nI b0)), some (.int (nI i))]) f_149_83 (Nat.le_of_ble_eq_true rfl) rfl rfl ?_
          refine e_iinc (y := nI (i + 1)) (L' := [some (.ref (269)), some (.int (nI k)), some (.int (nI w)), some (.int (nI (4 + 511 * k + 507))), some (.int (nI b0)), some (.int (nI (i + 1)))]) f_149_85 rfl (by rw [show Int32.ofInt 1 = nI 1 by decide]; exact (nI_add _ _)) rfl rfl ?_
          refine e_goto f_149_88 ?_
          rw [show d = (d - 1) + 1 by omega, tmGo_s, tmBet_no hc, if_neg (by decide)] at q3
          refine px_to_L (L := [some (.ref (269)), some (.int (nI k)), some (.int (nI w)), some (.int (nI (4 + 511 * k + 507))), some (.int (oI (some b0))), some (.int (nI (i + 1)))]) ⟨Or.inr rfl, Or.inr rfl, Or.inr rfl, Or.inr rfl, Or.inr rfl, Or.inr rfl, trivial⟩ ?_
          first | (exfalso; omega) | exact ih (d - 1) (by omega) (i + 1) (some b0)  (by omega) (by omega) (q2) (q3)  
      · skip
        rcases nx with _ | b0
        · skip
          show px_to 149 25 [some (.ref (269)), some (.int (nI k)), some (.int (nI w)), some (.int (nI (4 + 511 * k + 507))), some (.int ((-3))), some (.int (nI i))] [] h _
          refine e_aload_n f_149_25 rfl rfl ?_
          refine e_getf f_149_26 H0 rfl rfl ?_
          refine e_iload_n f_149_29 rfl rfl ?_
          refine e_iload f_149_30 rfl rfl ?_
          refine e_iadd (z := nI (4 + 511 * k + 507 + i)) f_149_32 (nI_add _ _) rfl ?_
          refine e_iaload_p (xs := sl) f_149_33 H1 (d := 0) (by first | omega | (simp only [List.length_set]; omega)) rfl ?_
          show px_to 149 34 [some (.ref (269)), some (.int (nI k)), some (.int (nI w)), some (.int (nI (4 + 511 * k + 507))), some (.int ((-3))), some (.int (nI i))] [.int (sl.getD (4 + 511 * k + 507 + i) 0)] h _
          rw [hT1 i (by omega), hc, tmV_nI ht]
          refine e_if_lt_f f_149_34 (nI_pos (by omega)) rfl ?_
          refine e_aload_n f_149_37 rfl rfl ?_
          refine e_getf f_149_38 H0 rfl rfl ?_
          refine e_iload_n f_149_41 rfl rfl ?_
          refine e_iload f_149_42 rfl rfl ?_
          refine e_iadd (z := nI (4 + 511 * k + 507 + i)) f_149_44 (nI_add _ _) rfl ?_
          refine e_iaload_p (xs := sl) f_149_45 H1 (d := 0) (by first | omega | (simp only [List.length_set]; omega)) rfl ?_
          show px_to 149 46 [some (.ref (269)), some (.int (nI k)), some (.int (nI w)), some (.int (nI (4 + 511 * k + 507))), some (.int ((-3))), some (.int (nI i))] [.int (sl.getD (4 + 511 * k + 507 + i) 0)] h _
          rw [hT1 i (by omega), hc, tmV_nI ht]
          refine e_iload_n f_149_46 rfl rfl ?_
          refine e_icmp_gt f_149_47 rfl (fun c_47 => ?_) (fun c_47 => ?_)
          · skip
            have c_47 : w < t := cv_lt (by omega) (by omega) c_47
            refine e_iload f_149_81 rfl rfl ?_
            refine e_istore (L' := [some (.ref (269)), some (.int (nI k)), some (.int (nI w)), some (.int (nI (4 + 511 * k + 507))), some (.int ((-3))), some (.int (nI i))]) f_149_83 (Nat.le_of_ble_eq_true rfl) rfl rfl ?_
            refine e_iinc (y := nI (i + 1)) (L' := [some (.ref (269)), some (.int (nI k)), some (.int (nI w)), some (.int (nI (4 + 511 * k + 507))), some (.int ((-3))), some (.int (nI (i + 1)))]) f_149_85 rfl (by rw [show Int32.ofInt 1 = nI 1 by decide]; exact (nI_add _ _)) rfl rfl ?_
            refine e_goto f_149_88 ?_
            rw [show d = (d - 1) + 1 by omega, tmGo_s, tmBet_w hc ht hw (by omega), if_neg (by decide)] at q3
            refine px_to_L (L := [some (.ref (269)), some (.int (nI k)), some (.int (nI w)), some (.int (nI (4 + 511 * k + 507))), some (.int (oI none)), some (.int (nI (i + 1)))]) ⟨Or.inr rfl, Or.inr rfl, Or.inr rfl, Or.inr rfl, Or.inr rfl, Or.inr rfl, trivial⟩ ?_
            first | (exfalso; omega) | exact ih (d - 1) (by omega) (i + 1) none  (by omega) (by omega) (fun q hq => nomatch hq) (q3)  
          · skip
            have c_47 : t ≤ w := cv_nlt (by omega) (by omega) c_47
            refine e_iload f_149_50 rfl rfl ?_
            refine e_if_lt_t f_149_52 (by decide) ?_
            refine e_iload f_149_76 rfl rfl ?_
            refine e_goto f_149_78 ?_
            refine e_istore (L' := [some (.ref (269)), some (.int (nI k)), some (.int (nI w)), some (.int (nI (4 + 511 * k + 507))), some (.int (nI i)), some (.int (nI i))]) f_149_83 (Nat.le_of_ble_eq_true rfl) rfl rfl ?_
            refine e_iinc (y := nI (i + 1)) (L' := [some (.ref (269)), some (.int (nI k)), some (.int (nI w)), some (.int (nI (4 + 511 * k + 507))), some (.int (nI i)), some (.int (nI (i + 1)))]) f_149_85 rfl (by rw [show Int32.ofInt 1 = nI 1 by decide]; exact (nI_add _ _)) rfl rfl ?_
            refine e_goto f_149_88 ?_
            rw [show d = (d - 1) + 1 by omega, tmGo_s, tmBet_y hc ht hw (by omega), if_pos rfl] at q3
            refine px_to_L (L := [some (.ref (269)), some (.int (nI k)), some (.int (nI w)), some (.int (nI (4 + 511 * k + 507))), some (.int (oI (some i))), some (.int (nI (i + 1)))]) ⟨Or.inr rfl, Or.inr rfl, Or.inr rfl, Or.inr rfl, Or.inr rfl, Or.inr rfl, trivial⟩ ?_
            first | (exfalso; omega) | exact ih (d - 1) (by omega) (i + 1) (some i)  (by omega) (by omega) (fun q hq => by injection hq with hq; subst hq; exact ⟨by omega, t, ht, hc⟩) (q3)  
        · skip
          obtain ⟨hb4, u, hu, hcb⟩ := q2 b0 rfl
          show px_to 149 25 [some (.ref (269)), some (.int (nI k)), some (.int (nI w)), some (.int (nI (4 + 511 * k + 507))), some (.int (nI b0)), some (.int (nI i))] [] h _
          refine e_aload_n f_149_25 rfl rfl ?_
          refine e_getf f_149_26 H0 rfl rfl ?_
          refine e_iload_n f_149_29 rfl rfl ?_
          refine e_iload f_149_30 rfl rfl ?_
          refine e_iadd (z := nI (4 + 511 * k + 507 + i)) f_149_32 (nI_add _ _) rfl ?_
          refine e_iaload_p (xs := sl) f_149_33 H1 (d := 0) (by first | omega | (simp only [List.length_set]; omega)) rfl ?_
          show px_to 149 34 [some (.ref (269)), some (.int (nI k)), some (.int (nI w)), some (.int (nI (4 + 511 * k + 507))), some (.int (nI b0)), some (.int (nI i))] [.int (sl.getD (4 + 511 * k + 507 + i) 0)] h _
          rw [hT1 i (by omega), hc, tmV_nI ht]
          refine e_if_lt_f f_149_34 (nI_pos (by omega)) rfl ?_
          refine e_aload_n f_149_37 rfl rfl ?_
          refine e_getf f_149_38 H0 rfl rfl ?_
          refine e_iload_n f_149_41 rfl rfl ?_
          refine e_iload f_149_42 rfl rfl ?_
          refine e_iadd (z := nI (4 + 511 * k + 507 + i)) f_149_44 (nI_add _ _) rfl ?_
          refine e_iaload_p (xs := sl) f_149_45 H1 (d := 0) (by first | omega | (simp only [List.length_set]; omega)) rfl ?_
          show px_to 149 46 [some (.ref (269)), some (.int (nI k)), some (.int (nI w)), some (.int (nI (4 + 511 * k + 507))), some (.int (nI b0)), some (.int (nI i))] [.int (sl.getD (4 + 511 * k + 507 + i) 0)] h _
          rw [hT1 i (by omega), hc, tmV_nI ht]
          refine e_iload_n f_149_46 rfl rfl ?_
          refine e_icmp_gt f_149_47 rfl (fun c_47 => ?_) (fun c_47 => ?_)
          · skip
            have c_47 : w < t := cv_lt (by omega) (by omega) c_47
            refine e_iload f_149_81 rfl rfl ?_
            refine e_istore (L' := [some (.ref (269)), some (.int (nI k)), some (.int (nI w)), some (.int (nI (4 + 511 * k + 507))), some (.int (nI b0)), some (.int (nI i))]) f_149_83 (Nat.le_of_ble_eq_true rfl) rfl rfl ?_
            refine e_iinc (y := nI (i + 1)) (L' := [some (.ref (269)), some (.int (nI k)), some (.int (nI w)), some (.int (nI (4 + 511 * k + 507))), some (.int (nI b0)), some (.int (nI (i + 1)))]) f_149_85 rfl (by rw [show Int32.ofInt 1 = nI 1 by decide]; exact (nI_add _ _)) rfl rfl ?_
            refine e_goto f_149_88 ?_
            rw [show d = (d - 1) + 1 by omega, tmGo_s, tmBet_w hc ht hw (by omega), if_neg (by decide)] at q3
            refine px_to_L (L := [some (.ref (269)), some (.int (nI k)), some (.int (nI w)), some (.int (nI (4 + 511 * k + 507))), some (.int (oI (some b0))), some (.int (nI (i + 1)))]) ⟨Or.inr rfl, Or.inr rfl, Or.inr rfl, Or.inr rfl, Or.inr rfl, Or.inr rfl, trivial⟩ ?_
            first | (exfalso; omega) | exact ih (d - 1) (by omega) (i + 1) (some b0)  (by omega) (by omega) (q2) (q3)  
          · skip
            have c_47 : t ≤ w := cv_nlt (by omega) (by omega) c_47
            refine e_iload f_149_50 rfl rfl ?_
            refine e_if_lt_f f_149_52 (nI_pos (by omega)) rfl ?_
            refine e_aload_n f_149_55 rfl rfl ?_
            refine e_getf f_149_56 H0 rfl rfl ?_
            refine e_iload_n f_149_59 rfl rfl ?_
            refine e_iload f_149_60 rfl rfl ?_
            refine e_iadd (z := nI (4 + 511 * k + 507 + i)) f_149_62 (nI_add _ _) rfl ?_
            refine e_iaload_p (xs := sl) f_149_63 H1 (d := 0) (by first | omega | (simp only [List.length_set]; omega)) rfl ?_
            show px_to 149 64 [some (.ref (269)), some (.int (nI k)), some (.int (nI w)), some (.int (nI (4 + 511 * k + 507))), some (.int (nI b0)), some (.int (nI i))] [.int (sl.getD (4 + 511 * k + 507 + i) 0)] h _
            rw [hT1 i (by omega), hc, tmV_nI ht]
            refine e_aload_n f_149_64 rfl rfl ?_
            refine e_getf f_149_65 H0 rfl rfl ?_
            refine e_iload_n f_149_68 rfl rfl ?_
            refine e_iload f_149_69 rfl rfl ?_
            refine e_iadd (z := nI (4 + 511 * k + 507 + b0)) f_149_71 (nI_add _ _) rfl ?_
            refine e_iaload_p (xs := sl) f_149_72 H1 (d := 0) (by first | omega | (simp only [List.length_set]; omega)) rfl ?_
            show px_to 149 73 [some (.ref (269)), some (.int (nI k)), some (.int (nI w)), some (.int (nI (4 + 511 * k + 507))), some (.int (nI b0)), some (.int (nI i))] [.int (sl.getD (4 + 511 * k + 507 + b0) 0), .int (nI t)] h _
            rw [hT1 b0 (by omega), hcb, tmV_nI hu]
            refine e_icmp_ge f_149_73 rfl (fun c_73 => ?_) (fun c_73 => ?_)
            · skip
              have c_73 : u ≤ t := cv_le (by omega) (by omega) c_73
              refine e_iload f_149_81 rfl rfl ?_
              refine e_istore (L' := [some (.ref (269)), some (.int (nI k)), some (.int (nI w)), some (.int (nI (4 + 511 * k + 507))), some (.int (nI b0)), some (.int (nI i))]) f_149_83 (Nat.le_of_ble_eq_true rfl) rfl rfl ?_
              refine e_iinc (y := nI (i + 1)) (L' := [some (.ref (269)), some (.int (nI k)), some (.int (nI w)), some (.int (nI (4 + 511 * k + 507))), some (.int (nI b0)), some (.int (nI (i + 1)))]) f_149_85 rfl (by rw [show Int32.ofInt 1 = nI 1 by decide]; exact (nI_add _ _)) rfl rfl ?_
              refine e_goto f_149_88 ?_
              rw [show d = (d - 1) + 1 by omega, tmGo_s, (tmBet_s hc ht hw (by omega) hcb hu).trans (decide_eq_false (by omega)), if_neg (by decide)] at q3
              refine px_to_L (L := [some (.ref (269)), some (.int (nI k)), some (.int (nI w)), some (.int (nI (4 + 511 * k + 507))), some (.int (oI (some b0))), some (.int (nI (i + 1)))]) ⟨Or.inr rfl, Or.inr rfl, Or.inr rfl, Or.inr rfl, Or.inr rfl, Or.inr rfl, trivial⟩ ?_
              first | (exfalso; omega) | exact ih (d - 1) (by omega) (i + 1) (some b0)  (by omega) (by omega) (q2) (q3)  
            · skip
              have c_73 : t < u := cv_nle (by omega) (by omega) c_73
              refine e_iload f_149_76 rfl rfl ?_
              refine e_goto f_149_78 ?_
              refine e_istore (L' := [some (.ref (269)), some (.int (nI k)), some (.int (nI w)), some (.int (nI (4 + 511 * k + 507))), some (.int (nI i)), some (.int (nI i))]) f_149_83 (Nat.le_of_ble_eq_true rfl) rfl rfl ?_
              refine e_iinc (y := nI (i + 1)) (L' := [some (.ref (269)), some (.int (nI k)), some (.int (nI w)), some (.int (nI (4 + 511 * k + 507))), some (.int (nI i)), some (.int (nI (i + 1)))]) f_149_85 rfl (by rw [show Int32.ofInt 1 = nI 1 by decide]; exact (nI_add _ _)) rfl rfl ?_
              refine e_goto f_149_88 ?_
              rw [show d = (d - 1) + 1 by omega, tmGo_s, (tmBet_s hc ht hw (by omega) hcb hu).trans (decide_eq_true (by omega)), if_pos rfl] at q3
              refine px_to_L (L := [some (.ref (269)), some (.int (nI k)), some (.int (nI w)), some (.int (nI (4 + 511 * k + 507))), some (.int (oI (some i))), some (.int (nI (i + 1)))]) ⟨Or.inr rfl, Or.inr rfl, Or.inr rfl, Or.inr rfl, Or.inr rfl, Or.inr rfl, trivial⟩ ?_
              first | (exfalso; omega) | exact ih (d - 1) (by omega) (i + 1) (some i)  (by omega) (by omega) (fun q hq => by injection hq with hq; subst hq; exact ⟨by omega, t, ht, hc⟩) (q3)  

set_option maxRecDepth 20000 in
set_option maxHeartbeats 4000000 in
theorem cc_Md_ftm {h : px_H} {k w : Nat} {sl ti : List Int32} {ga : gA} {gp : gP} {gq : gQ} {gh : gH} {gw : gW} {gu : gU} {gv : gV} (H0 : h.2.2 269 = some (12, mB ga gp gq gh gw gu gv)) (H1 : px_pa h 287 50 3070 Value.int sl) (p0 : k < 6) (p1 : w ≤ 5000) (p2 : sl.length = 3070) (p3 : ∀ q, q < 4 → sl.getD ((4 + 511 * k) + 507 + q) 0 = tmV (ti.getD q 0)) (p4 : ∀ q, q < 4 → ti.getD q 0 = -1 ∨ ∃ t, t ≤ 6000 ∧ ti.getD q 0 = nI t) : px_wp 149 [.ref (269), .int (nI k), .int (nI w)] h (fun h1 r => r = some (.int (oI (tmNext ti (nI w)))) ∧ h1 = h) := by
  show px_to 149 0 [some (.ref (269)), some (.int (nI k)), some (.int (nI w)), none, none, none] [] h _
  refine e_iconst (v := nI 4) f_149_0 (by decide) rfl ?_
  refine e_sipush (v := nI 511) f_149_1 (by decide) rfl ?_
  refine e_iload_n f_149_4 rfl rfl ?_
  refine e_imul (z := nI (511 * k)) f_149_5 (pk_mul _ _) rfl ?_
  refine e_iadd (z := nI (4 + 511 * k)) f_149_6 (nI_add _ _) rfl ?_
  refine e_sipush (v := nI 507) f_149_7 (by decide) rfl ?_
  refine e_iadd (z := nI (4 + 511 * k + 507)) f_149_10 (nI_add _ _) rfl ?_
  refine e_istore_n (L' := [some (.ref (269)), some (.int (nI k)), some (.int (nI w)), some (.int (nI (4 + 511 * k + 507))), none, none]) f_149_11 (Nat.le_of_ble_eq_true rfl) rfl rfl ?_
  refine e_bipush (v := (-3)) f_149_12 (by decide) rfl ?_
  refine e_istore (L' := [some (.ref (269)), some (.int (nI k)), some (.int (nI w)), some (.int (nI (4 + 511 * k + 507))), some (.int ((-3))), none]) f_149_14 (Nat.le_of_ble_eq_true rfl) rfl rfl ?_
  refine e_iconst (v := nI 0) f_149_16 (by decide) rfl ?_
  refine e_istore (L' := [some (.ref (269)), some (.int (nI k)), some (.int (nI w)), some (.int (nI (4 + 511 * k + 507))), some (.int ((-3))), some (.int (nI 0))]) f_149_17 (Nat.le_of_ble_eq_true rfl) rfl rfl ?_
  exact ll_Md_ftm H0 H1 p0 p1 p2 p3 p4 ⟨rfl, rfl⟩ 4 0 none rfl (by omega) (fun q hq => nomatch hq) rfl

def rgY (k q : Nat) (x : RX) : RX := noted k (setS x k (smRung q (getS x k)))
theorem bd_rgY {j : List St} {k q w : Nat} {x : RX} (hk : k < j.length) (hx : okX j x) (hs : (j.getD k (0, 0, 0)).1 = 116) (hq : tmNext (getS x k).2.2.1 (nI w) = some q) (p : PB j x 96) : bd j (rgY k q x) (k + 1) := by
  have h1 := ring_pend hs (hx.1.2 k hk).2.1 hq
  exact bd_pop hk hx.1.1 h1.1 h1.2 (Nat.le_refl _) p
theorem relX_ring {j : List St} {cb : Bool} {lg lh : List Row} {A B W : Int32} {x : RX} {sl cv : List Int32} {k q : Nat} (h : relX j cb lg A B W x sl lh cv) (hk : k < j.length) (h6 : j.length ≤ 6) (hx : okX j x) (hs : (j.getD k (0, 0, 0)).1 = 116) (hq : q < 4) : relX j cb lg A B W (rgY k q x) (sl.set (4 + 511 * k + 507 + q) (-3)) lh (tI cb (tI cb cv (5 * k + 1)) (5 * k + 2)) := by
  have ha : ags sl (sl.set (4 + 511 * k + 507 + q) (-3)) (4 + 511 * k) := ags_set ags_rf (by omega)
  refine ⟨ha.1.trans h.1, ⟨(ha.2 0 (by omega)).trans h.2.1.1, (ha.2 1 (by omega)).trans h.2.1.2.1, (ha.2 2 (by omega)).trans h.2.1.2.2.1, (ha.2 3 (by omega)).trans h.2.1.2.2.2⟩, ?_, h.2.2.2.1, by rw [tI_len, tI_len]; exact h.2.2.2.2.1, cvR (cvR h.2.2.2.2.2 (by omega)) (by omega)⟩
  refine MSt_set h.2.2.1 hk hx.1.1 ha ?_
  have hst := h.2.2.1 k hk
  have h4 : (getS x k).2.2.1.length = 4 := (hx.1.2 k hk).2.1
  have hl := h.1
  refine ⟨by rw [getD_set_ne (by omega)]; exact hst.1, fun z => by omega, fun z => by omega, fun z => by omega, fun z r hr => ?_⟩
  by_cases e : q = r
  · subst e
    rw [getD_set_same (by omega)]
    have e2 : ((getS x k).2.2.1.set q (-1)).getD q 0 = -1 := getD_set_same (by omega)
    show (-3 : Int32) = tmV (((getS x k).2.2.1.set q (-1)).getD q 0)
    rw [e2]
    rfl
  · rw [getD_set_ne (by omega)]
    exact (hst.2.2.2.2 z r hr).trans (congrArg tmV (getD_set_ne e).symm)
theorem tm_none {ti : List Int32} {w : Int32} (hl : ti.length = 4) (h : setN ti = 0) : tmNext ti w = none := by
  cases hq : tmNext ti w with
  | none => rfl
  | some q =>
    exfalso
    have := setN_down (tmNext_lt hq) hl (tmGo_due 4 0 none (fun q hq => nomatch hq) q hq).1
    omega

set_option maxRecDepth 20000 in
set_option maxHeartbeats 4000000 in
theorem ll_Md_ttm {h0 : px_H} {k w : Nat} {res : RX} {A B W : Int32} {ga : gA} {gp : gP} {gu : gU} {gv : gV} {j : List St} {dn : Int32} {la lb cb : Bool} {lg : List Row}  (K0 : px_pa h0 284 52 6 stS j) (K1 : px_pa h0 285 52 6 stA j) (K2 : px_pa h0 286 50 6 stN j) (hj : okZ j) (hk : k < j.length) (hsg : (j.getD k (0, 0, 0)).1 = 116) (hw : w ≤ 5000) : ∀ (d : Nat) (x : RX) (gw : gW) (sl : List Int32) (lh : List Row) (cv : List Int32) (g : px_H), (setN (getS x k).2.2.1 ≤ d) → (ringGo j k w d x = res) → (okX j x) → (PB j x 96) → (relX j cb lg A B W x sl lh cv) → g.2.2 269 = some (12, mB ga gp (nI j.length, x.2.2.2.2.isSome, oI x.2.2.2.2, dn, la, lb, cb) (nI lh.length, nI lg.length) gw gu gv) → px_pa g 287 50 3070 Value.int sl → px_pa g 295 50 30 Value.int cv → px_pa g 289 54 100 rK lh → px_pa g 290 50 100 rV lh → px_pa g 291 50 100 rT lh → px_fl [(269, 1), (287, 1), (289, 3), (295, 1)] h0 g → px_to 150 20 [some (.ref (269)), some (.int (nI k)), some (.int (nI w)), some (.int (nI (4 + 511 * k + 507))), some (.int (oI (tmNext (getS x k).2.2.1 (nI w))))] [] g (fun h1 r => r = none ∧ pRE h1 ga gp gu gv j dn la lb cb lg A B W res ∧ px_fl [(269, 1), (287, 1), (289, 3), (295, 1)] h0 h1) := by
  intro d
  induction d using Nat.strongRecOn with
  | ind d ih =>
    intro x gw sl lh cv g q0 q1 q2 q3 q4 G0 G1 G2 G3 G4 G5 frg
    have h6 := hj.1.1
    rcases hf : tmNext (getS x k).2.2.1 (nI w) with _ | q
    · skip
      show px_to 150 20 [some (.ref (269)), some (.int (nI k)), some (.int (nI w)), some (.int (nI (4 + 511 * k + 507))), some (.int ((-3)))] [] g _
      refine e_iload f_150_20 rfl rfl ?_
      refine e_if_lt_t f_150_22 (by decide) ?_
      refine e_vret f_150_97 rfl ?_
      have er : res = x := by rw [← q1]; exact ringGo_none hf
      rw [er]
      exact ⟨rfl, ⟨gw, sl, lh, cv, G0, G1, G2, G3, G4, G5, q4⟩, frg⟩
    · skip
      obtain ⟨hq4, t, htw, htq⟩ := ring_at (m := getS x k) (q2.1.2 k hk) hsg hw hf
      have hsl := q4.1
      show px_to 150 20 [some (.ref (269)), some (.int (nI k)), some (.int (nI w)), some (.int (nI (4 + 511 * k + 507))), some (.int (nI q))] [] g _
      refine e_iload f_150_20 rfl rfl ?_
      refine e_if_lt_f f_150_22 (nI_pos (by omega)) rfl ?_
      refine e_aload_n f_150_25 rfl rfl ?_
      refine e_getf f_150_26 G0 rfl rfl ?_
      show px_to 150 29 [some (.ref (269)), some (.int (nI k)), some (.int (nI w)), some (.int (nI (4 + 511 * k + 507))), some (.int (nI q))] [.int (bI x.2.2.2.2.isSome)] g _
      refine e_if_ne f_150_29 rfl (fun c_29 => ?_) (fun c_29 => ?_)
      · skip
        have c_29 : x.2.2.2.2.isSome = true := bI_t c_29
        refine e_vret f_150_97 rfl ?_
        have er : res = x := by rw [← q1]; exact by obtain ⟨z, hz⟩ := Option.ne_none_iff_exists'.mp (some_t c_29); exact ringGo_z hz
        rw [er]
        exact ⟨rfl, ⟨gw, sl, lh, cv, G0, G1, G2, G3, G4, G5, q4⟩, frg⟩
      · skip
        have c_29 : x.2.2.2.2.isSome = false := bI_f' c_29
        have hz := some_f c_29
        have hRp := relX_ring (q := q) q4 hk hj.1.1 q2 hsg hq4
        refine e_aload_n f_150_32 rfl rfl ?_
        refine e_iload f_150_33 rfl rfl ?_
        refine e_putp (vs' := mB ga gp (nI j.length, x.2.2.2.2.isSome, oI x.2.2.2.2, dn, la, lb, cb) (nI lh.length, nI lg.length) (nI q, gw.2.1, gw.2.2) gu gv) f_150_35 G0 (Nat.le_of_ble_eq_true rfl) (rfl) (rfl) rfl rfl (fun h1 g2 fx3 => ?_)
        have fr4 : px_fl [(269, 1), (287, 1), (289, 3), (295, 1)] h0 h1 := fl_tr frg fx3 (by first | exact ⟨_, List.mem_cons_self, by omega, by omega⟩ | exact ⟨_, List.mem_cons_of_mem _ (List.mem_cons_self), by omega, by omega⟩ | exact ⟨_, List.mem_cons_of_mem _ (List.mem_cons_of_mem _ (List.mem_cons_self)), by omega, by omega⟩ | exact ⟨_, List.mem_cons_of_mem _ (List.mem_cons_of_mem _ (List.mem_cons_of_mem _ (List.mem_cons_self))), by omega, by omega⟩)
        refine e_aload_n f_150_38 rfl rfl ?_
        refine e_iconst (v := nI 0) f_150_39 (by decide) rfl ?_
        refine e_putp (vs' := mB ga gp (nI j.length, x.2.2.2.2.isSome, oI x.2.2.2.2, dn, la, lb, cb) (nI lh.length, nI lg.length) (nI q, nI 0, gw.2.2) gu gv) f_150_40 g2 (Nat.le_of_ble_eq_true rfl) (rfl) (rfl) rfl rfl (fun h5 g6 fx7 => ?_)
        have fr8 : px_fl [(269, 1), (287, 1), (289, 3), (295, 1)] h0 h5 := fl_tr fr4 fx7 (by first | exact ⟨_, List.mem_cons_self, by omega, by omega⟩ | exact ⟨_, List.mem_cons_of_mem _ (List.mem_cons_self), by omega, by omega⟩ | exact ⟨_, List.mem_cons_of_mem _ (List.mem_cons_of_mem _ (List.mem_cons_self)), by omega, by omega⟩ | exact ⟨_, List.mem_cons_of_mem _ (List.mem_cons_of_mem _ (List.mem_cons_of_mem _ (List.mem_cons_self))), by omega, by omega⟩)
        refine e_aload_n f_150_43 rfl rfl ?_
        refine e_aload_n f_150_44 rfl rfl ?_
        refine e_getf f_150_45 g6 rfl rfl ?_
        refine e_iload_n f_150_48 rfl rfl ?_
        refine e_iload f_150_49 rfl rfl ?_
        refine e_iadd (z := nI (4 + 511 * k + 507 + q)) f_150_51 (nI_add _ _) rfl ?_
        have g9 : px_pa h1 287 50 3070 Value.int sl := pa_fi G1 fx3 (by omega)
        have g10 : px_pa h5 287 50 3070 Value.int sl := pa_fi g9 fx7 (by omega)
        refine e_iaload_p (xs := sl) f_150_52 g10 (d := 0) (by first | omega | (simp only [List.length_set]; omega)) rfl ?_
        show px_to 150 53 [some (.ref (269)), some (.int (nI k)), some (.int (nI w)), some (.int (nI (4 + 511 * k + 507))), some (.int (nI q))] [.int (sl.getD (4 + 511 * k + 507 + q) 0), .ref (269)] h5 _
        rw [(q4.2.2.1 k hk).2.2.2.2 hsg q hq4, show (x.2.1.getD k sm0).2.2.1.getD q 0 = nI t from htq, tmV_nI (by omega)]
        refine e_putp (vs' := mB ga gp (nI j.length, x.2.2.2.2.isSome, oI x.2.2.2.2, dn, la, lb, cb) (nI lh.length, nI lg.length) (nI q, nI 0, nI t) gu gv) f_150_53 g6 (Nat.le_of_ble_eq_true rfl) (rfl) (rfl) rfl rfl (fun h11 g12 fx13 => ?_)
        have fr14 : px_fl [(269, 1), (287, 1), (289, 3), (295, 1)] h0 h11 := fl_tr fr8 fx13 (by first | exact ⟨_, List.mem_cons_self, by omega, by omega⟩ | exact ⟨_, List.mem_cons_of_mem _ (List.mem_cons_self), by omega, by omega⟩ | exact ⟨_, List.mem_cons_of_mem _ (List.mem_cons_of_mem _ (List.mem_cons_self)), by omega, by omega⟩ | exact ⟨_, List.mem_cons_of_mem _ (List.mem_cons_of_mem _ (List.mem_cons_of_mem _ (List.mem_cons_self))), by omega, by omega⟩)
        refine e_aload_n f_150_56 rfl rfl ?_
        refine e_getf f_150_57 g12 rfl rfl ?_
        refine e_iload_n f_150_60 rfl rfl ?_
        refine e_iload f_150_61 rfl rfl ?_
        refine e_iadd (z := nI (4 + 511 * k + 507 + q)) f_150_63 (nI_add _ _) rfl ?_
        refine e_bipush (v := (-3)) f_150_64 (by decide) rfl ?_
        have g15 : px_pa h11 287 50 3070 Value.int sl := pa_fi g10 fx13 (by omega)
        refine e_iastore_p (xs := sl) (x := (-3)) f_150_66 g15 (by omega) (by first | omega | (simp only [List.length_set]; omega)) (rfl) rfl (fun h16 g17 fx18 => ?_)
        have fr19 : px_fl [(269, 1), (287, 1), (289, 3), (295, 1)] h0 h16 := fl_tr fr14 fx18 (by first | exact ⟨_, List.mem_cons_self, by omega, by omega⟩ | exact ⟨_, List.mem_cons_of_mem _ (List.mem_cons_self), by omega, by omega⟩ | exact ⟨_, List.mem_cons_of_mem _ (List.mem_cons_of_mem _ (List.mem_cons_self)), by omega, by omega⟩ | exact ⟨_, List.mem_cons_of_mem _ (List.mem_cons_of_mem _ (List.mem_cons_of_mem _ (List.mem_cons_self))), by omega, by omega⟩)
        refine e_aload_n f_150_67 rfl rfl ?_
        refine e_iload_n f_150_68 rfl rfl ?_
        refine e_iconst (v := nI 1) f_150_69 (by decide) rfl ?_
        have g20 : h16.2.2 269 = some (12, mB ga gp (nI j.length, x.2.2.2.2.isSome, oI x.2.2.2.2, dn, la, lb, cb) (nI lh.length, nI lg.length) (nI q, nI 0, nI t) gu gv) := fi_at g12 fx18 (by omega)
        have g21 : px_pa h1 295 50 30 Value.int cv := pa_fi G2 fx3 (by omega)
        have g22 : px_pa h5 295 50 30 Value.int cv := pa_fi g21 fx7 (by omega)
        have g23 : px_pa h11 295 50 30 Value.int cv := pa_fi g22 fx13 (by omega)
        have g24 : px_pa h16 295 50 30 Value.int cv := pa_fi g23 fx18 (by omega)
        refine e_callV (As := [.int (nI k), .int (nI 1)]) (rest := []) f_150_70 rfl rfl rfl (Nat.le_of_ble_eq_true rfl) (Nat.le_of_ble_eq_true rfl) g20 rfl (Nat.le_of_ble_eq_true rfl) (cc_Md_cnt (k := k) (q := 1) (cb := cb) (cv := cv) (ga := ga) (gp := gp) (gq := (nI j.length, x.2.2.2.2.isSome, oI x.2.2.2.2, dn, la, lb, cb)) (gh := (nI lh.length, nI lg.length)) (gw := (nI q, nI 0, nI t)) (gu := gu) (gv := gv) g20 g24 (by omega) (by omega) (q4.2.2.2.2.1)) rfl (fun h25 r26 q27 => ?_)
        obtain ⟨rfl, g28, fx29⟩ := q27
        have fr30 : px_fl [(269, 1), (287, 1), (289, 3), (295, 1)] h0 h25 := fl_tr fr19 fx29 (by first | exact ⟨_, List.mem_cons_self, by omega, by omega⟩ | exact ⟨_, List.mem_cons_of_mem _ (List.mem_cons_self), by omega, by omega⟩ | exact ⟨_, List.mem_cons_of_mem _ (List.mem_cons_of_mem _ (List.mem_cons_self)), by omega, by omega⟩ | exact ⟨_, List.mem_cons_of_mem _ (List.mem_cons_of_mem _ (List.mem_cons_of_mem _ (List.mem_cons_self))), by omega, by omega⟩)
        show px_to 150 73 [some (.ref (269)), some (.int (nI k)), some (.int (nI w)), some (.int (nI (4 + 511 * k + 507))), some (.int (nI q))] [] h25 _
        refine e_aload_n f_150_73 rfl rfl ?_
        refine e_iload_n f_150_74 rfl rfl ?_
        refine e_iconst (v := nI 2) f_150_75 (by decide) rfl ?_
        have g31 : h25.2.2 269 = some (12, mB ga gp (nI j.length, x.2.2.2.2.isSome, oI x.2.2.2.2, dn, la, lb, cb) (nI lh.length, nI lg.length) (nI q, nI 0, nI t) gu gv) := fi_at g20 fx29 (by omega)
        refine e_callV (As := [.int (nI k), .int (nI 2)]) (rest := []) f_150_76 rfl rfl rfl (Nat.le_of_ble_eq_true rfl) (Nat.le_of_ble_eq_true rfl) g31 rfl (Nat.le_of_ble_eq_true rfl) (cc_Md_cnt (k := k) (q := 2) (cb := cb) (cv := tI cb cv (5 * k + 1)) (ga := ga) (gp := gp) (gq := (nI j.length, x.2.2.2.2.isSome, oI x.2.2.2.2, dn, la, lb, cb)) (gh := (nI lh.length, nI lg.length)) (gw := (nI q, nI 0, nI t)) (gu := gu) (gv := gv) g31 g28 (by omega) (by omega) (by rw [tI_len]; exact q4.2.2.2.2.1)) rfl (fun h32 r33 q34 => ?_)
        obtain ⟨rfl, g35, fx36⟩ := q34
        have fr37 : px_fl [(269, 1), (287, 1), (289, 3), (295, 1)] h0 h32 := fl_tr fr30 fx36 (by first | exact ⟨_, List.mem_cons_self, by omega, by omega⟩ | exact ⟨_, List.mem_cons_of_mem _ (List.mem_cons_self), by omega, by omega⟩ | exact ⟨_, List.mem_cons_of_mem _ (List.mem_cons_of_mem _ (List.mem_cons_self)), by omega, by omega⟩ | exact ⟨_, List.mem_cons_of_mem _ (List.mem_cons_of_mem _ (List.mem_cons_of_mem _ (List.mem_cons_self))), by omega, by omega⟩)
        show px_to 150 79 [some (.ref (269)), some (.int (nI k)), some (.int (nI w)), some (.int (nI (4 + 511 * k + 507))), some (.int (nI q))] [] h32 _
        refine e_aload_n f_150_79 rfl rfl ?_
        refine e_iload_n f_150_80 rfl rfl ?_
        refine e_iconst (v := nI 1) f_150_81 (by decide) rfl ?_
        refine e_iadd (z := nI (k + 1)) f_150_82 (nI_add _ _) rfl ?_
        have g38 : h32.2.2 269 = some (12, mB ga gp (nI j.length, x.2.2.2.2.isSome, oI x.2.2.2.2, dn, la, lb, cb) (nI lh.length, nI lg.length) (nI q, nI 0, nI t) gu gv) := fi_at g31 fx36 (by omega)
        obtain ⟨hm40, fa41, fb42⟩ := fl_mid fr37
        obtain ⟨hm43, fa44, fb45⟩ := fl_mid fb42
        obtain ⟨hm46, fa47, fb48⟩ := fl_mid fb45
        have g39 : px_pa h32 284 52 6 stS j := pa_fi (pa_fi (pa_fi (pa_fi K0 fa41 (by omega)) fa44 (by omega)) fa47 (by omega)) (fl_one fb48) (by omega)
        obtain ⟨hm50, fa51, fb52⟩ := fl_mid fr37
        obtain ⟨hm53, fa54, fb55⟩ := fl_mid fb52
        obtain ⟨hm56, fa57, fb58⟩ := fl_mid fb55
        have g49 : px_pa h32 285 52 6 stA j := pa_fi (pa_fi (pa_fi (pa_fi K1 fa51 (by omega)) fa54 (by omega)) fa57 (by omega)) (fl_one fb58) (by omega)
        obtain ⟨hm60, fa61, fb62⟩ := fl_mid fr37
        obtain ⟨hm63, fa64, fb65⟩ := fl_mid fb62
        obtain ⟨hm66, fa67, fb68⟩ := fl_mid fb65
        have g59 : px_pa h32 286 50 6 stN j := pa_fi (pa_fi (pa_fi (pa_fi K2 fa61 (by omega)) fa64 (by omega)) fa67 (by omega)) (fl_one fb68) (by omega)
        have g69 : px_pa h25 287 50 3070 Value.int (sl.set (4 + 511 * k + 507 + q) (-3)) := pa_fi g17 fx29 (by omega)
        have g70 : px_pa h32 287 50 3070 Value.int (sl.set (4 + 511 * k + 507 + q) (-3)) := pa_fi g69 fx36 (by omega)
        have g71 : px_pa h1 289 54 100 rK lh := pa_fi G3 fx3 (by omega)
        have g72 : px_pa h5 289 54 100 rK lh := pa_fi g71 fx7 (by omega)
        have g73 : px_pa h11 289 54 100 rK lh := pa_fi g72 fx13 (by omega)
        have g74 : px_pa h16 289 54 100 rK lh := pa_fi g73 fx18 (by omega)
        have g75 : px_pa h25 289 54 100 rK lh := pa_fi g74 fx29 (by omega)
        have g76 : px_pa h32 289 54 100 rK lh := pa_fi g75 fx36 (by omega)
        have g77 : px_pa h1 290 50 100 rV lh := pa_fi G4 fx3 (by omega)
        have g78 : px_pa h5 290 50 100 rV lh := pa_fi g77 fx7 (by omega)
        have g79 : px_pa h11 290 50 100 rV lh := pa_fi g78 fx13 (by omega)
        have g80 : px_pa h16 290 50 100 rV lh := pa_fi g79 fx18 (by omega)
        have g81 : px_pa h25 290 50 100 rV lh := pa_fi g80 fx29 (by omega)
        have g82 : px_pa h32 290 50 100 rV lh := pa_fi g81 fx36 (by omega)
        have g83 : px_pa h1 291 50 100 rT lh := pa_fi G5 fx3 (by omega)
        have g84 : px_pa h5 291 50 100 rT lh := pa_fi g83 fx7 (by omega)
        have g85 : px_pa h11 291 50 100 rT lh := pa_fi g84 fx13 (by omega)
        have g86 : px_pa h16 291 50 100 rT lh := pa_fi g85 fx18 (by omega)
        have g87 : px_pa h25 291 50 100 rT lh := pa_fi g86 fx29 (by omega)
        have g88 : px_pa h32 291 50 100 rT lh := pa_fi g87 fx36 (by omega)
        refine e_callV (As := [.int (nI (k + 1))]) (rest := []) f_150_83 rfl rfl rfl (Nat.le_of_ble_eq_true rfl) (Nat.le_of_ble_eq_true rfl) g38 rfl (Nat.le_of_ble_eq_true rfl) (cc_Md_flo (f := k + 1) (key := q) (t := t) (v := nI 0) (x := (rgY k q x)) (sl := sl.set (4 + 511 * k + 507 + q) (-3)) (lh := lh) (cv := tI cb (tI cb cv (5 * k + 1)) (5 * k + 2)) (A := A) (B := B) (W := W) (ga := ga) (gp := gp) (gu := gu) (gv := gv) (j := j) (dn := dn) (la := la) (lb := lb) (cb := cb) (lg := lg) g38 g39 g49 g59 g70 g35 g76 g82 g88 (hj) (by omega) (hq4) (by omega) ((noted_ok (setS_ok q2 (smRung_ok (q2.1.2 k hk) hq4))).1) (hz) (hRp) (bd_rgY hk q2 hsg hf q3)) rfl (fun h89 r90 q91 => ?_)
        obtain ⟨rfl, g92, fx93⟩ := q91
        obtain ⟨hm94, fa95, fb96⟩ := fl_mid fx93
        have fr97 : px_fl [(269, 1), (287, 1), (289, 3), (295, 1)] h0 hm94 := fl_tr fr37 fa95 (by first | exact ⟨_, List.mem_cons_self, by omega, by omega⟩ | exact ⟨_, List.mem_cons_of_mem _ (List.mem_cons_self), by omega, by omega⟩ | exact ⟨_, List.mem_cons_of_mem _ (List.mem_cons_of_mem _ (List.mem_cons_self)), by omega, by omega⟩ | exact ⟨_, List.mem_cons_of_mem _ (List.mem_cons_of_mem _ (List.mem_cons_of_mem _ (List.mem_cons_self))), by omega, by omega⟩)
        obtain ⟨hm98, fa99, fb100⟩ := fl_mid fb96
        have fr101 : px_fl [(269, 1), (287, 1), (289, 3), (295, 1)] h0 hm98 := fl_tr fr97 fa99 (by first | exact ⟨_, List.mem_cons_self, by omega, by omega⟩ | exact ⟨_, List.mem_cons_of_mem _ (List.mem_cons_self), by omega, by omega⟩ | exact ⟨_, List.mem_cons_of_mem _ (List.mem_cons_of_mem _ (List.mem_cons_self)), by omega, by omega⟩ | exact ⟨_, List.mem_cons_of_mem _ (List.mem_cons_of_mem _ (List.mem_cons_of_mem _ (List.mem_cons_self))), by omega, by omega⟩)
        obtain ⟨hm102, fa103, fb104⟩ := fl_mid fb100
        have fr105 : px_fl [(269, 1), (287, 1), (289, 3), (295, 1)] h0 hm102 := fl_tr fr101 fa103 (by first | exact ⟨_, List.mem_cons_self, by omega, by omega⟩ | exact ⟨_, List.mem_cons_of_mem _ (List.mem_cons_self), by omega, by omega⟩ | exact ⟨_, List.mem_cons_of_mem _ (List.mem_cons_of_mem _ (List.mem_cons_self)), by omega, by omega⟩ | exact ⟨_, List.mem_cons_of_mem _ (List.mem_cons_of_mem _ (List.mem_cons_of_mem _ (List.mem_cons_self))), by omega, by omega⟩)
        have fb106 := fl_one fb104
        have fr107 : px_fl [(269, 1), (287, 1), (289, 3), (295, 1)] h0 h89 := fl_tr fr105 fb106 (by first | exact ⟨_, List.mem_cons_self, by omega, by omega⟩ | exact ⟨_, List.mem_cons_of_mem _ (List.mem_cons_self), by omega, by omega⟩ | exact ⟨_, List.mem_cons_of_mem _ (List.mem_cons_of_mem _ (List.mem_cons_self)), by omega, by omega⟩ | exact ⟨_, List.mem_cons_of_mem _ (List.mem_cons_of_mem _ (List.mem_cons_of_mem _ (List.mem_cons_self))), by omega, by omega⟩)
        show px_to 150 86 [some (.ref (269)), some (.int (nI k)), some (.int (nI w)), some (.int (nI (4 + 511 * k + 507))), some (.int (nI q))] [] h89 _
        obtain ⟨gw108, sl109, lh110, cv111, g112, g113, g114, g115, g116, g117, hR118⟩ := id g92
        have hRn := hR118
        have hy : okX j (rgY k q x) := noted_ok (setS_ok q2 (smRung_ok (q2.1.2 k hk) hq4))
        have hx2 : okX j (pass j 7 (k + 1) q (nI 0) t (rgY k q x)) := pass_ok hj.1 hq4 (by omega) _ _ _ _ hy
        have hPB2 : PB j (pass j 7 (k + 1) q (nI 0) t (rgY k q x)) 96 := PB_pass hj.1 hy.1.1 hk (bd_rgY hk q2 hsg hf q3)
        have hgk : getS (pass j 7 (k + 1) q (nI 0) t (rgY k q x)) k = smRung q (getS x k) := (pass_keep _ _ _ _ (Nat.lt_succ_self k)).trans (getS_setS (show k < x.2.1.length by have := q2.1.1; omega))
        have hsd := setN_down hq4 (q2.1.2 k hk).2.1 (by show (getS x k).2.2.1.getD q 0 ≠ -1; rw [htq]; exact nI_ne1 (by omega))
        have hsd : setN (smRung q (getS x k)).2.2.1 + 1 = setN (getS x k).2.2.1 := hsd
        have eP : ringGo j k w (d - 1) (pass j 7 (k + 1) q (nI 0) t (rgY k q x)) = res := by rw [← q1, show ringGo j k w d x = ringGo j k w ((d - 1) + 1) x from by rw [show (d - 1) + 1 = d by omega], ringGo_s hf hz htq (by omega)]; rfl
        refine e_aload_n f_150_86 rfl rfl ?_
        refine e_iload_n f_150_87 rfl rfl ?_
        refine e_iload_n f_150_88 rfl rfl ?_
        refine e_callV (As := [.int (nI k), .int (nI w)]) (rest := []) f_150_89 rfl rfl rfl (Nat.le_of_ble_eq_true rfl) (Nat.le_of_ble_eq_true rfl) g112 rfl (Nat.le_of_ble_eq_true rfl) (cc_Md_ftm (k := k) (w := w) (sl := sl109) (ti := (getS (pass j 7 (k + 1) q (nI 0) t (rgY k q x)) k).2.2.1) (ga := ga) (gp := gp) (gq := (nI j.length, ((pass j 7 (k + 1) q (nI 0) t (rgY k q x)).2.2.2.2).isSome, oI ((pass j 7 (k + 1) q (nI 0) t (rgY k q x)).2.2.2.2), dn, la, lb, cb)) (gh := (nI lh110.length, nI lg.length)) (gw := gw108) (gu := gu) (gv := gv) g112 g113 (by omega) (by omega) (hRn.1) ((hRn.2.2.1 k hk).2.2.2.2 hsg) ((hx2.1.2 k hk).2.2.2.2 hsg)) rfl (fun h119 r120 q121 => ?_)
        obtain ⟨rfl, qe⟩ := q121
        have qe := qe.symm
        subst qe
        show px_to 150 92 [some (.ref (269)), some (.int (nI k)), some (.int (nI w)), some (.int (nI (4 + 511 * k + 507))), some (.int (nI q))] [.int (oI (tmNext ((getS (pass j 7 (k + 1) q (nI 0) t (rgY k q x)) k).2.2.1) (nI w)))] h89 _
        refine e_istore (L' := [some (.ref (269)), some (.int (nI k)), some (.int (nI w)), some (.int (nI (4 + 511 * k + 507))), some (.int (oI (tmNext ((getS (pass j 7 (k + 1) q (nI 0) t (rgY k q x)) k).2.2.1) (nI w))))]) f_150_92 (Nat.le_of_ble_eq_true rfl) rfl rfl ?_
        refine e_goto f_150_94 ?_
        refine px_to_L (L := [some (.ref (269)), some (.int (nI k)), some (.int (nI w)), some (.int (nI (4 + 511 * k + 507))), some (.int (oI (tmNext (getS (pass j 7 (k + 1) q (nI 0) t (rgY k q x)) k).2.2.1 (nI w))))]) ⟨Or.inr rfl, Or.inr rfl, Or.inr rfl, Or.inr rfl, Or.inr rfl, trivial⟩ ?_
        first | (exfalso; omega) | exact ih (d - 1) (by omega) (pass j 7 (k + 1) q (nI 0) t (rgY k q x)) gw108 sl109 lh110 cv111 h89 (by rw [hgk]; omega) (eP) (hx2) (hPB2) (hRn) g112 g113 g114 g115 g116 g117 fr107

set_option maxRecDepth 20000 in
set_option maxHeartbeats 4000000 in
theorem cc_Md_ttm {h : px_H} {k w : Nat} {x : RX} {A B W : Int32} {ga : gA} {gp : gP} {gu : gU} {gv : gV} {j : List St} {dn : Int32} {la lb cb : Bool} {lg : List Row}  (H0 : pRE h ga gp gu gv j dn la lb cb lg A B W x) (H1 : px_pa h 284 52 6 stS j) (H2 : px_pa h 285 52 6 stA j) (H3 : px_pa h 286 50 6 stN j) (p0 : okZ j) (p1 : k < j.length) (p2 : (j.getD k (0, 0, 0)).1 = 116) (p3 : w ≤ 5000) (p4 : okX j x) (p5 : PB j x 96) : px_wp 150 [.ref (269), .int (nI k), .int (nI w)] h (fun h1 r => r = none ∧ pRE h1 ga gp gu gv j dn la lb cb lg A B W (ringGo j k w 4 x) ∧ px_fl [(269, 1), (287, 1), (289, 3), (295, 1)] h h1) := by
  have fr0 : px_fl [(269, 1), (287, 1), (289, 3), (295, 1)] h h := fl_rf _ _
  have h6 := p0.1.1
  show px_to 150 0 [some (.ref (269)), some (.int (nI k)), some (.int (nI w)), none, none] [] h _
  refine e_iconst (v := nI 4) f_150_0 (by decide) rfl ?_
  refine e_sipush (v := nI 511) f_150_1 (by decide) rfl ?_
  refine e_iload_n f_150_4 rfl rfl ?_
  refine e_imul (z := nI (511 * k)) f_150_5 (pk_mul _ _) rfl ?_
  refine e_iadd (z := nI (4 + 511 * k)) f_150_6 (nI_add _ _) rfl ?_
  refine e_sipush (v := nI 507) f_150_7 (by decide) rfl ?_
  refine e_iadd (z := nI (4 + 511 * k + 507)) f_150_10 (nI_add _ _) rfl ?_
  refine e_istore_n (L' := [some (.ref (269)), some (.int (nI k)), some (.int (nI w)), some (.int (nI (4 + 511 * k + 507))), none]) f_150_11 (Nat.le_of_ble_eq_true rfl) rfl rfl ?_
  obtain ⟨gw1, sl2, lh3, cv4, g5, g6, g7, g8, g9, g10, hR11⟩ := id H0
  have hR0 := hR11
  refine e_aload_n f_150_12 rfl rfl ?_
  refine e_iload_n f_150_13 rfl rfl ?_
  refine e_iload_n f_150_14 rfl rfl ?_
  refine e_callV (As := [.int (nI k), .int (nI w)]) (rest := []) f_150_15 rfl rfl rfl (Nat.le_of_ble_eq_true rfl) (Nat.le_of_ble_eq_true rfl) g5 rfl (Nat.le_of_ble_eq_true rfl) (cc_Md_ftm (k := k) (w := w) (sl := sl2) (ti := (getS x k).2.2.1) (ga := ga) (gp := gp) (gq := (nI j.length, x.2.2.2.2.isSome, oI x.2.2.2.2, dn, la, lb, cb)) (gh := (nI lh3.length, nI lg.length)) (gw := gw1) (gu := gu) (gv := gv) g5 g6 (by omega) (by omega) (hR0.1) ((hR0.2.2.1 k p1).2.2.2.2 p2) ((p4.1.2 k p1).2.2.2.2 p2)) rfl (fun h12 r13 q14 => ?_)
  obtain ⟨rfl, qe⟩ := q14
  have qe := qe.symm
  subst qe
  show px_to 150 18 [some (.ref (269)), some (.int (nI k)), some (.int (nI w)), some (.int (nI (4 + 511 * k + 507))), none] [.int (oI (tmNext ((getS x k).2.2.1) (nI w)))] h _
  refine e_istore (L' := [some (.ref (269)), some (.int (nI k)), some (.int (nI w)), some (.int (nI (4 + 511 * k + 507))), some (.int (oI (tmNext ((getS x k).2.2.1) (nI w))))]) f_150_18 (Nat.le_of_ble_eq_true rfl) rfl rfl ?_
  exact ll_Md_ttm (h0 := h) (k := k) (w := w) (res := _) H1 H2 H3 p0 p1 p2 p3 4 x _ _ _ _ h (setN_le _) rfl p4 p5 hR0 g5 g6 g7 g8 g9 g10 fr0
