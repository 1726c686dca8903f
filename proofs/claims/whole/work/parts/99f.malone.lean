def pKO (h : px_H) (ga : gA) (gp : gP) (cb : Bool) : Prop := ∃ (gv : gV), pKL h ga gp cb gv

set_option maxRecDepth 20000 in
set_option maxHeartbeats 4000000 in
theorem ll_MD_alo2 {P : px_H → Option Value → Prop} {h0 : px_H} {c n al k : Nat} {Y : Bool} {L : Int32} {xs : List CS3} {em : List Nat} {es : List Ev} {om : List Nat} {ro : List Row} {wn : List Nat} {j : List St} {cb : Bool} {gp : gP} {gv : gV}  (K0 : px_pa h0 271 52 6 stS j) (K1 : px_pa h0 272 52 6 stA j) (K2 : px_pa h0 273 50 6 stN j) (K3 : px_pa h0 274 50 8 vN em) (K4 : px_pa h0 275 52 192 evS es) (K5 : px_pa h0 276 54 192 evK es) (K6 : px_pa h0 277 53 192 evV es) (K7 : px_pa h0 278 53 192 evT es) (K8 : px_pa h0 279 50 8 vN om) (K9 : px_pa h0 280 54 128 rK ro) (K10 : px_pa h0 281 53 128 rV ro) (K11 : px_pa h0 282 53 128 rT ro) (K12 : px_pa h0 283 52 8 vN wn) (hj : okB j) (ht : tN j ≤ 2) (hk : k < jMut j) (h8 : xs.length ≤ 8) (hxs : ∀ x ∈ xs, okC3 x) (hA : okA xs em es om ro wn) (hc : c < xs.length) (kx : ∀ g, pKL g (L, nI j.length, nI xs.length) gp cb (gv.1, gv.2.1, gv.2.2.1, gv.2.2.2.1, gv.2.2.2.2.1, gv.2.2.2.2.2.1, gv.2.2.2.2.2.2.1, nI (mutAt j k).1, nI (mutAt j k).2) → px_fj 269 1 284 19 h0 g → px_to 202 84 [some (.ref (269)), some (.int (nI c)), some (.int (nI n)), some (.int (nI al)), some (.int (nI k)), some (.int (bI Y)), none] [] g P) : ∀ (d : Nat) (is : Bool) (dd : Nat) (g : px_H), (xs.length ≤ dd + d) → (dd ≤ xs.length) → ((is && othA j k c (xs.drop dd) dd) = Y) → pKL g (L, nI j.length, nI xs.length) gp cb (gv.1, gv.2.1, gv.2.2.1, gv.2.2.2.1, gv.2.2.2.2.1, gv.2.2.2.2.2.1, gv.2.2.2.2.2.2.1, nI (mutAt j k).1, nI (mutAt j k).2) → px_fj 269 1 284 19 h0 g → px_to 202 42 [some (.ref (269)), some (.int (nI c)), some (.int (nI n)), some (.int (nI al)), some (.int (nI k)), some (.int (bI is)), some (.int (nI dd))] [] g P := by
  intro d
  induction d using Nat.strongRecOn with
  | ind d ih =>
    intro is dd g q0 q1 q2 G0 frg
    have h6 := hj.1.1
    refine e_iload f_202_42 rfl rfl ?_
    refine e_aload_n f_202_44 rfl rfl ?_
    obtain ⟨gq1, gh2, gw3, gu4, jn5, sl6, sl27, lh8, lg9, cv10, pl11, lo12, lt13, g14, g15, g16, g17, g18, g19, g20, g21, g22, g23, g24, g25, g26, g27, g28, g29, g30, g31, g32, g33, hL34⟩ := id G0
    refine e_getf f_202_45 g14 rfl rfl ?_
    show px_to 202 48 [some (.ref (269)), some (.int (nI c)), some (.int (nI n)), some (.int (nI al)), some (.int (nI k)), some (.int (bI is)), some (.int (nI dd))] [.int (nI xs.length), .int (nI dd)] g _
    refine e_icmp_ge f_202_48 rfl (fun c_48 => ?_) (fun c_48 => ?_)
    · skip
      have c_48 : xs.length ≤ dd := cv_le (by omega) (by omega) c_48
      have g35 : pKL g (L, nI j.length, nI xs.length) gp cb (gv.1, gv.2.1, gv.2.2.1, gv.2.2.2.1, gv.2.2.2.2.1, gv.2.2.2.2.2.1, gv.2.2.2.2.2.2.1, nI (mutAt j k).1, nI (mutAt j k).2) := ⟨(gq1.1, gq1.2.1, gq1.2.2.1, gq1.2.2.2.1, gq1.2.2.2.2.1, gq1.2.2.2.2.2.1, cb), gh2, gw3, gu4, _, _, _, _, _, _, _, _, _, g14, g15, g16, g17, g18, g19, g20, g21, g22, g23, g24, g25, g26, g27, g28, g29, g30, g31, g32, g33, hL34⟩
      have ei : is = Y := by rw [List.drop_eq_nil_of_le (by omega), othA, Bool.and_true] at q2; exact q2
      subst ei
      refine px_to_L (L := [some (.ref (269)), some (.int (nI c)), some (.int (nI n)), some (.int (nI al)), some (.int (nI k)), some (.int (bI is)), none]) ⟨Or.inr rfl, Or.inr rfl, Or.inr rfl, Or.inr rfl, Or.inr rfl, Or.inr rfl, Or.inl rfl, trivial⟩ ?_
      exact kx g g35 frg
    · skip
      have c_48 : dd < xs.length := cv_nle (by omega) (by omega) c_48
      refine e_iload f_202_51 rfl rfl ?_
      refine e_if_eq f_202_53 rfl (fun c_53 => ?_) (fun c_53 => ?_)
      · skip
        have c_53 : is = false := bI_f c_53
        have g36 : pKL g (L, nI j.length, nI xs.length) gp cb (gv.1, gv.2.1, gv.2.2.1, gv.2.2.2.1, gv.2.2.2.2.1, gv.2.2.2.2.2.1, gv.2.2.2.2.2.2.1, nI (mutAt j k).1, nI (mutAt j k).2) := ⟨(gq1.1, gq1.2.1, gq1.2.2.1, gq1.2.2.2.1, gq1.2.2.2.2.1, gq1.2.2.2.2.2.1, cb), gh2, gw3, gu4, _, _, _, _, _, _, _, _, _, g14, g15, g16, g17, g18, g19, g20, g21, g22, g23, g24, g25, g26, g27, g28, g29, g30, g31, g32, g33, hL34⟩
        have ei : is = Y := by rw [c_53, Bool.false_and] at q2; rw [c_53]; exact q2
        subst ei
        refine px_to_L (L := [some (.ref (269)), some (.int (nI c)), some (.int (nI n)), some (.int (nI al)), some (.int (nI k)), some (.int (bI is)), none]) ⟨Or.inr rfl, Or.inr rfl, Or.inr rfl, Or.inr rfl, Or.inr rfl, Or.inr rfl, Or.inl rfl, trivial⟩ ?_
        exact kx g g36 frg
      · skip
        have c_53 : is = true := bI_t' c_53
        refine e_iload f_202_56 rfl rfl ?_
        refine e_iload_n f_202_58 rfl rfl ?_
        refine e_icmp_eq f_202_59 rfl (fun c_59 => ?_) (fun c_59 => ?_)
        · skip
          have c_59 : dd = c := cv_eq (by omega) (by omega) c_59
          refine e_iconst (v := nI 1) f_202_71 (by decide) rfl ?_
          refine e_goto f_202_72 ?_
          refine e_istore (L' := [some (.ref (269)), some (.int (nI c)), some (.int (nI n)), some (.int (nI al)), some (.int (nI k)), some (.int (nI 1)), some (.int (nI dd))]) f_202_76 (Nat.le_of_ble_eq_true rfl) rfl rfl ?_
          refine e_iinc (y := nI (dd + 1)) (L' := [some (.ref (269)), some (.int (nI c)), some (.int (nI n)), some (.int (nI al)), some (.int (nI k)), some (.int (nI 1)), some (.int (nI (dd + 1)))]) f_202_78 rfl (by rw [show Int32.ofInt 1 = nI 1 by decide]; exact (nI_add _ _)) rfl rfl ?_
          refine e_goto f_202_81 ?_
          rw [drop_step c30 (show dd < xs.length by omega), othA] at q2
          have q2 := q2
          rw [c_53, Bool.true_and] at q2
          have g37 : pKL g (L, nI j.length, nI xs.length) gp cb (gv.1, gv.2.1, gv.2.2.1, gv.2.2.2.1, gv.2.2.2.2.1, gv.2.2.2.2.2.1, gv.2.2.2.2.2.2.1, nI (mutAt j k).1, nI (mutAt j k).2) := ⟨(gq1.1, gq1.2.1, gq1.2.2.1, gq1.2.2.2.1, gq1.2.2.2.2.1, gq1.2.2.2.2.2.1, cb), gh2, gw3, gu4, _, _, _, _, _, _, _, _, _, g14, g15, g16, g17, g18, g19, g20, g21, g22, g23, g24, g25, g26, g27, g28, g29, g30, g31, g32, g33, hL34⟩
          rw [decide_eq_true c_59, Bool.true_or, Bool.true_and] at q2
          refine px_to_L (L := [some (.ref (269)), some (.int (nI c)), some (.int (nI n)), some (.int (nI al)), some (.int (nI k)), some (.int (bI true)), some (.int (nI (dd + 1)))]) ⟨Or.inr rfl, Or.inr rfl, Or.inr rfl, Or.inr rfl, Or.inr rfl, Or.inr rfl, Or.inr rfl, trivial⟩ ?_
          first | (exfalso; omega) | exact ih (d - 1) (by omega) true (dd + 1) g (by omega) (by omega) (by rw [Bool.true_and]; exact q2) g37 frg
        · skip
          have c_59 : dd ≠ c := cv_ne c_59
          have hL := hL34
          have hAc := hA.2 dd (by omega)
          refine e_aload_n f_202_62 rfl rfl ?_
          refine e_iload f_202_63 rfl rfl ?_
          obtain ⟨hm39, fa40, fb41⟩ := fj_mid frg
          have g38 : px_pa g 271 52 6 stS j := pa_fi (pa_fi K0 fa40 (by omega)) fb41 (by omega)
          obtain ⟨hm43, fa44, fb45⟩ := fj_mid frg
          have g42 : px_pa g 272 52 6 stA j := pa_fi (pa_fi K1 fa44 (by omega)) fb45 (by omega)
          obtain ⟨hm47, fa48, fb49⟩ := fj_mid frg
          have g46 : px_pa g 273 50 6 stN j := pa_fi (pa_fi K2 fa48 (by omega)) fb49 (by omega)
          obtain ⟨hm51, fa52, fb53⟩ := fj_mid frg
          have g50 : px_pa g 274 50 8 vN em := pa_fi (pa_fi K3 fa52 (by omega)) fb53 (by omega)
          obtain ⟨hm55, fa56, fb57⟩ := fj_mid frg
          have g54 : px_pa g 275 52 192 evS es := pa_fi (pa_fi K4 fa56 (by omega)) fb57 (by omega)
          obtain ⟨hm59, fa60, fb61⟩ := fj_mid frg
          have g58 : px_pa g 276 54 192 evK es := pa_fi (pa_fi K5 fa60 (by omega)) fb61 (by omega)
          obtain ⟨hm63, fa64, fb65⟩ := fj_mid frg
          have g62 : px_pa g 277 53 192 evV es := pa_fi (pa_fi K6 fa64 (by omega)) fb65 (by omega)
          obtain ⟨hm67, fa68, fb69⟩ := fj_mid frg
          have g66 : px_pa g 278 53 192 evT es := pa_fi (pa_fi K7 fa68 (by omega)) fb69 (by omega)
          obtain ⟨hm71, fa72, fb73⟩ := fj_mid frg
          have g70 : px_pa g 279 50 8 vN om := pa_fi (pa_fi K8 fa72 (by omega)) fb73 (by omega)
          obtain ⟨hm75, fa76, fb77⟩ := fj_mid frg
          have g74 : px_pa g 280 54 128 rK ro := pa_fi (pa_fi K9 fa76 (by omega)) fb77 (by omega)
          obtain ⟨hm79, fa80, fb81⟩ := fj_mid frg
          have g78 : px_pa g 281 53 128 rV ro := pa_fi (pa_fi K10 fa80 (by omega)) fb81 (by omega)
          obtain ⟨hm83, fa84, fb85⟩ := fj_mid frg
          have g82 : px_pa g 282 53 128 rT ro := pa_fi (pa_fi K11 fa84 (by omega)) fb85 (by omega)
          obtain ⟨hm87, fa88, fb89⟩ := fj_mid frg
          have g86 : px_pa g 283 52 8 vN wn := pa_fi (pa_fi K12 fa88 (by omega)) fb89 (by omega)
          refine e_callV (As := [.int (nI dd)]) (rest := []) f_202_65 rfl rfl rfl (Nat.le_of_ble_eq_true rfl) (Nat.le_of_ble_eq_true rfl) g14 rfl (Nat.le_of_ble_eq_true rfl) (cc_Md_kil (c := dd) (x := (xs.getD dd c30)) (k := k) (em := em) (es := es) (om := om) (ro := ro) (wn := wn) (pl := pl11) (L := L) (cn := nI xs.length) (j := j) (jn := jn5) (cb := cb) (sl := sl6) (sl2 := sl27) (lh := lh8) (lg := lg9) (lo := lo12) (lt := lt13) (cv := cv10) (gp := gp) (gq := (gq1.1, gq1.2.1, gq1.2.2.1, gq1.2.2.2.1, gq1.2.2.2.2.1, gq1.2.2.2.2.2.1, cb)) (gh := gh2) (gw := gw3) (gu := gu4) (gv := (gv.1, gv.2.1, gv.2.2.1, gv.2.2.2.1, gv.2.2.2.2.1, gv.2.2.2.2.2.1, gv.2.2.2.2.2.2.1, nI (mutAt j k).1, nI (mutAt j k).2)) g14 g38 g42 g46 g15 g16 g17 g18 g19 g20 g21 g22 g23 g24 g25 g26 g27 g50 g54 g58 g62 g66 g70 g74 g78 g82 g86 g28 g29 g30 g31 g32 g33 (⟨hj, ht, hk⟩) (hL) (by omega) (⟨hA.1.1, hA.1.2.1⟩) (hAc.2.1) (hxs _ (getD_mem _ (by omega))) (hAc.1) (⟨hA.1.2.2.1, hA.1.2.2.2.1⟩) (hAc.2.2.1) (hAc.2.2.2.1) (⟨hA.1.2.2.2.2, hAc.2.2.2.2⟩)) rfl (fun h90 r91 q92 => ?_)
          obtain ⟨rfl, g93, fx94⟩ := q92
          obtain ⟨hm95, fa96, fb97⟩ := fj_mid fx94
          have fr98 : px_fj 269 1 284 19 h0 hm95 := fj_tr frg fa96 (by omega)
          have fr99 : px_fj 269 1 284 19 h0 h90 := fj_tr fr98 fb97 (by omega)
          show px_to 202 68 [some (.ref (269)), some (.int (nI c)), some (.int (nI n)), some (.int (nI al)), some (.int (nI k)), some (.int (bI is)), some (.int (nI dd))] [.int (bI (killB j (xs.getD dd c30) k))] h90 _
          refine e_if_ne f_202_68 rfl (fun c_68 => ?_) (fun c_68 => ?_)
          · skip
            have c_68 : (killB j (xs.getD dd c30) k) = true := bI_t c_68
            refine e_iconst (v := nI 0) f_202_75 (by decide) rfl ?_
            refine e_istore (L' := [some (.ref (269)), some (.int (nI c)), some (.int (nI n)), some (.int (nI al)), some (.int (nI k)), some (.int (nI 0)), some (.int (nI dd))]) f_202_76 (Nat.le_of_ble_eq_true rfl) rfl rfl ?_
            refine e_iinc (y := nI (dd + 1)) (L' := [some (.ref (269)), some (.int (nI c)), some (.int (nI n)), some (.int (nI al)), some (.int (nI k)), some (.int (nI 0)), some (.int (nI (dd + 1)))]) f_202_78 rfl (by rw [show Int32.ofInt 1 = nI 1 by decide]; exact (nI_add _ _)) rfl rfl ?_
            refine e_goto f_202_81 ?_
            rw [drop_step c30 (show dd < xs.length by omega), othA] at q2
            have q2 := q2
            rw [c_53, Bool.true_and] at q2
            rw [decide_eq_false c_59, Bool.false_or, c_68] at q2
            refine px_to_L (L := [some (.ref (269)), some (.int (nI c)), some (.int (nI n)), some (.int (nI al)), some (.int (nI k)), some (.int (bI false)), some (.int (nI (dd + 1)))]) ⟨Or.inr rfl, Or.inr rfl, Or.inr rfl, Or.inr rfl, Or.inr rfl, Or.inr rfl, Or.inr rfl, trivial⟩ ?_
            first | (exfalso; omega) | exact ih (d - 1) (by omega) false (dd + 1) h90 (by omega) (by omega) (q2) g93 fr99
          · skip
            have c_68 : (killB j (xs.getD dd c30) k) = false := bI_f' c_68
            refine e_iconst (v := nI 1) f_202_71 (by decide) rfl ?_
            refine e_goto f_202_72 ?_
            refine e_istore (L' := [some (.ref (269)), some (.int (nI c)), some (.int (nI n)), some (.int (nI al)), some (.int (nI k)), some (.int (nI 1)), some (.int (nI dd))]) f_202_76 (Nat.le_of_ble_eq_true rfl) rfl rfl ?_
            refine e_iinc (y := nI (dd + 1)) (L' := [some (.ref (269)), some (.int (nI c)), some (.int (nI n)), some (.int (nI al)), some (.int (nI k)), some (.int (nI 1)), some (.int (nI (dd + 1)))]) f_202_78 rfl (by rw [show Int32.ofInt 1 = nI 1 by decide]; exact (nI_add _ _)) rfl rfl ?_
            refine e_goto f_202_81 ?_
            rw [drop_step c30 (show dd < xs.length by omega), othA] at q2
            have q2 := q2
            rw [c_53, Bool.true_and] at q2
            rw [decide_eq_false c_59, Bool.false_or, c_68] at q2
            refine px_to_L (L := [some (.ref (269)), some (.int (nI c)), some (.int (nI n)), some (.int (nI al)), some (.int (nI k)), some (.int (bI true)), some (.int (nI (dd + 1)))]) ⟨Or.inr rfl, Or.inr rfl, Or.inr rfl, Or.inr rfl, Or.inr rfl, Or.inr rfl, Or.inr rfl, trivial⟩ ?_
            first | (exfalso; omega) | exact ih (d - 1) (by omega) true (dd + 1) h90 (by omega) (by omega) (q2) g93 fr99

set_option maxRecDepth 20000 in
set_option maxHeartbeats 4000000 in
theorem ll_MD_alo1 {P : px_H → Option Value → Prop} {h0 : px_H} {c T : Nat} {L : Int32} {xs : List CS3} {em : List Nat} {es : List Ev} {om : List Nat} {ro : List Row} {wn : List Nat} {j : List St} {cb : Bool} {gp : gP}  (K0 : px_pa h0 271 52 6 stS j) (K1 : px_pa h0 272 52 6 stA j) (K2 : px_pa h0 273 50 6 stN j) (K3 : px_pa h0 274 50 8 vN em) (K4 : px_pa h0 275 52 192 evS es) (K5 : px_pa h0 276 54 192 evK es) (K6 : px_pa h0 277 53 192 evV es) (K7 : px_pa h0 278 53 192 evT es) (K8 : px_pa h0 279 50 8 vN om) (K9 : px_pa h0 280 54 128 rK ro) (K10 : px_pa h0 281 53 128 rV ro) (K11 : px_pa h0 282 53 128 rT ro) (K12 : px_pa h0 283 52 8 vN wn) (hj : okB j) (ht : tN j ≤ 2) (h8 : xs.length ≤ 8) (hxs : ∀ x ∈ xs, okC3 x) (hA : okA xs em es om ro wn) (hc : c < xs.length) (kx : ∀ g, pKO g (L, nI j.length, nI xs.length) gp cb → px_fj 269 1 284 19 h0 g → P g (some (.int (nI T)))) : ∀ (d : Nat) (n : Nat) (k : Nat) (g : px_H), (jMut j ≤ k + d) → (k ≤ jMut j) → (n + aloN j xs c (jMut j - k) k = T) → (n ≤ k) → pKO g (L, nI j.length, nI xs.length) gp cb → px_fj 269 1 284 19 h0 g → px_to 202 20 [some (.ref (269)), some (.int (nI c)), some (.int (nI n)), some (.int (nI (jMut j))), some (.int (nI k)), none, none] [] g P := by
  intro d
  induction d using Nat.strongRecOn with
  | ind d ih =>
    intro n k g q0 q1 q2 q3 G0 frg
    have h6 := hj.1.1
    have hjm := jMut_le j
    have hoj : ∀ s ∈ j, s.1 < 65536 := fun s hs => by have := (hj.1.2 s hs).1; omega
    refine e_iload f_202_20 rfl rfl ?_
    refine e_iload_n f_202_22 rfl rfl ?_
    refine e_icmp_ge f_202_23 rfl (fun c_23 => ?_) (fun c_23 => ?_)
    · skip
      have c_23 : jMut j ≤ k := cv_le (by omega) (by omega) c_23
      refine e_iload_n f_202_103 rfl rfl ?_
      refine e_iret f_202_104 rfl (rfl) ?_
      rw [show jMut j - k = 0 by omega, aloN, Nat.add_zero] at q2
      subst q2
      exact kx g G0 frg
    · skip
      have c_23 : k < jMut j := cv_nle (by omega) (by omega) c_23
      obtain ⟨gv1, g2⟩ := id G0
      obtain ⟨gq3, gh4, gw5, gu6, jn7, sl8, sl29, lh10, lg11, cv12, pl13, lo14, lt15, g16, g17, g18, g19, g20, g21, g22, g23, g24, g25, g26, g27, g28, g29, g30, g31, g32, g33, g34, g35, hL36⟩ := id g2
      have hL := hL36
      have hAc := hA.2 c hc
      have hk : k < jMut j := by omega
      refine e_aload_n f_202_26 rfl rfl ?_
      refine e_iload f_202_27 rfl rfl ?_
      obtain ⟨hm38, fa39, fb40⟩ := fj_mid frg
      have g37 : px_pa g 271 52 6 stS j := pa_fi (pa_fi K0 fa39 (by omega)) fb40 (by omega)
      refine e_callV (As := [.int (nI k)]) (rest := []) f_202_29 rfl rfl rfl (Nat.le_of_ble_eq_true rfl) (Nat.le_of_ble_eq_true rfl) g16 rfl (Nat.le_of_ble_eq_true rfl) (cc_Md_sks (k := k) (j := j) (ga := (L, nI j.length, nI xs.length)) (gp := gp) (gq := (gq3.1, gq3.2.1, gq3.2.2.1, gq3.2.2.2.1, gq3.2.2.2.2.1, gq3.2.2.2.2.2.1, cb)) (gh := gh4) (gw := gw5) (gu := gu6) (gv := gv1) g16 g37 (hk) (hoj) (h6)) rfl (fun h41 r42 q43 => ?_)
      obtain ⟨rfl, g44, fx45⟩ := q43
      have fr46 : px_fj 269 1 284 19 h0 h41 := fj_tr frg fx45 (by omega)
      show px_to 202 32 [some (.ref (269)), some (.int (nI c)), some (.int (nI n)), some (.int (nI (jMut j))), some (.int (nI k)), none, none] [] h41 _
      refine e_aload_n f_202_32 rfl rfl ?_
      refine e_iload_n f_202_33 rfl rfl ?_
      obtain ⟨hm48, fa49, fb50⟩ := fj_mid fr46
      have g47 : px_pa h41 271 52 6 stS j := pa_fi (pa_fi K0 fa49 (by omega)) fb50 (by omega)
      obtain ⟨hm52, fa53, fb54⟩ := fj_mid fr46
      have g51 : px_pa h41 272 52 6 stA j := pa_fi (pa_fi K1 fa53 (by omega)) fb54 (by omega)
      obtain ⟨hm56, fa57, fb58⟩ := fj_mid fr46
      have g55 : px_pa h41 273 50 6 stN j := pa_fi (pa_fi K2 fa57 (by omega)) fb58 (by omega)
      have g59 : px_pa h41 284 52 6 stS jn7 := pa_fi g17 fx45 (by omega)
      have g60 : px_pa h41 285 52 6 stA jn7 := pa_fi g18 fx45 (by omega)
      have g61 : px_pa h41 286 50 6 stN jn7 := pa_fi g19 fx45 (by omega)
      have g62 : px_pa h41 287 50 3070 Value.int sl8 := pa_fi g20 fx45 (by omega)
      have g63 : px_pa h41 288 50 3070 Value.int sl29 := pa_fi g21 fx45 (by omega)
      have g64 : px_pa h41 289 54 100 rK lh10 := pa_fi g22 fx45 (by omega)
      have g65 : px_pa h41 290 50 100 rV lh10 := pa_fi g23 fx45 (by omega)
      have g66 : px_pa h41 291 50 100 rT lh10 := pa_fi g24 fx45 (by omega)
      have g67 : px_pa h41 292 54 100 rK lg11 := pa_fi g25 fx45 (by omega)
      have g68 : px_pa h41 293 50 100 rV lg11 := pa_fi g26 fx45 (by omega)
      have g69 : px_pa h41 294 50 100 rT lg11 := pa_fi g27 fx45 (by omega)
      have g70 : px_pa h41 295 50 30 Value.int cv12 := pa_fi g28 fx45 (by omega)
      have g71 : px_pa h41 296 50 24 vN pl13 := pa_fi g29 fx45 (by omega)
      obtain ⟨hm73, fa74, fb75⟩ := fj_mid fr46
      have g72 : px_pa h41 274 50 8 vN em := pa_fi (pa_fi K3 fa74 (by omega)) fb75 (by omega)
      obtain ⟨hm77, fa78, fb79⟩ := fj_mid fr46
      have g76 : px_pa h41 275 52 192 evS es := pa_fi (pa_fi K4 fa78 (by omega)) fb79 (by omega)
      obtain ⟨hm81, fa82, fb83⟩ := fj_mid fr46
      have g80 : px_pa h41 276 54 192 evK es := pa_fi (pa_fi K5 fa82 (by omega)) fb83 (by omega)
      obtain ⟨hm85, fa86, fb87⟩ := fj_mid fr46
      have g84 : px_pa h41 277 53 192 evV es := pa_fi (pa_fi K6 fa86 (by omega)) fb87 (by omega)
      obtain ⟨hm89, fa90, fb91⟩ := fj_mid fr46
      have g88 : px_pa h41 278 53 192 evT es := pa_fi (pa_fi K7 fa90 (by omega)) fb91 (by omega)
      obtain ⟨hm93, fa94, fb95⟩ := fj_mid fr46
      have g92 : px_pa h41 279 50 8 vN om := pa_fi (pa_fi K8 fa94 (by omega)) fb95 (by omega)
      obtain ⟨hm97, fa98, fb99⟩ := fj_mid fr46
      have g96 : px_pa h41 280 54 128 rK ro := pa_fi (pa_fi K9 fa98 (by omega)) fb99 (by omega)
      obtain ⟨hm101, fa102, fb103⟩ := fj_mid fr46
      have g100 : px_pa h41 281 53 128 rV ro := pa_fi (pa_fi K10 fa102 (by omega)) fb103 (by omega)
      obtain ⟨hm105, fa106, fb107⟩ := fj_mid fr46
      have g104 : px_pa h41 282 53 128 rT ro := pa_fi (pa_fi K11 fa106 (by omega)) fb107 (by omega)
      obtain ⟨hm109, fa110, fb111⟩ := fj_mid fr46
      have g108 : px_pa h41 283 52 8 vN wn := pa_fi (pa_fi K12 fa110 (by omega)) fb111 (by omega)
      have g112 : px_pa h41 297 54 100 rK lo14 := pa_fi g30 fx45 (by omega)
      have g113 : px_pa h41 298 50 100 rV lo14 := pa_fi g31 fx45 (by omega)
      have g114 : px_pa h41 299 50 100 rT lo14 := pa_fi g32 fx45 (by omega)
      have g115 : px_pa h41 300 54 100 rK lt15 := pa_fi g33 fx45 (by omega)
      have g116 : px_pa h41 301 50 100 rV lt15 := pa_fi g34 fx45 (by omega)
      have g117 : px_pa h41 302 50 100 rT lt15 := pa_fi g35 fx45 (by omega)
      refine e_callV (As := [.int (nI c)]) (rest := []) f_202_34 rfl rfl rfl (Nat.le_of_ble_eq_true rfl) (Nat.le_of_ble_eq_true rfl) g44 rfl (Nat.le_of_ble_eq_true rfl) (cc_Md_kil (c := c) (x := (xs.getD c c30)) (k := k) (em := em) (es := es) (om := om) (ro := ro) (wn := wn) (pl := pl13) (L := L) (cn := nI xs.length) (j := j) (jn := jn7) (cb := cb) (sl := sl8) (sl2 := sl29) (lh := lh10) (lg := lg11) (lo := lo14) (lt := lt15) (cv := cv12) (gp := gp) (gq := (gq3.1, gq3.2.1, gq3.2.2.1, gq3.2.2.2.1, gq3.2.2.2.2.1, gq3.2.2.2.2.2.1, cb)) (gh := gh4) (gw := gw5) (gu := gu6) (gv := (gv1.1, gv1.2.1, gv1.2.2.1, gv1.2.2.2.1, gv1.2.2.2.2.1, gv1.2.2.2.2.2.1, gv1.2.2.2.2.2.2.1, nI ((mutAt j k).1), nI ((mutAt j k).2))) g44 g47 g51 g55 g59 g60 g61 g62 g63 g64 g65 g66 g67 g68 g69 g70 g71 g72 g76 g80 g84 g88 g92 g96 g100 g104 g108 g112 g113 g114 g115 g116 g117 (⟨hj, ht, hk⟩) (hL) (by omega) (⟨hA.1.1, hA.1.2.1⟩) (hAc.2.1) (hxs _ (getD_mem _ (by omega))) (hAc.1) (⟨hA.1.2.2.1, hA.1.2.2.2.1⟩) (hAc.2.2.1) (hAc.2.2.2.1) (⟨hA.1.2.2.2.2, hAc.2.2.2.2⟩)) rfl (fun h118 r119 q120 => ?_)
      obtain ⟨rfl, g121, fx122⟩ := q120
      obtain ⟨hm123, fa124, fb125⟩ := fj_mid fx122
      have fr126 : px_fj 269 1 284 19 h0 hm123 := fj_tr fr46 fa124 (by omega)
      have fr127 : px_fj 269 1 284 19 h0 h118 := fj_tr fr126 fb125 (by omega)
      show px_to 202 37 [some (.ref (269)), some (.int (nI c)), some (.int (nI n)), some (.int (nI (jMut j))), some (.int (nI k)), none, none] [.int (bI (killB j (xs.getD c c30) k))] h118 _
      refine e_istore (L' := [some (.ref (269)), some (.int (nI c)), some (.int (nI n)), some (.int (nI (jMut j))), some (.int (nI k)), some (.int (bI (killB j (xs.getD c c30) k))), none]) f_202_37 (Nat.le_of_ble_eq_true rfl) rfl rfl ?_
      refine e_iconst (v := nI 0) f_202_39 (by decide) rfl ?_
      refine e_istore (L' := [some (.ref (269)), some (.int (nI c)), some (.int (nI n)), some (.int (nI (jMut j))), some (.int (nI k)), some (.int (bI (killB j (xs.getD c c30) k))), some (.int (nI 0))]) f_202_40 (Nat.le_of_ble_eq_true rfl) rfl rfl ?_
      obtain ⟨hm129, fa130, fb131⟩ := fj_mid fr127
      have g128 : px_pa h118 271 52 6 stS j := pa_fi (pa_fi K0 fa130 (by omega)) fb131 (by omega)
      obtain ⟨hm133, fa134, fb135⟩ := fj_mid fr127
      have g132 : px_pa h118 272 52 6 stA j := pa_fi (pa_fi K1 fa134 (by omega)) fb135 (by omega)
      obtain ⟨hm137, fa138, fb139⟩ := fj_mid fr127
      have g136 : px_pa h118 273 50 6 stN j := pa_fi (pa_fi K2 fa138 (by omega)) fb139 (by omega)
      obtain ⟨hm141, fa142, fb143⟩ := fj_mid fr127
      have g140 : px_pa h118 274 50 8 vN em := pa_fi (pa_fi K3 fa142 (by omega)) fb143 (by omega)
      obtain ⟨hm145, fa146, fb147⟩ := fj_mid fr127
      have g144 : px_pa h118 275 52 192 evS es := pa_fi (pa_fi K4 fa146 (by omega)) fb147 (by omega)
      obtain ⟨hm149, fa150, fb151⟩ := fj_mid fr127
      have g148 : px_pa h118 276 54 192 evK es := pa_fi (pa_fi K5 fa150 (by omega)) fb151 (by omega)
      obtain ⟨hm153, fa154, fb155⟩ := fj_mid fr127
      have g152 : px_pa h118 277 53 192 evV es := pa_fi (pa_fi K6 fa154 (by omega)) fb155 (by omega)
      obtain ⟨hm157, fa158, fb159⟩ := fj_mid fr127
      have g156 : px_pa h118 278 53 192 evT es := pa_fi (pa_fi K7 fa158 (by omega)) fb159 (by omega)
      obtain ⟨hm161, fa162, fb163⟩ := fj_mid fr127
      have g160 : px_pa h118 279 50 8 vN om := pa_fi (pa_fi K8 fa162 (by omega)) fb163 (by omega)
      obtain ⟨hm165, fa166, fb167⟩ := fj_mid fr127
      have g164 : px_pa h118 280 54 128 rK ro := pa_fi (pa_fi K9 fa166 (by omega)) fb167 (by omega)
      obtain ⟨hm169, fa170, fb171⟩ := fj_mid fr127
      have g168 : px_pa h118 281 53 128 rV ro := pa_fi (pa_fi K10 fa170 (by omega)) fb171 (by omega)
      obtain ⟨hm173, fa174, fb175⟩ := fj_mid fr127
      have g172 : px_pa h118 282 53 128 rT ro := pa_fi (pa_fi K11 fa174 (by omega)) fb175 (by omega)
      obtain ⟨hm177, fa178, fb179⟩ := fj_mid fr127
      have g176 : px_pa h118 283 52 8 vN wn := pa_fi (pa_fi K12 fa178 (by omega)) fb179 (by omega)
      refine ll_MD_alo2 (h0 := h118) (c := c) (k := k) (Y := (killB j (xs.getD c c30) k && othA j k c xs 0)) (gv := gv1) g128 g132 g136 g140 g144 g148 g152 g156 g160 g164 g168 g172 g176 hj ht hk h8 hxs hA hc (fun hG2 z0 zf => ?_) xs.length (killB j (xs.getD c c30) k) 0 h118 (by omega) (Nat.zero_le _) rfl g121 (fj_rf _ _ _ _ _)
      obtain ⟨hm2, fa2, fb2⟩ := fj_mid zf
      have fr180 : px_fj 269 1 284 19 h0 hm2 := fj_tr fr127 fa2 (by omega)
      have fr181 : px_fj 269 1 284 19 h0 hG2 := fj_tr fr180 fb2 (by omega)
      have hai := alo_iff (j := j) (k := k) (c := c) xs 0 (Nat.zero_le _) (by omega)
      rw [Nat.sub_zero] at hai
      refine e_iload_n f_202_84 rfl rfl ?_
      refine e_iload f_202_85 rfl rfl ?_
      refine e_if_eq f_202_87 rfl (fun c_87 => ?_) (fun c_87 => ?_)
      · skip
        have c_87 : (killB j (xs.getD c c30) k && othA j k c xs 0) = false := bI_f c_87
        refine e_iconst (v := nI 0) f_202_94 (by decide) rfl ?_
        refine e_iadd (z := nI n) f_202_95 ((nI_add _ _).trans (congrArg nI (by omega))) rfl ?_
        refine e_istore_n (L' := [some (.ref (269)), some (.int (nI c)), some (.int (nI n)), some (.int (nI (jMut j))), some (.int (nI k)), some (.int (bI (killB j (xs.getD c c30) k && othA j k c xs 0))), none]) f_202_96 (Nat.le_of_ble_eq_true rfl) rfl rfl ?_
        refine e_iinc (y := nI (k + 1)) (L' := [some (.ref (269)), some (.int (nI c)), some (.int (nI n)), some (.int (nI (jMut j))), some (.int (nI (k + 1))), some (.int (bI (killB j (xs.getD c c30) k && othA j k c xs 0))), none]) f_202_97 rfl (by rw [show Int32.ofInt 1 = nI 1 by decide]; exact (nI_add _ _)) rfl rfl ?_
        refine e_goto f_202_100 ?_
        have g182 : pKO hG2 (L, nI j.length, nI xs.length) gp cb := ⟨_, z0⟩
        rw [show jMut j - k = (jMut j - (k + 1)) + 1 by omega, aloN, if_neg (fun z => by rw [hai.mpr z] at c_87; exact nomatch c_87)] at q2
        refine px_to_L (L := [some (.ref (269)), some (.int (nI c)), some (.int (nI n)), some (.int (nI (jMut j))), some (.int (nI (k + 1))), none, none]) ⟨Or.inr rfl, Or.inr rfl, Or.inr rfl, Or.inr rfl, Or.inr rfl, Or.inl rfl, Or.inr rfl, trivial⟩ ?_
        first | (exfalso; omega) | exact ih (d - 1) (by omega) n (k + 1) hG2 (by omega) (by omega) (by omega) (by omega) g182 fr181
      · skip
        have c_87 : (killB j (xs.getD c c30) k && othA j k c xs 0) = true := bI_t' c_87
        refine e_iconst (v := nI 1) f_202_90 (by decide) rfl ?_
        refine e_goto f_202_91 ?_
        refine e_iadd (z := nI (n + 1)) f_202_95 (nI_add _ _) rfl ?_
        refine e_istore_n (L' := [some (.ref (269)), some (.int (nI c)), some (.int (nI (n + 1))), some (.int (nI (jMut j))), some (.int (nI k)), some (.int (bI (killB j (xs.getD c c30) k && othA j k c xs 0))), none]) f_202_96 (Nat.le_of_ble_eq_true rfl) rfl rfl ?_
        refine e_iinc (y := nI (k + 1)) (L' := [some (.ref (269)), some (.int (nI c)), some (.int (nI (n + 1))), some (.int (nI (jMut j))), some (.int (nI (k + 1))), some (.int (bI (killB j (xs.getD c c30) k && othA j k c xs 0))), none]) f_202_97 rfl (by rw [show Int32.ofInt 1 = nI 1 by decide]; exact (nI_add _ _)) rfl rfl ?_
        refine e_goto f_202_100 ?_
        have g183 : pKO hG2 (L, nI j.length, nI xs.length) gp cb := ⟨_, z0⟩
        rw [show jMut j - k = (jMut j - (k + 1)) + 1 by omega, aloN, if_pos (hai.mp c_87)] at q2
        refine px_to_L (L := [some (.ref (269)), some (.int (nI c)), some (.int (nI (n + 1))), some (.int (nI (jMut j))), some (.int (nI (k + 1))), none, none]) ⟨Or.inr rfl, Or.inr rfl, Or.inr rfl, Or.inr rfl, Or.inr rfl, Or.inl rfl, Or.inr rfl, trivial⟩ ?_
        first | (exfalso; omega) | exact ih (d - 1) (by omega) (n + 1) (k + 1) hG2 (by omega) (by omega) (by omega) (by omega) g183 fr181

set_option maxRecDepth 20000 in
set_option maxHeartbeats 4000000 in
theorem cc_MD_alo {h : px_H} {tx : List Nat} {j : List St} {xs : List CS3} {c : Int32} (H0 : pMD h tx j xs) (p0 : tN j ≤ 2) : px_wp 202 [.ref (269), .int (c)] h (fun h1 r => r = some (.int (aAlone j xs c)) ∧ pMD h1 tx j xs ∧ px_fi 269 35 h h1) := by
  have fr0 : px_fi 269 35 h h := fi_rf _ _ _
  show px_to 202 0 [some (.ref (269)), some (.int (c)), none, none, none, none, none] [] h _
  obtain ⟨gp, gq, gh, gw, gu, gv, jn, sl, sl2, lh, lg, lo, lt, cv, pl, ke, g1, g2, g3, g4, g5, g6, g7, g8, g9, g10, g11, g12, g13, g14, g15, g16, g17, g18, g19, g20, g21, g22, g23, g24, g25, g26, ok⟩ := id H0
  have h8 : xs.length ≤ 8 := ok.2.2.1.1
  have hj6 : j.length ≤ 6 := ok.2.1.1.1
  have htl : tx.length ≤ 500 := pa_len g2
  refine e_aload_n f_202_0 rfl rfl ?_
  refine e_iload_n f_202_1 rfl rfl ?_
  refine e_callV (As := [.int (c)]) (rest := []) f_202_2 rfl rfl rfl (Nat.le_of_ble_eq_true rfl) (Nat.le_of_ble_eq_true rfl) g1 rfl (Nat.le_of_ble_eq_true rfl) (cc_Md_isCase (c := c) (L := nI tx.length) (sn := nI j.length) (xs := xs) (gp := gp) (gq := gq) (gh := gh) (gw := gw) (gu := gu) (gv := gv) g1 (by omega)) rfl (fun h27 r28 q29 => ?_)
  obtain ⟨rfl, qe⟩ := q29
  have qe := qe.symm
  subst qe
  show px_to 202 5 [some (.ref (269)), some (.int (c)), none, none, none, none, none] [.int (bI (hasC c xs.length))] h _
  refine e_if_ne f_202_5 rfl (fun c_5 => ?_) (fun c_5 => ?_)
  · skip
    have c_5 : (hasC c xs.length) = true := bI_t c_5
    obtain ⟨k, hk, hkc⟩ := hasC_t (by omega) c_5
    subst hkc
    have hcx : okC3 (xs.getD k c30) := ok.2.2.1.2 _ (getD_mem _ hk)
    have hjm := jMut_le j
    refine e_iconst (v := nI 0) f_202_10 (by decide) rfl ?_
    refine e_istore_n (L' := [some (.ref (269)), some (.int (nI k)), some (.int (nI 0)), none, none, none, none]) f_202_11 (Nat.le_of_ble_eq_true rfl) rfl rfl ?_
    refine e_aload_n f_202_12 rfl rfl ?_
    refine e_callV (As := []) (rest := []) f_202_13 rfl rfl rfl (Nat.le_of_ble_eq_true rfl) (Nat.le_of_ble_eq_true rfl) g1 rfl (Nat.le_of_ble_eq_true rfl) (cc_Md_muts (L := nI tx.length) (cn := nI xs.length) (j := j) (gp := gp) (gq := gq) (gh := gh) (gw := gw) (gu := gu) (gv := gv) g1 g3 (fun s hs => by have := (ok.2.1.2 s hs).1.1; omega)) rfl (fun h30 r31 q32 => ?_)
    obtain ⟨rfl, qe⟩ := q32
    have qe := qe.symm
    subst qe
    show px_to 202 16 [some (.ref (269)), some (.int (nI k)), some (.int (nI 0)), none, none, none, none] [.int (nI (jMut j))] h _
    refine e_istore_n (L' := [some (.ref (269)), some (.int (nI k)), some (.int (nI 0)), some (.int (nI (jMut j))), none, none, none]) f_202_16 (Nat.le_of_ble_eq_true rfl) rfl rfl ?_
    refine e_iconst (v := nI 0) f_202_17 (by decide) rfl ?_
    refine e_istore (L' := [some (.ref (269)), some (.int (nI k)), some (.int (nI 0)), some (.int (nI (jMut j))), some (.int (nI 0)), none, none]) f_202_18 (Nat.le_of_ble_eq_true rfl) rfl rfl ?_
    obtain ⟨em33, es34, om35, ro36, wn37, g38, g39, g40, g41, g42, g43, g44, g45, g46, g47, hA48⟩ := id g6
    have g49 : pKL h (nI tx.length, nI j.length, nI xs.length) gp gq.2.2.2.2.2.2 gv := ⟨gq, gh, gw, gu, _, _, _, _, _, _, _, _, _, g1, g7, g8, g9, g10, g11, g12, g13, g14, g15, g16, g17, g18, g19, g20, g21, g22, g23, g24, g25, ok.2.2.2.1⟩
    refine ll_MD_alo1 (h0 := h) (c := k) (T := aloN j xs k (jMut j) 0) g3 g4 g5 g38 g39 g40 g41 g42 g43 g44 g45 g46 g47 ok.2.1 p0 h8 ok.2.2.1.2 hA48 hk (fun hG2 z0 zf => ?_) (jMut j) 0 0 h (by omega) (Nat.zero_le _) (by rw [Nat.sub_zero, Nat.zero_add]) (Nat.le_refl _) ⟨_, g49⟩ (fj_rf _ _ _ _ _)
    obtain ⟨hm2, fa2, fb2⟩ := fj_mid zf
    have fr50 : px_fi 269 35 h hm2 := fi_tr fr0 fa2 (by omega)
    have fr51 : px_fi 269 35 h hG2 := fi_tr fr50 fb2 (by omega)
    obtain ⟨gv52, g53⟩ := id z0
    obtain ⟨gq54, gh55, gw56, gu57, jn58, sl59, sl260, lh61, lg62, cv63, pl64, lo65, lt66, g67, g68, g69, g70, g71, g72, g73, g74, g75, g76, g77, g78, g79, g80, g81, g82, g83, g84, g85, g86, hL87⟩ := id g53
    have hL := hL87
    have g88 : px_pa hm2 274 50 8 vN em33 := pa_fi g38 fa2 (by omega)
    have g89 : px_pa hG2 274 50 8 vN em33 := pa_fi g88 fb2 (by omega)
    have g90 : px_pa hm2 275 52 192 evS es34 := pa_fi g39 fa2 (by omega)
    have g91 : px_pa hG2 275 52 192 evS es34 := pa_fi g90 fb2 (by omega)
    have g92 : px_pa hm2 276 54 192 evK es34 := pa_fi g40 fa2 (by omega)
    have g93 : px_pa hG2 276 54 192 evK es34 := pa_fi g92 fb2 (by omega)
    have g94 : px_pa hm2 277 53 192 evV es34 := pa_fi g41 fa2 (by omega)
    have g95 : px_pa hG2 277 53 192 evV es34 := pa_fi g94 fb2 (by omega)
    have g96 : px_pa hm2 278 53 192 evT es34 := pa_fi g42 fa2 (by omega)
    have g97 : px_pa hG2 278 53 192 evT es34 := pa_fi g96 fb2 (by omega)
    have g98 : px_pa hm2 279 50 8 vN om35 := pa_fi g43 fa2 (by omega)
    have g99 : px_pa hG2 279 50 8 vN om35 := pa_fi g98 fb2 (by omega)
    have g100 : px_pa hm2 280 54 128 rK ro36 := pa_fi g44 fa2 (by omega)
    have g101 : px_pa hG2 280 54 128 rK ro36 := pa_fi g100 fb2 (by omega)
    have g102 : px_pa hm2 281 53 128 rV ro36 := pa_fi g45 fa2 (by omega)
    have g103 : px_pa hG2 281 53 128 rV ro36 := pa_fi g102 fb2 (by omega)
    have g104 : px_pa hm2 282 53 128 rT ro36 := pa_fi g46 fa2 (by omega)
    have g105 : px_pa hG2 282 53 128 rT ro36 := pa_fi g104 fb2 (by omega)
    have g106 : px_pa hm2 283 52 8 vN wn37 := pa_fi g47 fa2 (by omega)
    have g107 : px_pa hG2 283 52 8 vN wn37 := pa_fi g106 fb2 (by omega)
    have g108 : pMA hG2 xs := ⟨_, _, _, _, _, g89, g91, g93, g95, g97, g99, g101, g103, g105, g107, hA48⟩
    have g109 : px_pa hm2 270 52 500 vN tx := pa_fi g2 fa2 (by omega)
    have g110 : px_pa hG2 270 52 500 vN tx := pa_fi g109 fb2 (by omega)
    have g111 : px_pa hm2 271 52 6 stS j := pa_fi g3 fa2 (by omega)
    have g112 : px_pa hG2 271 52 6 stS j := pa_fi g111 fb2 (by omega)
    have g113 : px_pa hm2 272 52 6 stA j := pa_fi g4 fa2 (by omega)
    have g114 : px_pa hG2 272 52 6 stA j := pa_fi g113 fb2 (by omega)
    have g115 : px_pa hm2 273 50 6 stN j := pa_fi g5 fa2 (by omega)
    have g116 : px_pa hG2 273 50 6 stN j := pa_fi g115 fb2 (by omega)
    have g117 : px_pa hm2 303 50 24 vN ke := pa_fi g26 fa2 (by omega)
    have g118 : px_pa hG2 303 50 24 vN ke := pa_fi g117 fb2 (by omega)
    have g119 : pMD hG2 tx j xs := ⟨gp, (gq54.1, gq54.2.1, gq54.2.2.1, gq54.2.2.2.1, gq54.2.2.2.2.1, gq54.2.2.2.2.2.1, gq.2.2.2.2.2.2), gh55, gw56, gu57, gv52, jn58, sl59, sl260, lh61, lg62, lo65, lt66, cv63, pl64, ke, g67, g110, g112, g114, g116, g108, g68, g69, g70, g71, g72, g73, g74, g75, g76, g77, g78, g79, g80, g81, g82, g83, g84, g85, g86, g118, ⟨ok.1, ok.2.1, ok.2.2.1, hL, ok.2.2.2.2⟩⟩
    exact ⟨congrArg (fun z => some (Value.int z)) (show nI (aloN j xs k (jMut j) 0) = _ from by unfold aAlone; rw [if_pos (hasC_nI (by omega) hk), nN_nI (by omega)]), g119, fr51⟩
  · skip
    have c_5 : (hasC c xs.length) = false := bI_f' c_5
    refine e_iconst (v := (-1)) f_202_8 (by decide) rfl ?_
    refine e_iret f_202_9 rfl (rfl) ?_
    have g120 : pMD h tx j xs := ⟨gp, gq, gh, gw, gu, gv, jn, sl, sl2, lh, lg, lo, lt, cv, pl, ke, g1, g2, g3, g4, g5, g6, g7, g8, g9, g10, g11, g12, g13, g14, g15, g16, g17, g18, g19, g20, g21, g22, g23, g24, g25, g26, ok⟩
    exact ⟨congrArg (fun z => some (Value.int z)) (show (-1) = _ from by unfold aAlone; rw [if_neg (by rw [c_5]; decide)]), g120, fr0⟩
