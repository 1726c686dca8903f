theorem lks_step {b : Bool} {es : List Ev} {i : Nat} (h : i < es.length) : lks b (es.drop i) = (evOf (es.getD i (0, 0, 0, 0)).1 b || lks b (es.drop (i + 1))) := by
  rw [drop_step (0, 0, 0, 0) h]
  rfl
theorem redoL_z {j : List St} {la lb : Bool} {es : List Ev} {s : RS} (h : s.1.2.2.2.2 ≠ none) : redoL j la lb es s = s := by
  cases es with
  | nil => rfl
  | cons e r => rw [redoL, if_neg h]
theorem perfL_z {j : List St} {la lb : Bool} {es pend : List Ev} {s : RS} (h : s.1.2.2.2.2 ≠ none) : perfL j la lb es pend s = s := by
  cases es with
  | nil => rfl
  | cons e r => rw [perfL, if_neg h]
theorem take_drop_app {es : List Ev} {i r : Nat} (hi : i < es.length) (hr : r ≤ i) : (es.take i).drop r ++ [es.getD i (0, 0, 0, 0)] = (es.take (i + 1)).drop r := by
  rw [take_s (0, 0, 0, 0) hi, List.drop_append_of_le_length (by rw [List.length_take]; omega)]

set_option maxRecDepth 20000 in
set_option maxHeartbeats 4000000 in
theorem ll_Run_begin {h0 : px_H} {od : Nat} {ps : List Nat} {j : List St} {jb : Nat} {tl : List Int32} {LA LB : Bool} {a : Nat} {ev : List Ev} {told : List Row} {os : Nat} {ks : Int32} {kept : List Nat} {ck : Nat} {un : List Nat} (HJ : pJob h0 jb j) (HC : pCase h0 a ev told os ks kept ck un) (HO : pOrd h0 od ps) (p0 : okJ j) (p1 : jb + 4 ≤ 177 ∨ 249 ≤ jb) (p2 : a + 9 ≤ 177 ∨ 249 ≤ a) (p3 : od + 2 ≤ 177 ∨ 249 ≤ od) (p4 : ∀ p ∈ ps, p < ev.length) (p5 : ∀ e ∈ ev, okEv e) : ∀ (d : Nat) (i : Nat) (la : Bool) (lb : Bool) (g : px_H), (ps.length ≤ i + d) → (i ≤ ps.length) → ((la || lks false ((evs ev ps).drop i)) = LA) → ((lb || lks true ((evs ev ps).drop i)) = LB) → g.2.2 177 = some (6, [.ref (jb), .ref (182), .ref (214), .ref (246), .int (nI ((s0 j tl).2.2.1)), .int (bI la), .int (bI lb), .int (oI ((s0 j tl).1.2.2.2.2)), .int ((s0 j tl).2.2.2.2), .int ((-3)), .ref (248)]) → g.2.2 182 = some (2, [.int ((s0 j tl).2.1.1), .int ((s0 j tl).2.1.2.1), .int ((s0 j tl).2.1.2.2), .int ((s0 j tl).1.1), .ref (183)]) → px_rs g 183 55 6 (fun k => 182 + 5 * k + 2) → pSt g 182 ((s0 j tl).1.2.1) → pRows g 246 96 ((s0 j tl).1.2.2.1) → px_pa g 248 50 30 Value.int ((s0 j tl).1.2.2.2.1) → pMm g 214 ((s0 j tl).2.2.2.1.1) ((s0 j tl).2.2.2.1.2.1) ((s0 j tl).2.2.2.1.2.2.1) ((s0 j tl).2.2.2.1.2.2.2.1) ((s0 j tl).2.2.2.1.2.2.2.2) → px_fi 177 72 h0 g → px_to 49 76 [some (.ref (177)), some (.ref (jb)), some (.ref (a)), some (.ref (od)), some (.int (nI i))] [] g (fun h1 r => r = none ∧ h1.2.2 177 = some (6, [.ref (jb), .ref (182), .ref (214), .ref (246), .int (nI ((s0 j tl).2.2.1)), .int (bI LA), .int (bI LB), .int (oI ((s0 j tl).1.2.2.2.2)), .int ((s0 j tl).2.2.2.2), .int ((-3)), .ref (248)]) ∧ h1.2.2 182 = some (2, [.int ((s0 j tl).2.1.1), .int ((s0 j tl).2.1.2.1), .int ((s0 j tl).2.1.2.2), .int ((s0 j tl).1.1), .ref (183)]) ∧ px_rs h1 183 55 6 (fun k => 182 + 5 * k + 2) ∧ pSt h1 182 ((s0 j tl).1.2.1) ∧ pRows h1 246 96 ((s0 j tl).1.2.2.1) ∧ px_pa h1 248 50 30 Value.int ((s0 j tl).1.2.2.2.1) ∧ pMm h1 214 ((s0 j tl).2.2.2.1.1) ((s0 j tl).2.2.2.1.2.1) ((s0 j tl).2.2.2.1.2.2.1) ((s0 j tl).2.2.2.1.2.2.2.1) ((s0 j tl).2.2.2.1.2.2.2.2) ∧ px_fi 177 72 h0 h1) := by
  intro d
  induction d using Nat.strongRecOn with
  | ind d ih =>
    intro i la lb g q0 q1 q2 q3 G0 G1 G2 G3 G4 G5 G6 frg
    have lj := p0.1
    have lps := pa_len HO.2
    refine e_iload f_49_76 rfl rfl ?_
    refine e_aload_n f_49_78 rfl rfl ?_
    have g1 : pOrd g od ps := pOrd_fi HO frg (by omega)
    refine e_getf f_49_79 g1.1 rfl rfl ?_
    refine e_icmp_ge f_49_82 rfl (fun c_82 => ?_) (fun c_82 => ?_)
    · skip
      have c_82 : ps.length ≤ i := cv_le (by omega) (by omega) c_82
      refine e_vret f_49_153 rfl ?_
      rw [List.drop_eq_nil_of_le (by rw [evs_len]; omega)] at q2 q3
      rw [show lks false [] = false from rfl, Bool.or_false] at q2
      rw [show lks true [] = false from rfl, Bool.or_false] at q3
      subst q2
      subst q3
      exact ⟨rfl, G0, G1, G2, G3, G4, G5, G6, frg⟩
    · skip
      have c_82 : i < ps.length := cv_nle (by omega) (by omega) c_82
      have hpl : ps.getD i 0 < ev.length := p4 _ (getD_mem 0 (by omega))
      have hel : (ev.getD (ps.getD i 0) (0, 0, 0, 0)).1 < 65536 := by have := (p5 _ (getD_mem (0, 0, 0, 0) hpl)).1; omega
      refine e_aload_n f_49_85 rfl rfl ?_
      refine e_aload_n f_49_86 rfl rfl ?_
      refine e_getf f_49_87 G0 rfl rfl ?_
      refine e_if_ne f_49_90 rfl (fun c_90 => ?_) (fun c_90 => ?_)
      · skip
        have c_90 : la = true := bI_t c_90
        refine e_iconst (v := nI 1) f_49_108 (by decide) rfl ?_
        refine e_goto f_49_109 ?_
        show px_to 49 113 [some (.ref (177)), some (.ref (jb)), some (.ref (a)), some (.ref (od)), some (.int (nI i))] [.int (bI true), .ref (177)] g _
        refine e_putp (vs' := [.ref (jb), .ref (182), .ref (214), .ref (246), .int (nI ((s0 j tl).2.2.1)), .int (bI true), .int (bI lb), .int (oI ((s0 j tl).1.2.2.2.2)), .int ((s0 j tl).2.2.2.2), .int ((-3)), .ref (248)]) f_49_113 G0 (Nat.le_of_ble_eq_true rfl) (nw_bI _) (rfl) rfl rfl (fun h2 g3 fx4 => ?_)
        have fr5 : px_fi 177 72 h0 h2 := fi_tr frg fx4 (by omega)
        refine e_aload_n f_49_116 rfl rfl ?_
        refine e_aload_n f_49_117 rfl rfl ?_
        refine e_getf f_49_118 g3 rfl rfl ?_
        refine e_if_ne f_49_121 rfl (fun c_121 => ?_) (fun c_121 => ?_)
        · skip
          have c_121 : lb = true := bI_t c_121
          refine e_iconst (v := nI 1) f_49_139 (by decide) rfl ?_
          refine e_goto f_49_140 ?_
          show px_to 49 144 [some (.ref (177)), some (.ref (jb)), some (.ref (a)), some (.ref (od)), some (.int (nI i))] [.int (bI true), .ref (177)] h2 _
          refine e_putp (vs' := [.ref (jb), .ref (182), .ref (214), .ref (246), .int (nI ((s0 j tl).2.2.1)), .int (bI true), .int (bI true), .int (oI ((s0 j tl).1.2.2.2.2)), .int ((s0 j tl).2.2.2.2), .int ((-3)), .ref (248)]) f_49_144 g3 (Nat.le_of_ble_eq_true rfl) (nw_bI _) (rfl) rfl rfl (fun h6 g7 fx8 => ?_)
          have fr9 : px_fi 177 72 h0 h6 := fi_tr fr5 fx8 (by omega)
          refine e_iinc (y := nI (i + 1)) (L' := [some (.ref (177)), some (.ref (jb)), some (.ref (a)), some (.ref (od)), some (.int (nI (i + 1)))]) f_49_147 rfl (by rw [show Int32.ofInt 1 = nI 1 by decide]; exact (nI_add _ _)) rfl rfl ?_
          refine e_goto f_49_150 ?_
          have g10 : h2.2.2 182 = some (2, [.int ((s0 j tl).2.1.1), .int ((s0 j tl).2.1.2.1), .int ((s0 j tl).2.1.2.2), .int ((s0 j tl).1.1), .ref (183)]) := fi_at G1 fx4 (by omega)
          have g11 : h6.2.2 182 = some (2, [.int ((s0 j tl).2.1.1), .int ((s0 j tl).2.1.2.1), .int ((s0 j tl).2.1.2.2), .int ((s0 j tl).1.1), .ref (183)]) := fi_at g10 fx8 (by omega)
          have g12 : px_rs h2 183 55 6 (fun k => 182 + 5 * k + 2) := rs_fi G2 fx4 (by omega)
          have g13 : px_rs h6 183 55 6 (fun k => 182 + 5 * k + 2) := rs_fi g12 fx8 (by omega)
          have g14 : pSt h2 182 ((s0 j tl).1.2.1) := pSt_fi G3 fx4 (by omega)
          have g15 : pSt h6 182 ((s0 j tl).1.2.1) := pSt_fi g14 fx8 (by omega)
          have g16 : pRows h2 246 96 ((s0 j tl).1.2.2.1) := pRows_fi G4 fx4 (by omega)
          have g17 : pRows h6 246 96 ((s0 j tl).1.2.2.1) := pRows_fi g16 fx8 (by omega)
          have g18 : px_pa h2 248 50 30 Value.int ((s0 j tl).1.2.2.2.1) := pa_fi G5 fx4 (by omega)
          have g19 : px_pa h6 248 50 30 Value.int ((s0 j tl).1.2.2.2.1) := pa_fi g18 fx8 (by omega)
          have g20 : pMm h2 214 ((s0 j tl).2.2.2.1.1) ((s0 j tl).2.2.2.1.2.1) ((s0 j tl).2.2.2.1.2.2.1) ((s0 j tl).2.2.2.1.2.2.2.1) ((s0 j tl).2.2.2.1.2.2.2.2) := pMm_fi G6 fx4 (by omega)
          have g21 : pMm h6 214 ((s0 j tl).2.2.2.1.1) ((s0 j tl).2.2.2.1.2.1) ((s0 j tl).2.2.2.1.2.2.1) ((s0 j tl).2.2.2.1.2.2.2.1) ((s0 j tl).2.2.2.1.2.2.2.2) := pMm_fi g20 fx8 (by omega)
          first | (exfalso; omega) | exact ih (d - 1) (by omega) (i + 1) true true h6 (by omega) (by omega) (by rw [lks_step (show i < (evs ev ps).length by rw [evs_len]; omega), evs_get (show i < ps.length by omega)] at q2; simp only [c_90, Bool.true_or, Bool.or_true, Bool.false_or] at q2 ⊢; exact q2) (by rw [lks_step (show i < (evs ev ps).length by rw [evs_len]; omega), evs_get (show i < ps.length by omega)] at q3; simp only [c_121, Bool.true_or, Bool.or_true, Bool.false_or] at q3 ⊢; exact q3) g7 g11 g13 g15 g17 g19 g21 fr9
        · skip
          have c_121 : lb = false := bI_f' c_121
          refine e_aload_n f_49_124 rfl rfl ?_
          refine e_aload_n f_49_125 rfl rfl ?_
          have g22 : pOrd h2 od ps := pOrd_fi HO fr5 (by omega)
          refine e_getf f_49_126 g22.1 rfl rfl ?_
          refine e_iload f_49_129 rfl rfl ?_
          refine e_iaload_p (xs := ps) f_49_131 g22.2 (d := 0) (by first | omega | (simp only [List.length_set]; omega)) rfl ?_
          show px_to 49 132 [some (.ref (177)), some (.ref (jb)), some (.ref (a)), some (.ref (od)), some (.int (nI i))] [.int (nI (ps.getD i 0)), .ref (a), .ref (177)] h2 _
          refine e_iconst (v := nI 1) f_49_132 (by decide) rfl ?_
          have g23 : pCase h2 a ev told os ks kept ck un := pCase_fi HC fr5 (by omega)
          refine e_callV (As := [.int (nI (ps.getD i 0)), .int (nI 1)]) (rest := [.ref (177)]) f_49_133 rfl rfl rfl (Nat.le_of_ble_eq_true rfl) (Nat.le_of_ble_eq_true rfl) g23.1 rfl (Nat.le_of_ble_eq_true rfl) (cc_Case_isOf (i := ps.getD i 0) (b := true) (a := a) (ev := ev) (told := told) (os := os) (ks := ks) (kept := kept) (ck := ck) (un := un) g23 (hpl) (hel)) rfl (fun h24 r25 q26 => ?_)
          obtain ⟨rfl, qe⟩ := q26
          have qe := qe.symm
          subst qe
          show px_to 49 136 [some (.ref (177)), some (.ref (jb)), some (.ref (a)), some (.ref (od)), some (.int (nI i))] [.int (bI (evOf (ev.getD (ps.getD i 0) (0, 0, 0, 0)).1 true)), .ref (177)] h2 _
          refine e_if_eq f_49_136 rfl (fun c_136 => ?_) (fun c_136 => ?_)
          · skip
            have c_136 : (evOf (ev.getD (ps.getD i 0) (0, 0, 0, 0)).1 true) = false := bI_f c_136
            refine e_iconst (v := nI 0) f_49_143 (by decide) rfl ?_
            show px_to 49 144 [some (.ref (177)), some (.ref (jb)), some (.ref (a)), some (.ref (od)), some (.int (nI i))] [.int (bI false), .ref (177)] h2 _
            refine e_putp (vs' := [.ref (jb), .ref (182), .ref (214), .ref (246), .int (nI ((s0 j tl).2.2.1)), .int (bI true), .int (bI false), .int (oI ((s0 j tl).1.2.2.2.2)), .int ((s0 j tl).2.2.2.2), .int ((-3)), .ref (248)]) f_49_144 g3 (Nat.le_of_ble_eq_true rfl) (nw_bI _) (rfl) rfl rfl (fun h27 g28 fx29 => ?_)
            have fr30 : px_fi 177 72 h0 h27 := fi_tr fr5 fx29 (by omega)
            refine e_iinc (y := nI (i + 1)) (L' := [some (.ref (177)), some (.ref (jb)), some (.ref (a)), some (.ref (od)), some (.int (nI (i + 1)))]) f_49_147 rfl (by rw [show Int32.ofInt 1 = nI 1 by decide]; exact (nI_add _ _)) rfl rfl ?_
            refine e_goto f_49_150 ?_
            have g31 : h2.2.2 182 = some (2, [.int ((s0 j tl).2.1.1), .int ((s0 j tl).2.1.2.1), .int ((s0 j tl).2.1.2.2), .int ((s0 j tl).1.1), .ref (183)]) := fi_at G1 fx4 (by omega)
            have g32 : h27.2.2 182 = some (2, [.int ((s0 j tl).2.1.1), .int ((s0 j tl).2.1.2.1), .int ((s0 j tl).2.1.2.2), .int ((s0 j tl).1.1), .ref (183)]) := fi_at g31 fx29 (by omega)
            have g33 : px_rs h2 183 55 6 (fun k => 182 + 5 * k + 2) := rs_fi G2 fx4 (by omega)
            have g34 : px_rs h27 183 55 6 (fun k => 182 + 5 * k + 2) := rs_fi g33 fx29 (by omega)
            have g35 : pSt h2 182 ((s0 j tl).1.2.1) := pSt_fi G3 fx4 (by omega)
            have g36 : pSt h27 182 ((s0 j tl).1.2.1) := pSt_fi g35 fx29 (by omega)
            have g37 : pRows h2 246 96 ((s0 j tl).1.2.2.1) := pRows_fi G4 fx4 (by omega)
            have g38 : pRows h27 246 96 ((s0 j tl).1.2.2.1) := pRows_fi g37 fx29 (by omega)
            have g39 : px_pa h2 248 50 30 Value.int ((s0 j tl).1.2.2.2.1) := pa_fi G5 fx4 (by omega)
            have g40 : px_pa h27 248 50 30 Value.int ((s0 j tl).1.2.2.2.1) := pa_fi g39 fx29 (by omega)
            have g41 : pMm h2 214 ((s0 j tl).2.2.2.1.1) ((s0 j tl).2.2.2.1.2.1) ((s0 j tl).2.2.2.1.2.2.1) ((s0 j tl).2.2.2.1.2.2.2.1) ((s0 j tl).2.2.2.1.2.2.2.2) := pMm_fi G6 fx4 (by omega)
            have g42 : pMm h27 214 ((s0 j tl).2.2.2.1.1) ((s0 j tl).2.2.2.1.2.1) ((s0 j tl).2.2.2.1.2.2.1) ((s0 j tl).2.2.2.1.2.2.2.1) ((s0 j tl).2.2.2.1.2.2.2.2) := pMm_fi g41 fx29 (by omega)
            first | (exfalso; omega) | exact ih (d - 1) (by omega) (i + 1) true false h27 (by omega) (by omega) (by rw [lks_step (show i < (evs ev ps).length by rw [evs_len]; omega), evs_get (show i < ps.length by omega)] at q2; simp only [c_90, Bool.true_or, Bool.or_true, Bool.false_or] at q2 ⊢; exact q2) (by rw [lks_step (show i < (evs ev ps).length by rw [evs_len]; omega), evs_get (show i < ps.length by omega)] at q3; simp only [c_121, c_136, Bool.true_or, Bool.or_true, Bool.false_or] at q3 ⊢; exact q3) g28 g32 g34 g36 g38 g40 g42 fr30
          · skip
            have c_136 : (evOf (ev.getD (ps.getD i 0) (0, 0, 0, 0)).1 true) = true := bI_t' c_136
            refine e_iconst (v := nI 1) f_49_139 (by decide) rfl ?_
            refine e_goto f_49_140 ?_
            show px_to 49 144 [some (.ref (177)), some (.ref (jb)), some (.ref (a)), some (.ref (od)), some (.int (nI i))] [.int (bI true), .ref (177)] h2 _
            refine e_putp (vs' := [.ref (jb), .ref (182), .ref (214), .ref (246), .int (nI ((s0 j tl).2.2.1)), .int (bI true), .int (bI true), .int (oI ((s0 j tl).1.2.2.2.2)), .int ((s0 j tl).2.2.2.2), .int ((-3)), .ref (248)]) f_49_144 g3 (Nat.le_of_ble_eq_true rfl) (nw_bI _) (rfl) rfl rfl (fun h43 g44 fx45 => ?_)
            have fr46 : px_fi 177 72 h0 h43 := fi_tr fr5 fx45 (by omega)
            refine e_iinc (y := nI (i + 1)) (L' := [some (.ref (177)), some (.ref (jb)), some (.ref (a)), some (.ref (od)), some (.int (nI (i + 1)))]) f_49_147 rfl (by rw [show Int32.ofInt 1 = nI 1 by decide]; exact (nI_add _ _)) rfl rfl ?_
            refine e_goto f_49_150 ?_
            have g47 : h2.2.2 182 = some (2, [.int ((s0 j tl).2.1.1), .int ((s0 j tl).2.1.2.1), .int ((s0 j tl).2.1.2.2), .int ((s0 j tl).1.1), .ref (183)]) := fi_at G1 fx4 (by omega)
            have g48 : h43.2.2 182 = some (2, [.int ((s0 j tl).2.1.1), .int ((s0 j tl).2.1.2.1), .int ((s0 j tl).2.1.2.2), .int ((s0 j tl).1.1), .ref (183)]) := fi_at g47 fx45 (by omega)
            have g49 : px_rs h2 183 55 6 (fun k => 182 + 5 * k + 2) := rs_fi G2 fx4 (by omega)
            have g50 : px_rs h43 183 55 6 (fun k => 182 + 5 * k + 2) := rs_fi g49 fx45 (by omega)
            have g51 : pSt h2 182 ((s0 j tl).1.2.1) := pSt_fi G3 fx4 (by omega)
            have g52 : pSt h43 182 ((s0 j tl).1.2.1) := pSt_fi g51 fx45 (by omega)
            have g53 : pRows h2 246 96 ((s0 j tl).1.2.2.1) := pRows_fi G4 fx4 (by omega)
            have g54 : pRows h43 246 96 ((s0 j tl).1.2.2.1) := pRows_fi g53 fx45 (by omega)
            have g55 : px_pa h2 248 50 30 Value.int ((s0 j tl).1.2.2.2.1) := pa_fi G5 fx4 (by omega)
            have g56 : px_pa h43 248 50 30 Value.int ((s0 j tl).1.2.2.2.1) := pa_fi g55 fx45 (by omega)
            have g57 : pMm h2 214 ((s0 j tl).2.2.2.1.1) ((s0 j tl).2.2.2.1.2.1) ((s0 j tl).2.2.2.1.2.2.1) ((s0 j tl).2.2.2.1.2.2.2.1) ((s0 j tl).2.2.2.1.2.2.2.2) := pMm_fi G6 fx4 (by omega)
            have g58 : pMm h43 214 ((s0 j tl).2.2.2.1.1) ((s0 j tl).2.2.2.1.2.1) ((s0 j tl).2.2.2.1.2.2.1) ((s0 j tl).2.2.2.1.2.2.2.1) ((s0 j tl).2.2.2.1.2.2.2.2) := pMm_fi g57 fx45 (by omega)
            first | (exfalso; omega) | exact ih (d - 1) (by omega) (i + 1) true true h43 (by omega) (by omega) (by rw [lks_step (show i < (evs ev ps).length by rw [evs_len]; omega), evs_get (show i < ps.length by omega)] at q2; simp only [c_90, Bool.true_or, Bool.or_true, Bool.false_or] at q2 ⊢; exact q2) (by rw [lks_step (show i < (evs ev ps).length by rw [evs_len]; omega), evs_get (show i < ps.length by omega)] at q3; simp only [c_121, c_136, Bool.true_or, Bool.or_true, Bool.false_or] at q3 ⊢; exact q3) g44 g48 g50 g52 g54 g56 g58 fr46
      · skip
        have c_90 : la = false := bI_f' c_90
        refine e_aload_n f_49_93 rfl rfl ?_
        refine e_aload_n f_49_94 rfl rfl ?_
        refine e_getf f_49_95 g1.1 rfl rfl ?_
        refine e_iload f_49_98 rfl rfl ?_
        refine e_iaload_p (xs := ps) f_49_100 g1.2 (d := 0) (by first | omega | (simp only [List.length_set]; omega)) rfl ?_
        show px_to 49 101 [some (.ref (177)), some (.ref (jb)), some (.ref (a)), some (.ref (od)), some (.int (nI i))] [.int (nI (ps.getD i 0)), .ref (a), .ref (177)] g _
        refine e_iconst (v := nI 0) f_49_101 (by decide) rfl ?_
        have g59 : pCase g a ev told os ks kept ck un := pCase_fi HC frg (by omega)
        refine e_callV (As := [.int (nI (ps.getD i 0)), .int (nI 0)]) (rest := [.ref (177)]) f_49_102 rfl rfl rfl (Nat.le_of_ble_eq_true rfl) (Nat.le_of_ble_eq_true rfl) g59.1 rfl (Nat.le_of_ble_eq_true rfl) (cc_Case_isOf (i := ps.getD i 0) (b := false) (a := a) (ev := ev) (told := told) (os := os) (ks := ks) (kept := kept) (ck := ck) (un := un) g59 (hpl) (hel)) rfl (fun h60 r61 q62 => ?_)
        obtain ⟨rfl, qe⟩ := q62
        have qe := qe.symm
        subst qe
        show px_to 49 105 [some (.ref (177)), some (.ref (jb)), some (.ref (a)), some (.ref (od)), some (.int (nI i))] [.int (bI (evOf (ev.getD (ps.getD i 0) (0, 0, 0, 0)).1 false)), .ref (177)] g _
        refine e_if_eq f_49_105 rfl (fun c_105 => ?_) (fun c_105 => ?_)
        · skip
          have c_105 : (evOf (ev.getD (ps.getD i 0) (0, 0, 0, 0)).1 false) = false := bI_f c_105
          refine e_iconst (v := nI 0) f_49_112 (by decide) rfl ?_
          show px_to 49 113 [some (.ref (177)), some (.ref (jb)), some (.ref (a)), some (.ref (od)), some (.int (nI i))] [.int (bI false), .ref (177)] g _
          refine e_putp (vs' := [.ref (jb), .ref (182), .ref (214), .ref (246), .int (nI ((s0 j tl).2.2.1)), .int (bI false), .int (bI lb), .int (oI ((s0 j tl).1.2.2.2.2)), .int ((s0 j tl).2.2.2.2), .int ((-3)), .ref (248)]) f_49_113 G0 (Nat.le_of_ble_eq_true rfl) (nw_bI _) (rfl) rfl rfl (fun h63 g64 fx65 => ?_)
          have fr66 : px_fi 177 72 h0 h63 := fi_tr frg fx65 (by omega)
          refine e_aload_n f_49_116 rfl rfl ?_
          refine e_aload_n f_49_117 rfl rfl ?_
          refine e_getf f_49_118 g64 rfl rfl ?_
          refine e_if_ne f_49_121 rfl (fun c_121 => ?_) (fun c_121 => ?_)
          · skip
            have c_121 : lb = true := bI_t c_121
            refine e_iconst (v := nI 1) f_49_139 (by decide) rfl ?_
            refine e_goto f_49_140 ?_
            show px_to 49 144 [some (.ref (177)), some (.ref (jb)), some (.ref (a)), some (.ref (od)), some (.int (nI i))] [.int (bI true), .ref (177)] h63 _
            refine e_putp (vs' := [.ref (jb), .ref (182), .ref (214), .ref (246), .int (nI ((s0 j tl).2.2.1)), .int (bI false), .int (bI true), .int (oI ((s0 j tl).1.2.2.2.2)), .int ((s0 j tl).2.2.2.2), .int ((-3)), .ref (248)]) f_49_144 g64 (Nat.le_of_ble_eq_true rfl) (nw_bI _) (rfl) rfl rfl (fun h67 g68 fx69 => ?_)
            have fr70 : px_fi 177 72 h0 h67 := fi_tr fr66 fx69 (by omega)
            refine e_iinc (y := nI (i + 1)) (L' := [some (.ref (177)), some (.ref (jb)), some (.ref (a)), some (.ref (od)), some (.int (nI (i + 1)))]) f_49_147 rfl (by rw [show Int32.ofInt 1 = nI 1 by decide]; exact (nI_add _ _)) rfl rfl ?_
            refine e_goto f_49_150 ?_
            have g71 : h63.2.2 182 = some (2, [.int ((s0 j tl).2.1.1), .int ((s0 j tl).2.1.2.1), .int ((s0 j tl).2.1.2.2), .int ((s0 j tl).1.1), .ref (183)]) := fi_at G1 fx65 (by omega)
            have g72 : h67.2.2 182 = some (2, [.int ((s0 j tl).2.1.1), .int ((s0 j tl).2.1.2.1), .int ((s0 j tl).2.1.2.2), .int ((s0 j tl).1.1), .ref (183)]) := fi_at g71 fx69 (by omega)
            have g73 : px_rs h63 183 55 6 (fun k => 182 + 5 * k + 2) := rs_fi G2 fx65 (by omega)
            have g74 : px_rs h67 183 55 6 (fun k => 182 + 5 * k + 2) := rs_fi g73 fx69 (by omega)
            have g75 : pSt h63 182 ((s0 j tl).1.2.1) := pSt_fi G3 fx65 (by omega)
            have g76 : pSt h67 182 ((s0 j tl).1.2.1) := pSt_fi g75 fx69 (by omega)
            have g77 : pRows h63 246 96 ((s0 j tl).1.2.2.1) := pRows_fi G4 fx65 (by omega)
            have g78 : pRows h67 246 96 ((s0 j tl).1.2.2.1) := pRows_fi g77 fx69 (by omega)
            have g79 : px_pa h63 248 50 30 Value.int ((s0 j tl).1.2.2.2.1) := pa_fi G5 fx65 (by omega)
            have g80 : px_pa h67 248 50 30 Value.int ((s0 j tl).1.2.2.2.1) := pa_fi g79 fx69 (by omega)
            have g81 : pMm h63 214 ((s0 j tl).2.2.2.1.1) ((s0 j tl).2.2.2.1.2.1) ((s0 j tl).2.2.2.1.2.2.1) ((s0 j tl).2.2.2.1.2.2.2.1) ((s0 j tl).2.2.2.1.2.2.2.2) := pMm_fi G6 fx65 (by omega)
            have g82 : pMm h67 214 ((s0 j tl).2.2.2.1.1) ((s0 j tl).2.2.2.1.2.1) ((s0 j tl).2.2.2.1.2.2.1) ((s0 j tl).2.2.2.1.2.2.2.1) ((s0 j tl).2.2.2.1.2.2.2.2) := pMm_fi g81 fx69 (by omega)
            first | (exfalso; omega) | exact ih (d - 1) (by omega) (i + 1) false true h67 (by omega) (by omega) (by rw [lks_step (show i < (evs ev ps).length by rw [evs_len]; omega), evs_get (show i < ps.length by omega)] at q2; simp only [c_90, c_105, Bool.true_or, Bool.or_true, Bool.false_or] at q2 ⊢; exact q2) (by rw [lks_step (show i < (evs ev ps).length by rw [evs_len]; omega), evs_get (show i < ps.length by omega)] at q3; simp only [c_121, Bool.true_or, Bool.or_true, Bool.false_or] at q3 ⊢; exact q3) g68 g72 g74 g76 g78 g80 g82 fr70
          · skip
            have c_121 : lb = false := bI_f' c_121
            refine e_aload_n f_49_124 rfl rfl ?_
            refine e_aload_n f_49_125 rfl rfl ?_
            have g83 : pOrd h63 od ps := pOrd_fi HO fr66 (by omega)
            refine e_getf f_49_126 g83.1 rfl rfl ?_
            refine e_iload f_49_129 rfl rfl ?_
            refine e_iaload_p (xs := ps) f_49_131 g83.2 (d := 0) (by first | omega | (simp only [List.length_set]; omega)) rfl ?_
            show px_to 49 132 [some (.ref (177)), some (.ref (jb)), some (.ref (a)), some (.ref (od)), some (.int (nI i))] [.int (nI (ps.getD i 0)), .ref (a), .ref (177)] h63 _
            refine e_iconst (v := nI 1) f_49_132 (by decide) rfl ?_
            have g84 : pCase h63 a ev told os ks kept ck un := pCase_fi HC fr66 (by omega)
            refine e_callV (As := [.int (nI (ps.getD i 0)), .int (nI 1)]) (rest := [.ref (177)]) f_49_133 rfl rfl rfl (Nat.le_of_ble_eq_true rfl) (Nat.le_of_ble_eq_true rfl) g84.1 rfl (Nat.le_of_ble_eq_true rfl) (cc_Case_isOf (i := ps.getD i 0) (b := true) (a := a) (ev := ev) (told := told) (os := os) (ks := ks) (kept := kept) (ck := ck) (un := un) g84 (hpl) (hel)) rfl (fun h85 r86 q87 => ?_)
            obtain ⟨rfl, qe⟩ := q87
            have qe := qe.symm
            subst qe
            show px_to 49 136 [some (.ref (177)), some (.ref (jb)), some (.ref (a)), some (.ref (od)), some (.int (nI i))] [.int (bI (evOf (ev.getD (ps.getD i 0) (0, 0, 0, 0)).1 true)), .ref (177)] h63 _
            refine e_if_eq f_49_136 rfl (fun c_136 => ?_) (fun c_136 => ?_)
            · skip
              have c_136 : (evOf (ev.getD (ps.getD i 0) (0, 0, 0, 0)).1 true) = false := bI_f c_136
              refine e_iconst (v := nI 0) f_49_143 (by decide) rfl ?_
              show px_to 49 144 [some (.ref (177)), some (.ref (jb)), some (.ref (a)), some (.ref (od)), some (.int (nI i))] [.int (bI false), .ref (177)] h63 _
              refine e_putp (vs' := [.ref (jb), .ref (182), .ref (214), .ref (246), .int (nI ((s0 j tl).2.2.1)), .int (bI false), .int (bI false), .int (oI ((s0 j tl).1.2.2.2.2)), .int ((s0 j tl).2.2.2.2), .int ((-3)), .ref (248)]) f_49_144 g64 (Nat.le_of_ble_eq_true rfl) (nw_bI _) (rfl) rfl rfl (fun h88 g89 fx90 => ?_)
              have fr91 : px_fi 177 72 h0 h88 := fi_tr fr66 fx90 (by omega)
              refine e_iinc (y := nI (i + 1)) (L' := [some (.ref (177)), some (.ref (jb)), some (.ref (a)), some (.ref (od)), some (.int (nI (i + 1)))]) f_49_147 rfl (by rw [show Int32.ofInt 1 = nI 1 by decide]; exact (nI_add _ _)) rfl rfl ?_
              refine e_goto f_49_150 ?_
              have g92 : h63.2.2 182 = some (2, [.int ((s0 j tl).2.1.1), .int ((s0 j tl).2.1.2.1), .int ((s0 j tl).2.1.2.2), .int ((s0 j tl).1.1), .ref (183)]) := fi_at G1 fx65 (by omega)
              have g93 : h88.2.2 182 = some (2, [.int ((s0 j tl).2.1.1), .int ((s0 j tl).2.1.2.1), .int ((s0 j tl).2.1.2.2), .int ((s0 j tl).1.1), .ref (183)]) := fi_at g92 fx90 (by omega)
              have g94 : px_rs h63 183 55 6 (fun k => 182 + 5 * k + 2) := rs_fi G2 fx65 (by omega)
              have g95 : px_rs h88 183 55 6 (fun k => 182 + 5 * k + 2) := rs_fi g94 fx90 (by omega)
              have g96 : pSt h63 182 ((s0 j tl).1.2.1) := pSt_fi G3 fx65 (by omega)
              have g97 : pSt h88 182 ((s0 j tl).1.2.1) := pSt_fi g96 fx90 (by omega)
              have g98 : pRows h63 246 96 ((s0 j tl).1.2.2.1) := pRows_fi G4 fx65 (by omega)
              have g99 : pRows h88 246 96 ((s0 j tl).1.2.2.1) := pRows_fi g98 fx90 (by omega)
              have g100 : px_pa h63 248 50 30 Value.int ((s0 j tl).1.2.2.2.1) := pa_fi G5 fx65 (by omega)
              have g101 : px_pa h88 248 50 30 Value.int ((s0 j tl).1.2.2.2.1) := pa_fi g100 fx90 (by omega)
              have g102 : pMm h63 214 ((s0 j tl).2.2.2.1.1) ((s0 j tl).2.2.2.1.2.1) ((s0 j tl).2.2.2.1.2.2.1) ((s0 j tl).2.2.2.1.2.2.2.1) ((s0 j tl).2.2.2.1.2.2.2.2) := pMm_fi G6 fx65 (by omega)
              have g103 : pMm h88 214 ((s0 j tl).2.2.2.1.1) ((s0 j tl).2.2.2.1.2.1) ((s0 j tl).2.2.2.1.2.2.1) ((s0 j tl).2.2.2.1.2.2.2.1) ((s0 j tl).2.2.2.1.2.2.2.2) := pMm_fi g102 fx90 (by omega)
              first | (exfalso; omega) | exact ih (d - 1) (by omega) (i + 1) false false h88 (by omega) (by omega) (by rw [lks_step (show i < (evs ev ps).length by rw [evs_len]; omega), evs_get (show i < ps.length by omega)] at q2; simp only [c_90, c_105, Bool.true_or, Bool.or_true, Bool.false_or] at q2 ⊢; exact q2) (by rw [lks_step (show i < (evs ev ps).length by rw [evs_len]; omega), evs_get (show i < ps.length by omega)] at q3; simp only [c_121, c_136, Bool.true_or, Bool.or_true, Bool.false_or] at q3 ⊢; exact q3) g89 g93 g95 g97 g99 g101 g103 fr91
            · skip
              have c_136 : (evOf (ev.getD (ps.getD i 0) (0, 0, 0, 0)).1 true) = true := bI_t' c_136
              refine e_iconst (v := nI 1) f_49_139 (by decide) rfl ?_
              refine e_goto f_49_140 ?_
              show px_to 49 144 [some (.ref (177)), some (.ref (jb)), some (.ref (a)), some (.ref (od)), some (.int (nI i))] [.int (bI true), .ref (177)] h63 _
              refine e_putp (vs' := [.ref (jb), .ref (182), .ref (214), .ref (246), .int (nI ((s0 j tl).2.2.1)), .int (bI false), .int (bI true), .int (oI ((s0 j tl).1.2.2.2.2)), .int ((s0 j tl).2.2.2.2), .int ((-3)), .ref (248)]) f_49_144 g64 (Nat.le_of_ble_eq_true rfl) (nw_bI _) (rfl) rfl rfl (fun h104 g105 fx106 => ?_)
              have fr107 : px_fi 177 72 h0 h104 := fi_tr fr66 fx106 (by omega)
              refine e_iinc (y := nI (i + 1)) (L' := [some (.ref (177)), some (.ref (jb)), some (.ref (a)), some (.ref (od)), some (.int (nI (i + 1)))]) f_49_147 rfl (by rw [show Int32.ofInt 1 = nI 1 by decide]; exact (nI_add _ _)) rfl rfl ?_
              refine e_goto f_49_150 ?_
              have g108 : h63.2.2 182 = some (2, [.int ((s0 j tl).2.1.1), .int ((s0 j tl).2.1.2.1), .int ((s0 j tl).2.1.2.2), .int ((s0 j tl).1.1), .ref (183)]) := fi_at G1 fx65 (by omega)
              have g109 : h104.2.2 182 = some (2, [.int ((s0 j tl).2.1.1), .int ((s0 j tl).2.1.2.1), .int ((s0 j tl).2.1.2.2), .int ((s0 j tl).1.1), .ref (183)]) := fi_at g108 fx106 (by omega)
              have g110 : px_rs h63 183 55 6 (fun k => 182 + 5 * k + 2) := rs_fi G2 fx65 (by omega)
              have g111 : px_rs h104 183 55 6 (fun k => 182 + 5 * k + 2) := rs_fi g110 fx106 (by omega)
              have g112 : pSt h63 182 ((s0 j tl).1.2.1) := pSt_fi G3 fx65 (by omega)
              have g113 : pSt h104 182 ((s0 j tl).1.2.1) := pSt_fi g112 fx106 (by omega)
              have g114 : pRows h63 246 96 ((s0 j tl).1.2.2.1) := pRows_fi G4 fx65 (by omega)
              have g115 : pRows h104 246 96 ((s0 j tl).1.2.2.1) := pRows_fi g114 fx106 (by omega)
              have g116 : px_pa h63 248 50 30 Value.int ((s0 j tl).1.2.2.2.1) := pa_fi G5 fx65 (by omega)
              have g117 : px_pa h104 248 50 30 Value.int ((s0 j tl).1.2.2.2.1) := pa_fi g116 fx106 (by omega)
              have g118 : pMm h63 214 ((s0 j tl).2.2.2.1.1) ((s0 j tl).2.2.2.1.2.1) ((s0 j tl).2.2.2.1.2.2.1) ((s0 j tl).2.2.2.1.2.2.2.1) ((s0 j tl).2.2.2.1.2.2.2.2) := pMm_fi G6 fx65 (by omega)
              have g119 : pMm h104 214 ((s0 j tl).2.2.2.1.1) ((s0 j tl).2.2.2.1.2.1) ((s0 j tl).2.2.2.1.2.2.1) ((s0 j tl).2.2.2.1.2.2.2.1) ((s0 j tl).2.2.2.1.2.2.2.2) := pMm_fi g118 fx106 (by omega)
              first | (exfalso; omega) | exact ih (d - 1) (by omega) (i + 1) false true h104 (by omega) (by omega) (by rw [lks_step (show i < (evs ev ps).length by rw [evs_len]; omega), evs_get (show i < ps.length by omega)] at q2; simp only [c_90, c_105, Bool.true_or, Bool.or_true, Bool.false_or] at q2 ⊢; exact q2) (by rw [lks_step (show i < (evs ev ps).length by rw [evs_len]; omega), evs_get (show i < ps.length by omega)] at q3; simp only [c_121, c_136, Bool.true_or, Bool.or_true, Bool.false_or] at q3 ⊢; exact q3) g105 g109 g111 g113 g115 g117 g119 fr107
        · skip
          have c_105 : (evOf (ev.getD (ps.getD i 0) (0, 0, 0, 0)).1 false) = true := bI_t' c_105
          refine e_iconst (v := nI 1) f_49_108 (by decide) rfl ?_
          refine e_goto f_49_109 ?_
          show px_to 49 113 [some (.ref (177)), some (.ref (jb)), some (.ref (a)), some (.ref (od)), some (.int (nI i))] [.int (bI true), .ref (177)] g _
          refine e_putp (vs' := [.ref (jb), .ref (182), .ref (214), .ref (246), .int (nI ((s0 j tl).2.2.1)), .int (bI true), .int (bI lb), .int (oI ((s0 j tl).1.2.2.2.2)), .int ((s0 j tl).2.2.2.2), .int ((-3)), .ref (248)]) f_49_113 G0 (Nat.le_of_ble_eq_true rfl) (nw_bI _) (rfl) rfl rfl (fun h120 g121 fx122 => ?_)
          have fr123 : px_fi 177 72 h0 h120 := fi_tr frg fx122 (by omega)
          refine e_aload_n f_49_116 rfl rfl ?_
          refine e_aload_n f_49_117 rfl rfl ?_
          refine e_getf f_49_118 g121 rfl rfl ?_
          refine e_if_ne f_49_121 rfl (fun c_121 => ?_) (fun c_121 => ?_)
          · skip
            have c_121 : lb = true := bI_t c_121
            refine e_iconst (v := nI 1) f_49_139 (by decide) rfl ?_
            refine e_goto f_49_140 ?_
            show px_to 49 144 [some (.ref (177)), some (.ref (jb)), some (.ref (a)), some (.ref (od)), some (.int (nI i))] [.int (bI true), .ref (177)] h120 _
            refine e_putp (vs' := [.ref (jb), .ref (182), .ref (214), .ref (246), .int (nI ((s0 j tl).2.2.1)), .int (bI true), .int (bI true), .int (oI ((s0 j tl).1.2.2.2.2)), .int ((s0 j tl).2.2.2.2), .int ((-3)), .ref (248)]) f_49_144 g121 (Nat.le_of_ble_eq_true rfl) (nw_bI _) (rfl) rfl rfl (fun h124 g125 fx126 => ?_)
            have fr127 : px_fi 177 72 h0 h124 := fi_tr fr123 fx126 (by omega)
            refine e_iinc (y := nI (i + 1)) (L' := [some (.ref (177)), some (.ref (jb)), some (.ref (a)), some (.ref (od)), some (.int (nI (i + 1)))]) f_49_147 rfl (by rw [show Int32.ofInt 1 = nI 1 by decide]; exact (nI_add _ _)) rfl rfl ?_
            refine e_goto f_49_150 ?_
            have g128 : h120.2.2 182 = some (2, [.int ((s0 j tl).2.1.1), .int ((s0 j tl).2.1.2.1), .int ((s0 j tl).2.1.2.2), .int ((s0 j tl).1.1), .ref (183)]) := fi_at G1 fx122 (by omega)
            have g129 : h124.2.2 182 = some (2, [.int ((s0 j tl).2.1.1), .int ((s0 j tl).2.1.2.1), .int ((s0 j tl).2.1.2.2), .int ((s0 j tl).1.1), .ref (183)]) := fi_at g128 fx126 (by omega)
            have g130 : px_rs h120 183 55 6 (fun k => 182 + 5 * k + 2) := rs_fi G2 fx122 (by omega)
            have g131 : px_rs h124 183 55 6 (fun k => 182 + 5 * k + 2) := rs_fi g130 fx126 (by omega)
            have g132 : pSt h120 182 ((s0 j tl).1.2.1) := pSt_fi G3 fx122 (by omega)
            have g133 : pSt h124 182 ((s0 j tl).1.2.1) := pSt_fi g132 fx126 (by omega)
            have g134 : pRows h120 246 96 ((s0 j tl).1.2.2.1) := pRows_fi G4 fx122 (by omega)
            have g135 : pRows h124 246 96 ((s0 j tl).1.2.2.1) := pRows_fi g134 fx126 (by omega)
            have g136 : px_pa h120 248 50 30 Value.int ((s0 j tl).1.2.2.2.1) := pa_fi G5 fx122 (by omega)
            have g137 : px_pa h124 248 50 30 Value.int ((s0 j tl).1.2.2.2.1) := pa_fi g136 fx126 (by omega)
            have g138 : pMm h120 214 ((s0 j tl).2.2.2.1.1) ((s0 j tl).2.2.2.1.2.1) ((s0 j tl).2.2.2.1.2.2.1) ((s0 j tl).2.2.2.1.2.2.2.1) ((s0 j tl).2.2.2.1.2.2.2.2) := pMm_fi G6 fx122 (by omega)
            have g139 : pMm h124 214 ((s0 j tl).2.2.2.1.1) ((s0 j tl).2.2.2.1.2.1) ((s0 j tl).2.2.2.1.2.2.1) ((s0 j tl).2.2.2.1.2.2.2.1) ((s0 j tl).2.2.2.1.2.2.2.2) := pMm_fi g138 fx126 (by omega)
            first | (exfalso; omega) | exact ih (d - 1) (by omega) (i + 1) true true h124 (by omega) (by omega) (by rw [lks_step (show i < (evs ev ps).length by rw [evs_len]; omega), evs_get (show i < ps.length by omega)] at q2; simp only [c_90, c_105, Bool.true_or, Bool.or_true, Bool.false_or] at q2 ⊢; exact q2) (by rw [lks_step (show i < (evs ev ps).length by rw [evs_len]; omega), evs_get (show i < ps.length by omega)] at q3; simp only [c_121, Bool.true_or, Bool.or_true, Bool.false_or] at q3 ⊢; exact q3) g125 g129 g131 g133 g135 g137 g139 fr127
          · skip
            have c_121 : lb = false := bI_f' c_121
            refine e_aload_n f_49_124 rfl rfl ?_
            refine e_aload_n f_49_125 rfl rfl ?_
            have g140 : pOrd h120 od ps := pOrd_fi HO fr123 (by omega)
            refine e_getf f_49_126 g140.1 rfl rfl ?_
            refine e_iload f_49_129 rfl rfl ?_
            refine e_iaload_p (xs := ps) f_49_131 g140.2 (d := 0) (by first | omega | (simp only [List.length_set]; omega)) rfl ?_
            show px_to 49 132 [some (.ref (177)), some (.ref (jb)), some (.ref (a)), some (.ref (od)), some (.int (nI i))] [.int (nI (ps.getD i 0)), .ref (a), .ref (177)] h120 _
            refine e_iconst (v := nI 1) f_49_132 (by decide) rfl ?_
            have g141 : pCase h120 a ev told os ks kept ck un := pCase_fi HC fr123 (by omega)
            refine e_callV (As := [.int (nI (ps.getD i 0)), .int (nI 1)]) (rest := [.ref (177)]) f_49_133 rfl rfl rfl (Nat.le_of_ble_eq_true rfl) (Nat.le_of_ble_eq_true rfl) g141.1 rfl (Nat.le_of_ble_eq_true rfl) (cc_Case_isOf (i := ps.getD i 0) (b := true) (a := a) (ev := ev) (told := told) (os := os) (ks := ks) (kept := kept) (ck := ck) (un := un) g141 (hpl) (hel)) rfl (fun h142 r143 q144 => ?_)
            obtain ⟨rfl, qe⟩ := q144
            have qe := qe.symm
            subst qe
            show px_to 49 136 [some (.ref (177)), some (.ref (jb)), some (.ref (a)), some (.ref (od)), some (.int (nI i))] [.int (bI (evOf (ev.getD (ps.getD i 0) (0, 0, 0, 0)).1 true)), .ref (177)] h120 _
            refine e_if_eq f_49_136 rfl (fun c_136 => ?_) (fun c_136 => ?_)
            · skip
              have c_136 : (evOf (ev.getD (ps.getD i 0) (0, 0, 0, 0)).1 true) = false := bI_f c_136
              refine e_iconst (v := nI 0) f_49_143 (by decide) rfl ?_
              show px_to 49 144 [some (.ref (177)), some (.ref (jb)), some (.ref (a)), some (.ref (od)), some (.int (nI i))] [.int (bI false), .ref (177)] h120 _
              refine e_putp (vs' := [.ref (jb), .ref (182), .ref (214), .ref (246), .int (nI ((s0 j tl).2.2.1)), .int (bI true), .int (bI false), .int (oI ((s0 j tl).1.2.2.2.2)), .int ((s0 j tl).2.2.2.2), .int ((-3)), .ref (248)]) f_49_144 g121 (Nat.le_of_ble_eq_true rfl) (nw_bI _) (rfl) rfl rfl (fun h145 g146 fx147 => ?_)
              have fr148 : px_fi 177 72 h0 h145 := fi_tr fr123 fx147 (by omega)
              refine e_iinc (y := nI (i + 1)) (L' := [some (.ref (177)), some (.ref (jb)), some (.ref (a)), some (.ref (od)), some (.int (nI (i + 1)))]) f_49_147 rfl (by rw [show Int32.ofInt 1 = nI 1 by decide]; exact (nI_add _ _)) rfl rfl ?_
              refine e_goto f_49_150 ?_
              have g149 : h120.2.2 182 = some (2, [.int ((s0 j tl).2.1.1), .int ((s0 j tl).2.1.2.1), .int ((s0 j tl).2.1.2.2), .int ((s0 j tl).1.1), .ref (183)]) := fi_at G1 fx122 (by omega)
              have g150 : h145.2.2 182 = some (2, [.int ((s0 j tl).2.1.1), .int ((s0 j tl).2.1.2.1), .int ((s0 j tl).2.1.2.2), .int ((s0 j tl).1.1), .ref (183)]) := fi_at g149 fx147 (by omega)
              have g151 : px_rs h120 183 55 6 (fun k => 182 + 5 * k + 2) := rs_fi G2 fx122 (by omega)
              have g152 : px_rs h145 183 55 6 (fun k => 182 + 5 * k + 2) := rs_fi g151 fx147 (by omega)
              have g153 : pSt h120 182 ((s0 j tl).1.2.1) := pSt_fi G3 fx122 (by omega)
              have g154 : pSt h145 182 ((s0 j tl).1.2.1) := pSt_fi g153 fx147 (by omega)
              have g155 : pRows h120 246 96 ((s0 j tl).1.2.2.1) := pRows_fi G4 fx122 (by omega)
              have g156 : pRows h145 246 96 ((s0 j tl).1.2.2.1) := pRows_fi g155 fx147 (by omega)
              have g157 : px_pa h120 248 50 30 Value.int ((s0 j tl).1.2.2.2.1) := pa_fi G5 fx122 (by omega)
              have g158 : px_pa h145 248 50 30 Value.int ((s0 j tl).1.2.2.2.1) := pa_fi g157 fx147 (by omega)
              have g159 : pMm h120 214 ((s0 j tl).2.2.2.1.1) ((s0 j tl).2.2.2.1.2.1) ((s0 j tl).2.2.2.1.2.2.1) ((s0 j tl).2.2.2.1.2.2.2.1) ((s0 j tl).2.2.2.1.2.2.2.2) := pMm_fi G6 fx122 (by omega)
              have g160 : pMm h145 214 ((s0 j tl).2.2.2.1.1) ((s0 j tl).2.2.2.1.2.1) ((s0 j tl).2.2.2.1.2.2.1) ((s0 j tl).2.2.2.1.2.2.2.1) ((s0 j tl).2.2.2.1.2.2.2.2) := pMm_fi g159 fx147 (by omega)
              first | (exfalso; omega) | exact ih (d - 1) (by omega) (i + 1) true false h145 (by omega) (by omega) (by rw [lks_step (show i < (evs ev ps).length by rw [evs_len]; omega), evs_get (show i < ps.length by omega)] at q2; simp only [c_90, c_105, Bool.true_or, Bool.or_true, Bool.false_or] at q2 ⊢; exact q2) (by rw [lks_step (show i < (evs ev ps).length by rw [evs_len]; omega), evs_get (show i < ps.length by omega)] at q3; simp only [c_121, c_136, Bool.true_or, Bool.or_true, Bool.false_or] at q3 ⊢; exact q3) g146 g150 g152 g154 g156 g158 g160 fr148
            · skip
              have c_136 : (evOf (ev.getD (ps.getD i 0) (0, 0, 0, 0)).1 true) = true := bI_t' c_136
              refine e_iconst (v := nI 1) f_49_139 (by decide) rfl ?_
              refine e_goto f_49_140 ?_
              show px_to 49 144 [some (.ref (177)), some (.ref (jb)), some (.ref (a)), some (.ref (od)), some (.int (nI i))] [.int (bI true), .ref (177)] h120 _
              refine e_putp (vs' := [.ref (jb), .ref (182), .ref (214), .ref (246), .int (nI ((s0 j tl).2.2.1)), .int (bI true), .int (bI true), .int (oI ((s0 j tl).1.2.2.2.2)), .int ((s0 j tl).2.2.2.2), .int ((-3)), .ref (248)]) f_49_144 g121 (Nat.le_of_ble_eq_true rfl) (nw_bI _) (rfl) rfl rfl (fun h161 g162 fx163 => ?_)
              have fr164 : px_fi 177 72 h0 h161 := fi_tr fr123 fx163 (by omega)
              refine e_iinc (y := nI (i + 1)) (L' := [some (.ref (177)), some (.ref (jb)), some (.ref (a)), some (.ref (od)), some (.int (nI (i + 1)))]) f_49_147 rfl (by rw [show Int32.ofInt 1 = nI 1 by decide]; exact (nI_add _ _)) rfl rfl ?_
              refine e_goto f_49_150 ?_
              have g165 : h120.2.2 182 = some (2, [.int ((s0 j tl).2.1.1), .int ((s0 j tl).2.1.2.1), .int ((s0 j tl).2.1.2.2), .int ((s0 j tl).1.1), .ref (183)]) := fi_at G1 fx122 (by omega)
              have g166 : h161.2.2 182 = some (2, [.int ((s0 j tl).2.1.1), .int ((s0 j tl).2.1.2.1), .int ((s0 j tl).2.1.2.2), .int ((s0 j tl).1.1), .ref (183)]) := fi_at g165 fx163 (by omega)
              have g167 : px_rs h120 183 55 6 (fun k => 182 + 5 * k + 2) := rs_fi G2 fx122 (by omega)
              have g168 : px_rs h161 183 55 6 (fun k => 182 + 5 * k + 2) := rs_fi g167 fx163 (by omega)
              have g169 : pSt h120 182 ((s0 j tl).1.2.1) := pSt_fi G3 fx122 (by omega)
              have g170 : pSt h161 182 ((s0 j tl).1.2.1) := pSt_fi g169 fx163 (by omega)
              have g171 : pRows h120 246 96 ((s0 j tl).1.2.2.1) := pRows_fi G4 fx122 (by omega)
              have g172 : pRows h161 246 96 ((s0 j tl).1.2.2.1) := pRows_fi g171 fx163 (by omega)
              have g173 : px_pa h120 248 50 30 Value.int ((s0 j tl).1.2.2.2.1) := pa_fi G5 fx122 (by omega)
              have g174 : px_pa h161 248 50 30 Value.int ((s0 j tl).1.2.2.2.1) := pa_fi g173 fx163 (by omega)
              have g175 : pMm h120 214 ((s0 j tl).2.2.2.1.1) ((s0 j tl).2.2.2.1.2.1) ((s0 j tl).2.2.2.1.2.2.1) ((s0 j tl).2.2.2.1.2.2.2.1) ((s0 j tl).2.2.2.1.2.2.2.2) := pMm_fi G6 fx122 (by omega)
              have g176 : pMm h161 214 ((s0 j tl).2.2.2.1.1) ((s0 j tl).2.2.2.1.2.1) ((s0 j tl).2.2.2.1.2.2.1) ((s0 j tl).2.2.2.1.2.2.2.1) ((s0 j tl).2.2.2.1.2.2.2.2) := pMm_fi g175 fx163 (by omega)
              first | (exfalso; omega) | exact ih (d - 1) (by omega) (i + 1) true true h161 (by omega) (by omega) (by rw [lks_step (show i < (evs ev ps).length by rw [evs_len]; omega), evs_get (show i < ps.length by omega)] at q2; simp only [c_90, c_105, Bool.true_or, Bool.or_true, Bool.false_or] at q2 ⊢; exact q2) (by rw [lks_step (show i < (evs ev ps).length by rw [evs_len]; omega), evs_get (show i < ps.length by omega)] at q3; simp only [c_121, c_136, Bool.true_or, Bool.or_true, Bool.false_or] at q3 ⊢; exact q3) g162 g166 g168 g170 g172 g174 g176 fr164

set_option maxRecDepth 20000 in
set_option maxHeartbeats 4000000 in
theorem cc_Run_begin {h : px_H} {od : Nat} {ps : List Nat} {j : List St} {jb : Nat} {a : Nat} {ev : List Ev} {told : List Row} {os : Nat} {ks : Int32} {kept : List Nat} {ck : Nat} {un : List Nat} {jb0 gv : Nat} {la0 lb0 : Bool} {z : Option Nat} {dn wo : Int32} {A B W S : Int32} {sms : List SM} {outs : List Row} {tl : List Int32} {A3 B3 W3 S3 : Int32} {sm3 : List SM} (H0 : h.2.2 177 = some (6, [.ref (jb0), .ref (182), .ref (214), .ref (246), .int (nI gv), .int (bI la0), .int (bI lb0), .int (oI z), .int (dn), .int (wo), .ref (248)])) (H1 : h.2.2 182 = some (2, [.int (A), .int (B), .int (W), .int (S), .ref (183)])) (H2 : px_rs h 183 55 6 (fun k => 182 + 5 * k + 2)) (H3 : pSt h 182 sms) (H4 : pRows h 246 96 outs) (H5 : px_pa h 248 50 30 Value.int tl) (H6 : pMm h 214 A3 B3 W3 S3 sm3) (H7 : pJob h jb j) (H8 : pCase h a ev told os ks kept ck un) (H9 : pOrd h od ps) (p0 : okJ j) (p1 : jb + 4 ≤ 177 ∨ 249 ≤ jb) (p2 : a + 9 ≤ 177 ∨ 249 ≤ a) (p3 : od + 2 ≤ 177 ∨ 249 ≤ od) (p4 : ∀ p ∈ ps, p < ev.length) (p5 : ∀ e ∈ ev, okEv e) : px_wp 49 [.ref (177), .ref (jb), .ref (a), .ref (od)] h (fun h1 r => r = none ∧ h1.2.2 177 = some (6, [.ref (jb), .ref (182), .ref (214), .ref (246), .int (nI ((s0 j tl).2.2.1)), .int (bI (lks false (evs ev ps))), .int (bI (lks true (evs ev ps))), .int (oI ((s0 j tl).1.2.2.2.2)), .int ((s0 j tl).2.2.2.2), .int ((-3)), .ref (248)]) ∧ h1.2.2 182 = some (2, [.int ((s0 j tl).2.1.1), .int ((s0 j tl).2.1.2.1), .int ((s0 j tl).2.1.2.2), .int ((s0 j tl).1.1), .ref (183)]) ∧ px_rs h1 183 55 6 (fun k => 182 + 5 * k + 2) ∧ pSt h1 182 ((s0 j tl).1.2.1) ∧ pRows h1 246 96 ((s0 j tl).1.2.2.1) ∧ px_pa h1 248 50 30 Value.int ((s0 j tl).1.2.2.2.1) ∧ pMm h1 214 ((s0 j tl).2.2.2.1.1) ((s0 j tl).2.2.2.1.2.1) ((s0 j tl).2.2.2.1.2.2.1) ((s0 j tl).2.2.2.1.2.2.2.1) ((s0 j tl).2.2.2.1.2.2.2.2) ∧ px_fi 177 72 h h1) := by
  have fr0 : px_fi 177 72 h h := fi_rf _ _ _
  have lj := p0.1
  show px_to 49 0 [some (.ref (177)), some (.ref (jb)), some (.ref (a)), some (.ref (od)), none] [] h _
  refine e_aload_n f_49_0 rfl rfl ?_
  refine e_aload_n f_49_1 rfl rfl ?_
  refine e_putp (vs' := [.ref (jb), .ref (182), .ref (214), .ref (246), .int (nI gv), .int (bI la0), .int (bI lb0), .int (oI z), .int (dn), .int (wo), .ref (248)]) f_49_2 H0 (Nat.le_of_ble_eq_true rfl) (rfl) (rfl) rfl rfl (fun h1 g2 fx3 => ?_)
  have fr4 : px_fi 177 72 h h1 := fi_tr fr0 fx3 (by omega)
  refine e_aload_n f_49_5 rfl rfl ?_
  refine e_getf f_49_6 g2 rfl rfl ?_
  refine e_aload_n f_49_9 rfl rfl ?_
  refine e_getf f_49_10 g2 rfl rfl ?_
  have g5 : pJob h1 jb j := pJob_fi H7 fr4 (by omega)
  refine e_getf f_49_13 g5.1 rfl rfl ?_
  have g6 : h1.2.2 182 = some (2, [.int (A), .int (B), .int (W), .int (S), .ref (183)]) := fi_at H1 fx3 (by omega)
  have g7 : px_rs h1 183 55 6 (fun k => 182 + 5 * k + 2) := rs_fi H2 fx3 (by omega)
  have g8 : pSt h1 182 sms := pSt_fi H3 fx3 (by omega)
  refine e_callV (As := [.int (nI j.length)]) (rest := []) f_49_16 rfl rfl rfl (Nat.le_of_ble_eq_true rfl) (Nat.le_of_ble_eq_true rfl) g6 rfl (Nat.le_of_ble_eq_true rfl) (cc_Mem_clear (n := j.length) (M := 182) (A := A) (B := B) (W := W) (S := S) (sms := sms) g6 g7 g8 (by omega) (by omega)) rfl (fun h9 r10 q11 => ?_)
  obtain ⟨rfl, g12, g13, g14, fx15⟩ := q11
  have fr16 : px_fi 177 72 h h9 := fi_tr fr4 fx15 (by omega)
  show px_to 49 19 [some (.ref (177)), some (.ref (jb)), some (.ref (a)), some (.ref (od)), none] [] h9 _
  refine e_aload_n f_49_19 rfl rfl ?_
  have g17 : h9.2.2 177 = some (6, [.ref (jb), .ref (182), .ref (214), .ref (246), .int (nI gv), .int (bI la0), .int (bI lb0), .int (oI z), .int (dn), .int (wo), .ref (248)]) := fi_at g2 fx15 (by omega)
  refine e_getf f_49_20 g17 rfl rfl ?_
  refine e_aload_n f_49_23 rfl rfl ?_
  refine e_getf f_49_24 g17 rfl rfl ?_
  have g18 : pJob h9 jb j := pJob_fi H7 fr16 (by omega)
  refine e_getf f_49_27 g18.1 rfl rfl ?_
  have g19 : pMm h1 214 A3 B3 W3 S3 sm3 := pMm_fi H6 fx3 (by omega)
  have g20 : pMm h9 214 A3 B3 W3 S3 sm3 := pMm_fi g19 fx15 (by omega)
  have g21 : h9.2.2 214 = some (2, [.int (A3), .int (B3), .int (W3), .int (S3), .ref (215)]) := g20.1
  have g22 : px_rs h9 215 55 6 (fun k => 214 + 5 * k + 2) := g20.2.1
  have g23 : pSt h9 214 sm3 := g20.2.2
  refine e_callV (As := [.int (nI j.length)]) (rest := []) f_49_30 rfl rfl rfl (Nat.le_of_ble_eq_true rfl) (Nat.le_of_ble_eq_true rfl) g21 rfl (Nat.le_of_ble_eq_true rfl) (cc_Mem_clear (n := j.length) (M := 214) (A := A3) (B := B3) (W := W3) (S := S3) (sms := sm3) g21 g22 g23 (by omega) (by omega)) rfl (fun h24 r25 q26 => ?_)
  obtain ⟨rfl, g27, g28, g29, fx30⟩ := q26
  have fr31 : px_fi 177 72 h h24 := fi_tr fr16 fx30 (by omega)
  show px_to 49 33 [some (.ref (177)), some (.ref (jb)), some (.ref (a)), some (.ref (od)), none] [] h24 _
  refine e_aload_n f_49_33 rfl rfl ?_
  have g32 : h24.2.2 177 = some (6, [.ref (jb), .ref (182), .ref (214), .ref (246), .int (nI gv), .int (bI la0), .int (bI lb0), .int (oI z), .int (dn), .int (wo), .ref (248)]) := fi_at g17 fx30 (by omega)
  refine e_getf f_49_34 g32 rfl rfl ?_
  refine e_iconst (v := nI 0) f_49_37 (by decide) rfl ?_
  have g33 : pRows h1 246 96 outs := pRows_fi H4 fx3 (by omega)
  have g34 : pRows h9 246 96 outs := pRows_fi g33 fx15 (by omega)
  have g35 : pRows h24 246 96 outs := pRows_fi g34 fx30 (by omega)
  refine e_callV (As := [.int (nI 0)]) (rest := []) f_49_38 rfl rfl rfl (Nat.le_of_ble_eq_true rfl) (Nat.le_of_ble_eq_true rfl) g35.1 rfl (Nat.le_of_ble_eq_true rfl) (cc_Rows_cutTo (a := 246) (cap := 96) (k := 0) (rs := outs) g35 (by omega)) rfl (fun h36 r37 q38 => ?_)
  obtain ⟨rfl, g39, fx40⟩ := q38
  have fr41 : px_fi 177 72 h h36 := fi_tr fr31 fx40 (by omega)
  show px_to 49 41 [some (.ref (177)), some (.ref (jb)), some (.ref (a)), some (.ref (od)), none] [] h36 _
  refine e_aload_n f_49_41 rfl rfl ?_
  refine e_iconst (v := nI 0) f_49_42 (by decide) rfl ?_
  have g42 : h36.2.2 177 = some (6, [.ref (jb), .ref (182), .ref (214), .ref (246), .int (nI gv), .int (bI la0), .int (bI lb0), .int (oI z), .int (dn), .int (wo), .ref (248)]) := fi_at g32 fx40 (by omega)
  refine e_putp (vs' := [.ref (jb), .ref (182), .ref (214), .ref (246), .int (nI 0), .int (bI la0), .int (bI lb0), .int (oI z), .int (dn), .int (wo), .ref (248)]) f_49_43 g42 (Nat.le_of_ble_eq_true rfl) (rfl) (rfl) rfl rfl (fun h43 g44 fx45 => ?_)
  have fr46 : px_fi 177 72 h h43 := fi_tr fr41 fx45 (by omega)
  refine e_aload_n f_49_46 rfl rfl ?_
  refine e_bipush (v := (-3)) f_49_47 (by decide) rfl ?_
  refine e_putp (vs' := [.ref (jb), .ref (182), .ref (214), .ref (246), .int (nI 0), .int (bI la0), .int (bI lb0), .int ((-3)), .int (dn), .int (wo), .ref (248)]) f_49_49 g44 (Nat.le_of_ble_eq_true rfl) (rfl) (rfl) rfl rfl (fun h47 g48 fx49 => ?_)
  have fr50 : px_fi 177 72 h h47 := fi_tr fr46 fx49 (by omega)
  refine e_aload_n f_49_52 rfl rfl ?_
  refine e_iconst (v := nI 0) f_49_53 (by decide) rfl ?_
  refine e_putp (vs' := [.ref (jb), .ref (182), .ref (214), .ref (246), .int (nI 0), .int (bI la0), .int (bI lb0), .int ((-3)), .int (nI 0), .int (wo), .ref (248)]) f_49_54 g48 (Nat.le_of_ble_eq_true rfl) (rfl) (rfl) rfl rfl (fun h51 g52 fx53 => ?_)
  have fr54 : px_fi 177 72 h h51 := fi_tr fr50 fx53 (by omega)
  refine e_aload_n f_49_57 rfl rfl ?_
  refine e_bipush (v := (-3)) f_49_58 (by decide) rfl ?_
  refine e_putp (vs' := [.ref (jb), .ref (182), .ref (214), .ref (246), .int (nI 0), .int (bI la0), .int (bI lb0), .int ((-3)), .int (nI 0), .int ((-3)), .ref (248)]) f_49_60 g52 (Nat.le_of_ble_eq_true rfl) (rfl) (rfl) rfl rfl (fun h55 g56 fx57 => ?_)
  have fr58 : px_fi 177 72 h h55 := fi_tr fr54 fx57 (by omega)
  refine e_aload_n f_49_63 rfl rfl ?_
  refine e_iconst (v := nI 0) f_49_64 (by decide) rfl ?_
  refine e_putp (vs' := [.ref (jb), .ref (182), .ref (214), .ref (246), .int (nI 0), .int (nI 0), .int (bI lb0), .int ((-3)), .int (nI 0), .int ((-3)), .ref (248)]) f_49_65 g56 (Nat.le_of_ble_eq_true rfl) (rfl) (rfl) rfl rfl (fun h59 g60 fx61 => ?_)
  have fr62 : px_fi 177 72 h h59 := fi_tr fr58 fx61 (by omega)
  refine e_aload_n f_49_68 rfl rfl ?_
  refine e_iconst (v := nI 0) f_49_69 (by decide) rfl ?_
  refine e_putp (vs' := [.ref (jb), .ref (182), .ref (214), .ref (246), .int (nI 0), .int (nI 0), .int (nI 0), .int ((-3)), .int (nI 0), .int ((-3)), .ref (248)]) f_49_70 g60 (Nat.le_of_ble_eq_true rfl) (rfl) (rfl) rfl rfl (fun h63 g64 fx65 => ?_)
  have fr66 : px_fi 177 72 h h63 := fi_tr fr62 fx65 (by omega)
  refine e_iconst (v := nI 0) f_49_73 (by decide) rfl ?_
  refine e_istore (L' := [some (.ref (177)), some (.ref (jb)), some (.ref (a)), some (.ref (od)), some (.int (nI 0))]) f_49_74 (Nat.le_of_ble_eq_true rfl) rfl rfl ?_
  have g67 : h36.2.2 214 = some (2, [.int ((-1)), .int ((-1)), .int ((-1)), .int (nI 0), .ref (215)]) := fi_at g27 fx40 (by omega)
  have g68 : h43.2.2 214 = some (2, [.int ((-1)), .int ((-1)), .int ((-1)), .int (nI 0), .ref (215)]) := fi_at g67 fx45 (by omega)
  have g69 : h47.2.2 214 = some (2, [.int ((-1)), .int ((-1)), .int ((-1)), .int (nI 0), .ref (215)]) := fi_at g68 fx49 (by omega)
  have g70 : h51.2.2 214 = some (2, [.int ((-1)), .int ((-1)), .int ((-1)), .int (nI 0), .ref (215)]) := fi_at g69 fx53 (by omega)
  have g71 : h55.2.2 214 = some (2, [.int ((-1)), .int ((-1)), .int ((-1)), .int (nI 0), .ref (215)]) := fi_at g70 fx57 (by omega)
  have g72 : h59.2.2 214 = some (2, [.int ((-1)), .int ((-1)), .int ((-1)), .int (nI 0), .ref (215)]) := fi_at g71 fx61 (by omega)
  have g73 : h63.2.2 214 = some (2, [.int ((-1)), .int ((-1)), .int ((-1)), .int (nI 0), .ref (215)]) := fi_at g72 fx65 (by omega)
  have g74 : px_rs h36 215 55 6 (fun k => 214 + 5 * k + 2) := rs_fi g28 fx40 (by omega)
  have g75 : px_rs h43 215 55 6 (fun k => 214 + 5 * k + 2) := rs_fi g74 fx45 (by omega)
  have g76 : px_rs h47 215 55 6 (fun k => 214 + 5 * k + 2) := rs_fi g75 fx49 (by omega)
  have g77 : px_rs h51 215 55 6 (fun k => 214 + 5 * k + 2) := rs_fi g76 fx53 (by omega)
  have g78 : px_rs h55 215 55 6 (fun k => 214 + 5 * k + 2) := rs_fi g77 fx57 (by omega)
  have g79 : px_rs h59 215 55 6 (fun k => 214 + 5 * k + 2) := rs_fi g78 fx61 (by omega)
  have g80 : px_rs h63 215 55 6 (fun k => 214 + 5 * k + 2) := rs_fi g79 fx65 (by omega)
  have g81 : pSt h36 214 (List.replicate j.length sm0) := pSt_fi g29 fx40 (by omega)
  have g82 : pSt h43 214 (List.replicate j.length sm0) := pSt_fi g81 fx45 (by omega)
  have g83 : pSt h47 214 (List.replicate j.length sm0) := pSt_fi g82 fx49 (by omega)
  have g84 : pSt h51 214 (List.replicate j.length sm0) := pSt_fi g83 fx53 (by omega)
  have g85 : pSt h55 214 (List.replicate j.length sm0) := pSt_fi g84 fx57 (by omega)
  have g86 : pSt h59 214 (List.replicate j.length sm0) := pSt_fi g85 fx61 (by omega)
  have g87 : pSt h63 214 (List.replicate j.length sm0) := pSt_fi g86 fx65 (by omega)
  have g88 : pMm h63 214 (-1) (-1) (-1) (nI 0) (List.replicate j.length sm0) := ⟨g73, g80, g87⟩
  have g89 : h24.2.2 182 = some (2, [.int ((-1)), .int ((-1)), .int ((-1)), .int (nI 0), .ref (183)]) := fi_at g12 fx30 (by omega)
  have g90 : h36.2.2 182 = some (2, [.int ((-1)), .int ((-1)), .int ((-1)), .int (nI 0), .ref (183)]) := fi_at g89 fx40 (by omega)
  have g91 : h43.2.2 182 = some (2, [.int ((-1)), .int ((-1)), .int ((-1)), .int (nI 0), .ref (183)]) := fi_at g90 fx45 (by omega)
  have g92 : h47.2.2 182 = some (2, [.int ((-1)), .int ((-1)), .int ((-1)), .int (nI 0), .ref (183)]) := fi_at g91 fx49 (by omega)
  have g93 : h51.2.2 182 = some (2, [.int ((-1)), .int ((-1)), .int ((-1)), .int (nI 0), .ref (183)]) := fi_at g92 fx53 (by omega)
  have g94 : h55.2.2 182 = some (2, [.int ((-1)), .int ((-1)), .int ((-1)), .int (nI 0), .ref (183)]) := fi_at g93 fx57 (by omega)
  have g95 : h59.2.2 182 = some (2, [.int ((-1)), .int ((-1)), .int ((-1)), .int (nI 0), .ref (183)]) := fi_at g94 fx61 (by omega)
  have g96 : h63.2.2 182 = some (2, [.int ((-1)), .int ((-1)), .int ((-1)), .int (nI 0), .ref (183)]) := fi_at g95 fx65 (by omega)
  have g97 : px_rs h24 183 55 6 (fun k => 182 + 5 * k + 2) := rs_fi g13 fx30 (by omega)
  have g98 : px_rs h36 183 55 6 (fun k => 182 + 5 * k + 2) := rs_fi g97 fx40 (by omega)
  have g99 : px_rs h43 183 55 6 (fun k => 182 + 5 * k + 2) := rs_fi g98 fx45 (by omega)
  have g100 : px_rs h47 183 55 6 (fun k => 182 + 5 * k + 2) := rs_fi g99 fx49 (by omega)
  have g101 : px_rs h51 183 55 6 (fun k => 182 + 5 * k + 2) := rs_fi g100 fx53 (by omega)
  have g102 : px_rs h55 183 55 6 (fun k => 182 + 5 * k + 2) := rs_fi g101 fx57 (by omega)
  have g103 : px_rs h59 183 55 6 (fun k => 182 + 5 * k + 2) := rs_fi g102 fx61 (by omega)
  have g104 : px_rs h63 183 55 6 (fun k => 182 + 5 * k + 2) := rs_fi g103 fx65 (by omega)
  have g105 : pSt h24 182 (List.replicate j.length sm0) := pSt_fi g14 fx30 (by omega)
  have g106 : pSt h36 182 (List.replicate j.length sm0) := pSt_fi g105 fx40 (by omega)
  have g107 : pSt h43 182 (List.replicate j.length sm0) := pSt_fi g106 fx45 (by omega)
  have g108 : pSt h47 182 (List.replicate j.length sm0) := pSt_fi g107 fx49 (by omega)
  have g109 : pSt h51 182 (List.replicate j.length sm0) := pSt_fi g108 fx53 (by omega)
  have g110 : pSt h55 182 (List.replicate j.length sm0) := pSt_fi g109 fx57 (by omega)
  have g111 : pSt h59 182 (List.replicate j.length sm0) := pSt_fi g110 fx61 (by omega)
  have g112 : pSt h63 182 (List.replicate j.length sm0) := pSt_fi g111 fx65 (by omega)
  have g113 : pRows h43 246 96 (outs.take 0) := pRows_fi g39 fx45 (by omega)
  have g114 : pRows h47 246 96 (outs.take 0) := pRows_fi g113 fx49 (by omega)
  have g115 : pRows h51 246 96 (outs.take 0) := pRows_fi g114 fx53 (by omega)
  have g116 : pRows h55 246 96 (outs.take 0) := pRows_fi g115 fx57 (by omega)
  have g117 : pRows h59 246 96 (outs.take 0) := pRows_fi g116 fx61 (by omega)
  have g118 : pRows h63 246 96 (outs.take 0) := pRows_fi g117 fx65 (by omega)
  have g119 : px_pa h1 248 50 30 Value.int tl := pa_fi H5 fx3 (by omega)
  have g120 : px_pa h9 248 50 30 Value.int tl := pa_fi g119 fx15 (by omega)
  have g121 : px_pa h24 248 50 30 Value.int tl := pa_fi g120 fx30 (by omega)
  have g122 : px_pa h36 248 50 30 Value.int tl := pa_fi g121 fx40 (by omega)
  have g123 : px_pa h43 248 50 30 Value.int tl := pa_fi g122 fx45 (by omega)
  have g124 : px_pa h47 248 50 30 Value.int tl := pa_fi g123 fx49 (by omega)
  have g125 : px_pa h51 248 50 30 Value.int tl := pa_fi g124 fx53 (by omega)
  have g126 : px_pa h55 248 50 30 Value.int tl := pa_fi g125 fx57 (by omega)
  have g127 : px_pa h59 248 50 30 Value.int tl := pa_fi g126 fx61 (by omega)
  have g128 : px_pa h63 248 50 30 Value.int tl := pa_fi g127 fx65 (by omega)
  exact ll_Run_begin (h0 := h) H7 H8 H9 p0 p1 p2 p3 p4 p5 ps.length 0 false false h63 (by omega) (by omega) rfl rfl g64 g96 g104 g112 g118 g128 g88 fr66

set_option maxRecDepth 20000 in
set_option maxHeartbeats 4000000 in
theorem ll_Run_redo {P : px_H → Option Value → Prop} {h0 : px_H} {od : Nat} {ps : List Nat} {j : List St} {jb : Nat} {a : Nat} {ev : List Ev} {told : List Row} {os : Nat} {ks : Int32} {kept : List Nat} {ck : Nat} {un : List Nat} {rs i pl : Nat} {y : RS} (HJ : pJob h0 jb j) (HC : pCase h0 a ev told os ks kept ck un) (HO : pOrd h0 od ps) (p0 : okJ j) (p1 : jb + 4 ≤ 177 ∨ 249 ≤ jb) (p2 : a + 9 ≤ 177 ∨ 249 ≤ a) (p3 : od + 2 ≤ 177 ∨ 249 ≤ od) (p4 : ∀ p ∈ ps, p < ev.length) (p5 : ∀ e ∈ ev, okEv e) (hi : i ≤ ps.length) (kx : ∀ g, g.2.2 177 = some (6, [.ref (jb), .ref (182), .ref (214), .ref (246), .int (nI y.2.2.1), .int (bI (lks false (evs ev ps))), .int (bI (lks true (evs ev ps))), .int (oI y.1.2.2.2.2), .int (y.2.2.2.2), .int ((-3)), .ref (248)]) → g.2.2 182 = some (2, [.int (y.2.1.1), .int (y.2.1.2.1), .int (y.2.1.2.2), .int (y.1.1), .ref (183)]) → px_rs g 183 55 6 (fun k => 182 + 5 * k + 2) → pSt g 182 y.1.2.1 → pRows g 246 96 y.1.2.2.1 → px_pa g 248 50 30 Value.int y.1.2.2.2.1 → pMm g 214 y.2.2.2.1.1 y.2.2.2.1.2.1 y.2.2.2.1.2.2.1 y.2.2.2.1.2.2.2.1 y.2.2.2.1.2.2.2.2 → px_fi 177 72 h0 g → px_to 48 121 [some (.ref (177)), some (.ref (jb)), some (.ref (a)), some (.ref (od)), some (.int (nI rs)), some (.int (nI i)), some (.int (nI pl)), none] [] g P) : ∀ (d : Nat) (q : Nat) (s : RS) (g : px_H), (i ≤ q + d) → (q ≤ i) → (redoL j (lks false (evs ev ps)) (lks true (evs ev ps)) (((evs ev ps).take i).drop q) s = y) → (okR j s) → g.2.2 177 = some (6, [.ref (jb), .ref (182), .ref (214), .ref (246), .int (nI s.2.2.1), .int (bI (lks false (evs ev ps))), .int (bI (lks true (evs ev ps))), .int (oI s.1.2.2.2.2), .int (s.2.2.2.2), .int ((-3)), .ref (248)]) → g.2.2 182 = some (2, [.int (s.2.1.1), .int (s.2.1.2.1), .int (s.2.1.2.2), .int (s.1.1), .ref (183)]) → px_rs g 183 55 6 (fun k => 182 + 5 * k + 2) → pSt g 182 s.1.2.1 → pRows g 246 96 s.1.2.2.1 → px_pa g 248 50 30 Value.int s.1.2.2.2.1 → pMm g 214 s.2.2.2.1.1 s.2.2.2.1.2.1 s.2.2.2.1.2.2.1 s.2.2.2.1.2.2.2.1 s.2.2.2.1.2.2.2.2 → px_fi 177 72 h0 g → px_to 48 70 [some (.ref (177)), some (.ref (jb)), some (.ref (a)), some (.ref (od)), some (.int (nI rs)), some (.int (nI i)), some (.int (nI pl)), some (.int (nI q))] [] g P := by
  intro d
  induction d using Nat.strongRecOn with
  | ind d ih =>
    intro q s g q0 q1 q2 q3 G0 G1 G2 G3 G4 G5 G6 frg
    have lj := p0.1
    have lps := pa_len HO.2
    have lev := pa_len HC.2.1
    refine e_iload f_48_70 rfl rfl ?_
    refine e_iload f_48_72 rfl rfl ?_
    refine e_icmp_ge f_48_74 rfl (fun c_74 => ?_) (fun c_74 => ?_)
    · skip
      have c_74 : i ≤ q := cv_le (by omega) (by omega) c_74
      have ey : s = y := by
        rw [List.drop_eq_nil_of_le (by rw [List.length_take, evs_len]; omega), redoL] at q2; exact q2
      refine px_to_L (L := [some (.ref (177)), some (.ref (jb)), some (.ref (a)), some (.ref (od)), some (.int (nI rs)), some (.int (nI i)), some (.int (nI pl)), none]) ⟨Or.inr rfl, Or.inr rfl, Or.inr rfl, Or.inr rfl, Or.inr rfl, Or.inr rfl, Or.inr rfl, Or.inl rfl, trivial⟩ ?_
      subst ey
      exact kx g G0 G1 G2 G3 G4 G5 G6 frg
    · skip
      have c_74 : q < i := cv_nle (by omega) (by omega) c_74
      refine e_aload_n f_48_77 rfl rfl ?_
      refine e_getf f_48_78 G0 rfl rfl ?_
      refine e_bipush (v := (-3)) f_48_81 (by decide) rfl ?_
      refine e_icmp_ne f_48_83 rfl (fun c_83 => ?_) (fun c_83 => ?_)
      · skip
        obtain ⟨zq, hz⟩ := oI_ne c_83
        have ey : s = y := by
          rw [redoL_z (by rw [hz]; exact fun z => nomatch z)] at q2; exact q2
        refine px_to_L (L := [some (.ref (177)), some (.ref (jb)), some (.ref (a)), some (.ref (od)), some (.int (nI rs)), some (.int (nI i)), some (.int (nI pl)), none]) ⟨Or.inr rfl, Or.inr rfl, Or.inr rfl, Or.inr rfl, Or.inr rfl, Or.inr rfl, Or.inr rfl, Or.inl rfl, trivial⟩ ?_
        subst ey
        exact kx g G0 G1 G2 G3 G4 G5 G6 frg
      · skip
        have hz : s.1.2.2.2.2 = none := oI_z (Classical.not_not.mp c_83) q3.1.2.2.2.1
        have hpl : ps.getD q 0 < ev.length := p4 _ (getD_mem 0 (by omega))
        have hev : okEv (ev.getD (ps.getD q 0) (0, 0, 0, 0)) := p5 _ (getD_mem (0, 0, 0, 0) hpl)
        have hsg := hev.1
        have hgq : ((evs ev ps).take i).getD q (0, 0, 0, 0) = ev.getD (ps.getD q 0) (0, 0, 0, 0) := by rw [← evs_get (show q < ps.length by omega), List.getD_eq_getElem?_getD, List.getElem?_take, if_pos (by omega), List.getD_eq_getElem?_getD]
        have hst : ((evs ev ps).take i).drop q = ev.getD (ps.getD q 0) (0, 0, 0, 0) :: ((evs ev ps).take i).drop (q + 1) := by rw [← hgq]; exact drop_step _ (by rw [List.length_take, evs_len]; omega)
        refine e_aload_n f_48_86 rfl rfl ?_
        have g1 : pCase g a ev told os ks kept ck un := pCase_fi HC frg (by omega)
        refine e_getf f_48_87 g1.1 rfl rfl ?_
        refine e_aload_n f_48_90 rfl rfl ?_
        have g2 : pOrd g od ps := pOrd_fi HO frg (by omega)
        refine e_getf f_48_91 g2.1 rfl rfl ?_
        refine e_iload f_48_94 rfl rfl ?_
        refine e_iaload_p (xs := ps) f_48_96 g2.2 (d := 0) (by first | omega | (simp only [List.length_set]; omega)) rfl ?_
        show px_to 48 97 [some (.ref (177)), some (.ref (jb)), some (.ref (a)), some (.ref (od)), some (.int (nI rs)), some (.int (nI i)), some (.int (nI pl)), some (.int (nI q))] [.int (nI (ps.getD q 0)), .ref (a + 1)] g _
        refine e_iaload_p (xs := ev) f_48_97 g1.2.1 (d := (0, 0, 0, 0)) (by first | omega | (simp only [List.length_set]; omega)) rfl ?_
        show px_to 48 98 [some (.ref (177)), some (.ref (jb)), some (.ref (a)), some (.ref (od)), some (.int (nI rs)), some (.int (nI i)), some (.int (nI pl)), some (.int (nI q))] [.int (nI ((ev.getD (ps.getD q 0) (0, 0, 0, 0)).1))] g _
        refine e_bipush (v := nI 120) f_48_98 (by decide) rfl ?_
        refine e_icmp_eq f_48_100 rfl (fun c_100 => ?_) (fun c_100 => ?_)
        · skip
          have c_100 : (ev.getD (ps.getD q 0) (0, 0, 0, 0)).1 = 120 := cv_eq (by omega) (by omega) c_100
          refine e_iinc (y := nI (q + 1)) (L' := [some (.ref (177)), some (.ref (jb)), some (.ref (a)), some (.ref (od)), some (.int (nI rs)), some (.int (nI i)), some (.int (nI pl)), some (.int (nI (q + 1)))]) f_48_115 rfl (by rw [show Int32.ofInt 1 = nI 1 by decide]; exact (nI_add _ _)) rfl rfl ?_
          refine e_goto f_48_118 ?_
          first | (exfalso; omega) | exact ih (d - 1) (by omega) (q + 1) s g (by omega) (by omega) (by rw [hst, redoL, if_pos hz, if_pos c_100] at q2; exact q2) (q3) G0 G1 G2 G3 G4 G5 G6 frg
        · skip
          have c_100 : (ev.getD (ps.getD q 0) (0, 0, 0, 0)).1 ≠ 120 := cv_ne c_100
          refine e_aload_n f_48_103 rfl rfl ?_
          refine e_aload_n f_48_104 rfl rfl ?_
          refine e_aload_n f_48_105 rfl rfl ?_
          refine e_getf f_48_106 g2.1 rfl rfl ?_
          refine e_iload f_48_109 rfl rfl ?_
          refine e_iaload_p (xs := ps) f_48_111 g2.2 (d := 0) (by first | omega | (simp only [List.length_set]; omega)) rfl ?_
          show px_to 48 112 [some (.ref (177)), some (.ref (jb)), some (.ref (a)), some (.ref (od)), some (.int (nI rs)), some (.int (nI i)), some (.int (nI pl)), some (.int (nI q))] [.int (nI (ps.getD q 0)), .ref (a), .ref (177)] g _
          have g3 : pJob g jb j := pJob_fi HJ frg (by omega)
          refine e_callV (As := [.ref (a), .int (nI (ps.getD q 0))]) (rest := []) f_48_112 rfl rfl rfl (Nat.le_of_ble_eq_true rfl) (Nat.le_of_ble_eq_true rfl) G0 rfl (Nat.le_of_ble_eq_true rfl) (cc_Run_doEv (p := ps.getD q 0) (j := j) (jb := jb) (la := (lks false (evs ev ps))) (lb := (lks true (evs ev ps))) (wo := (-3)) (s := s) (a := a) (ev := ev) (told := told) (os := os) (ks := ks) (kept := kept) (ck := ck) (un := un) G0 G1 G2 G3 G4 G5 G6 g3 g1 (by omega) (by omega) (by omega) (by omega) (hpl) (hev) (hz)) rfl (fun h4 r5 q6 => ?_)
          obtain ⟨rfl, g7, g8, g9, g10, g11, g12, g13, fx14⟩ := q6
          have fr15 : px_fi 177 72 h0 h4 := fi_tr frg fx14 (by omega)
          show px_to 48 115 [some (.ref (177)), some (.ref (jb)), some (.ref (a)), some (.ref (od)), some (.int (nI rs)), some (.int (nI i)), some (.int (nI pl)), some (.int (nI q))] [] h4 _
          refine e_iinc (y := nI (q + 1)) (L' := [some (.ref (177)), some (.ref (jb)), some (.ref (a)), some (.ref (od)), some (.int (nI rs)), some (.int (nI i)), some (.int (nI pl)), some (.int (nI (q + 1)))]) f_48_115 rfl (by rw [show Int32.ofInt 1 = nI 1 by decide]; exact (nI_add _ _)) rfl rfl ?_
          refine e_goto f_48_118 ?_
          first | (exfalso; omega) | exact ih (d - 1) (by omega) (q + 1) (doEv j (lks false (evs ev ps)) (lks true (evs ev ps)) (ev.getD (ps.getD q 0) (0, 0, 0, 0)) s) h4 (by omega) (by omega) (by rw [hst, redoL, if_pos hz, if_neg c_100] at q2; exact q2) (doEv_ok p0 hev q3) g7 g8 g9 g10 g11 g12 g13 fr15

set_option maxRecDepth 20000 in
set_option maxHeartbeats 4000000 in
theorem ll_Run_perf {h0 : px_H} {od : Nat} {ps : List Nat} {j : List St} {jb : Nat} {a : Nat} {ev : List Ev} {told : List Row} {os : Nat} {ks : Int32} {kept : List Nat} {ck : Nat} {un : List Nat} {y : RS} (HJ : pJob h0 jb j) (HC : pCase h0 a ev told os ks kept ck un) (HO : pOrd h0 od ps) (p0 : okJ j) (p1 : jb + 4 ≤ 177 ∨ 249 ≤ jb) (p2 : a + 9 ≤ 177 ∨ 249 ≤ a) (p3 : od + 2 ≤ 177 ∨ 249 ≤ od) (p4 : ∀ p ∈ ps, p < ev.length) (p5 : ∀ e ∈ ev, okEv e) : ∀ (d : Nat) (i : Nat) (rs : Nat) (s : RS) (g : px_H), (ps.length ≤ i + d) → (i ≤ ps.length) → (rs ≤ i) → (perfL j (lks false (evs ev ps)) (lks true (evs ev ps)) ((evs ev ps).drop i) (((evs ev ps).take i).drop rs) s = y) → (okR j s) → g.2.2 177 = some (6, [.ref (jb), .ref (182), .ref (214), .ref (246), .int (nI s.2.2.1), .int (bI (lks false (evs ev ps))), .int (bI (lks true (evs ev ps))), .int (oI s.1.2.2.2.2), .int (s.2.2.2.2), .int ((-3)), .ref (248)]) → g.2.2 182 = some (2, [.int (s.2.1.1), .int (s.2.1.2.1), .int (s.2.1.2.2), .int (s.1.1), .ref (183)]) → px_rs g 183 55 6 (fun k => 182 + 5 * k + 2) → pSt g 182 s.1.2.1 → pRows g 246 96 s.1.2.2.1 → px_pa g 248 50 30 Value.int s.1.2.2.2.1 → pMm g 214 s.2.2.2.1.1 s.2.2.2.1.2.1 s.2.2.2.1.2.2.1 s.2.2.2.1.2.2.2.1 s.2.2.2.1.2.2.2.2 → px_fi 177 72 h0 g → px_to 48 13 [some (.ref (177)), some (.ref (jb)), some (.ref (a)), some (.ref (od)), some (.int (nI rs)), some (.int (nI i)), none, none] [] g (fun h1 r => r = none ∧ h1.2.2 177 = some (6, [.ref (jb), .ref (182), .ref (214), .ref (246), .int (nI ((cutS (lastS j y)).2.2.1)), .int (bI (lks false (evs ev ps))), .int (bI (lks true (evs ev ps))), .int (oI ((cutS (lastS j y)).1.2.2.2.2)), .int ((cutS (lastS j y)).2.2.2.2), .int ((-3)), .ref (248)]) ∧ h1.2.2 182 = some (2, [.int ((cutS (lastS j y)).2.1.1), .int ((cutS (lastS j y)).2.1.2.1), .int ((cutS (lastS j y)).2.1.2.2), .int ((cutS (lastS j y)).1.1), .ref (183)]) ∧ px_rs h1 183 55 6 (fun k => 182 + 5 * k + 2) ∧ pSt h1 182 ((cutS (lastS j y)).1.2.1) ∧ pRows h1 246 96 ((cutS (lastS j y)).1.2.2.1) ∧ px_pa h1 248 50 30 Value.int ((cutS (lastS j y)).1.2.2.2.1) ∧ pMm h1 214 ((cutS (lastS j y)).2.2.2.1.1) ((cutS (lastS j y)).2.2.2.1.2.1) ((cutS (lastS j y)).2.2.2.1.2.2.1) ((cutS (lastS j y)).2.2.2.1.2.2.2.1) ((cutS (lastS j y)).2.2.2.1.2.2.2.2) ∧ px_fi 177 72 h0 h1) := by
  intro d
  induction d using Nat.strongRecOn with
  | ind d ih =>
    intro i rs s g q0 q1 q2 q3 q4 G0 G1 G2 G3 G4 G5 G6 frg
    have lj := p0.1
    have lps := pa_len HO.2
    have lev := pa_len HC.2.1
    have okevs : ∀ x ∈ evs ev ps, okEv x := fun x hx => by unfold evs at hx; rw [List.mem_map] at hx; obtain ⟨p, hp, rfl⟩ := hx; exact p5 _ (getD_mem _ (p4 p hp))
    refine e_iload f_48_13 rfl rfl ?_
    refine e_aload_n f_48_15 rfl rfl ?_
    have g1 : pOrd g od ps := pOrd_fi HO frg (by omega)
    refine e_getf f_48_16 g1.1 rfl rfl ?_
    refine e_icmp_ge f_48_19 rfl (fun c_19 => ?_) (fun c_19 => ?_)
    · skip
      have c_19 : ps.length ≤ i := cv_le (by omega) (by omega) c_19
      have ey : s = y := by
        rw [List.drop_eq_nil_of_le (by rw [evs_len]; omega), perfL] at q3; exact q3
      subst ey
      refine e_aload_n f_48_160 rfl rfl ?_
      refine e_getf f_48_161 G0 rfl rfl ?_
      refine e_bipush (v := (-3)) f_48_164 (by decide) rfl ?_
      refine e_icmp_ne f_48_166 rfl (fun c_166 => ?_) (fun c_166 => ?_)
      · skip
        obtain ⟨zq, hz2⟩ := oI_ne c_166
        have el : lastS j s = s := by unfold lastS; rw [if_neg (by rw [hz2]; exact fun z => nomatch z)]
        refine e_aload_n f_48_176 rfl rfl ?_
        refine e_getf f_48_177 G0 rfl rfl ?_
        refine e_bipush (v := (-3)) f_48_180 (by decide) rfl ?_
        refine e_icmp_ne f_48_182 rfl (fun c_182 => ?_) (fun c_182 => ?_)
        · skip
          have ok2 : okR j s := by rw [← el]; exact lastS_ok p0 q4
          obtain ⟨zq2, hz3⟩ := oI_ne c_182
          have eg : gvS s = s.2.2.1 := by unfold gvS; rw [if_neg (by rw [hz3]; exact fun z => nomatch z)]
          refine e_aload_n f_48_196 rfl rfl ?_
          refine e_getf f_48_197 G0 rfl rfl ?_
          refine e_aload_n f_48_200 rfl rfl ?_
          refine e_getf f_48_201 G0 rfl rfl ?_
          refine e_callV (As := [.int (nI s.2.2.1)]) (rest := []) f_48_204 rfl rfl rfl (Nat.le_of_ble_eq_true rfl) (Nat.le_of_ble_eq_true rfl) G4.1 rfl (Nat.le_of_ble_eq_true rfl) (cc_Rows_cutTo (a := 246) (cap := 96) (k := s.2.2.1) (rs := s.1.2.2.1) G4 (by first | exact Nat.lt_of_le_of_lt ok2.2.2.1 (by decide) | exact Nat.lt_of_le_of_lt ok2.1.2.2.2.2 (by decide))) rfl (fun h2 r3 q4 => ?_)
          obtain ⟨rfl, g5, fx6⟩ := q4
          have fr7 : px_fi 177 72 h0 h2 := fi_tr frg fx6 (by omega)
          show px_to 48 207 [some (.ref (177)), some (.ref (jb)), some (.ref (a)), some (.ref (od)), some (.int (nI rs)), some (.int (nI i)), none, none] [] h2 _
          refine e_vret f_48_207 rfl ?_
          have g8 : h2.2.2 177 = some (6, [.ref (jb), .ref (182), .ref (214), .ref (246), .int (nI s.2.2.1), .int (bI (lks false (evs ev ps))), .int (bI (lks true (evs ev ps))), .int (oI s.1.2.2.2.2), .int (s.2.2.2.2), .int ((-3)), .ref (248)]) := fi_at G0 fx6 (by omega)
          have g9 : h2.2.2 182 = some (2, [.int (s.2.1.1), .int (s.2.1.2.1), .int (s.2.1.2.2), .int (s.1.1), .ref (183)]) := fi_at G1 fx6 (by omega)
          have g10 : px_rs h2 183 55 6 (fun k => 182 + 5 * k + 2) := rs_fi G2 fx6 (by omega)
          have g11 : pSt h2 182 s.1.2.1 := pSt_fi G3 fx6 (by omega)
          have g12 : px_pa h2 248 50 30 Value.int s.1.2.2.2.1 := pa_fi G5 fx6 (by omega)
          have g13 : pMm h2 214 s.2.2.2.1.1 s.2.2.2.1.2.1 s.2.2.2.1.2.2.1 s.2.2.2.1.2.2.2.1 s.2.2.2.1.2.2.2.2 := pMm_fi G6 fx6 (by omega)
          have ec : cutS (lastS j s) = ((s.1.1, s.1.2.1, s.1.2.2.1.take (s.2.2.1), s.1.2.2.2.1, s.1.2.2.2.2), s.2.1, s.2.2.1, s.2.2.2.1, s.2.2.2.2) := by rw [el]; unfold cutS; rw [eg]
          rw [ec]
          exact ⟨rfl, g8, g9, g10, g11, g5, g12, g13, fr7⟩
        · skip
          have ok2 : okR j s := by rw [← el]; exact lastS_ok p0 q4
          have hz3 : s.1.2.2.2.2 = none := oI_z (Classical.not_not.mp c_182) ok2.1.2.2.2.1
          have eg : gvS s = s.1.2.2.1.length := by unfold gvS; rw [if_pos hz3]
          refine e_aload_n f_48_185 rfl rfl ?_
          refine e_aload_n f_48_186 rfl rfl ?_
          refine e_getf f_48_187 G0 rfl rfl ?_
          refine e_getf f_48_190 G4.1 rfl rfl ?_
          refine e_putp (vs' := [.ref (jb), .ref (182), .ref (214), .ref (246), .int (nI s.1.2.2.1.length), .int (bI (lks false (evs ev ps))), .int (bI (lks true (evs ev ps))), .int (oI s.1.2.2.2.2), .int (s.2.2.2.2), .int ((-3)), .ref (248)]) f_48_193 G0 (Nat.le_of_ble_eq_true rfl) (rfl) (rfl) rfl rfl (fun h14 g15 fx16 => ?_)
          have fr17 : px_fi 177 72 h0 h14 := fi_tr frg fx16 (by omega)
          refine e_aload_n f_48_196 rfl rfl ?_
          refine e_getf f_48_197 g15 rfl rfl ?_
          refine e_aload_n f_48_200 rfl rfl ?_
          refine e_getf f_48_201 g15 rfl rfl ?_
          have g18 : pRows h14 246 96 s.1.2.2.1 := pRows_fi G4 fx16 (by omega)
          refine e_callV (As := [.int (nI s.1.2.2.1.length)]) (rest := []) f_48_204 rfl rfl rfl (Nat.le_of_ble_eq_true rfl) (Nat.le_of_ble_eq_true rfl) g18.1 rfl (Nat.le_of_ble_eq_true rfl) (cc_Rows_cutTo (a := 246) (cap := 96) (k := s.1.2.2.1.length) (rs := s.1.2.2.1) g18 (by first | exact Nat.lt_of_le_of_lt ok2.2.2.1 (by decide) | exact Nat.lt_of_le_of_lt ok2.1.2.2.2.2 (by decide))) rfl (fun h19 r20 q21 => ?_)
          obtain ⟨rfl, g22, fx23⟩ := q21
          have fr24 : px_fi 177 72 h0 h19 := fi_tr fr17 fx23 (by omega)
          show px_to 48 207 [some (.ref (177)), some (.ref (jb)), some (.ref (a)), some (.ref (od)), some (.int (nI rs)), some (.int (nI i)), none, none] [] h19 _
          refine e_vret f_48_207 rfl ?_
          have g25 : h19.2.2 177 = some (6, [.ref (jb), .ref (182), .ref (214), .ref (246), .int (nI s.1.2.2.1.length), .int (bI (lks false (evs ev ps))), .int (bI (lks true (evs ev ps))), .int (oI s.1.2.2.2.2), .int (s.2.2.2.2), .int ((-3)), .ref (248)]) := fi_at g15 fx23 (by omega)
          have g26 : h14.2.2 182 = some (2, [.int (s.2.1.1), .int (s.2.1.2.1), .int (s.2.1.2.2), .int (s.1.1), .ref (183)]) := fi_at G1 fx16 (by omega)
          have g27 : h19.2.2 182 = some (2, [.int (s.2.1.1), .int (s.2.1.2.1), .int (s.2.1.2.2), .int (s.1.1), .ref (183)]) := fi_at g26 fx23 (by omega)
          have g28 : px_rs h14 183 55 6 (fun k => 182 + 5 * k + 2) := rs_fi G2 fx16 (by omega)
          have g29 : px_rs h19 183 55 6 (fun k => 182 + 5 * k + 2) := rs_fi g28 fx23 (by omega)
          have g30 : pSt h14 182 s.1.2.1 := pSt_fi G3 fx16 (by omega)
          have g31 : pSt h19 182 s.1.2.1 := pSt_fi g30 fx23 (by omega)
          have g32 : px_pa h14 248 50 30 Value.int s.1.2.2.2.1 := pa_fi G5 fx16 (by omega)
          have g33 : px_pa h19 248 50 30 Value.int s.1.2.2.2.1 := pa_fi g32 fx23 (by omega)
          have g34 : pMm h14 214 s.2.2.2.1.1 s.2.2.2.1.2.1 s.2.2.2.1.2.2.1 s.2.2.2.1.2.2.2.1 s.2.2.2.1.2.2.2.2 := pMm_fi G6 fx16 (by omega)
          have g35 : pMm h19 214 s.2.2.2.1.1 s.2.2.2.1.2.1 s.2.2.2.1.2.2.1 s.2.2.2.1.2.2.2.1 s.2.2.2.1.2.2.2.2 := pMm_fi g34 fx23 (by omega)
          have ec : cutS (lastS j s) = ((s.1.1, s.1.2.1, s.1.2.2.1.take (s.1.2.2.1.length), s.1.2.2.2.1, s.1.2.2.2.2), s.2.1, s.1.2.2.1.length, s.2.2.2.1, s.2.2.2.2) := by rw [el]; unfold cutS; rw [eg]
          rw [ec]
          exact ⟨rfl, g25, g27, g29, g31, g22, g33, g35, fr24⟩
      · skip
        have hz2 : s.1.2.2.2.2 = none := oI_z (Classical.not_not.mp c_166) q4.1.2.2.2.1
        have el : lastS j s = (tellGo j 5000 7 0 s.1, (s.2.1.1, s.2.1.2.1, nI 5000), s.2.2.1, s.2.2.2.1, s.2.2.2.2) := by unfold lastS; rw [if_pos hz2]
        refine e_aload_n f_48_169 rfl rfl ?_
        refine e_sipush (v := nI 5000) f_48_170 (by decide) rfl ?_
        have g36 : pJob g jb j := pJob_fi HJ frg (by omega)
        refine e_callV (As := [.int (nI 5000)]) (rest := []) f_48_173 rfl rfl rfl (Nat.le_of_ble_eq_true rfl) (Nat.le_of_ble_eq_true rfl) G0 rfl (Nat.le_of_ble_eq_true rfl) (cc_Run_tell (w := 5000) (j := j) (jb := jb) (gv := s.2.2.1) (la := (lks false (evs ev ps))) (lb := (lks true (evs ev ps))) (dn := s.2.2.2.2) (wo := (-3)) (A := s.2.1.1) (B := s.2.1.2.1) (W := s.2.1.2.2) (x := s.1) (A3 := s.2.2.2.1.1) (B3 := s.2.2.2.1.2.1) (W3 := s.2.2.2.1.2.2.1) (S3 := s.2.2.2.1.2.2.2.1) (sm3 := s.2.2.2.1.2.2.2.2) G0 G1 G2 G3 G4 G5 G6 g36 (by omega) (q4.1) (by omega) (by omega)) rfl (fun h37 r38 q39 => ?_)
        obtain ⟨rfl, g40, g41, g42, g43, g44, g45, g46, fx47⟩ := q39
        have fr48 : px_fi 177 72 h0 h37 := fi_tr frg fx47 (by omega)
        show px_to 48 176 [some (.ref (177)), some (.ref (jb)), some (.ref (a)), some (.ref (od)), some (.int (nI rs)), some (.int (nI i)), none, none] [] h37 _
        refine e_aload_n f_48_176 rfl rfl ?_
        refine e_getf f_48_177 g40 rfl rfl ?_
        refine e_bipush (v := (-3)) f_48_180 (by decide) rfl ?_
        refine e_icmp_ne f_48_182 rfl (fun c_182 => ?_) (fun c_182 => ?_)
        · skip
          have ok2 : okR j (tellGo j 5000 7 0 s.1, (s.2.1.1, s.2.1.2.1, nI 5000), s.2.2.1, s.2.2.2.1, s.2.2.2.2) := by rw [← el]; exact lastS_ok p0 q4
          obtain ⟨zq2, hz3⟩ := oI_ne c_182
          have eg : gvS (tellGo j 5000 7 0 s.1, (s.2.1.1, s.2.1.2.1, nI 5000), s.2.2.1, s.2.2.2.1, s.2.2.2.2) = (tellGo j 5000 7 0 s.1, (s.2.1.1, s.2.1.2.1, nI 5000), s.2.2.1, s.2.2.2.1, s.2.2.2.2).2.2.1 := by unfold gvS; rw [if_neg (by rw [hz3]; exact fun z => nomatch z)]
          refine e_aload_n f_48_196 rfl rfl ?_
          refine e_getf f_48_197 g40 rfl rfl ?_
          refine e_aload_n f_48_200 rfl rfl ?_
          refine e_getf f_48_201 g40 rfl rfl ?_
          refine e_callV (As := [.int (nI s.2.2.1)]) (rest := []) f_48_204 rfl rfl rfl (Nat.le_of_ble_eq_true rfl) (Nat.le_of_ble_eq_true rfl) g44.1 rfl (Nat.le_of_ble_eq_true rfl) (cc_Rows_cutTo (a := 246) (cap := 96) (k := s.2.2.1) (rs := (tellGo j 5000 7 0 s.1).2.2.1) g44 (by first | exact Nat.lt_of_le_of_lt ok2.2.2.1 (by decide) | exact Nat.lt_of_le_of_lt ok2.1.2.2.2.2 (by decide))) rfl (fun h49 r50 q51 => ?_)
          obtain ⟨rfl, g52, fx53⟩ := q51
          have fr54 : px_fi 177 72 h0 h49 := fi_tr fr48 fx53 (by omega)
          show px_to 48 207 [some (.ref (177)), some (.ref (jb)), some (.ref (a)), some (.ref (od)), some (.int (nI rs)), some (.int (nI i)), none, none] [] h49 _
          refine e_vret f_48_207 rfl ?_
          have g55 : h49.2.2 177 = some (6, [.ref (jb), .ref (182), .ref (214), .ref (246), .int (nI s.2.2.1), .int (bI (lks false (evs ev ps))), .int (bI (lks true (evs ev ps))), .int (oI ((tellGo j 5000 7 0 s.1).2.2.2.2)), .int (s.2.2.2.2), .int ((-3)), .ref (248)]) := fi_at g40 fx53 (by omega)
          have g56 : h49.2.2 182 = some (2, [.int (s.2.1.1), .int (s.2.1.2.1), .int (nI 5000), .int ((tellGo j 5000 7 0 s.1).1), .ref (183)]) := fi_at g41 fx53 (by omega)
          have g57 : px_rs h49 183 55 6 (fun k => 182 + 5 * k + 2) := rs_fi g42 fx53 (by omega)
          have g58 : pSt h49 182 ((tellGo j 5000 7 0 s.1).2.1) := pSt_fi g43 fx53 (by omega)
          have g59 : px_pa h49 248 50 30 Value.int ((tellGo j 5000 7 0 s.1).2.2.2.1) := pa_fi g45 fx53 (by omega)
          have g60 : pMm h49 214 s.2.2.2.1.1 s.2.2.2.1.2.1 s.2.2.2.1.2.2.1 s.2.2.2.1.2.2.2.1 s.2.2.2.1.2.2.2.2 := pMm_fi g46 fx53 (by omega)
          have ec : cutS (lastS j s) = (((tellGo j 5000 7 0 s.1, (s.2.1.1, s.2.1.2.1, nI 5000), s.2.2.1, s.2.2.2.1, s.2.2.2.2).1.1, (tellGo j 5000 7 0 s.1, (s.2.1.1, s.2.1.2.1, nI 5000), s.2.2.1, s.2.2.2.1, s.2.2.2.2).1.2.1, (tellGo j 5000 7 0 s.1, (s.2.1.1, s.2.1.2.1, nI 5000), s.2.2.1, s.2.2.2.1, s.2.2.2.2).1.2.2.1.take ((tellGo j 5000 7 0 s.1, (s.2.1.1, s.2.1.2.1, nI 5000), s.2.2.1, s.2.2.2.1, s.2.2.2.2).2.2.1), (tellGo j 5000 7 0 s.1, (s.2.1.1, s.2.1.2.1, nI 5000), s.2.2.1, s.2.2.2.1, s.2.2.2.2).1.2.2.2.1, (tellGo j 5000 7 0 s.1, (s.2.1.1, s.2.1.2.1, nI 5000), s.2.2.1, s.2.2.2.1, s.2.2.2.2).1.2.2.2.2), (tellGo j 5000 7 0 s.1, (s.2.1.1, s.2.1.2.1, nI 5000), s.2.2.1, s.2.2.2.1, s.2.2.2.2).2.1, (tellGo j 5000 7 0 s.1, (s.2.1.1, s.2.1.2.1, nI 5000), s.2.2.1, s.2.2.2.1, s.2.2.2.2).2.2.1, (tellGo j 5000 7 0 s.1, (s.2.1.1, s.2.1.2.1, nI 5000), s.2.2.1, s.2.2.2.1, s.2.2.2.2).2.2.2.1, (tellGo j 5000 7 0 s.1, (s.2.1.1, s.2.1.2.1, nI 5000), s.2.2.1, s.2.2.2.1, s.2.2.2.2).2.2.2.2) := by rw [el]; unfold cutS; rw [eg]
          rw [ec]
          exact ⟨rfl, g55, g56, g57, g58, g52, g59, g60, fr54⟩
        · skip
          have ok2 : okR j (tellGo j 5000 7 0 s.1, (s.2.1.1, s.2.1.2.1, nI 5000), s.2.2.1, s.2.2.2.1, s.2.2.2.2) := by rw [← el]; exact lastS_ok p0 q4
          have hz3 : (tellGo j 5000 7 0 s.1, (s.2.1.1, s.2.1.2.1, nI 5000), s.2.2.1, s.2.2.2.1, s.2.2.2.2).1.2.2.2.2 = none := oI_z (Classical.not_not.mp c_182) ok2.1.2.2.2.1
          have eg : gvS (tellGo j 5000 7 0 s.1, (s.2.1.1, s.2.1.2.1, nI 5000), s.2.2.1, s.2.2.2.1, s.2.2.2.2) = (tellGo j 5000 7 0 s.1, (s.2.1.1, s.2.1.2.1, nI 5000), s.2.2.1, s.2.2.2.1, s.2.2.2.2).1.2.2.1.length := by unfold gvS; rw [if_pos hz3]
          refine e_aload_n f_48_185 rfl rfl ?_
          refine e_aload_n f_48_186 rfl rfl ?_
          refine e_getf f_48_187 g40 rfl rfl ?_
          refine e_getf f_48_190 g44.1 rfl rfl ?_
          refine e_putp (vs' := [.ref (jb), .ref (182), .ref (214), .ref (246), .int (nI (((tellGo j 5000 7 0 s.1).2.2.1).length)), .int (bI (lks false (evs ev ps))), .int (bI (lks true (evs ev ps))), .int (oI ((tellGo j 5000 7 0 s.1).2.2.2.2)), .int (s.2.2.2.2), .int ((-3)), .ref (248)]) f_48_193 g40 (Nat.le_of_ble_eq_true rfl) (rfl) (rfl) rfl rfl (fun h61 g62 fx63 => ?_)
          have fr64 : px_fi 177 72 h0 h61 := fi_tr fr48 fx63 (by omega)
          refine e_aload_n f_48_196 rfl rfl ?_
          refine e_getf f_48_197 g62 rfl rfl ?_
          refine e_aload_n f_48_200 rfl rfl ?_
          refine e_getf f_48_201 g62 rfl rfl ?_
          have g65 : pRows h61 246 96 ((tellGo j 5000 7 0 s.1).2.2.1) := pRows_fi g44 fx63 (by omega)
          refine e_callV (As := [.int (nI (((tellGo j 5000 7 0 s.1).2.2.1).length))]) (rest := []) f_48_204 rfl rfl rfl (Nat.le_of_ble_eq_true rfl) (Nat.le_of_ble_eq_true rfl) g65.1 rfl (Nat.le_of_ble_eq_true rfl) (cc_Rows_cutTo (a := 246) (cap := 96) (k := ((tellGo j 5000 7 0 s.1).2.2.1).length) (rs := (tellGo j 5000 7 0 s.1).2.2.1) g65 (by first | exact Nat.lt_of_le_of_lt ok2.2.2.1 (by decide) | exact Nat.lt_of_le_of_lt ok2.1.2.2.2.2 (by decide))) rfl (fun h66 r67 q68 => ?_)
          obtain ⟨rfl, g69, fx70⟩ := q68
          have fr71 : px_fi 177 72 h0 h66 := fi_tr fr64 fx70 (by omega)
          show px_to 48 207 [some (.ref (177)), some (.ref (jb)), some (.ref (a)), some (.ref (od)), some (.int (nI rs)), some (.int (nI i)), none, none] [] h66 _
          refine e_vret f_48_207 rfl ?_
          have g72 : h66.2.2 177 = some (6, [.ref (jb), .ref (182), .ref (214), .ref (246), .int (nI (((tellGo j 5000 7 0 s.1).2.2.1).length)), .int (bI (lks false (evs ev ps))), .int (bI (lks true (evs ev ps))), .int (oI ((tellGo j 5000 7 0 s.1).2.2.2.2)), .int (s.2.2.2.2), .int ((-3)), .ref (248)]) := fi_at g62 fx70 (by omega)
          have g73 : h61.2.2 182 = some (2, [.int (s.2.1.1), .int (s.2.1.2.1), .int (nI 5000), .int ((tellGo j 5000 7 0 s.1).1), .ref (183)]) := fi_at g41 fx63 (by omega)
          have g74 : h66.2.2 182 = some (2, [.int (s.2.1.1), .int (s.2.1.2.1), .int (nI 5000), .int ((tellGo j 5000 7 0 s.1).1), .ref (183)]) := fi_at g73 fx70 (by omega)
          have g75 : px_rs h61 183 55 6 (fun k => 182 + 5 * k + 2) := rs_fi g42 fx63 (by omega)
          have g76 : px_rs h66 183 55 6 (fun k => 182 + 5 * k + 2) := rs_fi g75 fx70 (by omega)
          have g77 : pSt h61 182 ((tellGo j 5000 7 0 s.1).2.1) := pSt_fi g43 fx63 (by omega)
          have g78 : pSt h66 182 ((tellGo j 5000 7 0 s.1).2.1) := pSt_fi g77 fx70 (by omega)
          have g79 : px_pa h61 248 50 30 Value.int ((tellGo j 5000 7 0 s.1).2.2.2.1) := pa_fi g45 fx63 (by omega)
          have g80 : px_pa h66 248 50 30 Value.int ((tellGo j 5000 7 0 s.1).2.2.2.1) := pa_fi g79 fx70 (by omega)
          have g81 : pMm h61 214 s.2.2.2.1.1 s.2.2.2.1.2.1 s.2.2.2.1.2.2.1 s.2.2.2.1.2.2.2.1 s.2.2.2.1.2.2.2.2 := pMm_fi g46 fx63 (by omega)
          have g82 : pMm h66 214 s.2.2.2.1.1 s.2.2.2.1.2.1 s.2.2.2.1.2.2.1 s.2.2.2.1.2.2.2.1 s.2.2.2.1.2.2.2.2 := pMm_fi g81 fx70 (by omega)
          have ec : cutS (lastS j s) = (((tellGo j 5000 7 0 s.1, (s.2.1.1, s.2.1.2.1, nI 5000), s.2.2.1, s.2.2.2.1, s.2.2.2.2).1.1, (tellGo j 5000 7 0 s.1, (s.2.1.1, s.2.1.2.1, nI 5000), s.2.2.1, s.2.2.2.1, s.2.2.2.2).1.2.1, (tellGo j 5000 7 0 s.1, (s.2.1.1, s.2.1.2.1, nI 5000), s.2.2.1, s.2.2.2.1, s.2.2.2.2).1.2.2.1.take ((tellGo j 5000 7 0 s.1, (s.2.1.1, s.2.1.2.1, nI 5000), s.2.2.1, s.2.2.2.1, s.2.2.2.2).1.2.2.1.length), (tellGo j 5000 7 0 s.1, (s.2.1.1, s.2.1.2.1, nI 5000), s.2.2.1, s.2.2.2.1, s.2.2.2.2).1.2.2.2.1, (tellGo j 5000 7 0 s.1, (s.2.1.1, s.2.1.2.1, nI 5000), s.2.2.1, s.2.2.2.1, s.2.2.2.2).1.2.2.2.2), (tellGo j 5000 7 0 s.1, (s.2.1.1, s.2.1.2.1, nI 5000), s.2.2.1, s.2.2.2.1, s.2.2.2.2).2.1, (tellGo j 5000 7 0 s.1, (s.2.1.1, s.2.1.2.1, nI 5000), s.2.2.1, s.2.2.2.1, s.2.2.2.2).1.2.2.1.length, (tellGo j 5000 7 0 s.1, (s.2.1.1, s.2.1.2.1, nI 5000), s.2.2.1, s.2.2.2.1, s.2.2.2.2).2.2.2.1, (tellGo j 5000 7 0 s.1, (s.2.1.1, s.2.1.2.1, nI 5000), s.2.2.1, s.2.2.2.1, s.2.2.2.2).2.2.2.2) := by rw [el]; unfold cutS; rw [eg]
          rw [ec]
          exact ⟨rfl, g72, g74, g76, g78, g69, g80, g82, fr71⟩
    · skip
      have c_19 : i < ps.length := cv_nle (by omega) (by omega) c_19
      refine e_aload_n f_48_22 rfl rfl ?_
      refine e_getf f_48_23 G0 rfl rfl ?_
      refine e_bipush (v := (-3)) f_48_26 (by decide) rfl ?_
      refine e_icmp_ne f_48_28 rfl (fun c_28 => ?_) (fun c_28 => ?_)
      · skip
        obtain ⟨zq, hz⟩ := oI_ne c_28
        have ey : s = y := by
          rw [perfL_z (by rw [hz]; exact fun z => nomatch z)] at q3; exact q3
        subst ey
        refine e_aload_n f_48_160 rfl rfl ?_
        refine e_getf f_48_161 G0 rfl rfl ?_
        refine e_bipush (v := (-3)) f_48_164 (by decide) rfl ?_
        refine e_icmp_ne f_48_166 rfl (fun c_166 => ?_) (fun c_166 => ?_)
        · skip
          obtain ⟨zq, hz2⟩ := oI_ne c_166
          have el : lastS j s = s := by unfold lastS; rw [if_neg (by rw [hz2]; exact fun z => nomatch z)]
          refine e_aload_n f_48_176 rfl rfl ?_
          refine e_getf f_48_177 G0 rfl rfl ?_
          refine e_bipush (v := (-3)) f_48_180 (by decide) rfl ?_
          refine e_icmp_ne f_48_182 rfl (fun c_182 => ?_) (fun c_182 => ?_)
          · skip
            have ok2 : okR j s := by rw [← el]; exact lastS_ok p0 q4
            obtain ⟨zq2, hz3⟩ := oI_ne c_182
            have eg : gvS s = s.2.2.1 := by unfold gvS; rw [if_neg (by rw [hz3]; exact fun z => nomatch z)]
            refine e_aload_n f_48_196 rfl rfl ?_
            refine e_getf f_48_197 G0 rfl rfl ?_
            refine e_aload_n f_48_200 rfl rfl ?_
            refine e_getf f_48_201 G0 rfl rfl ?_
            refine e_callV (As := [.int (nI s.2.2.1)]) (rest := []) f_48_204 rfl rfl rfl (Nat.le_of_ble_eq_true rfl) (Nat.le_of_ble_eq_true rfl) G4.1 rfl (Nat.le_of_ble_eq_true rfl) (cc_Rows_cutTo (a := 246) (cap := 96) (k := s.2.2.1) (rs := s.1.2.2.1) G4 (by first | exact Nat.lt_of_le_of_lt ok2.2.2.1 (by decide) | exact Nat.lt_of_le_of_lt ok2.1.2.2.2.2 (by decide))) rfl (fun h83 r84 q85 => ?_)
            obtain ⟨rfl, g86, fx87⟩ := q85
            have fr88 : px_fi 177 72 h0 h83 := fi_tr frg fx87 (by omega)
            show px_to 48 207 [some (.ref (177)), some (.ref (jb)), some (.ref (a)), some (.ref (od)), some (.int (nI rs)), some (.int (nI i)), none, none] [] h83 _
            refine e_vret f_48_207 rfl ?_
            have g89 : h83.2.2 177 = some (6, [.ref (jb), .ref (182), .ref (214), .ref (246), .int (nI s.2.2.1), .int (bI (lks false (evs ev ps))), .int (bI (lks true (evs ev ps))), .int (oI s.1.2.2.2.2), .int (s.2.2.2.2), .int ((-3)), .ref (248)]) := fi_at G0 fx87 (by omega)
            have g90 : h83.2.2 182 = some (2, [.int (s.2.1.1), .int (s.2.1.2.1), .int (s.2.1.2.2), .int (s.1.1), .ref (183)]) := fi_at G1 fx87 (by omega)
            have g91 : px_rs h83 183 55 6 (fun k => 182 + 5 * k + 2) := rs_fi G2 fx87 (by omega)
            have g92 : pSt h83 182 s.1.2.1 := pSt_fi G3 fx87 (by omega)
            have g93 : px_pa h83 248 50 30 Value.int s.1.2.2.2.1 := pa_fi G5 fx87 (by omega)
            have g94 : pMm h83 214 s.2.2.2.1.1 s.2.2.2.1.2.1 s.2.2.2.1.2.2.1 s.2.2.2.1.2.2.2.1 s.2.2.2.1.2.2.2.2 := pMm_fi G6 fx87 (by omega)
            have ec : cutS (lastS j s) = ((s.1.1, s.1.2.1, s.1.2.2.1.take (s.2.2.1), s.1.2.2.2.1, s.1.2.2.2.2), s.2.1, s.2.2.1, s.2.2.2.1, s.2.2.2.2) := by rw [el]; unfold cutS; rw [eg]
            rw [ec]
            exact ⟨rfl, g89, g90, g91, g92, g86, g93, g94, fr88⟩
          · skip
            have ok2 : okR j s := by rw [← el]; exact lastS_ok p0 q4
            have hz3 : s.1.2.2.2.2 = none := oI_z (Classical.not_not.mp c_182) ok2.1.2.2.2.1
            have eg : gvS s = s.1.2.2.1.length := by unfold gvS; rw [if_pos hz3]
            refine e_aload_n f_48_185 rfl rfl ?_
            refine e_aload_n f_48_186 rfl rfl ?_
            refine e_getf f_48_187 G0 rfl rfl ?_
            refine e_getf f_48_190 G4.1 rfl rfl ?_
            refine e_putp (vs' := [.ref (jb), .ref (182), .ref (214), .ref (246), .int (nI s.1.2.2.1.length), .int (bI (lks false (evs ev ps))), .int (bI (lks true (evs ev ps))), .int (oI s.1.2.2.2.2), .int (s.2.2.2.2), .int ((-3)), .ref (248)]) f_48_193 G0 (Nat.le_of_ble_eq_true rfl) (rfl) (rfl) rfl rfl (fun h95 g96 fx97 => ?_)
            have fr98 : px_fi 177 72 h0 h95 := fi_tr frg fx97 (by omega)
            refine e_aload_n f_48_196 rfl rfl ?_
            refine e_getf f_48_197 g96 rfl rfl ?_
            refine e_aload_n f_48_200 rfl rfl ?_
            refine e_getf f_48_201 g96 rfl rfl ?_
            have g99 : pRows h95 246 96 s.1.2.2.1 := pRows_fi G4 fx97 (by omega)
            refine e_callV (As := [.int (nI s.1.2.2.1.length)]) (rest := []) f_48_204 rfl rfl rfl (Nat.le_of_ble_eq_true rfl) (Nat.le_of_ble_eq_true rfl) g99.1 rfl (Nat.le_of_ble_eq_true rfl) (cc_Rows_cutTo (a := 246) (cap := 96) (k := s.1.2.2.1.length) (rs := s.1.2.2.1) g99 (by first | exact Nat.lt_of_le_of_lt ok2.2.2.1 (by decide) | exact Nat.lt_of_le_of_lt ok2.1.2.2.2.2 (by decide))) rfl (fun h100 r101 q102 => ?_)
            obtain ⟨rfl, g103, fx104⟩ := q102
            have fr105 : px_fi 177 72 h0 h100 := fi_tr fr98 fx104 (by omega)
            show px_to 48 207 [some (.ref (177)), some (.ref (jb)), some (.ref (a)), some (.ref (od)), some (.int (nI rs)), some (.int (nI i)), none, none] [] h100 _
            refine e_vret f_48_207 rfl ?_
            have g106 : h100.2.2 177 = some (6, [.ref (jb), .ref (182), .ref (214), .ref (246), .int (nI s.1.2.2.1.length), .int (bI (lks false (evs ev ps))), .int (bI (lks true (evs ev ps))), .int (oI s.1.2.2.2.2), .int (s.2.2.2.2), .int ((-3)), .ref (248)]) := fi_at g96 fx104 (by omega)
            have g107 : h95.2.2 182 = some (2, [.int (s.2.1.1), .int (s.2.1.2.1), .int (s.2.1.2.2), .int (s.1.1), .ref (183)]) := fi_at G1 fx97 (by omega)
            have g108 : h100.2.2 182 = some (2, [.int (s.2.1.1), .int (s.2.1.2.1), .int (s.2.1.2.2), .int (s.1.1), .ref (183)]) := fi_at g107 fx104 (by omega)
            have g109 : px_rs h95 183 55 6 (fun k => 182 + 5 * k + 2) := rs_fi G2 fx97 (by omega)
            have g110 : px_rs h100 183 55 6 (fun k => 182 + 5 * k + 2) := rs_fi g109 fx104 (by omega)
            have g111 : pSt h95 182 s.1.2.1 := pSt_fi G3 fx97 (by omega)
            have g112 : pSt h100 182 s.1.2.1 := pSt_fi g111 fx104 (by omega)
            have g113 : px_pa h95 248 50 30 Value.int s.1.2.2.2.1 := pa_fi G5 fx97 (by omega)
            have g114 : px_pa h100 248 50 30 Value.int s.1.2.2.2.1 := pa_fi g113 fx104 (by omega)
            have g115 : pMm h95 214 s.2.2.2.1.1 s.2.2.2.1.2.1 s.2.2.2.1.2.2.1 s.2.2.2.1.2.2.2.1 s.2.2.2.1.2.2.2.2 := pMm_fi G6 fx97 (by omega)
            have g116 : pMm h100 214 s.2.2.2.1.1 s.2.2.2.1.2.1 s.2.2.2.1.2.2.1 s.2.2.2.1.2.2.2.1 s.2.2.2.1.2.2.2.2 := pMm_fi g115 fx104 (by omega)
            have ec : cutS (lastS j s) = ((s.1.1, s.1.2.1, s.1.2.2.1.take (s.1.2.2.1.length), s.1.2.2.2.1, s.1.2.2.2.2), s.2.1, s.1.2.2.1.length, s.2.2.2.1, s.2.2.2.2) := by rw [el]; unfold cutS; rw [eg]
            rw [ec]
            exact ⟨rfl, g106, g108, g110, g112, g103, g114, g116, fr105⟩
        · skip
          have hz2 : s.1.2.2.2.2 = none := oI_z (Classical.not_not.mp c_166) q4.1.2.2.2.1
          have el : lastS j s = (tellGo j 5000 7 0 s.1, (s.2.1.1, s.2.1.2.1, nI 5000), s.2.2.1, s.2.2.2.1, s.2.2.2.2) := by unfold lastS; rw [if_pos hz2]
          refine e_aload_n f_48_169 rfl rfl ?_
          refine e_sipush (v := nI 5000) f_48_170 (by decide) rfl ?_
          have g117 : pJob g jb j := pJob_fi HJ frg (by omega)
          refine e_callV (As := [.int (nI 5000)]) (rest := []) f_48_173 rfl rfl rfl (Nat.le_of_ble_eq_true rfl) (Nat.le_of_ble_eq_true rfl) G0 rfl (Nat.le_of_ble_eq_true rfl) (cc_Run_tell (w := 5000) (j := j) (jb := jb) (gv := s.2.2.1) (la := (lks false (evs ev ps))) (lb := (lks true (evs ev ps))) (dn := s.2.2.2.2) (wo := (-3)) (A := s.2.1.1) (B := s.2.1.2.1) (W := s.2.1.2.2) (x := s.1) (A3 := s.2.2.2.1.1) (B3 := s.2.2.2.1.2.1) (W3 := s.2.2.2.1.2.2.1) (S3 := s.2.2.2.1.2.2.2.1) (sm3 := s.2.2.2.1.2.2.2.2) G0 G1 G2 G3 G4 G5 G6 g117 (by omega) (q4.1) (by omega) (by omega)) rfl (fun h118 r119 q120 => ?_)
          obtain ⟨rfl, g121, g122, g123, g124, g125, g126, g127, fx128⟩ := q120
          have fr129 : px_fi 177 72 h0 h118 := fi_tr frg fx128 (by omega)
          show px_to 48 176 [some (.ref (177)), some (.ref (jb)), some (.ref (a)), some (.ref (od)), some (.int (nI rs)), some (.int (nI i)), none, none] [] h118 _
          refine e_aload_n f_48_176 rfl rfl ?_
          refine e_getf f_48_177 g121 rfl rfl ?_
          refine e_bipush (v := (-3)) f_48_180 (by decide) rfl ?_
          refine e_icmp_ne f_48_182 rfl (fun c_182 => ?_) (fun c_182 => ?_)
          · skip
            have ok2 : okR j (tellGo j 5000 7 0 s.1, (s.2.1.1, s.2.1.2.1, nI 5000), s.2.2.1, s.2.2.2.1, s.2.2.2.2) := by rw [← el]; exact lastS_ok p0 q4
            obtain ⟨zq2, hz3⟩ := oI_ne c_182
            have eg : gvS (tellGo j 5000 7 0 s.1, (s.2.1.1, s.2.1.2.1, nI 5000), s.2.2.1, s.2.2.2.1, s.2.2.2.2) = (tellGo j 5000 7 0 s.1, (s.2.1.1, s.2.1.2.1, nI 5000), s.2.2.1, s.2.2.2.1, s.2.2.2.2).2.2.1 := by unfold gvS; rw [if_neg (by rw [hz3]; exact fun z => nomatch z)]
            refine e_aload_n f_48_196 rfl rfl ?_
            refine e_getf f_48_197 g121 rfl rfl ?_
            refine e_aload_n f_48_200 rfl rfl ?_
            refine e_getf f_48_201 g121 rfl rfl ?_
            refine e_callV (As := [.int (nI s.2.2.1)]) (rest := []) f_48_204 rfl rfl rfl (Nat.le_of_ble_eq_true rfl) (Nat.le_of_ble_eq_true rfl) g125.1 rfl (Nat.le_of_ble_eq_true rfl) (cc_Rows_cutTo (a := 246) (cap := 96) (k := s.2.2.1) (rs := (tellGo j 5000 7 0 s.1).2.2.1) g125 (by first | exact Nat.lt_of_le_of_lt ok2.2.2.1 (by decide) | exact Nat.lt_of_le_of_lt ok2.1.2.2.2.2 (by decide))) rfl (fun h130 r131 q132 => ?_)
            obtain ⟨rfl, g133, fx134⟩ := q132
            have fr135 : px_fi 177 72 h0 h130 := fi_tr fr129 fx134 (by omega)
            show px_to 48 207 [some (.ref (177)), some (.ref (jb)), some (.ref (a)), some (.ref (od)), some (.int (nI rs)), some (.int (nI i)), none, none] [] h130 _
            refine e_vret f_48_207 rfl ?_
            have g136 : h130.2.2 177 = some (6, [.ref (jb), .ref (182), .ref (214), .ref (246), .int (nI s.2.2.1), .int (bI (lks false (evs ev ps))), .int (bI (lks true (evs ev ps))), .int (oI ((tellGo j 5000 7 0 s.1).2.2.2.2)), .int (s.2.2.2.2), .int ((-3)), .ref (248)]) := fi_at g121 fx134 (by omega)
            have g137 : h130.2.2 182 = some (2, [.int (s.2.1.1), .int (s.2.1.2.1), .int (nI 5000), .int ((tellGo j 5000 7 0 s.1).1), .ref (183)]) := fi_at g122 fx134 (by omega)
            have g138 : px_rs h130 183 55 6 (fun k => 182 + 5 * k + 2) := rs_fi g123 fx134 (by omega)
            have g139 : pSt h130 182 ((tellGo j 5000 7 0 s.1).2.1) := pSt_fi g124 fx134 (by omega)
            have g140 : px_pa h130 248 50 30 Value.int ((tellGo j 5000 7 0 s.1).2.2.2.1) := pa_fi g126 fx134 (by omega)
            have g141 : pMm h130 214 s.2.2.2.1.1 s.2.2.2.1.2.1 s.2.2.2.1.2.2.1 s.2.2.2.1.2.2.2.1 s.2.2.2.1.2.2.2.2 := pMm_fi g127 fx134 (by omega)
            have ec : cutS (lastS j s) = (((tellGo j 5000 7 0 s.1, (s.2.1.1, s.2.1.2.1, nI 5000), s.2.2.1, s.2.2.2.1, s.2.2.2.2).1.1, (tellGo j 5000 7 0 s.1, (s.2.1.1, s.2.1.2.1, nI 5000), s.2.2.1, s.2.2.2.1, s.2.2.2.2).1.2.1, (tellGo j 5000 7 0 s.1, (s.2.1.1, s.2.1.2.1, nI 5000), s.2.2.1, s.2.2.2.1, s.2.2.2.2).1.2.2.1.take ((tellGo j 5000 7 0 s.1, (s.2.1.1, s.2.1.2.1, nI 5000), s.2.2.1, s.2.2.2.1, s.2.2.2.2).2.2.1), (tellGo j 5000 7 0 s.1, (s.2.1.1, s.2.1.2.1, nI 5000), s.2.2.1, s.2.2.2.1, s.2.2.2.2).1.2.2.2.1, (tellGo j 5000 7 0 s.1, (s.2.1.1, s.2.1.2.1, nI 5000), s.2.2.1, s.2.2.2.1, s.2.2.2.2).1.2.2.2.2), (tellGo j 5000 7 0 s.1, (s.2.1.1, s.2.1.2.1, nI 5000), s.2.2.1, s.2.2.2.1, s.2.2.2.2).2.1, (tellGo j 5000 7 0 s.1, (s.2.1.1, s.2.1.2.1, nI 5000), s.2.2.1, s.2.2.2.1, s.2.2.2.2).2.2.1, (tellGo j 5000 7 0 s.1, (s.2.1.1, s.2.1.2.1, nI 5000), s.2.2.1, s.2.2.2.1, s.2.2.2.2).2.2.2.1, (tellGo j 5000 7 0 s.1, (s.2.1.1, s.2.1.2.1, nI 5000), s.2.2.1, s.2.2.2.1, s.2.2.2.2).2.2.2.2) := by rw [el]; unfold cutS; rw [eg]
            rw [ec]
            exact ⟨rfl, g136, g137, g138, g139, g133, g140, g141, fr135⟩
          · skip
            have ok2 : okR j (tellGo j 5000 7 0 s.1, (s.2.1.1, s.2.1.2.1, nI 5000), s.2.2.1, s.2.2.2.1, s.2.2.2.2) := by rw [← el]; exact lastS_ok p0 q4
            have hz3 : (tellGo j 5000 7 0 s.1, (s.2.1.1, s.2.1.2.1, nI 5000), s.2.2.1, s.2.2.2.1, s.2.2.2.2).1.2.2.2.2 = none := oI_z (Classical.not_not.mp c_182) ok2.1.2.2.2.1
            have eg : gvS (tellGo j 5000 7 0 s.1, (s.2.1.1, s.2.1.2.1, nI 5000), s.2.2.1, s.2.2.2.1, s.2.2.2.2) = (tellGo j 5000 7 0 s.1, (s.2.1.1, s.2.1.2.1, nI 5000), s.2.2.1, s.2.2.2.1, s.2.2.2.2).1.2.2.1.length := by unfold gvS; rw [if_pos hz3]
            refine e_aload_n f_48_185 rfl rfl ?_
            refine e_aload_n f_48_186 rfl rfl ?_
            refine e_getf f_48_187 g121 rfl rfl ?_
            refine e_getf f_48_190 g125.1 rfl rfl ?_
            refine e_putp (vs' := [.ref (jb), .ref (182), .ref (214), .ref (246), .int (nI (((tellGo j 5000 7 0 s.1).2.2.1).length)), .int (bI (lks false (evs ev ps))), .int (bI (lks true (evs ev ps))), .int (oI ((tellGo j 5000 7 0 s.1).2.2.2.2)), .int (s.2.2.2.2), .int ((-3)), .ref (248)]) f_48_193 g121 (Nat.le_of_ble_eq_true rfl) (rfl) (rfl) rfl rfl (fun h142 g143 fx144 => ?_)
            have fr145 : px_fi 177 72 h0 h142 := fi_tr fr129 fx144 (by omega)
            refine e_aload_n f_48_196 rfl rfl ?_
            refine e_getf f_48_197 g143 rfl rfl ?_
            refine e_aload_n f_48_200 rfl rfl ?_
            refine e_getf f_48_201 g143 rfl rfl ?_
            have g146 : pRows h142 246 96 ((tellGo j 5000 7 0 s.1).2.2.1) := pRows_fi g125 fx144 (by omega)
            refine e_callV (As := [.int (nI (((tellGo j 5000 7 0 s.1).2.2.1).length))]) (rest := []) f_48_204 rfl rfl rfl (Nat.le_of_ble_eq_true rfl) (Nat.le_of_ble_eq_true rfl) g146.1 rfl (Nat.le_of_ble_eq_true rfl) (cc_Rows_cutTo (a := 246) (cap := 96) (k := ((tellGo j 5000 7 0 s.1).2.2.1).length) (rs := (tellGo j 5000 7 0 s.1).2.2.1) g146 (by first | exact Nat.lt_of_le_of_lt ok2.2.2.1 (by decide) | exact Nat.lt_of_le_of_lt ok2.1.2.2.2.2 (by decide))) rfl (fun h147 r148 q149 => ?_)
            obtain ⟨rfl, g150, fx151⟩ := q149
            have fr152 : px_fi 177 72 h0 h147 := fi_tr fr145 fx151 (by omega)
            show px_to 48 207 [some (.ref (177)), some (.ref (jb)), some (.ref (a)), some (.ref (od)), some (.int (nI rs)), some (.int (nI i)), none, none] [] h147 _
            refine e_vret f_48_207 rfl ?_
            have g153 : h147.2.2 177 = some (6, [.ref (jb), .ref (182), .ref (214), .ref (246), .int (nI (((tellGo j 5000 7 0 s.1).2.2.1).length)), .int (bI (lks false (evs ev ps))), .int (bI (lks true (evs ev ps))), .int (oI ((tellGo j 5000 7 0 s.1).2.2.2.2)), .int (s.2.2.2.2), .int ((-3)), .ref (248)]) := fi_at g143 fx151 (by omega)
            have g154 : h142.2.2 182 = some (2, [.int (s.2.1.1), .int (s.2.1.2.1), .int (nI 5000), .int ((tellGo j 5000 7 0 s.1).1), .ref (183)]) := fi_at g122 fx144 (by omega)
            have g155 : h147.2.2 182 = some (2, [.int (s.2.1.1), .int (s.2.1.2.1), .int (nI 5000), .int ((tellGo j 5000 7 0 s.1).1), .ref (183)]) := fi_at g154 fx151 (by omega)
            have g156 : px_rs h142 183 55 6 (fun k => 182 + 5 * k + 2) := rs_fi g123 fx144 (by omega)
            have g157 : px_rs h147 183 55 6 (fun k => 182 + 5 * k + 2) := rs_fi g156 fx151 (by omega)
            have g158 : pSt h142 182 ((tellGo j 5000 7 0 s.1).2.1) := pSt_fi g124 fx144 (by omega)
            have g159 : pSt h147 182 ((tellGo j 5000 7 0 s.1).2.1) := pSt_fi g158 fx151 (by omega)
            have g160 : px_pa h142 248 50 30 Value.int ((tellGo j 5000 7 0 s.1).2.2.2.1) := pa_fi g126 fx144 (by omega)
            have g161 : px_pa h147 248 50 30 Value.int ((tellGo j 5000 7 0 s.1).2.2.2.1) := pa_fi g160 fx151 (by omega)
            have g162 : pMm h142 214 s.2.2.2.1.1 s.2.2.2.1.2.1 s.2.2.2.1.2.2.1 s.2.2.2.1.2.2.2.1 s.2.2.2.1.2.2.2.2 := pMm_fi g127 fx144 (by omega)
            have g163 : pMm h147 214 s.2.2.2.1.1 s.2.2.2.1.2.1 s.2.2.2.1.2.2.1 s.2.2.2.1.2.2.2.1 s.2.2.2.1.2.2.2.2 := pMm_fi g162 fx151 (by omega)
            have ec : cutS (lastS j s) = (((tellGo j 5000 7 0 s.1, (s.2.1.1, s.2.1.2.1, nI 5000), s.2.2.1, s.2.2.2.1, s.2.2.2.2).1.1, (tellGo j 5000 7 0 s.1, (s.2.1.1, s.2.1.2.1, nI 5000), s.2.2.1, s.2.2.2.1, s.2.2.2.2).1.2.1, (tellGo j 5000 7 0 s.1, (s.2.1.1, s.2.1.2.1, nI 5000), s.2.2.1, s.2.2.2.1, s.2.2.2.2).1.2.2.1.take ((tellGo j 5000 7 0 s.1, (s.2.1.1, s.2.1.2.1, nI 5000), s.2.2.1, s.2.2.2.1, s.2.2.2.2).1.2.2.1.length), (tellGo j 5000 7 0 s.1, (s.2.1.1, s.2.1.2.1, nI 5000), s.2.2.1, s.2.2.2.1, s.2.2.2.2).1.2.2.2.1, (tellGo j 5000 7 0 s.1, (s.2.1.1, s.2.1.2.1, nI 5000), s.2.2.1, s.2.2.2.1, s.2.2.2.2).1.2.2.2.2), (tellGo j 5000 7 0 s.1, (s.2.1.1, s.2.1.2.1, nI 5000), s.2.2.1, s.2.2.2.1, s.2.2.2.2).2.1, (tellGo j 5000 7 0 s.1, (s.2.1.1, s.2.1.2.1, nI 5000), s.2.2.1, s.2.2.2.1, s.2.2.2.2).1.2.2.1.length, (tellGo j 5000 7 0 s.1, (s.2.1.1, s.2.1.2.1, nI 5000), s.2.2.1, s.2.2.2.1, s.2.2.2.2).2.2.2.1, (tellGo j 5000 7 0 s.1, (s.2.1.1, s.2.1.2.1, nI 5000), s.2.2.1, s.2.2.2.1, s.2.2.2.2).2.2.2.2) := by rw [el]; unfold cutS; rw [eg]
            rw [ec]
            exact ⟨rfl, g153, g155, g157, g159, g150, g161, g163, fr152⟩
      · skip
        have hz : s.1.2.2.2.2 = none := oI_z (Classical.not_not.mp c_28) q4.1.2.2.2.1
        have hpl : ps.getD i 0 < ev.length := p4 _ (getD_mem 0 (by omega))
        have hev : okEv (ev.getD (ps.getD i 0) (0, 0, 0, 0)) := p5 _ (getD_mem (0, 0, 0, 0) hpl)
        have hsg := hev.1
        have hst : (evs ev ps).drop i = ev.getD (ps.getD i 0) (0, 0, 0, 0) :: (evs ev ps).drop (i + 1) := by rw [← evs_get (show i < ps.length by omega)]; exact drop_step _ (by rw [evs_len]; omega)
        have hta : ((evs ev ps).take i).drop rs ++ [ev.getD (ps.getD i 0) (0, 0, 0, 0)] = ((evs ev ps).take (i + 1)).drop rs := by rw [← evs_get (show i < ps.length by omega)]; exact take_drop_app (by rw [evs_len]; omega) (by omega)
        refine e_aload_n f_48_31 rfl rfl ?_
        refine e_getf f_48_32 g1.1 rfl rfl ?_
        refine e_iload f_48_35 rfl rfl ?_
        refine e_iaload_p (xs := ps) f_48_37 g1.2 (d := 0) (by first | omega | (simp only [List.length_set]; omega)) rfl ?_
        show px_to 48 38 [some (.ref (177)), some (.ref (jb)), some (.ref (a)), some (.ref (od)), some (.int (nI rs)), some (.int (nI i)), none, none] [.int (nI (ps.getD i 0))] g _
        refine e_istore (L' := [some (.ref (177)), some (.ref (jb)), some (.ref (a)), some (.ref (od)), some (.int (nI rs)), some (.int (nI i)), some (.int (nI (ps.getD i 0))), none]) f_48_38 (Nat.le_of_ble_eq_true rfl) rfl rfl ?_
        refine e_aload_n f_48_40 rfl rfl ?_
        have g164 : pCase g a ev told os ks kept ck un := pCase_fi HC frg (by omega)
        refine e_getf f_48_41 g164.1 rfl rfl ?_
        refine e_iload f_48_44 rfl rfl ?_
        refine e_iaload_p (xs := ev) f_48_46 g164.2.1 (d := (0, 0, 0, 0)) (by first | omega | (simp only [List.length_set]; omega)) rfl ?_
        show px_to 48 47 [some (.ref (177)), some (.ref (jb)), some (.ref (a)), some (.ref (od)), some (.int (nI rs)), some (.int (nI i)), some (.int (nI (ps.getD i 0))), none] [.int (nI ((ev.getD (ps.getD i 0) (0, 0, 0, 0)).1))] g _
        refine e_bipush (v := nI 120) f_48_47 (by decide) rfl ?_
        refine e_icmp_ne f_48_49 rfl (fun c_49 => ?_) (fun c_49 => ?_)
        · skip
          have c_49 : (ev.getD (ps.getD i 0) (0, 0, 0, 0)).1 ≠ 120 := cv_ne c_49
          refine e_aload_n f_48_124 rfl rfl ?_
          refine e_aload_n f_48_125 rfl rfl ?_
          refine e_iload f_48_126 rfl rfl ?_
          have g165 : pJob g jb j := pJob_fi HJ frg (by omega)
          refine e_callV (As := [.ref (a), .int (nI (ps.getD i 0))]) (rest := []) f_48_128 rfl rfl rfl (Nat.le_of_ble_eq_true rfl) (Nat.le_of_ble_eq_true rfl) G0 rfl (Nat.le_of_ble_eq_true rfl) (cc_Run_doEv (p := ps.getD i 0) (j := j) (jb := jb) (la := (lks false (evs ev ps))) (lb := (lks true (evs ev ps))) (wo := (-3)) (s := s) (a := a) (ev := ev) (told := told) (os := os) (ks := ks) (kept := kept) (ck := ck) (un := un) G0 G1 G2 G3 G4 G5 G6 g165 g164 (by omega) (by omega) (by omega) (by omega) (hpl) (hev) (hz)) rfl (fun h166 r167 q168 => ?_)
          obtain ⟨rfl, g169, g170, g171, g172, g173, g174, g175, fx176⟩ := q168
          have fr177 : px_fi 177 72 h0 h166 := fi_tr frg fx176 (by omega)
          show px_to 48 131 [some (.ref (177)), some (.ref (jb)), some (.ref (a)), some (.ref (od)), some (.int (nI rs)), some (.int (nI i)), some (.int (nI (ps.getD i 0))), none] [] h166 _
          refine e_aload_n f_48_131 rfl rfl ?_
          have g178 : pCase h166 a ev told os ks kept ck un := pCase_fi HC fr177 (by omega)
          refine e_getf f_48_132 g178.1 rfl rfl ?_
          refine e_iload f_48_135 rfl rfl ?_
          refine e_iaload_p (xs := ev) f_48_137 g178.2.1 (d := (0, 0, 0, 0)) (by first | omega | (simp only [List.length_set]; omega)) rfl ?_
          show px_to 48 138 [some (.ref (177)), some (.ref (jb)), some (.ref (a)), some (.ref (od)), some (.int (nI rs)), some (.int (nI i)), some (.int (nI (ps.getD i 0))), none] [.int (nI ((ev.getD (ps.getD i 0) (0, 0, 0, 0)).1))] h166 _
          refine e_bipush (v := nI 107) f_48_138 (by decide) rfl ?_
          refine e_icmp_ne f_48_140 rfl (fun c_140 => ?_) (fun c_140 => ?_)
          · skip
            have c_140 : (ev.getD (ps.getD i 0) (0, 0, 0, 0)).1 ≠ 107 := cv_ne c_140
            refine e_iload f_48_150 rfl rfl ?_
            refine e_istore (L' := [some (.ref (177)), some (.ref (jb)), some (.ref (a)), some (.ref (od)), some (.int (nI rs)), some (.int (nI i)), some (.int (nI (ps.getD i 0))), none]) f_48_152 (Nat.le_of_ble_eq_true rfl) rfl rfl ?_
            refine e_iinc (y := nI (i + 1)) (L' := [some (.ref (177)), some (.ref (jb)), some (.ref (a)), some (.ref (od)), some (.int (nI rs)), some (.int (nI (i + 1))), some (.int (nI (ps.getD i 0))), none]) f_48_154 rfl (by rw [show Int32.ofInt 1 = nI 1 by decide]; exact (nI_add _ _)) rfl rfl ?_
            refine e_goto f_48_157 ?_
            refine px_to_L (L := [some (.ref (177)), some (.ref (jb)), some (.ref (a)), some (.ref (od)), some (.int (nI rs)), some (.int (nI (i + 1))), none, none]) ⟨Or.inr rfl, Or.inr rfl, Or.inr rfl, Or.inr rfl, Or.inr rfl, Or.inr rfl, Or.inl rfl, Or.inr rfl, trivial⟩ ?_
            first | (exfalso; omega) | exact ih (d - 1) (by omega) (i + 1) rs (doEv j (lks false (evs ev ps)) (lks true (evs ev ps)) (ev.getD (ps.getD i 0) (0, 0, 0, 0)) s) h166 (by omega) (by omega) (by omega) (by rw [hst, perfL, if_pos hz, if_neg c_49, if_neg c_140, hta] at q3; exact q3) (doEv_ok p0 hev q4) g169 g170 g171 g172 g173 g174 g175 fr177
          · skip
            have c_140 : (ev.getD (ps.getD i 0) (0, 0, 0, 0)).1 = 107 := cv_nne (by omega) (by omega) c_140
            refine e_iload f_48_143 rfl rfl ?_
            refine e_iconst (v := nI 1) f_48_145 (by decide) rfl ?_
            refine e_iadd (z := nI (i + 1)) f_48_146 (nI_add _ _) rfl ?_
            refine e_goto f_48_147 ?_
            refine e_istore (L' := [some (.ref (177)), some (.ref (jb)), some (.ref (a)), some (.ref (od)), some (.int (nI (i + 1))), some (.int (nI i)), some (.int (nI (ps.getD i 0))), none]) f_48_152 (Nat.le_of_ble_eq_true rfl) rfl rfl ?_
            refine e_iinc (y := nI (i + 1)) (L' := [some (.ref (177)), some (.ref (jb)), some (.ref (a)), some (.ref (od)), some (.int (nI (i + 1))), some (.int (nI (i + 1))), some (.int (nI (ps.getD i 0))), none]) f_48_154 rfl (by rw [show Int32.ofInt 1 = nI 1 by decide]; exact (nI_add _ _)) rfl rfl ?_
            refine e_goto f_48_157 ?_
            refine px_to_L (L := [some (.ref (177)), some (.ref (jb)), some (.ref (a)), some (.ref (od)), some (.int (nI (i + 1))), some (.int (nI (i + 1))), none, none]) ⟨Or.inr rfl, Or.inr rfl, Or.inr rfl, Or.inr rfl, Or.inr rfl, Or.inr rfl, Or.inl rfl, Or.inr rfl, trivial⟩ ?_
            first | (exfalso; omega) | exact ih (d - 1) (by omega) (i + 1) (i + 1) (doEv j (lks false (evs ev ps)) (lks true (evs ev ps)) (ev.getD (ps.getD i 0) (0, 0, 0, 0)) s) h166 (by omega) (by omega) (by omega) (by rw [hst, perfL, if_pos hz, if_neg c_49, if_pos c_140] at q3; rw [show ((evs ev ps).take (i + 1)).drop (i + 1) = [] from List.drop_eq_nil_of_le (by rw [List.length_take]; omega)]; exact q3) (doEv_ok p0 hev q4) g169 g170 g171 g172 g173 g174 g175 fr177
        · skip
          have c_49 : (ev.getD (ps.getD i 0) (0, 0, 0, 0)).1 = 120 := cv_nne (by omega) (by omega) c_49
          refine e_aload_n f_48_52 rfl rfl ?_
          refine e_dup f_48_53 rfl rfl ?_
          refine e_getf f_48_54 G0 rfl rfl ?_
          refine e_iconst (v := nI 1) f_48_57 (by decide) rfl ?_
          refine e_iadd (z := s.2.2.2.2 + (nI 1)) f_48_58 rfl rfl ?_
          refine e_putp (vs' := [.ref (jb), .ref (182), .ref (214), .ref (246), .int (nI s.2.2.1), .int (bI (lks false (evs ev ps))), .int (bI (lks true (evs ev ps))), .int (oI s.1.2.2.2.2), .int (s.2.2.2.2 + (nI 1)), .int ((-3)), .ref (248)]) f_48_59 G0 (Nat.le_of_ble_eq_true rfl) (rfl) (rfl) rfl rfl (fun h179 g180 fx181 => ?_)
          have fr182 : px_fi 177 72 h0 h179 := fi_tr frg fx181 (by omega)
          refine e_aload_n f_48_62 rfl rfl ?_
          have g183 : h179.2.2 182 = some (2, [.int (s.2.1.1), .int (s.2.1.2.1), .int (s.2.1.2.2), .int (s.1.1), .ref (183)]) := fi_at G1 fx181 (by omega)
          have g184 : px_rs h179 183 55 6 (fun k => 182 + 5 * k + 2) := rs_fi G2 fx181 (by omega)
          have g185 : pSt h179 182 s.1.2.1 := pSt_fi G3 fx181 (by omega)
          have g186 : pRows h179 246 96 s.1.2.2.1 := pRows_fi G4 fx181 (by omega)
          have g187 : px_pa h179 248 50 30 Value.int s.1.2.2.2.1 := pa_fi G5 fx181 (by omega)
          have g188 : pMm h179 214 s.2.2.2.1.1 s.2.2.2.1.2.1 s.2.2.2.1.2.2.1 s.2.2.2.1.2.2.2.1 s.2.2.2.1.2.2.2.2 := pMm_fi G6 fx181 (by omega)
          have g189 : pJob h179 jb j := pJob_fi HJ fr182 (by omega)
          refine e_callV (As := []) (rest := []) f_48_63 rfl rfl rfl (Nat.le_of_ble_eq_true rfl) (Nat.le_of_ble_eq_true rfl) g180 rfl (Nat.le_of_ble_eq_true rfl) (cc_Run_back (j := j) (jb := jb) (la := (lks false (evs ev ps))) (lb := (lks true (evs ev ps))) (wo := (-3)) (s := doneS s) g180 g183 g184 g185 g186 g187 g188 g189 (by omega) (doneS_ok q4) (by omega)) rfl (fun h190 r191 q192 => ?_)
          obtain ⟨rfl, g193, g194, g195, g196, g197, g198, g199, fx200⟩ := q192
          have fr201 : px_fi 177 72 h0 h190 := fi_tr fr182 fx200 (by omega)
          show px_to 48 66 [some (.ref (177)), some (.ref (jb)), some (.ref (a)), some (.ref (od)), some (.int (nI rs)), some (.int (nI i)), some (.int (nI (ps.getD i 0))), none] [] h190 _
          refine e_iload f_48_66 rfl rfl ?_
          refine e_istore (L' := [some (.ref (177)), some (.ref (jb)), some (.ref (a)), some (.ref (od)), some (.int (nI rs)), some (.int (nI i)), some (.int (nI (ps.getD i 0))), some (.int (nI rs))]) f_48_68 (Nat.le_of_ble_eq_true rfl) rfl rfl ?_
          refine ll_Run_redo (h0 := h0) HJ HC HO p0 p1 p2 p3 p4 p5 (show i ≤ ps.length by omega) (fun g1 z0 z1 z2 z3 z4 z5 z6 zf => ?_) i rs (backS (doneS s)) h190 (by omega) (by omega) rfl (backS_ok (doneS_ok q4)) g193 g194 g195 g196 g197 g198 g199 fr201
          refine e_goto f_48_121 ?_
          refine e_iinc (y := nI (i + 1)) (L' := [some (.ref (177)), some (.ref (jb)), some (.ref (a)), some (.ref (od)), some (.int (nI rs)), some (.int (nI (i + 1))), some (.int (nI (ps.getD i 0))), none]) f_48_154 rfl (by rw [show Int32.ofInt 1 = nI 1 by decide]; exact (nI_add _ _)) rfl rfl ?_
          refine e_goto f_48_157 ?_
          refine px_to_L (L := [some (.ref (177)), some (.ref (jb)), some (.ref (a)), some (.ref (od)), some (.int (nI rs)), some (.int (nI (i + 1))), none, none]) ⟨Or.inr rfl, Or.inr rfl, Or.inr rfl, Or.inr rfl, Or.inr rfl, Or.inr rfl, Or.inl rfl, Or.inr rfl, trivial⟩ ?_
          first | (exfalso; omega) | exact ih (d - 1) (by omega) (i + 1) rs (redoL j (lks false (evs ev ps)) (lks true (evs ev ps)) (((evs ev ps).take i).drop rs) (backS (doneS s))) g1 (by omega) (by omega) (by omega) (by rw [hst, perfL, if_pos hz, if_pos c_49, hta] at q3; exact q3) (redoL_ok p0 _ _ (fun x hx => okevs x (List.mem_of_mem_take (List.mem_of_mem_drop hx))) (backS_ok (doneS_ok q4))) z0 z1 z2 z3 z4 z5 z6 zf

set_option maxRecDepth 20000 in
set_option maxHeartbeats 4000000 in
theorem cc_Run_perf {h : px_H} {od : Nat} {ps : List Nat} {j : List St} {jb : Nat} {a : Nat} {ev : List Ev} {told : List Row} {os : Nat} {ks : Int32} {kept : List Nat} {ck : Nat} {un : List Nat} {jb0 gv : Nat} {la0 lb0 : Bool} {z : Option Nat} {dn wo : Int32} {A B W S : Int32} {sms : List SM} {outs : List Row} {tl : List Int32} {A3 B3 W3 S3 : Int32} {sm3 : List SM} (H0 : h.2.2 177 = some (6, [.ref (jb0), .ref (182), .ref (214), .ref (246), .int (nI gv), .int (bI la0), .int (bI lb0), .int (oI z), .int (dn), .int (wo), .ref (248)])) (H1 : h.2.2 182 = some (2, [.int (A), .int (B), .int (W), .int (S), .ref (183)])) (H2 : px_rs h 183 55 6 (fun k => 182 + 5 * k + 2)) (H3 : pSt h 182 sms) (H4 : pRows h 246 96 outs) (H5 : px_pa h 248 50 30 Value.int tl) (H6 : pMm h 214 A3 B3 W3 S3 sm3) (H7 : pJob h jb j) (H8 : pCase h a ev told os ks kept ck un) (H9 : pOrd h od ps) (p0 : okJ j) (p1 : jb + 4 ≤ 177 ∨ 249 ≤ jb) (p2 : a + 9 ≤ 177 ∨ 249 ≤ a) (p3 : od + 2 ≤ 177 ∨ 249 ≤ od) (p4 : ∀ p ∈ ps, p < ev.length) (p5 : ∀ e ∈ ev, okEv e) (p6 : tl.length = 30) : px_wp 48 [.ref (177), .ref (jb), .ref (a), .ref (od)] h (fun h1 r => r = none ∧ h1.2.2 177 = some (6, [.ref (jb), .ref (182), .ref (214), .ref (246), .int (nI ((runS j (evs ev ps) tl).2.2.1)), .int (bI (lks false (evs ev ps))), .int (bI (lks true (evs ev ps))), .int (oI ((runS j (evs ev ps) tl).1.2.2.2.2)), .int ((runS j (evs ev ps) tl).2.2.2.2), .int ((-3)), .ref (248)]) ∧ h1.2.2 182 = some (2, [.int ((runS j (evs ev ps) tl).2.1.1), .int ((runS j (evs ev ps) tl).2.1.2.1), .int ((runS j (evs ev ps) tl).2.1.2.2), .int ((runS j (evs ev ps) tl).1.1), .ref (183)]) ∧ px_rs h1 183 55 6 (fun k => 182 + 5 * k + 2) ∧ pSt h1 182 ((runS j (evs ev ps) tl).1.2.1) ∧ pRows h1 246 96 ((runS j (evs ev ps) tl).1.2.2.1) ∧ px_pa h1 248 50 30 Value.int ((runS j (evs ev ps) tl).1.2.2.2.1) ∧ pMm h1 214 ((runS j (evs ev ps) tl).2.2.2.1.1) ((runS j (evs ev ps) tl).2.2.2.1.2.1) ((runS j (evs ev ps) tl).2.2.2.1.2.2.1) ((runS j (evs ev ps) tl).2.2.2.1.2.2.2.1) ((runS j (evs ev ps) tl).2.2.2.1.2.2.2.2) ∧ px_fi 177 72 h h1) := by
  have fr0 : px_fi 177 72 h h := fi_rf _ _ _
  have lj := p0.1
  show px_to 48 0 [some (.ref (177)), some (.ref (jb)), some (.ref (a)), some (.ref (od)), none, none, none, none] [] h _
  refine e_aload_n f_48_0 rfl rfl ?_
  refine e_aload_n f_48_1 rfl rfl ?_
  refine e_aload_n f_48_2 rfl rfl ?_
  refine e_aload_n f_48_3 rfl rfl ?_
  refine e_callV (As := [.ref (jb), .ref (a), .ref (od)]) (rest := []) f_48_4 rfl rfl rfl (Nat.le_of_ble_eq_true rfl) (Nat.le_of_ble_eq_true rfl) H0 rfl (Nat.le_of_ble_eq_true rfl) (cc_Run_begin (od := od) (ps := ps) (j := j) (jb := jb) (a := a) (ev := ev) (told := told) (os := os) (ks := ks) (kept := kept) (ck := ck) (un := un) (jb0 := jb0) (gv := gv) (la0 := la0) (lb0 := lb0) (z := z) (dn := dn) (wo := wo) (A := A) (B := B) (W := W) (S := S) (sms := sms) (outs := outs) (tl := tl) (A3 := A3) (B3 := B3) (W3 := W3) (S3 := S3) (sm3 := sm3) H0 H1 H2 H3 H4 H5 H6 H7 H8 H9 (by omega) (by omega) (by omega) (by omega) (p4) (p5)) rfl (fun h1 r2 q3 => ?_)
  obtain ⟨rfl, g4, g5, g6, g7, g8, g9, g10, fx11⟩ := q3
  have fr12 : px_fi 177 72 h h1 := fi_tr fr0 fx11 (by omega)
  show px_to 48 7 [some (.ref (177)), some (.ref (jb)), some (.ref (a)), some (.ref (od)), none, none, none, none] [] h1 _
  refine e_iconst (v := nI 0) f_48_7 (by decide) rfl ?_
  refine e_istore (L' := [some (.ref (177)), some (.ref (jb)), some (.ref (a)), some (.ref (od)), some (.int (nI 0)), none, none, none]) f_48_8 (Nat.le_of_ble_eq_true rfl) rfl rfl ?_
  refine e_iconst (v := nI 0) f_48_10 (by decide) rfl ?_
  refine e_istore (L' := [some (.ref (177)), some (.ref (jb)), some (.ref (a)), some (.ref (od)), some (.int (nI 0)), some (.int (nI 0)), none, none]) f_48_11 (Nat.le_of_ble_eq_true rfl) rfl rfl ?_
  exact ll_Run_perf (h0 := h) H7 H8 H9 p0 p1 p2 p3 p4 p5 ps.length 0 0 (s0 j tl) h1 (by omega) (by omega) (by omega) rfl (s0_ok p6) g4 g5 g6 g7 g8 g9 g10 fr12
