theorem schE_get {a b s : Nat} (h : s ≤ 3) : (schE a b).getD s 0 = (schU a b s).length := by
  match s, h with
  | 0, _ => rfl
  | 1, _ => rfl
  | 2, _ => rfl
  | 3, _ => rfl
theorem schU_pre {a b s i : Nat} (h : s ≤ 3) (hi : i < (schU a b s).length) : (schU a b 3).getD i 0 = (schU a b s).getD i 0 := by
  match s, h, hi with
  | 0, _, hi => exact (getD_app (by rw [List.length_append, List.length_append]; have : i < (sL0 a b).length := hi; omega)).trans ((getD_app (by rw [List.length_append]; have : i < (sL0 a b).length := hi; omega)).trans (getD_app hi))
  | 1, _, hi => exact (getD_app (by rw [List.length_append]; have : i < (sL0 a b ++ sL1 a b).length := hi; omega)).trans (getD_app hi)
  | 2, _, hi => exact getD_app hi
  | 3, _, hi => rfl
theorem schU_le {a b s : Nat} (h : s ≤ 3) : (schU a b s).length ≤ (schU a b 3).length := by
  match s, h with
  | 0, _ => show (sL0 a b).length ≤ (sL0 a b ++ sL1 a b ++ sL2 a b ++ sL3 a b).length; simp only [List.length_append]; omega
  | 1, _ => show (sL0 a b ++ sL1 a b).length ≤ (sL0 a b ++ sL1 a b ++ sL2 a b ++ sL3 a b).length; simp only [List.length_append]; omega
  | 2, _ => show (sL0 a b ++ sL1 a b ++ sL2 a b).length ≤ (sL0 a b ++ sL1 a b ++ sL2 a b ++ sL3 a b).length; simp only [List.length_append]; omega
  | 3, _ => exact Nat.le_refl _
theorem sc_self {a b : Nat} (h : a + b ≤ 24) : ∀ a2 b2 : Nat, a2 + b2 ≤ 24 → nI a2 = nI a ∧ nI b2 = nI b → (schU a b 3).length = (schU a2 b2 3).length ∧ schU a b 3 = schU a2 b2 3 ∧ schE a b = schE a2 b2 := fun a2 b2 h2 e => by
  have e1 := cv_eq (by omega) (by omega) e.1
  have e2 := cv_eq (by omega) (by omega) e.2
  subst e1
  subst e2
  exact ⟨rfl, rfl, rfl⟩
theorem ab24 {t : CT7} (h : okT t) : evCnt false t.1 + evCnt true t.1 ≤ 24 := Nat.le_trans (evCnt_sum _) h.1

set_option maxRecDepth 20000 in
set_option maxHeartbeats 4000000 in
theorem cc_JT_ran {h : px_H} {tx : List Nat} {j : List St} {xs : List CS3} {c : Int32} {w : Int32} (H0 : pJT h tx j xs)  : px_wp 94 [.ref (17), .int (c), .int (w)] h (fun h1 r => r = some (.int (aRan j xs c w)) ∧ pJT h1 tx j xs ∧ px_fi 17 252 h h1) := by
  have fr0 : px_fi 17 252 h h := fi_rf _ _ _
  show px_to 94 0 [some (.ref (17)), some (.int (c)), some (.int (w))] [] h _
  obtain ⟨cs, S, D, pz, kk, ck, wo, xr, kl, cv, g1, g2, g3, g4, g5, g6, g7, g8, g9, g10, g11, g12, g13, g14, g15, g16, g17, g18, g19, g20, g21, g22, g23, g24, g25, hx, ok⟩ := id H0
  subst hx
  have h8 := ok.2.2.2.1.1
  have hS : 18 < S ∧ S + 78 ≤ 175 := by have := ok.1; omega
  have hD : 18 < D ∧ D + 78 ≤ 175 := by have := ok.1; omega
  have hSD : D + 78 ≤ S ∨ S + 78 ≤ D := by have := ok.1; omega
  have h8m : (cs.map c3of).length ≤ 8 := by rw [List.length_map]; exact h8
  have htl : tx.length ≤ 500 := pa_len g2
  refine e_aload_n f_94_0 rfl rfl ?_
  refine e_iload_n f_94_1 rfl rfl ?_
  refine e_callV (As := [.int (c)]) (rest := []) f_94_2 rfl rfl rfl (Nat.le_of_ble_eq_true rfl) (Nat.le_of_ble_eq_true rfl) g1 rfl (Nat.le_of_ble_eq_true rfl) (cc_JT_has (c := c) (L := tx.length) (S := S) (D := D) (n := cs.length) (pz := pz) (kk := kk) (ck := ck) g1 g3 (by omega)) rfl (fun h26 r27 q28 => ?_)
  obtain ⟨rfl, qe⟩ := q28
  have qe := qe.symm
  subst qe
  show px_to 94 5 [some (.ref (17)), some (.int (c)), some (.int (w))] [.int (bI (hasC c cs.length))] h _
  refine e_if_eq f_94_5 rfl (fun c_5 => ?_) (fun c_5 => ?_)
  · skip
    have c_5 : (hasC c cs.length) = false := bI_f c_5
    have hno : hasC c (cs.map c3of).length = false := by rw [List.length_map]; exact c_5
    refine e_iconst (v := (-1)) f_94_17 (by decide) rfl ?_
    refine e_iret f_94_18 rfl (rfl) ?_
    have g29 : pJT h tx j (cs.map c3of) := ⟨cs, S, D, pz, kk, ck, wo, xr, kl, cv, g1, g2, g3, g4, g5, g6, g7, g8, g9, g10, g11, g12, g13, g14, g15, g16, g17, g18, g19, g20, g21, g22, g23, g24, g25, rfl, ok⟩
    exact ⟨congrArg (fun z => some (Value.int z)) (show (-1) = _ from by unfold aRan; rw [onC_no hno]; split <;> rfl), g29, fr0⟩
  · skip
    have c_5 : (hasC c cs.length) = true := bI_t' c_5
    obtain ⟨k, hk, hkc⟩ := hasC_t (by omega) c_5
    subst hkc
    have hkm : k < (cs.map c3of).length := by rw [List.length_map]; exact hk
    have g30 : pCase h (S + 9 * k + 6) ((cs.getD k ct0).1) ((cs.getD k ct0).2.1) ((cs.getD k ct0).2.2.1) ((cs.getD k ct0).2.2.2.1) ((cs.getD k ct0).2.2.2.2.1) ((cs.getD k ct0).2.2.2.2.2.1) ((cs.getD k ct0).2.2.2.2.2.2) := (pCs_get (k := k) g6 (by omega) hk).1
    have hct : okK j (cs.getD k ct0) := ok.2.2.2.1.2 _ (getD_mem _ hk)
    refine e_iload_n f_94_8 rfl rfl ?_
    refine e_if_lt f_94_9 rfl (fun c_9 => ?_) (fun c_9 => ?_)
    · skip
      refine e_iconst (v := (-1)) f_94_17 (by decide) rfl ?_
      refine e_iret f_94_18 rfl (rfl) ?_
      have g31 : pJT h tx j (cs.map c3of) := ⟨cs, S, D, pz, kk, ck, wo, xr, kl, cv, g1, g2, g3, g4, g5, g6, g7, g8, g9, g10, g11, g12, g13, g14, g15, g16, g17, g18, g19, g20, g21, g22, g23, g24, g25, rfl, ok⟩
      exact ⟨congrArg (fun z => some (Value.int z)) (show (-1) = _ from by unfold aRan; rw [if_neg (by rw [rng_a c_9]; decide)]), g31, fr0⟩
    · skip
      refine e_iload_n f_94_12 rfl rfl ?_
      refine e_iconst (v := nI 4) f_94_13 (by decide) rfl ?_
      refine e_icmp_le f_94_14 rfl (fun c_14 => ?_) (fun c_14 => ?_)
      · skip
        obtain ⟨kw, hkw, hwckw⟩ := rng_t (by omega) c_9 c_14
        subst hwckw
        refine e_aload_n f_94_19 rfl rfl ?_
        refine e_iload_n f_94_20 rfl rfl ?_
        refine e_callV (As := [.int (nI k)]) (rest := []) f_94_21 rfl rfl rfl (Nat.le_of_ble_eq_true rfl) (Nat.le_of_ble_eq_true rfl) g1 rfl (Nat.le_of_ble_eq_true rfl) (cc_JT_rw (c := k) (j := j) (cs := cs) (wo := wo) (x := xr) (L := tx.length) (S := S) (D := D) (n := cs.length) (pz := pz) (kk := kk) (ck := ck) g9 g11 g1 g3 g4 g5 g6 (hk) (h8) (ok.2.2.1.1) (fun t ht => (ok.2.2.2.1.2 t ht).1) (hS) (fun e => ok.2.2.2.2.1 k hk e)) rfl (fun h32 r33 q34 => ?_)
        obtain ⟨rfl, g35, g36, fx37⟩ := q34
        obtain ⟨hm38, fa39, fb40⟩ := fj_mid fx37
        have fr41 : px_fi 17 252 h hm38 := fi_tr fr0 fa39 (by omega)
        have fr42 : px_fi 17 252 h h32 := fi_tr fr41 fb40 (by omega)
        show px_to 94 24 [some (.ref (17)), some (.int (nI k)), some (.int (nI kw))] [] h32 _
        have ok2 := okJT_wo (wo2 := nI k) (x2 := (runO j (cs.getD k ct0).1)) ok (wo_ok h8 hk rfl)
        have hro := runO_ok (es := (cs.getD k ct0).1) ok.2.2.1.1 hct.1.2.1
        obtain ⟨jb43, gv44, la45, lb46, A47, B48, W49, sms50, tl51, A352, B353, W354, S355, sm356, hl64, g57, g58, g59, g60, g61, g62, g63⟩ := id g35
        refine e_iload_n f_94_24 rfl rfl ?_
        by_cases c_25_0 : kw = 0
        · skip
          refine e_sw_t f_94_25 (t := 56) (by rw [c_25_0]; rfl) ?_
          refine e_aload_n f_94_56 rfl rfl ?_
          have g65 : hm38.2.2 17 = some (11, [.ref (18), .int (nI tx.length), .ref (S), .ref (D), .ref (175), .ref (177), .ref (249), .ref (254), .ref (256), .ref (258), .ref (261), .ref (265), .int (bI pz), .ref (267), .int (bI kk), .ref (268), .int (bI ck)]) := fi_at g1 fa39 (by omega)
          have g66 : h32.2.2 17 = some (11, [.ref (18), .int (nI tx.length), .ref (S), .ref (D), .ref (175), .ref (177), .ref (249), .ref (254), .ref (256), .ref (258), .ref (261), .ref (265), .int (bI pz), .ref (267), .int (bI kk), .ref (268), .int (bI ck)]) := fi_at g65 fb40 (by omega)
          refine e_getf f_94_57 g66 rfl rfl ?_
          refine e_getf f_94_60 g57 rfl rfl ?_
          refine e_getf f_94_63 g61.1 rfl rfl ?_
          refine e_iret f_94_66 rfl (rfl) ?_
          have g67 : pRun h32 (nI k) (runO j (cs.getD k ct0).1) := ⟨_, _, _, _, _, _, _, _, _, _, _, _, _, _, hl64, g57, g58, g59, g60, g61, g62, g63⟩
          have g68 : px_pa hm38 18 52 500 vN tx := pa_fi g2 fa39 (by omega)
          have g69 : px_pa h32 18 52 500 vN tx := pa_fi g68 fb40 (by omega)
          have g70 : hm38.2.2 S = some (8, [.ref (S + 1), .ref (S + 5), .int (nI cs.length)]) := fi_at g3 fa39 (by omega)
          have g71 : h32.2.2 S = some (8, [.ref (S + 1), .ref (S + 5), .int (nI cs.length)]) := fi_at g70 fb40 (by omega)
          have g72 : pJob hm38 (S + 1) j := pJob_fi g4 fa39 (by omega)
          have g73 : pJob h32 (S + 1) j := pJob_fi g72 fb40 (by omega)
          have g74 : px_rs hm38 (S + 5) 56 8 (fun k => S + 9 * k + 6) := rs_fi g5 fa39 (by omega)
          have g75 : px_rs h32 (S + 5) 56 8 (fun k => S + 9 * k + 6) := rs_fi g74 fb40 (by omega)
          have g76 : pCs hm38 S cs := pCs_fi g6 fa39 (by omega)
          have g77 : pCs h32 S cs := pCs_fi g76 fb40 (by omega)
          have g78 : pDr hm38 D := pDr_fi g7 fa39 (by omega)
          have g79 : pDr h32 D := pDr_fi g78 fb40 (by omega)
          have g80 : pRA hm38 := pRA_fi g8 fa39 (by omega)
          have g81 : pRA h32 := pRA_fi g80 fb40 (by omega)
          have g82 : pJud hm38 := pJud_fi g10 fa39 (by omega)
          have g83 : pJud h32 := pJud_fi g82 fb40 (by omega)
          have g84 : pOrA hm38 256 := pOrA_fi g12 fa39 (by omega)
          have g85 : pOrA h32 256 := pOrA_fi g84 fb40 (by omega)
          have g86 : pSc hm38 := pSc_fi g13 fa39 (by omega)
          have g87 : pSc h32 := pSc_fi g86 fb40 (by omega)
          have g88 : pJA hm38 261 := pJA_fi g14 fa39 (by omega)
          have g89 : pJA h32 261 := pJA_fi g88 fb40 (by omega)
          have g90 : pRwA hm38 265 := pRwA_fi g15 fa39 (by omega)
          have g91 : pRwA h32 265 := pRwA_fi g90 fb40 (by omega)
          have g92 : px_pa hm38 267 50 30 Value.int kl := pa_fi g16 fa39 (by omega)
          have g93 : px_pa h32 267 50 30 Value.int kl := pa_fi g92 fb40 (by omega)
          have g94 : px_pa hm38 268 50 30 Value.int cv := pa_fi g17 fa39 (by omega)
          have g95 : px_pa h32 268 50 30 Value.int cv := pa_fi g94 fb40 (by omega)
          have g96 : pStr hm38 1 ([60, 61, 62]) := pStr_fi g18 fa39 (by omega)
          have g97 : pStr h32 1 ([60, 61, 62]) := pStr_fi g96 fb40 (by omega)
          have g98 : pStr hm38 2 ([43, 45, 42, 47]) := pStr_fi g19 fa39 (by omega)
          have g99 : pStr h32 2 ([43, 45, 42, 47]) := pStr_fi g98 fb40 (by omega)
          have g100 : pStr hm38 3 stepSigns := pStr_fi g20 fa39 (by omega)
          have g101 : pStr h32 3 stepSigns := pStr_fi g100 fb40 (by omega)
          have g102 : pStr hm38 4 ([60, 61, 62]) := pStr_fi g21 fa39 (by omega)
          have g103 : pStr h32 4 ([60, 61, 62]) := pStr_fi g102 fb40 (by omega)
          have g104 : pStr hm38 5 ([43, 45, 42, 47]) := pStr_fi g22 fa39 (by omega)
          have g105 : pStr h32 5 ([43, 45, 42, 47]) := pStr_fi g104 fb40 (by omega)
          have g106 : pStr hm38 6 evSigns := pStr_fi g23 fa39 (by omega)
          have g107 : pStr h32 6 evSigns := pStr_fi g106 fb40 (by omega)
          have g108 : pStr hm38 7 keyL := pStr_fi g24 fa39 (by omega)
          have g109 : pStr h32 7 keyL := pStr_fi g108 fb40 (by omega)
          have g110 : pStr hm38 8 ordL := pStr_fi g25 fa39 (by omega)
          have g111 : pStr h32 8 ordL := pStr_fi g110 fb40 (by omega)
          have g112 : pJT h32 tx j (cs.map c3of) := ⟨cs, S, D, pz, kk, ck, (nI k), (runO j (cs.getD k ct0).1), kl, cv, g66, g69, g71, g73, g75, g77, g79, g81, g67, g83, g36, g85, g87, g89, g91, g93, g95, g97, g99, g101, g103, g105, g107, g109, g111, rfl, ok2⟩
          exact ⟨congrArg (fun z => some (Value.int z)) (show nI (((runO j (cs.getD k ct0).1).2.1).length) = _ from by unfold aRan; rw [if_pos (hasC_nI (by omega) (by omega)), onC_k h8m hkm, map_c3 hk, nN_nI (by omega)]; unfold ranO; rw [if_pos c_25_0]; rfl), g112, fr42⟩
        · skip
          by_cases c_25_1 : kw = 1
          · skip
            refine e_sw_t f_94_25 (t := 67) (by rw [c_25_1]; rfl) ?_
            refine e_aload_n f_94_67 rfl rfl ?_
            have g113 : hm38.2.2 17 = some (11, [.ref (18), .int (nI tx.length), .ref (S), .ref (D), .ref (175), .ref (177), .ref (249), .ref (254), .ref (256), .ref (258), .ref (261), .ref (265), .int (bI pz), .ref (267), .int (bI kk), .ref (268), .int (bI ck)]) := fi_at g1 fa39 (by omega)
            have g114 : h32.2.2 17 = some (11, [.ref (18), .int (nI tx.length), .ref (S), .ref (D), .ref (175), .ref (177), .ref (249), .ref (254), .ref (256), .ref (258), .ref (261), .ref (265), .int (bI pz), .ref (267), .int (bI kk), .ref (268), .int (bI ck)]) := fi_at g113 fb40 (by omega)
            refine e_getf f_94_68 g114 rfl rfl ?_
            refine e_getf f_94_71 g57 rfl rfl ?_
            refine e_getf f_94_74 g58 rfl rfl ?_
            refine e_iret f_94_77 rfl (rfl) ?_
            have g115 : pRun h32 (nI k) (runO j (cs.getD k ct0).1) := ⟨_, _, _, _, _, _, _, _, _, _, _, _, _, _, hl64, g57, g58, g59, g60, g61, g62, g63⟩
            have g116 : px_pa hm38 18 52 500 vN tx := pa_fi g2 fa39 (by omega)
            have g117 : px_pa h32 18 52 500 vN tx := pa_fi g116 fb40 (by omega)
            have g118 : hm38.2.2 S = some (8, [.ref (S + 1), .ref (S + 5), .int (nI cs.length)]) := fi_at g3 fa39 (by omega)
            have g119 : h32.2.2 S = some (8, [.ref (S + 1), .ref (S + 5), .int (nI cs.length)]) := fi_at g118 fb40 (by omega)
            have g120 : pJob hm38 (S + 1) j := pJob_fi g4 fa39 (by omega)
            have g121 : pJob h32 (S + 1) j := pJob_fi g120 fb40 (by omega)
            have g122 : px_rs hm38 (S + 5) 56 8 (fun k => S + 9 * k + 6) := rs_fi g5 fa39 (by omega)
            have g123 : px_rs h32 (S + 5) 56 8 (fun k => S + 9 * k + 6) := rs_fi g122 fb40 (by omega)
            have g124 : pCs hm38 S cs := pCs_fi g6 fa39 (by omega)
            have g125 : pCs h32 S cs := pCs_fi g124 fb40 (by omega)
            have g126 : pDr hm38 D := pDr_fi g7 fa39 (by omega)
            have g127 : pDr h32 D := pDr_fi g126 fb40 (by omega)
            have g128 : pRA hm38 := pRA_fi g8 fa39 (by omega)
            have g129 : pRA h32 := pRA_fi g128 fb40 (by omega)
            have g130 : pJud hm38 := pJud_fi g10 fa39 (by omega)
            have g131 : pJud h32 := pJud_fi g130 fb40 (by omega)
            have g132 : pOrA hm38 256 := pOrA_fi g12 fa39 (by omega)
            have g133 : pOrA h32 256 := pOrA_fi g132 fb40 (by omega)
            have g134 : pSc hm38 := pSc_fi g13 fa39 (by omega)
            have g135 : pSc h32 := pSc_fi g134 fb40 (by omega)
            have g136 : pJA hm38 261 := pJA_fi g14 fa39 (by omega)
            have g137 : pJA h32 261 := pJA_fi g136 fb40 (by omega)
            have g138 : pRwA hm38 265 := pRwA_fi g15 fa39 (by omega)
            have g139 : pRwA h32 265 := pRwA_fi g138 fb40 (by omega)
            have g140 : px_pa hm38 267 50 30 Value.int kl := pa_fi g16 fa39 (by omega)
            have g141 : px_pa h32 267 50 30 Value.int kl := pa_fi g140 fb40 (by omega)
            have g142 : px_pa hm38 268 50 30 Value.int cv := pa_fi g17 fa39 (by omega)
            have g143 : px_pa h32 268 50 30 Value.int cv := pa_fi g142 fb40 (by omega)
            have g144 : pStr hm38 1 ([60, 61, 62]) := pStr_fi g18 fa39 (by omega)
            have g145 : pStr h32 1 ([60, 61, 62]) := pStr_fi g144 fb40 (by omega)
            have g146 : pStr hm38 2 ([43, 45, 42, 47]) := pStr_fi g19 fa39 (by omega)
            have g147 : pStr h32 2 ([43, 45, 42, 47]) := pStr_fi g146 fb40 (by omega)
            have g148 : pStr hm38 3 stepSigns := pStr_fi g20 fa39 (by omega)
            have g149 : pStr h32 3 stepSigns := pStr_fi g148 fb40 (by omega)
            have g150 : pStr hm38 4 ([60, 61, 62]) := pStr_fi g21 fa39 (by omega)
            have g151 : pStr h32 4 ([60, 61, 62]) := pStr_fi g150 fb40 (by omega)
            have g152 : pStr hm38 5 ([43, 45, 42, 47]) := pStr_fi g22 fa39 (by omega)
            have g153 : pStr h32 5 ([43, 45, 42, 47]) := pStr_fi g152 fb40 (by omega)
            have g154 : pStr hm38 6 evSigns := pStr_fi g23 fa39 (by omega)
            have g155 : pStr h32 6 evSigns := pStr_fi g154 fb40 (by omega)
            have g156 : pStr hm38 7 keyL := pStr_fi g24 fa39 (by omega)
            have g157 : pStr h32 7 keyL := pStr_fi g156 fb40 (by omega)
            have g158 : pStr hm38 8 ordL := pStr_fi g25 fa39 (by omega)
            have g159 : pStr h32 8 ordL := pStr_fi g158 fb40 (by omega)
            have g160 : pJT h32 tx j (cs.map c3of) := ⟨cs, S, D, pz, kk, ck, (nI k), (runO j (cs.getD k ct0).1), kl, cv, g114, g117, g119, g121, g123, g125, g127, g129, g115, g131, g36, g133, g135, g137, g139, g141, g143, g145, g147, g149, g151, g153, g155, g157, g159, rfl, ok2⟩
            exact ⟨congrArg (fun z => some (Value.int z)) (show (runO j (cs.getD k ct0).1).1 = _ from by unfold aRan; rw [if_pos (hasC_nI (by omega) (by omega)), onC_k h8m hkm, map_c3 hk, nN_nI (by omega)]; unfold ranO; rw [if_neg c_25_0, if_pos c_25_1]; rfl), g160, fr42⟩
          · skip
            by_cases c_25_2 : kw = 2
            · skip
              refine e_sw_t f_94_25 (t := 78) (by rw [c_25_2]; rfl) ?_
              refine e_aload_n f_94_78 rfl rfl ?_
              have g161 : hm38.2.2 17 = some (11, [.ref (18), .int (nI tx.length), .ref (S), .ref (D), .ref (175), .ref (177), .ref (249), .ref (254), .ref (256), .ref (258), .ref (261), .ref (265), .int (bI pz), .ref (267), .int (bI kk), .ref (268), .int (bI ck)]) := fi_at g1 fa39 (by omega)
              have g162 : h32.2.2 17 = some (11, [.ref (18), .int (nI tx.length), .ref (S), .ref (D), .ref (175), .ref (177), .ref (249), .ref (254), .ref (256), .ref (258), .ref (261), .ref (265), .int (bI pz), .ref (267), .int (bI kk), .ref (268), .int (bI ck)]) := fi_at g161 fb40 (by omega)
              refine e_getf f_94_79 g162 rfl rfl ?_
              refine e_getf f_94_82 g57 rfl rfl ?_
              refine e_bipush (v := (-3)) f_94_85 (by decide) rfl ?_
              refine e_icmp_ne f_94_87 rfl (fun c_87 => ?_) (fun c_87 => ?_)
              · skip
                obtain ⟨zq, hz0⟩ := oI_ne c_87
                have hz : ¬ (runO j (c3of (cs.getD k ct0)).1).2.2.1 = none := by show ¬ (runO j (cs.getD k ct0).1).2.2.1 = none; rw [hz0]; exact fun z => nomatch z
                refine e_iconst (v := nI 1) f_94_94 (by decide) rfl ?_
                refine e_iret f_94_95 rfl (rfl) ?_
                have g163 : pRun h32 (nI k) (runO j (cs.getD k ct0).1) := ⟨_, _, _, _, _, _, _, _, _, _, _, _, _, _, hl64, g57, g58, g59, g60, g61, g62, g63⟩
                have g164 : px_pa hm38 18 52 500 vN tx := pa_fi g2 fa39 (by omega)
                have g165 : px_pa h32 18 52 500 vN tx := pa_fi g164 fb40 (by omega)
                have g166 : hm38.2.2 S = some (8, [.ref (S + 1), .ref (S + 5), .int (nI cs.length)]) := fi_at g3 fa39 (by omega)
                have g167 : h32.2.2 S = some (8, [.ref (S + 1), .ref (S + 5), .int (nI cs.length)]) := fi_at g166 fb40 (by omega)
                have g168 : pJob hm38 (S + 1) j := pJob_fi g4 fa39 (by omega)
                have g169 : pJob h32 (S + 1) j := pJob_fi g168 fb40 (by omega)
                have g170 : px_rs hm38 (S + 5) 56 8 (fun k => S + 9 * k + 6) := rs_fi g5 fa39 (by omega)
                have g171 : px_rs h32 (S + 5) 56 8 (fun k => S + 9 * k + 6) := rs_fi g170 fb40 (by omega)
                have g172 : pCs hm38 S cs := pCs_fi g6 fa39 (by omega)
                have g173 : pCs h32 S cs := pCs_fi g172 fb40 (by omega)
                have g174 : pDr hm38 D := pDr_fi g7 fa39 (by omega)
                have g175 : pDr h32 D := pDr_fi g174 fb40 (by omega)
                have g176 : pRA hm38 := pRA_fi g8 fa39 (by omega)
                have g177 : pRA h32 := pRA_fi g176 fb40 (by omega)
                have g178 : pJud hm38 := pJud_fi g10 fa39 (by omega)
                have g179 : pJud h32 := pJud_fi g178 fb40 (by omega)
                have g180 : pOrA hm38 256 := pOrA_fi g12 fa39 (by omega)
                have g181 : pOrA h32 256 := pOrA_fi g180 fb40 (by omega)
                have g182 : pSc hm38 := pSc_fi g13 fa39 (by omega)
                have g183 : pSc h32 := pSc_fi g182 fb40 (by omega)
                have g184 : pJA hm38 261 := pJA_fi g14 fa39 (by omega)
                have g185 : pJA h32 261 := pJA_fi g184 fb40 (by omega)
                have g186 : pRwA hm38 265 := pRwA_fi g15 fa39 (by omega)
                have g187 : pRwA h32 265 := pRwA_fi g186 fb40 (by omega)
                have g188 : px_pa hm38 267 50 30 Value.int kl := pa_fi g16 fa39 (by omega)
                have g189 : px_pa h32 267 50 30 Value.int kl := pa_fi g188 fb40 (by omega)
                have g190 : px_pa hm38 268 50 30 Value.int cv := pa_fi g17 fa39 (by omega)
                have g191 : px_pa h32 268 50 30 Value.int cv := pa_fi g190 fb40 (by omega)
                have g192 : pStr hm38 1 ([60, 61, 62]) := pStr_fi g18 fa39 (by omega)
                have g193 : pStr h32 1 ([60, 61, 62]) := pStr_fi g192 fb40 (by omega)
                have g194 : pStr hm38 2 ([43, 45, 42, 47]) := pStr_fi g19 fa39 (by omega)
                have g195 : pStr h32 2 ([43, 45, 42, 47]) := pStr_fi g194 fb40 (by omega)
                have g196 : pStr hm38 3 stepSigns := pStr_fi g20 fa39 (by omega)
                have g197 : pStr h32 3 stepSigns := pStr_fi g196 fb40 (by omega)
                have g198 : pStr hm38 4 ([60, 61, 62]) := pStr_fi g21 fa39 (by omega)
                have g199 : pStr h32 4 ([60, 61, 62]) := pStr_fi g198 fb40 (by omega)
                have g200 : pStr hm38 5 ([43, 45, 42, 47]) := pStr_fi g22 fa39 (by omega)
                have g201 : pStr h32 5 ([43, 45, 42, 47]) := pStr_fi g200 fb40 (by omega)
                have g202 : pStr hm38 6 evSigns := pStr_fi g23 fa39 (by omega)
                have g203 : pStr h32 6 evSigns := pStr_fi g202 fb40 (by omega)
                have g204 : pStr hm38 7 keyL := pStr_fi g24 fa39 (by omega)
                have g205 : pStr h32 7 keyL := pStr_fi g204 fb40 (by omega)
                have g206 : pStr hm38 8 ordL := pStr_fi g25 fa39 (by omega)
                have g207 : pStr h32 8 ordL := pStr_fi g206 fb40 (by omega)
                have g208 : pJT h32 tx j (cs.map c3of) := ⟨cs, S, D, pz, kk, ck, (nI k), (runO j (cs.getD k ct0).1), kl, cv, g162, g165, g167, g169, g171, g173, g175, g177, g163, g179, g36, g181, g183, g185, g187, g189, g191, g193, g195, g197, g199, g201, g203, g205, g207, rfl, ok2⟩
                exact ⟨congrArg (fun z => some (Value.int z)) (show nI 1 = _ from by unfold aRan; rw [if_pos (hasC_nI (by omega) (by omega)), onC_k h8m hkm, map_c3 hk, nN_nI (by omega)]; unfold ranO; rw [if_neg c_25_0, if_neg c_25_1, if_pos c_25_2, if_neg hz]), g208, fr42⟩
              · skip
                have hz : (runO j (c3of (cs.getD k ct0)).1).2.2.1 = none := oI_z (Classical.not_not.mp c_87) hro.2.2
                refine e_iconst (v := nI 0) f_94_90 (by decide) rfl ?_
                refine e_goto f_94_91 ?_
                refine e_iret f_94_95 rfl (rfl) ?_
                have g209 : pRun h32 (nI k) (runO j (cs.getD k ct0).1) := ⟨_, _, _, _, _, _, _, _, _, _, _, _, _, _, hl64, g57, g58, g59, g60, g61, g62, g63⟩
                have g210 : px_pa hm38 18 52 500 vN tx := pa_fi g2 fa39 (by omega)
                have g211 : px_pa h32 18 52 500 vN tx := pa_fi g210 fb40 (by omega)
                have g212 : hm38.2.2 S = some (8, [.ref (S + 1), .ref (S + 5), .int (nI cs.length)]) := fi_at g3 fa39 (by omega)
                have g213 : h32.2.2 S = some (8, [.ref (S + 1), .ref (S + 5), .int (nI cs.length)]) := fi_at g212 fb40 (by omega)
                have g214 : pJob hm38 (S + 1) j := pJob_fi g4 fa39 (by omega)
                have g215 : pJob h32 (S + 1) j := pJob_fi g214 fb40 (by omega)
                have g216 : px_rs hm38 (S + 5) 56 8 (fun k => S + 9 * k + 6) := rs_fi g5 fa39 (by omega)
                have g217 : px_rs h32 (S + 5) 56 8 (fun k => S + 9 * k + 6) := rs_fi g216 fb40 (by omega)
                have g218 : pCs hm38 S cs := pCs_fi g6 fa39 (by omega)
                have g219 : pCs h32 S cs := pCs_fi g218 fb40 (by omega)
                have g220 : pDr hm38 D := pDr_fi g7 fa39 (by omega)
                have g221 : pDr h32 D := pDr_fi g220 fb40 (by omega)
                have g222 : pRA hm38 := pRA_fi g8 fa39 (by omega)
                have g223 : pRA h32 := pRA_fi g222 fb40 (by omega)
                have g224 : pJud hm38 := pJud_fi g10 fa39 (by omega)
                have g225 : pJud h32 := pJud_fi g224 fb40 (by omega)
                have g226 : pOrA hm38 256 := pOrA_fi g12 fa39 (by omega)
                have g227 : pOrA h32 256 := pOrA_fi g226 fb40 (by omega)
                have g228 : pSc hm38 := pSc_fi g13 fa39 (by omega)
                have g229 : pSc h32 := pSc_fi g228 fb40 (by omega)
                have g230 : pJA hm38 261 := pJA_fi g14 fa39 (by omega)
                have g231 : pJA h32 261 := pJA_fi g230 fb40 (by omega)
                have g232 : pRwA hm38 265 := pRwA_fi g15 fa39 (by omega)
                have g233 : pRwA h32 265 := pRwA_fi g232 fb40 (by omega)
                have g234 : px_pa hm38 267 50 30 Value.int kl := pa_fi g16 fa39 (by omega)
                have g235 : px_pa h32 267 50 30 Value.int kl := pa_fi g234 fb40 (by omega)
                have g236 : px_pa hm38 268 50 30 Value.int cv := pa_fi g17 fa39 (by omega)
                have g237 : px_pa h32 268 50 30 Value.int cv := pa_fi g236 fb40 (by omega)
                have g238 : pStr hm38 1 ([60, 61, 62]) := pStr_fi g18 fa39 (by omega)
                have g239 : pStr h32 1 ([60, 61, 62]) := pStr_fi g238 fb40 (by omega)
                have g240 : pStr hm38 2 ([43, 45, 42, 47]) := pStr_fi g19 fa39 (by omega)
                have g241 : pStr h32 2 ([43, 45, 42, 47]) := pStr_fi g240 fb40 (by omega)
                have g242 : pStr hm38 3 stepSigns := pStr_fi g20 fa39 (by omega)
                have g243 : pStr h32 3 stepSigns := pStr_fi g242 fb40 (by omega)
                have g244 : pStr hm38 4 ([60, 61, 62]) := pStr_fi g21 fa39 (by omega)
                have g245 : pStr h32 4 ([60, 61, 62]) := pStr_fi g244 fb40 (by omega)
                have g246 : pStr hm38 5 ([43, 45, 42, 47]) := pStr_fi g22 fa39 (by omega)
                have g247 : pStr h32 5 ([43, 45, 42, 47]) := pStr_fi g246 fb40 (by omega)
                have g248 : pStr hm38 6 evSigns := pStr_fi g23 fa39 (by omega)
                have g249 : pStr h32 6 evSigns := pStr_fi g248 fb40 (by omega)
                have g250 : pStr hm38 7 keyL := pStr_fi g24 fa39 (by omega)
                have g251 : pStr h32 7 keyL := pStr_fi g250 fb40 (by omega)
                have g252 : pStr hm38 8 ordL := pStr_fi g25 fa39 (by omega)
                have g253 : pStr h32 8 ordL := pStr_fi g252 fb40 (by omega)
                have g254 : pJT h32 tx j (cs.map c3of) := ⟨cs, S, D, pz, kk, ck, (nI k), (runO j (cs.getD k ct0).1), kl, cv, g162, g211, g213, g215, g217, g219, g221, g223, g209, g225, g36, g227, g229, g231, g233, g235, g237, g239, g241, g243, g245, g247, g249, g251, g253, rfl, ok2⟩
                exact ⟨congrArg (fun z => some (Value.int z)) (show nI 0 = _ from by unfold aRan; rw [if_pos (hasC_nI (by omega) (by omega)), onC_k h8m hkm, map_c3 hk, nN_nI (by omega)]; unfold ranO; rw [if_neg c_25_0, if_neg c_25_1, if_pos c_25_2, if_pos hz]), g254, fr42⟩
            · skip
              by_cases c_25_3 : kw = 3
              · skip
                refine e_sw_t f_94_25 (t := 96) (by rw [c_25_3]; rfl) ?_
                refine e_aload_n f_94_96 rfl rfl ?_
                have g255 : hm38.2.2 17 = some (11, [.ref (18), .int (nI tx.length), .ref (S), .ref (D), .ref (175), .ref (177), .ref (249), .ref (254), .ref (256), .ref (258), .ref (261), .ref (265), .int (bI pz), .ref (267), .int (bI kk), .ref (268), .int (bI ck)]) := fi_at g1 fa39 (by omega)
                have g256 : h32.2.2 17 = some (11, [.ref (18), .int (nI tx.length), .ref (S), .ref (D), .ref (175), .ref (177), .ref (249), .ref (254), .ref (256), .ref (258), .ref (261), .ref (265), .int (bI pz), .ref (267), .int (bI kk), .ref (268), .int (bI ck)]) := fi_at g255 fb40 (by omega)
                refine e_getf f_94_97 g256 rfl rfl ?_
                refine e_getf f_94_100 g57 rfl rfl ?_
                refine e_iret f_94_103 rfl (rfl) ?_
                have g257 : pRun h32 (nI k) (runO j (cs.getD k ct0).1) := ⟨_, _, _, _, _, _, _, _, _, _, _, _, _, _, hl64, g57, g58, g59, g60, g61, g62, g63⟩
                have g258 : px_pa hm38 18 52 500 vN tx := pa_fi g2 fa39 (by omega)
                have g259 : px_pa h32 18 52 500 vN tx := pa_fi g258 fb40 (by omega)
                have g260 : hm38.2.2 S = some (8, [.ref (S + 1), .ref (S + 5), .int (nI cs.length)]) := fi_at g3 fa39 (by omega)
                have g261 : h32.2.2 S = some (8, [.ref (S + 1), .ref (S + 5), .int (nI cs.length)]) := fi_at g260 fb40 (by omega)
                have g262 : pJob hm38 (S + 1) j := pJob_fi g4 fa39 (by omega)
                have g263 : pJob h32 (S + 1) j := pJob_fi g262 fb40 (by omega)
                have g264 : px_rs hm38 (S + 5) 56 8 (fun k => S + 9 * k + 6) := rs_fi g5 fa39 (by omega)
                have g265 : px_rs h32 (S + 5) 56 8 (fun k => S + 9 * k + 6) := rs_fi g264 fb40 (by omega)
                have g266 : pCs hm38 S cs := pCs_fi g6 fa39 (by omega)
                have g267 : pCs h32 S cs := pCs_fi g266 fb40 (by omega)
                have g268 : pDr hm38 D := pDr_fi g7 fa39 (by omega)
                have g269 : pDr h32 D := pDr_fi g268 fb40 (by omega)
                have g270 : pRA hm38 := pRA_fi g8 fa39 (by omega)
                have g271 : pRA h32 := pRA_fi g270 fb40 (by omega)
                have g272 : pJud hm38 := pJud_fi g10 fa39 (by omega)
                have g273 : pJud h32 := pJud_fi g272 fb40 (by omega)
                have g274 : pOrA hm38 256 := pOrA_fi g12 fa39 (by omega)
                have g275 : pOrA h32 256 := pOrA_fi g274 fb40 (by omega)
                have g276 : pSc hm38 := pSc_fi g13 fa39 (by omega)
                have g277 : pSc h32 := pSc_fi g276 fb40 (by omega)
                have g278 : pJA hm38 261 := pJA_fi g14 fa39 (by omega)
                have g279 : pJA h32 261 := pJA_fi g278 fb40 (by omega)
                have g280 : pRwA hm38 265 := pRwA_fi g15 fa39 (by omega)
                have g281 : pRwA h32 265 := pRwA_fi g280 fb40 (by omega)
                have g282 : px_pa hm38 267 50 30 Value.int kl := pa_fi g16 fa39 (by omega)
                have g283 : px_pa h32 267 50 30 Value.int kl := pa_fi g282 fb40 (by omega)
                have g284 : px_pa hm38 268 50 30 Value.int cv := pa_fi g17 fa39 (by omega)
                have g285 : px_pa h32 268 50 30 Value.int cv := pa_fi g284 fb40 (by omega)
                have g286 : pStr hm38 1 ([60, 61, 62]) := pStr_fi g18 fa39 (by omega)
                have g287 : pStr h32 1 ([60, 61, 62]) := pStr_fi g286 fb40 (by omega)
                have g288 : pStr hm38 2 ([43, 45, 42, 47]) := pStr_fi g19 fa39 (by omega)
                have g289 : pStr h32 2 ([43, 45, 42, 47]) := pStr_fi g288 fb40 (by omega)
                have g290 : pStr hm38 3 stepSigns := pStr_fi g20 fa39 (by omega)
                have g291 : pStr h32 3 stepSigns := pStr_fi g290 fb40 (by omega)
                have g292 : pStr hm38 4 ([60, 61, 62]) := pStr_fi g21 fa39 (by omega)
                have g293 : pStr h32 4 ([60, 61, 62]) := pStr_fi g292 fb40 (by omega)
                have g294 : pStr hm38 5 ([43, 45, 42, 47]) := pStr_fi g22 fa39 (by omega)
                have g295 : pStr h32 5 ([43, 45, 42, 47]) := pStr_fi g294 fb40 (by omega)
                have g296 : pStr hm38 6 evSigns := pStr_fi g23 fa39 (by omega)
                have g297 : pStr h32 6 evSigns := pStr_fi g296 fb40 (by omega)
                have g298 : pStr hm38 7 keyL := pStr_fi g24 fa39 (by omega)
                have g299 : pStr h32 7 keyL := pStr_fi g298 fb40 (by omega)
                have g300 : pStr hm38 8 ordL := pStr_fi g25 fa39 (by omega)
                have g301 : pStr h32 8 ordL := pStr_fi g300 fb40 (by omega)
                have g302 : pJT h32 tx j (cs.map c3of) := ⟨cs, S, D, pz, kk, ck, (nI k), (runO j (cs.getD k ct0).1), kl, cv, g256, g259, g261, g263, g265, g267, g269, g271, g257, g273, g36, g275, g277, g279, g281, g283, g285, g287, g289, g291, g293, g295, g297, g299, g301, rfl, ok2⟩
                exact ⟨congrArg (fun z => some (Value.int z)) (show oI ((runO j (cs.getD k ct0).1).2.2.1) = _ from by unfold aRan; rw [if_pos (hasC_nI (by omega) (by omega)), onC_k h8m hkm, map_c3 hk, nN_nI (by omega)]; unfold ranO; rw [if_neg c_25_0, if_neg c_25_1, if_neg c_25_2, if_pos c_25_3]; rfl), g302, fr42⟩
              · skip
                refine e_sw_t f_94_25 (t := 104) (tsw_dfN (by omega) (by omega) rfl) ?_
                refine e_aload_n f_94_104 rfl rfl ?_
                have g303 : hm38.2.2 17 = some (11, [.ref (18), .int (nI tx.length), .ref (S), .ref (D), .ref (175), .ref (177), .ref (249), .ref (254), .ref (256), .ref (258), .ref (261), .ref (265), .int (bI pz), .ref (267), .int (bI kk), .ref (268), .int (bI ck)]) := fi_at g1 fa39 (by omega)
                have g304 : h32.2.2 17 = some (11, [.ref (18), .int (nI tx.length), .ref (S), .ref (D), .ref (175), .ref (177), .ref (249), .ref (254), .ref (256), .ref (258), .ref (261), .ref (265), .int (bI pz), .ref (267), .int (bI kk), .ref (268), .int (bI ck)]) := fi_at g303 fb40 (by omega)
                refine e_getf f_94_105 g304 rfl rfl ?_
                refine e_getf f_94_108 g57 rfl rfl ?_
                refine e_iret f_94_111 rfl (rfl) ?_
                have g305 : pRun h32 (nI k) (runO j (cs.getD k ct0).1) := ⟨_, _, _, _, _, _, _, _, _, _, _, _, _, _, hl64, g57, g58, g59, g60, g61, g62, g63⟩
                have g306 : px_pa hm38 18 52 500 vN tx := pa_fi g2 fa39 (by omega)
                have g307 : px_pa h32 18 52 500 vN tx := pa_fi g306 fb40 (by omega)
                have g308 : hm38.2.2 S = some (8, [.ref (S + 1), .ref (S + 5), .int (nI cs.length)]) := fi_at g3 fa39 (by omega)
                have g309 : h32.2.2 S = some (8, [.ref (S + 1), .ref (S + 5), .int (nI cs.length)]) := fi_at g308 fb40 (by omega)
                have g310 : pJob hm38 (S + 1) j := pJob_fi g4 fa39 (by omega)
                have g311 : pJob h32 (S + 1) j := pJob_fi g310 fb40 (by omega)
                have g312 : px_rs hm38 (S + 5) 56 8 (fun k => S + 9 * k + 6) := rs_fi g5 fa39 (by omega)
                have g313 : px_rs h32 (S + 5) 56 8 (fun k => S + 9 * k + 6) := rs_fi g312 fb40 (by omega)
                have g314 : pCs hm38 S cs := pCs_fi g6 fa39 (by omega)
                have g315 : pCs h32 S cs := pCs_fi g314 fb40 (by omega)
                have g316 : pDr hm38 D := pDr_fi g7 fa39 (by omega)
                have g317 : pDr h32 D := pDr_fi g316 fb40 (by omega)
                have g318 : pRA hm38 := pRA_fi g8 fa39 (by omega)
                have g319 : pRA h32 := pRA_fi g318 fb40 (by omega)
                have g320 : pJud hm38 := pJud_fi g10 fa39 (by omega)
                have g321 : pJud h32 := pJud_fi g320 fb40 (by omega)
                have g322 : pOrA hm38 256 := pOrA_fi g12 fa39 (by omega)
                have g323 : pOrA h32 256 := pOrA_fi g322 fb40 (by omega)
                have g324 : pSc hm38 := pSc_fi g13 fa39 (by omega)
                have g325 : pSc h32 := pSc_fi g324 fb40 (by omega)
                have g326 : pJA hm38 261 := pJA_fi g14 fa39 (by omega)
                have g327 : pJA h32 261 := pJA_fi g326 fb40 (by omega)
                have g328 : pRwA hm38 265 := pRwA_fi g15 fa39 (by omega)
                have g329 : pRwA h32 265 := pRwA_fi g328 fb40 (by omega)
                have g330 : px_pa hm38 267 50 30 Value.int kl := pa_fi g16 fa39 (by omega)
                have g331 : px_pa h32 267 50 30 Value.int kl := pa_fi g330 fb40 (by omega)
                have g332 : px_pa hm38 268 50 30 Value.int cv := pa_fi g17 fa39 (by omega)
                have g333 : px_pa h32 268 50 30 Value.int cv := pa_fi g332 fb40 (by omega)
                have g334 : pStr hm38 1 ([60, 61, 62]) := pStr_fi g18 fa39 (by omega)
                have g335 : pStr h32 1 ([60, 61, 62]) := pStr_fi g334 fb40 (by omega)
                have g336 : pStr hm38 2 ([43, 45, 42, 47]) := pStr_fi g19 fa39 (by omega)
                have g337 : pStr h32 2 ([43, 45, 42, 47]) := pStr_fi g336 fb40 (by omega)
                have g338 : pStr hm38 3 stepSigns := pStr_fi g20 fa39 (by omega)
                have g339 : pStr h32 3 stepSigns := pStr_fi g338 fb40 (by omega)
                have g340 : pStr hm38 4 ([60, 61, 62]) := pStr_fi g21 fa39 (by omega)
                have g341 : pStr h32 4 ([60, 61, 62]) := pStr_fi g340 fb40 (by omega)
                have g342 : pStr hm38 5 ([43, 45, 42, 47]) := pStr_fi g22 fa39 (by omega)
                have g343 : pStr h32 5 ([43, 45, 42, 47]) := pStr_fi g342 fb40 (by omega)
                have g344 : pStr hm38 6 evSigns := pStr_fi g23 fa39 (by omega)
                have g345 : pStr h32 6 evSigns := pStr_fi g344 fb40 (by omega)
                have g346 : pStr hm38 7 keyL := pStr_fi g24 fa39 (by omega)
                have g347 : pStr h32 7 keyL := pStr_fi g346 fb40 (by omega)
                have g348 : pStr hm38 8 ordL := pStr_fi g25 fa39 (by omega)
                have g349 : pStr h32 8 ordL := pStr_fi g348 fb40 (by omega)
                have g350 : pJT h32 tx j (cs.map c3of) := ⟨cs, S, D, pz, kk, ck, (nI k), (runO j (cs.getD k ct0).1), kl, cv, g304, g307, g309, g311, g313, g315, g317, g319, g305, g321, g36, g323, g325, g327, g329, g331, g333, g335, g337, g339, g341, g343, g345, g347, g349, rfl, ok2⟩
                exact ⟨congrArg (fun z => some (Value.int z)) (show (runO j (cs.getD k ct0).1).2.2.2 = _ from by unfold aRan; rw [if_pos (hasC_nI (by omega) (by omega)), onC_k h8m hkm, map_c3 hk, nN_nI (by omega)]; unfold ranO; rw [if_neg c_25_0, if_neg c_25_1, if_neg c_25_2, if_neg c_25_3]; rfl), g350, fr42⟩
      · skip
        refine e_iconst (v := (-1)) f_94_17 (by decide) rfl ?_
        refine e_iret f_94_18 rfl (rfl) ?_
        have g351 : pJT h tx j (cs.map c3of) := ⟨cs, S, D, pz, kk, ck, wo, xr, kl, cv, g1, g2, g3, g4, g5, g6, g7, g8, g9, g10, g11, g12, g13, g14, g15, g16, g17, g18, g19, g20, g21, g22, g23, g24, g25, rfl, ok⟩
        exact ⟨congrArg (fun z => some (Value.int z)) (show (-1) = _ from by unfold aRan; rw [if_neg (by rw [rng_b (by omega) c_14]; decide)]), g351, fr0⟩

set_option maxRecDepth 20000 in
set_option maxHeartbeats 4000000 in
theorem cc_JT_out {h : px_H} {tx : List Nat} {j : List St} {xs : List CS3} {c : Int32} {i : Int32} {w : Int32} (H0 : pJT h tx j xs)  : px_wp 95 [.ref (17), .int (c), .int (i), .int (w)] h (fun h1 r => r = some (.int (aOut j xs c i w)) ∧ pJT h1 tx j xs ∧ px_fi 17 252 h h1) := by
  have fr0 : px_fi 17 252 h h := fi_rf _ _ _
  show px_to 95 0 [some (.ref (17)), some (.int (c)), some (.int (i)), some (.int (w))] [] h _
  obtain ⟨cs, S, D, pz, kk, ck, wo, xr, kl, cv, g1, g2, g3, g4, g5, g6, g7, g8, g9, g10, g11, g12, g13, g14, g15, g16, g17, g18, g19, g20, g21, g22, g23, g24, g25, hx, ok⟩ := id H0
  subst hx
  have h8 := ok.2.2.2.1.1
  have hS : 18 < S ∧ S + 78 ≤ 175 := by have := ok.1; omega
  have hD : 18 < D ∧ D + 78 ≤ 175 := by have := ok.1; omega
  have hSD : D + 78 ≤ S ∨ S + 78 ≤ D := by have := ok.1; omega
  have h8m : (cs.map c3of).length ≤ 8 := by rw [List.length_map]; exact h8
  have htl : tx.length ≤ 500 := pa_len g2
  refine e_aload_n f_95_0 rfl rfl ?_
  refine e_iload_n f_95_1 rfl rfl ?_
  refine e_callV (As := [.int (c)]) (rest := []) f_95_2 rfl rfl rfl (Nat.le_of_ble_eq_true rfl) (Nat.le_of_ble_eq_true rfl) g1 rfl (Nat.le_of_ble_eq_true rfl) (cc_JT_has (c := c) (L := tx.length) (S := S) (D := D) (n := cs.length) (pz := pz) (kk := kk) (ck := ck) g1 g3 (by omega)) rfl (fun h26 r27 q28 => ?_)
  obtain ⟨rfl, qe⟩ := q28
  have qe := qe.symm
  subst qe
  show px_to 95 5 [some (.ref (17)), some (.int (c)), some (.int (i)), some (.int (w))] [.int (bI (hasC c cs.length))] h _
  refine e_if_eq f_95_5 rfl (fun c_5 => ?_) (fun c_5 => ?_)
  · skip
    have c_5 : (hasC c cs.length) = false := bI_f c_5
    have hno : hasC c (cs.map c3of).length = false := by rw [List.length_map]; exact c_5
    refine e_iconst (v := (-1)) f_95_17 (by decide) rfl ?_
    refine e_iret f_95_18 rfl (rfl) ?_
    have g29 : pJT h tx j (cs.map c3of) := ⟨cs, S, D, pz, kk, ck, wo, xr, kl, cv, g1, g2, g3, g4, g5, g6, g7, g8, g9, g10, g11, g12, g13, g14, g15, g16, g17, g18, g19, g20, g21, g22, g23, g24, g25, rfl, ok⟩
    exact ⟨congrArg (fun z => some (Value.int z)) (show (-1) = _ from by unfold aOut; rw [onC_no hno]; split <;> rfl), g29, fr0⟩
  · skip
    have c_5 : (hasC c cs.length) = true := bI_t' c_5
    obtain ⟨k, hk, hkc⟩ := hasC_t (by omega) c_5
    subst hkc
    have hkm : k < (cs.map c3of).length := by rw [List.length_map]; exact hk
    have g30 : pCase h (S + 9 * k + 6) ((cs.getD k ct0).1) ((cs.getD k ct0).2.1) ((cs.getD k ct0).2.2.1) ((cs.getD k ct0).2.2.2.1) ((cs.getD k ct0).2.2.2.2.1) ((cs.getD k ct0).2.2.2.2.2.1) ((cs.getD k ct0).2.2.2.2.2.2) := (pCs_get (k := k) g6 (by omega) hk).1
    have hct : okK j (cs.getD k ct0) := ok.2.2.2.1.2 _ (getD_mem _ hk)
    refine e_iload_n f_95_8 rfl rfl ?_
    refine e_if_lt f_95_9 rfl (fun c_9 => ?_) (fun c_9 => ?_)
    · skip
      refine e_iconst (v := (-1)) f_95_17 (by decide) rfl ?_
      refine e_iret f_95_18 rfl (rfl) ?_
      have g31 : pJT h tx j (cs.map c3of) := ⟨cs, S, D, pz, kk, ck, wo, xr, kl, cv, g1, g2, g3, g4, g5, g6, g7, g8, g9, g10, g11, g12, g13, g14, g15, g16, g17, g18, g19, g20, g21, g22, g23, g24, g25, rfl, ok⟩
      exact ⟨congrArg (fun z => some (Value.int z)) (show (-1) = _ from by unfold aOut; rw [if_neg (by rw [rng_a c_9]; decide)]), g31, fr0⟩
    · skip
      refine e_iload_n f_95_12 rfl rfl ?_
      refine e_iconst (v := nI 2) f_95_13 (by decide) rfl ?_
      refine e_icmp_le f_95_14 rfl (fun c_14 => ?_) (fun c_14 => ?_)
      · skip
        obtain ⟨kw, hkw, hwckw⟩ := rng_t (by omega) c_9 c_14
        subst hwckw
        refine e_aload_n f_95_19 rfl rfl ?_
        refine e_iload_n f_95_20 rfl rfl ?_
        refine e_callV (As := [.int (nI k)]) (rest := []) f_95_21 rfl rfl rfl (Nat.le_of_ble_eq_true rfl) (Nat.le_of_ble_eq_true rfl) g1 rfl (Nat.le_of_ble_eq_true rfl) (cc_JT_rw (c := k) (j := j) (cs := cs) (wo := wo) (x := xr) (L := tx.length) (S := S) (D := D) (n := cs.length) (pz := pz) (kk := kk) (ck := ck) g9 g11 g1 g3 g4 g5 g6 (hk) (h8) (ok.2.2.1.1) (fun t ht => (ok.2.2.2.1.2 t ht).1) (hS) (fun e => ok.2.2.2.2.1 k hk e)) rfl (fun h32 r33 q34 => ?_)
        obtain ⟨rfl, g35, g36, fx37⟩ := q34
        obtain ⟨hm38, fa39, fb40⟩ := fj_mid fx37
        have fr41 : px_fi 17 252 h hm38 := fi_tr fr0 fa39 (by omega)
        have fr42 : px_fi 17 252 h h32 := fi_tr fr41 fb40 (by omega)
        show px_to 95 24 [some (.ref (17)), some (.int (nI k)), some (.int (i)), some (.int (nI kw))] [] h32 _
        have ok2 := okJT_wo (wo2 := nI k) (x2 := (runO j (cs.getD k ct0).1)) ok (wo_ok h8 hk rfl)
        have hro := runO_ok (es := (cs.getD k ct0).1) ok.2.2.1.1 hct.1.2.1
        obtain ⟨jb43, gv44, la45, lb46, A47, B48, W49, sms50, tl51, A352, B353, W354, S355, sm356, hl64, g57, g58, g59, g60, g61, g62, g63⟩ := id g35
        refine e_iload_n f_95_24 rfl rfl ?_
        refine e_if_lt f_95_25 rfl (fun c_25 => ?_) (fun c_25 => ?_)
        · skip
          refine e_iconst (v := nI 0) f_95_42 (by decide) rfl ?_
          refine e_iret f_95_43 rfl (rfl) ?_
          have g65 : pRun h32 (nI k) (runO j (cs.getD k ct0).1) := ⟨_, _, _, _, _, _, _, _, _, _, _, _, _, _, hl64, g57, g58, g59, g60, g61, g62, g63⟩
          have g66 : hm38.2.2 17 = some (11, [.ref (18), .int (nI tx.length), .ref (S), .ref (D), .ref (175), .ref (177), .ref (249), .ref (254), .ref (256), .ref (258), .ref (261), .ref (265), .int (bI pz), .ref (267), .int (bI kk), .ref (268), .int (bI ck)]) := fi_at g1 fa39 (by omega)
          have g67 : h32.2.2 17 = some (11, [.ref (18), .int (nI tx.length), .ref (S), .ref (D), .ref (175), .ref (177), .ref (249), .ref (254), .ref (256), .ref (258), .ref (261), .ref (265), .int (bI pz), .ref (267), .int (bI kk), .ref (268), .int (bI ck)]) := fi_at g66 fb40 (by omega)
          have g68 : px_pa hm38 18 52 500 vN tx := pa_fi g2 fa39 (by omega)
          have g69 : px_pa h32 18 52 500 vN tx := pa_fi g68 fb40 (by omega)
          have g70 : hm38.2.2 S = some (8, [.ref (S + 1), .ref (S + 5), .int (nI cs.length)]) := fi_at g3 fa39 (by omega)
          have g71 : h32.2.2 S = some (8, [.ref (S + 1), .ref (S + 5), .int (nI cs.length)]) := fi_at g70 fb40 (by omega)
          have g72 : pJob hm38 (S + 1) j := pJob_fi g4 fa39 (by omega)
          have g73 : pJob h32 (S + 1) j := pJob_fi g72 fb40 (by omega)
          have g74 : px_rs hm38 (S + 5) 56 8 (fun k => S + 9 * k + 6) := rs_fi g5 fa39 (by omega)
          have g75 : px_rs h32 (S + 5) 56 8 (fun k => S + 9 * k + 6) := rs_fi g74 fb40 (by omega)
          have g76 : pCs hm38 S cs := pCs_fi g6 fa39 (by omega)
          have g77 : pCs h32 S cs := pCs_fi g76 fb40 (by omega)
          have g78 : pDr hm38 D := pDr_fi g7 fa39 (by omega)
          have g79 : pDr h32 D := pDr_fi g78 fb40 (by omega)
          have g80 : pRA hm38 := pRA_fi g8 fa39 (by omega)
          have g81 : pRA h32 := pRA_fi g80 fb40 (by omega)
          have g82 : pJud hm38 := pJud_fi g10 fa39 (by omega)
          have g83 : pJud h32 := pJud_fi g82 fb40 (by omega)
          have g84 : pOrA hm38 256 := pOrA_fi g12 fa39 (by omega)
          have g85 : pOrA h32 256 := pOrA_fi g84 fb40 (by omega)
          have g86 : pSc hm38 := pSc_fi g13 fa39 (by omega)
          have g87 : pSc h32 := pSc_fi g86 fb40 (by omega)
          have g88 : pJA hm38 261 := pJA_fi g14 fa39 (by omega)
          have g89 : pJA h32 261 := pJA_fi g88 fb40 (by omega)
          have g90 : pRwA hm38 265 := pRwA_fi g15 fa39 (by omega)
          have g91 : pRwA h32 265 := pRwA_fi g90 fb40 (by omega)
          have g92 : px_pa hm38 267 50 30 Value.int kl := pa_fi g16 fa39 (by omega)
          have g93 : px_pa h32 267 50 30 Value.int kl := pa_fi g92 fb40 (by omega)
          have g94 : px_pa hm38 268 50 30 Value.int cv := pa_fi g17 fa39 (by omega)
          have g95 : px_pa h32 268 50 30 Value.int cv := pa_fi g94 fb40 (by omega)
          have g96 : pStr hm38 1 ([60, 61, 62]) := pStr_fi g18 fa39 (by omega)
          have g97 : pStr h32 1 ([60, 61, 62]) := pStr_fi g96 fb40 (by omega)
          have g98 : pStr hm38 2 ([43, 45, 42, 47]) := pStr_fi g19 fa39 (by omega)
          have g99 : pStr h32 2 ([43, 45, 42, 47]) := pStr_fi g98 fb40 (by omega)
          have g100 : pStr hm38 3 stepSigns := pStr_fi g20 fa39 (by omega)
          have g101 : pStr h32 3 stepSigns := pStr_fi g100 fb40 (by omega)
          have g102 : pStr hm38 4 ([60, 61, 62]) := pStr_fi g21 fa39 (by omega)
          have g103 : pStr h32 4 ([60, 61, 62]) := pStr_fi g102 fb40 (by omega)
          have g104 : pStr hm38 5 ([43, 45, 42, 47]) := pStr_fi g22 fa39 (by omega)
          have g105 : pStr h32 5 ([43, 45, 42, 47]) := pStr_fi g104 fb40 (by omega)
          have g106 : pStr hm38 6 evSigns := pStr_fi g23 fa39 (by omega)
          have g107 : pStr h32 6 evSigns := pStr_fi g106 fb40 (by omega)
          have g108 : pStr hm38 7 keyL := pStr_fi g24 fa39 (by omega)
          have g109 : pStr h32 7 keyL := pStr_fi g108 fb40 (by omega)
          have g110 : pStr hm38 8 ordL := pStr_fi g25 fa39 (by omega)
          have g111 : pStr h32 8 ordL := pStr_fi g110 fb40 (by omega)
          have g112 : pJT h32 tx j (cs.map c3of) := ⟨cs, S, D, pz, kk, ck, (nI k), (runO j (cs.getD k ct0).1), kl, cv, g67, g69, g71, g73, g75, g77, g79, g81, g65, g83, g36, g85, g87, g89, g91, g93, g95, g97, g99, g101, g103, g105, g107, g109, g111, rfl, ok2⟩
          exact ⟨congrArg (fun z => some (Value.int z)) (show nI 0 = _ from by unfold aOut; rw [if_pos (hasC_nI (by omega) (by omega)), onC_k h8m hkm, map_c3 hk, nN_nI (by omega)]; show _ = outO (runO j (cs.getD k ct0).1).2.1 _ kw; unfold outO; rw [if_neg (by rw [rng_a c_25]; decide)]), g112, fr42⟩
        · skip
          refine e_iload_n f_95_28 rfl rfl ?_
          refine e_aload_n f_95_29 rfl rfl ?_
          have g113 : hm38.2.2 17 = some (11, [.ref (18), .int (nI tx.length), .ref (S), .ref (D), .ref (175), .ref (177), .ref (249), .ref (254), .ref (256), .ref (258), .ref (261), .ref (265), .int (bI pz), .ref (267), .int (bI kk), .ref (268), .int (bI ck)]) := fi_at g1 fa39 (by omega)
          have g114 : h32.2.2 17 = some (11, [.ref (18), .int (nI tx.length), .ref (S), .ref (D), .ref (175), .ref (177), .ref (249), .ref (254), .ref (256), .ref (258), .ref (261), .ref (265), .int (bI pz), .ref (267), .int (bI kk), .ref (268), .int (bI ck)]) := fi_at g113 fb40 (by omega)
          refine e_getf f_95_30 g114 rfl rfl ?_
          refine e_getf f_95_33 g57 rfl rfl ?_
          refine e_getf f_95_36 g61.1 rfl rfl ?_
          refine e_icmp_lt f_95_39 rfl (fun c_39 => ?_) (fun c_39 => ?_)
          · skip
            obtain ⟨ki, hki, hwcki⟩ := rng_u (by omega) c_25 c_39
            subst hwcki
            refine e_iload_n f_95_44 rfl rfl ?_
            by_cases c_45_0 : kw = 0
            · skip
              refine e_sw_l f_95_45 (t := 72) (by rw [c_45_0]; rfl) ?_
              refine e_aload_n f_95_72 rfl rfl ?_
              refine e_getf f_95_73 g114 rfl rfl ?_
              refine e_getf f_95_76 g57 rfl rfl ?_
              refine e_iload_n f_95_79 rfl rfl ?_
              refine e_callV (As := [.int (nI ki)]) (rest := []) f_95_80 rfl rfl rfl (Nat.le_of_ble_eq_true rfl) (Nat.le_of_ble_eq_true rfl) g61.1 rfl (Nat.le_of_ble_eq_true rfl) (cc_Rows_keyAt (a := 246) (cap := 96) (i := ki) (rs := (runO j (cs.getD k ct0).1).2.1) g61 (hki) (hro.1)) rfl (fun h115 r116 q117 => ?_)
              obtain ⟨rfl, qe⟩ := q117
              have qe := qe.symm
              subst qe
              show px_to 95 83 [some (.ref (17)), some (.int (nI k)), some (.int (nI ki)), some (.int (nI kw))] [.int (nI ((((runO j (cs.getD k ct0).1).2.1).getD ki (0, 0, 0)).1))] h32 _
              refine e_iret f_95_83 rfl (rfl) ?_
              have g118 : pRun h32 (nI k) (runO j (cs.getD k ct0).1) := ⟨_, _, _, _, _, _, _, _, _, _, _, _, _, _, hl64, g57, g58, g59, g60, g61, g62, g63⟩
              have g119 : px_pa hm38 18 52 500 vN tx := pa_fi g2 fa39 (by omega)
              have g120 : px_pa h32 18 52 500 vN tx := pa_fi g119 fb40 (by omega)
              have g121 : hm38.2.2 S = some (8, [.ref (S + 1), .ref (S + 5), .int (nI cs.length)]) := fi_at g3 fa39 (by omega)
              have g122 : h32.2.2 S = some (8, [.ref (S + 1), .ref (S + 5), .int (nI cs.length)]) := fi_at g121 fb40 (by omega)
              have g123 : pJob hm38 (S + 1) j := pJob_fi g4 fa39 (by omega)
              have g124 : pJob h32 (S + 1) j := pJob_fi g123 fb40 (by omega)
              have g125 : px_rs hm38 (S + 5) 56 8 (fun k => S + 9 * k + 6) := rs_fi g5 fa39 (by omega)
              have g126 : px_rs h32 (S + 5) 56 8 (fun k => S + 9 * k + 6) := rs_fi g125 fb40 (by omega)
              have g127 : pCs hm38 S cs := pCs_fi g6 fa39 (by omega)
              have g128 : pCs h32 S cs := pCs_fi g127 fb40 (by omega)
              have g129 : pDr hm38 D := pDr_fi g7 fa39 (by omega)
              have g130 : pDr h32 D := pDr_fi g129 fb40 (by omega)
              have g131 : pRA hm38 := pRA_fi g8 fa39 (by omega)
              have g132 : pRA h32 := pRA_fi g131 fb40 (by omega)
              have g133 : pJud hm38 := pJud_fi g10 fa39 (by omega)
              have g134 : pJud h32 := pJud_fi g133 fb40 (by omega)
              have g135 : pOrA hm38 256 := pOrA_fi g12 fa39 (by omega)
              have g136 : pOrA h32 256 := pOrA_fi g135 fb40 (by omega)
              have g137 : pSc hm38 := pSc_fi g13 fa39 (by omega)
              have g138 : pSc h32 := pSc_fi g137 fb40 (by omega)
              have g139 : pJA hm38 261 := pJA_fi g14 fa39 (by omega)
              have g140 : pJA h32 261 := pJA_fi g139 fb40 (by omega)
              have g141 : pRwA hm38 265 := pRwA_fi g15 fa39 (by omega)
              have g142 : pRwA h32 265 := pRwA_fi g141 fb40 (by omega)
              have g143 : px_pa hm38 267 50 30 Value.int kl := pa_fi g16 fa39 (by omega)
              have g144 : px_pa h32 267 50 30 Value.int kl := pa_fi g143 fb40 (by omega)
              have g145 : px_pa hm38 268 50 30 Value.int cv := pa_fi g17 fa39 (by omega)
              have g146 : px_pa h32 268 50 30 Value.int cv := pa_fi g145 fb40 (by omega)
              have g147 : pStr hm38 1 ([60, 61, 62]) := pStr_fi g18 fa39 (by omega)
              have g148 : pStr h32 1 ([60, 61, 62]) := pStr_fi g147 fb40 (by omega)
              have g149 : pStr hm38 2 ([43, 45, 42, 47]) := pStr_fi g19 fa39 (by omega)
              have g150 : pStr h32 2 ([43, 45, 42, 47]) := pStr_fi g149 fb40 (by omega)
              have g151 : pStr hm38 3 stepSigns := pStr_fi g20 fa39 (by omega)
              have g152 : pStr h32 3 stepSigns := pStr_fi g151 fb40 (by omega)
              have g153 : pStr hm38 4 ([60, 61, 62]) := pStr_fi g21 fa39 (by omega)
              have g154 : pStr h32 4 ([60, 61, 62]) := pStr_fi g153 fb40 (by omega)
              have g155 : pStr hm38 5 ([43, 45, 42, 47]) := pStr_fi g22 fa39 (by omega)
              have g156 : pStr h32 5 ([43, 45, 42, 47]) := pStr_fi g155 fb40 (by omega)
              have g157 : pStr hm38 6 evSigns := pStr_fi g23 fa39 (by omega)
              have g158 : pStr h32 6 evSigns := pStr_fi g157 fb40 (by omega)
              have g159 : pStr hm38 7 keyL := pStr_fi g24 fa39 (by omega)
              have g160 : pStr h32 7 keyL := pStr_fi g159 fb40 (by omega)
              have g161 : pStr hm38 8 ordL := pStr_fi g25 fa39 (by omega)
              have g162 : pStr h32 8 ordL := pStr_fi g161 fb40 (by omega)
              have g163 : pJT h32 tx j (cs.map c3of) := ⟨cs, S, D, pz, kk, ck, (nI k), (runO j (cs.getD k ct0).1), kl, cv, g114, g120, g122, g124, g126, g128, g130, g132, g118, g134, g36, g136, g138, g140, g142, g144, g146, g148, g150, g152, g154, g156, g158, g160, g162, rfl, ok2⟩
              exact ⟨congrArg (fun z => some (Value.int z)) (show nI ((((runO j (cs.getD k ct0).1).2.1).getD ki (0, 0, 0)).1) = _ from by unfold aOut; rw [if_pos (hasC_nI (by omega) (by omega)), onC_k h8m hkm, map_c3 hk, nN_nI (by omega)]; show _ = outO (runO j (cs.getD k ct0).1).2.1 _ kw; unfold outO; rw [if_pos (hasC_nI (by omega) hki), nN_nI (by omega)]; unfold rowO; rw [if_pos c_45_0]), g163, fr42⟩
            · skip
              by_cases c_45_1 : kw = 1
              · skip
                refine e_sw_l f_95_45 (t := 84) (by rw [c_45_1]; rfl) ?_
                refine e_aload_n f_95_84 rfl rfl ?_
                refine e_getf f_95_85 g114 rfl rfl ?_
                refine e_getf f_95_88 g57 rfl rfl ?_
                refine e_iload_n f_95_91 rfl rfl ?_
                refine e_callV (As := [.int (nI ki)]) (rest := []) f_95_92 rfl rfl rfl (Nat.le_of_ble_eq_true rfl) (Nat.le_of_ble_eq_true rfl) g61.1 rfl (Nat.le_of_ble_eq_true rfl) (cc_Rows_valueAt (a := 246) (cap := 96) (i := ki) (rs := (runO j (cs.getD k ct0).1).2.1) g61 (hki) (hro.1)) rfl (fun h164 r165 q166 => ?_)
                obtain ⟨rfl, qe⟩ := q166
                have qe := qe.symm
                subst qe
                show px_to 95 95 [some (.ref (17)), some (.int (nI k)), some (.int (nI ki)), some (.int (nI kw))] [.int ((((runO j (cs.getD k ct0).1).2.1).getD ki (0, 0, 0)).2.1)] h32 _
                refine e_iret f_95_95 rfl (rfl) ?_
                have g167 : pRun h32 (nI k) (runO j (cs.getD k ct0).1) := ⟨_, _, _, _, _, _, _, _, _, _, _, _, _, _, hl64, g57, g58, g59, g60, g61, g62, g63⟩
                have g168 : px_pa hm38 18 52 500 vN tx := pa_fi g2 fa39 (by omega)
                have g169 : px_pa h32 18 52 500 vN tx := pa_fi g168 fb40 (by omega)
                have g170 : hm38.2.2 S = some (8, [.ref (S + 1), .ref (S + 5), .int (nI cs.length)]) := fi_at g3 fa39 (by omega)
                have g171 : h32.2.2 S = some (8, [.ref (S + 1), .ref (S + 5), .int (nI cs.length)]) := fi_at g170 fb40 (by omega)
                have g172 : pJob hm38 (S + 1) j := pJob_fi g4 fa39 (by omega)
                have g173 : pJob h32 (S + 1) j := pJob_fi g172 fb40 (by omega)
                have g174 : px_rs hm38 (S + 5) 56 8 (fun k => S + 9 * k + 6) := rs_fi g5 fa39 (by omega)
                have g175 : px_rs h32 (S + 5) 56 8 (fun k => S + 9 * k + 6) := rs_fi g174 fb40 (by omega)
                have g176 : pCs hm38 S cs := pCs_fi g6 fa39 (by omega)
                have g177 : pCs h32 S cs := pCs_fi g176 fb40 (by omega)
                have g178 : pDr hm38 D := pDr_fi g7 fa39 (by omega)
                have g179 : pDr h32 D := pDr_fi g178 fb40 (by omega)
                have g180 : pRA hm38 := pRA_fi g8 fa39 (by omega)
                have g181 : pRA h32 := pRA_fi g180 fb40 (by omega)
                have g182 : pJud hm38 := pJud_fi g10 fa39 (by omega)
                have g183 : pJud h32 := pJud_fi g182 fb40 (by omega)
                have g184 : pOrA hm38 256 := pOrA_fi g12 fa39 (by omega)
                have g185 : pOrA h32 256 := pOrA_fi g184 fb40 (by omega)
                have g186 : pSc hm38 := pSc_fi g13 fa39 (by omega)
                have g187 : pSc h32 := pSc_fi g186 fb40 (by omega)
                have g188 : pJA hm38 261 := pJA_fi g14 fa39 (by omega)
                have g189 : pJA h32 261 := pJA_fi g188 fb40 (by omega)
                have g190 : pRwA hm38 265 := pRwA_fi g15 fa39 (by omega)
                have g191 : pRwA h32 265 := pRwA_fi g190 fb40 (by omega)
                have g192 : px_pa hm38 267 50 30 Value.int kl := pa_fi g16 fa39 (by omega)
                have g193 : px_pa h32 267 50 30 Value.int kl := pa_fi g192 fb40 (by omega)
                have g194 : px_pa hm38 268 50 30 Value.int cv := pa_fi g17 fa39 (by omega)
                have g195 : px_pa h32 268 50 30 Value.int cv := pa_fi g194 fb40 (by omega)
                have g196 : pStr hm38 1 ([60, 61, 62]) := pStr_fi g18 fa39 (by omega)
                have g197 : pStr h32 1 ([60, 61, 62]) := pStr_fi g196 fb40 (by omega)
                have g198 : pStr hm38 2 ([43, 45, 42, 47]) := pStr_fi g19 fa39 (by omega)
                have g199 : pStr h32 2 ([43, 45, 42, 47]) := pStr_fi g198 fb40 (by omega)
                have g200 : pStr hm38 3 stepSigns := pStr_fi g20 fa39 (by omega)
                have g201 : pStr h32 3 stepSigns := pStr_fi g200 fb40 (by omega)
                have g202 : pStr hm38 4 ([60, 61, 62]) := pStr_fi g21 fa39 (by omega)
                have g203 : pStr h32 4 ([60, 61, 62]) := pStr_fi g202 fb40 (by omega)
                have g204 : pStr hm38 5 ([43, 45, 42, 47]) := pStr_fi g22 fa39 (by omega)
                have g205 : pStr h32 5 ([43, 45, 42, 47]) := pStr_fi g204 fb40 (by omega)
                have g206 : pStr hm38 6 evSigns := pStr_fi g23 fa39 (by omega)
                have g207 : pStr h32 6 evSigns := pStr_fi g206 fb40 (by omega)
                have g208 : pStr hm38 7 keyL := pStr_fi g24 fa39 (by omega)
                have g209 : pStr h32 7 keyL := pStr_fi g208 fb40 (by omega)
                have g210 : pStr hm38 8 ordL := pStr_fi g25 fa39 (by omega)
                have g211 : pStr h32 8 ordL := pStr_fi g210 fb40 (by omega)
                have g212 : pJT h32 tx j (cs.map c3of) := ⟨cs, S, D, pz, kk, ck, (nI k), (runO j (cs.getD k ct0).1), kl, cv, g114, g169, g171, g173, g175, g177, g179, g181, g167, g183, g36, g185, g187, g189, g191, g193, g195, g197, g199, g201, g203, g205, g207, g209, g211, rfl, ok2⟩
                exact ⟨congrArg (fun z => some (Value.int z)) (show (((runO j (cs.getD k ct0).1).2.1).getD ki (0, 0, 0)).2.1 = _ from by unfold aOut; rw [if_pos (hasC_nI (by omega) (by omega)), onC_k h8m hkm, map_c3 hk, nN_nI (by omega)]; show _ = outO (runO j (cs.getD k ct0).1).2.1 _ kw; unfold outO; rw [if_pos (hasC_nI (by omega) hki), nN_nI (by omega)]; unfold rowO; rw [if_neg c_45_0, if_pos c_45_1]), g212, fr42⟩
              · skip
                refine e_sw_l f_95_45 (t := 96) (lsw_df (List.forall_mem_cons.mpr ⟨lsw_neN (by omega) c_45_0, List.forall_mem_cons.mpr ⟨lsw_neN (by omega) c_45_1, by simp⟩⟩) rfl) ?_
                refine e_aload_n f_95_96 rfl rfl ?_
                refine e_getf f_95_97 g114 rfl rfl ?_
                refine e_getf f_95_100 g57 rfl rfl ?_
                refine e_iload_n f_95_103 rfl rfl ?_
                refine e_callV (As := [.int (nI ki)]) (rest := []) f_95_104 rfl rfl rfl (Nat.le_of_ble_eq_true rfl) (Nat.le_of_ble_eq_true rfl) g61.1 rfl (Nat.le_of_ble_eq_true rfl) (cc_Rows_timeAt (a := 246) (cap := 96) (i := ki) (rs := (runO j (cs.getD k ct0).1).2.1) g61 (hki) (hro.1)) rfl (fun h213 r214 q215 => ?_)
                obtain ⟨rfl, qe⟩ := q215
                have qe := qe.symm
                subst qe
                show px_to 95 107 [some (.ref (17)), some (.int (nI k)), some (.int (nI ki)), some (.int (nI kw))] [.int (nI ((((runO j (cs.getD k ct0).1).2.1).getD ki (0, 0, 0)).2.2))] h32 _
                refine e_iret f_95_107 rfl (rfl) ?_
                have g216 : pRun h32 (nI k) (runO j (cs.getD k ct0).1) := ⟨_, _, _, _, _, _, _, _, _, _, _, _, _, _, hl64, g57, g58, g59, g60, g61, g62, g63⟩
                have g217 : px_pa hm38 18 52 500 vN tx := pa_fi g2 fa39 (by omega)
                have g218 : px_pa h32 18 52 500 vN tx := pa_fi g217 fb40 (by omega)
                have g219 : hm38.2.2 S = some (8, [.ref (S + 1), .ref (S + 5), .int (nI cs.length)]) := fi_at g3 fa39 (by omega)
                have g220 : h32.2.2 S = some (8, [.ref (S + 1), .ref (S + 5), .int (nI cs.length)]) := fi_at g219 fb40 (by omega)
                have g221 : pJob hm38 (S + 1) j := pJob_fi g4 fa39 (by omega)
                have g222 : pJob h32 (S + 1) j := pJob_fi g221 fb40 (by omega)
                have g223 : px_rs hm38 (S + 5) 56 8 (fun k => S + 9 * k + 6) := rs_fi g5 fa39 (by omega)
                have g224 : px_rs h32 (S + 5) 56 8 (fun k => S + 9 * k + 6) := rs_fi g223 fb40 (by omega)
                have g225 : pCs hm38 S cs := pCs_fi g6 fa39 (by omega)
                have g226 : pCs h32 S cs := pCs_fi g225 fb40 (by omega)
                have g227 : pDr hm38 D := pDr_fi g7 fa39 (by omega)
                have g228 : pDr h32 D := pDr_fi g227 fb40 (by omega)
                have g229 : pRA hm38 := pRA_fi g8 fa39 (by omega)
                have g230 : pRA h32 := pRA_fi g229 fb40 (by omega)
                have g231 : pJud hm38 := pJud_fi g10 fa39 (by omega)
                have g232 : pJud h32 := pJud_fi g231 fb40 (by omega)
                have g233 : pOrA hm38 256 := pOrA_fi g12 fa39 (by omega)
                have g234 : pOrA h32 256 := pOrA_fi g233 fb40 (by omega)
                have g235 : pSc hm38 := pSc_fi g13 fa39 (by omega)
                have g236 : pSc h32 := pSc_fi g235 fb40 (by omega)
                have g237 : pJA hm38 261 := pJA_fi g14 fa39 (by omega)
                have g238 : pJA h32 261 := pJA_fi g237 fb40 (by omega)
                have g239 : pRwA hm38 265 := pRwA_fi g15 fa39 (by omega)
                have g240 : pRwA h32 265 := pRwA_fi g239 fb40 (by omega)
                have g241 : px_pa hm38 267 50 30 Value.int kl := pa_fi g16 fa39 (by omega)
                have g242 : px_pa h32 267 50 30 Value.int kl := pa_fi g241 fb40 (by omega)
                have g243 : px_pa hm38 268 50 30 Value.int cv := pa_fi g17 fa39 (by omega)
                have g244 : px_pa h32 268 50 30 Value.int cv := pa_fi g243 fb40 (by omega)
                have g245 : pStr hm38 1 ([60, 61, 62]) := pStr_fi g18 fa39 (by omega)
                have g246 : pStr h32 1 ([60, 61, 62]) := pStr_fi g245 fb40 (by omega)
                have g247 : pStr hm38 2 ([43, 45, 42, 47]) := pStr_fi g19 fa39 (by omega)
                have g248 : pStr h32 2 ([43, 45, 42, 47]) := pStr_fi g247 fb40 (by omega)
                have g249 : pStr hm38 3 stepSigns := pStr_fi g20 fa39 (by omega)
                have g250 : pStr h32 3 stepSigns := pStr_fi g249 fb40 (by omega)
                have g251 : pStr hm38 4 ([60, 61, 62]) := pStr_fi g21 fa39 (by omega)
                have g252 : pStr h32 4 ([60, 61, 62]) := pStr_fi g251 fb40 (by omega)
                have g253 : pStr hm38 5 ([43, 45, 42, 47]) := pStr_fi g22 fa39 (by omega)
                have g254 : pStr h32 5 ([43, 45, 42, 47]) := pStr_fi g253 fb40 (by omega)
                have g255 : pStr hm38 6 evSigns := pStr_fi g23 fa39 (by omega)
                have g256 : pStr h32 6 evSigns := pStr_fi g255 fb40 (by omega)
                have g257 : pStr hm38 7 keyL := pStr_fi g24 fa39 (by omega)
                have g258 : pStr h32 7 keyL := pStr_fi g257 fb40 (by omega)
                have g259 : pStr hm38 8 ordL := pStr_fi g25 fa39 (by omega)
                have g260 : pStr h32 8 ordL := pStr_fi g259 fb40 (by omega)
                have g261 : pJT h32 tx j (cs.map c3of) := ⟨cs, S, D, pz, kk, ck, (nI k), (runO j (cs.getD k ct0).1), kl, cv, g114, g218, g220, g222, g224, g226, g228, g230, g216, g232, g36, g234, g236, g238, g240, g242, g244, g246, g248, g250, g252, g254, g256, g258, g260, rfl, ok2⟩
                exact ⟨congrArg (fun z => some (Value.int z)) (show nI ((((runO j (cs.getD k ct0).1).2.1).getD ki (0, 0, 0)).2.2) = _ from by unfold aOut; rw [if_pos (hasC_nI (by omega) (by omega)), onC_k h8m hkm, map_c3 hk, nN_nI (by omega)]; show _ = outO (runO j (cs.getD k ct0).1).2.1 _ kw; unfold outO; rw [if_pos (hasC_nI (by omega) hki), nN_nI (by omega)]; unfold rowO; rw [if_neg c_45_0, if_neg c_45_1]), g261, fr42⟩
          · skip
            refine e_iconst (v := nI 0) f_95_42 (by decide) rfl ?_
            refine e_iret f_95_43 rfl (rfl) ?_
            have g262 : pRun h32 (nI k) (runO j (cs.getD k ct0).1) := ⟨_, _, _, _, _, _, _, _, _, _, _, _, _, _, hl64, g57, g58, g59, g60, g61, g62, g63⟩
            have g263 : px_pa hm38 18 52 500 vN tx := pa_fi g2 fa39 (by omega)
            have g264 : px_pa h32 18 52 500 vN tx := pa_fi g263 fb40 (by omega)
            have g265 : hm38.2.2 S = some (8, [.ref (S + 1), .ref (S + 5), .int (nI cs.length)]) := fi_at g3 fa39 (by omega)
            have g266 : h32.2.2 S = some (8, [.ref (S + 1), .ref (S + 5), .int (nI cs.length)]) := fi_at g265 fb40 (by omega)
            have g267 : pJob hm38 (S + 1) j := pJob_fi g4 fa39 (by omega)
            have g268 : pJob h32 (S + 1) j := pJob_fi g267 fb40 (by omega)
            have g269 : px_rs hm38 (S + 5) 56 8 (fun k => S + 9 * k + 6) := rs_fi g5 fa39 (by omega)
            have g270 : px_rs h32 (S + 5) 56 8 (fun k => S + 9 * k + 6) := rs_fi g269 fb40 (by omega)
            have g271 : pCs hm38 S cs := pCs_fi g6 fa39 (by omega)
            have g272 : pCs h32 S cs := pCs_fi g271 fb40 (by omega)
            have g273 : pDr hm38 D := pDr_fi g7 fa39 (by omega)
            have g274 : pDr h32 D := pDr_fi g273 fb40 (by omega)
            have g275 : pRA hm38 := pRA_fi g8 fa39 (by omega)
            have g276 : pRA h32 := pRA_fi g275 fb40 (by omega)
            have g277 : pJud hm38 := pJud_fi g10 fa39 (by omega)
            have g278 : pJud h32 := pJud_fi g277 fb40 (by omega)
            have g279 : pOrA hm38 256 := pOrA_fi g12 fa39 (by omega)
            have g280 : pOrA h32 256 := pOrA_fi g279 fb40 (by omega)
            have g281 : pSc hm38 := pSc_fi g13 fa39 (by omega)
            have g282 : pSc h32 := pSc_fi g281 fb40 (by omega)
            have g283 : pJA hm38 261 := pJA_fi g14 fa39 (by omega)
            have g284 : pJA h32 261 := pJA_fi g283 fb40 (by omega)
            have g285 : pRwA hm38 265 := pRwA_fi g15 fa39 (by omega)
            have g286 : pRwA h32 265 := pRwA_fi g285 fb40 (by omega)
            have g287 : px_pa hm38 267 50 30 Value.int kl := pa_fi g16 fa39 (by omega)
            have g288 : px_pa h32 267 50 30 Value.int kl := pa_fi g287 fb40 (by omega)
            have g289 : px_pa hm38 268 50 30 Value.int cv := pa_fi g17 fa39 (by omega)
            have g290 : px_pa h32 268 50 30 Value.int cv := pa_fi g289 fb40 (by omega)
            have g291 : pStr hm38 1 ([60, 61, 62]) := pStr_fi g18 fa39 (by omega)
            have g292 : pStr h32 1 ([60, 61, 62]) := pStr_fi g291 fb40 (by omega)
            have g293 : pStr hm38 2 ([43, 45, 42, 47]) := pStr_fi g19 fa39 (by omega)
            have g294 : pStr h32 2 ([43, 45, 42, 47]) := pStr_fi g293 fb40 (by omega)
            have g295 : pStr hm38 3 stepSigns := pStr_fi g20 fa39 (by omega)
            have g296 : pStr h32 3 stepSigns := pStr_fi g295 fb40 (by omega)
            have g297 : pStr hm38 4 ([60, 61, 62]) := pStr_fi g21 fa39 (by omega)
            have g298 : pStr h32 4 ([60, 61, 62]) := pStr_fi g297 fb40 (by omega)
            have g299 : pStr hm38 5 ([43, 45, 42, 47]) := pStr_fi g22 fa39 (by omega)
            have g300 : pStr h32 5 ([43, 45, 42, 47]) := pStr_fi g299 fb40 (by omega)
            have g301 : pStr hm38 6 evSigns := pStr_fi g23 fa39 (by omega)
            have g302 : pStr h32 6 evSigns := pStr_fi g301 fb40 (by omega)
            have g303 : pStr hm38 7 keyL := pStr_fi g24 fa39 (by omega)
            have g304 : pStr h32 7 keyL := pStr_fi g303 fb40 (by omega)
            have g305 : pStr hm38 8 ordL := pStr_fi g25 fa39 (by omega)
            have g306 : pStr h32 8 ordL := pStr_fi g305 fb40 (by omega)
            have g307 : pJT h32 tx j (cs.map c3of) := ⟨cs, S, D, pz, kk, ck, (nI k), (runO j (cs.getD k ct0).1), kl, cv, g114, g264, g266, g268, g270, g272, g274, g276, g262, g278, g36, g280, g282, g284, g286, g288, g290, g292, g294, g296, g298, g300, g302, g304, g306, rfl, ok2⟩
            exact ⟨congrArg (fun z => some (Value.int z)) (show nI 0 = _ from by unfold aOut; rw [if_pos (hasC_nI (by omega) (by omega)), onC_k h8m hkm, map_c3 hk, nN_nI (by omega)]; show _ = outO (runO j (cs.getD k ct0).1).2.1 _ kw; unfold outO; rw [if_neg (by rw [rng_c c_39]; decide)]), g307, fr42⟩
      · skip
        refine e_iconst (v := (-1)) f_95_17 (by decide) rfl ?_
        refine e_iret f_95_18 rfl (rfl) ?_
        have g308 : pJT h tx j (cs.map c3of) := ⟨cs, S, D, pz, kk, ck, wo, xr, kl, cv, g1, g2, g3, g4, g5, g6, g7, g8, g9, g10, g11, g12, g13, g14, g15, g16, g17, g18, g19, g20, g21, g22, g23, g24, g25, rfl, ok⟩
        exact ⟨congrArg (fun z => some (Value.int z)) (show (-1) = _ from by unfold aOut; rw [if_neg (by rw [rng_b (by omega) c_14]; decide)]), g308, fr0⟩

set_option maxRecDepth 20000 in
set_option maxHeartbeats 4000000 in
theorem cc_JT_event {h : px_H} {tx : List Nat} {j : List St} {xs : List CS3} {c : Int32} {i : Int32} {w : Int32} (H0 : pJT h tx j xs)  : px_wp 107 [.ref (17), .int (c), .int (i), .int (w)] h (fun h1 r => r = some (.int (aEvent xs c i w)) ∧ pJT h1 tx j xs ∧ px_fi 17 252 h h1) := by
  have fr0 : px_fi 17 252 h h := fi_rf _ _ _
  show px_to 107 0 [some (.ref (17)), some (.int (c)), some (.int (i)), some (.int (w)), none] [] h _
  obtain ⟨cs, S, D, pz, kk, ck, wo, xr, kl, cv, g1, g2, g3, g4, g5, g6, g7, g8, g9, g10, g11, g12, g13, g14, g15, g16, g17, g18, g19, g20, g21, g22, g23, g24, g25, hx, ok⟩ := id H0
  subst hx
  have h8 := ok.2.2.2.1.1
  have hS : 18 < S ∧ S + 78 ≤ 175 := by have := ok.1; omega
  have hD : 18 < D ∧ D + 78 ≤ 175 := by have := ok.1; omega
  have hSD : D + 78 ≤ S ∨ S + 78 ≤ D := by have := ok.1; omega
  have h8m : (cs.map c3of).length ≤ 8 := by rw [List.length_map]; exact h8
  have htl : tx.length ≤ 500 := pa_len g2
  refine e_aload_n f_107_0 rfl rfl ?_
  refine e_iload_n f_107_1 rfl rfl ?_
  refine e_callV (As := [.int (c)]) (rest := []) f_107_2 rfl rfl rfl (Nat.le_of_ble_eq_true rfl) (Nat.le_of_ble_eq_true rfl) g1 rfl (Nat.le_of_ble_eq_true rfl) (cc_JT_has (c := c) (L := tx.length) (S := S) (D := D) (n := cs.length) (pz := pz) (kk := kk) (ck := ck) g1 g3 (by omega)) rfl (fun h26 r27 q28 => ?_)
  obtain ⟨rfl, qe⟩ := q28
  have qe := qe.symm
  subst qe
  show px_to 107 5 [some (.ref (17)), some (.int (c)), some (.int (i)), some (.int (w)), none] [.int (bI (hasC c cs.length))] h _
  refine e_if_eq f_107_5 rfl (fun c_5 => ?_) (fun c_5 => ?_)
  · skip
    have c_5 : (hasC c cs.length) = false := bI_f c_5
    have hno : hasC c (cs.map c3of).length = false := by rw [List.length_map]; exact c_5
    refine e_iconst (v := (-1)) f_107_28 (by decide) rfl ?_
    refine e_iret f_107_29 rfl (rfl) ?_
    have g29 : pJT h tx j (cs.map c3of) := ⟨cs, S, D, pz, kk, ck, wo, xr, kl, cv, g1, g2, g3, g4, g5, g6, g7, g8, g9, g10, g11, g12, g13, g14, g15, g16, g17, g18, g19, g20, g21, g22, g23, g24, g25, rfl, ok⟩
    exact ⟨congrArg (fun z => some (Value.int z)) (show (-1) = _ from (onC_no hno).symm), g29, fr0⟩
  · skip
    have c_5 : (hasC c cs.length) = true := bI_t' c_5
    obtain ⟨k, hk, hkc⟩ := hasC_t (by omega) c_5
    subst hkc
    have hkm : k < (cs.map c3of).length := by rw [List.length_map]; exact hk
    have g30 : pCase h (S + 9 * k + 6) ((cs.getD k ct0).1) ((cs.getD k ct0).2.1) ((cs.getD k ct0).2.2.1) ((cs.getD k ct0).2.2.2.1) ((cs.getD k ct0).2.2.2.2.1) ((cs.getD k ct0).2.2.2.2.2.1) ((cs.getD k ct0).2.2.2.2.2.2) := (pCs_get (k := k) g6 (by omega) hk).1
    have hct : okK j (cs.getD k ct0) := ok.2.2.2.1.2 _ (getD_mem _ hk)
    have hev := hct.1.1
    have hevl : (cs.getD k ct0).1.length ≤ 24 := hev
    refine e_iload_n f_107_8 rfl rfl ?_
    refine e_if_lt f_107_9 rfl (fun c_9 => ?_) (fun c_9 => ?_)
    · skip
      refine e_iconst (v := (-1)) f_107_28 (by decide) rfl ?_
      refine e_iret f_107_29 rfl (rfl) ?_
      have g31 : pJT h tx j (cs.map c3of) := ⟨cs, S, D, pz, kk, ck, wo, xr, kl, cv, g1, g2, g3, g4, g5, g6, g7, g8, g9, g10, g11, g12, g13, g14, g15, g16, g17, g18, g19, g20, g21, g22, g23, g24, g25, rfl, ok⟩
      exact ⟨congrArg (fun z => some (Value.int z)) (show (-1) = _ from by unfold aEvent; rw [onC_k h8m hkm, map_c3 hk]; show _ = if hasC _ (cs.getD k ct0).1.length = true then _ else _; rw [if_neg (by rw [rng_a c_9]; decide)]), g31, fr0⟩
    · skip
      refine e_iload_n f_107_12 rfl rfl ?_
      refine e_aload_n f_107_13 rfl rfl ?_
      refine e_getf f_107_14 g1 rfl rfl ?_
      refine e_getf f_107_17 g3 rfl rfl ?_
      refine e_iload_n f_107_20 rfl rfl ?_
      refine e_aaload_r f_107_21 (by decide) g5 (by first | omega | (simp only [List.length_set]; omega)) (by decide) rfl ?_
      show px_to 107 22 [some (.ref (17)), some (.int (nI k)), some (.int (i)), some (.int (w)), none] [.ref (S + 9 * k + 6), .int (i)] h _
      refine e_getf f_107_22 g30.1 rfl rfl ?_
      refine e_icmp_lt f_107_25 rfl (fun c_25 => ?_) (fun c_25 => ?_)
      · skip
        obtain ⟨ki, hki, hwcki⟩ := rng_u (by omega) c_9 c_25
        subst hwcki
        refine e_aload_n f_107_30 rfl rfl ?_
        refine e_getf f_107_31 g1 rfl rfl ?_
        refine e_getf f_107_34 g3 rfl rfl ?_
        refine e_iload_n f_107_37 rfl rfl ?_
        refine e_aaload_r f_107_38 (by decide) g5 (by first | omega | (simp only [List.length_set]; omega)) (by decide) rfl ?_
        show px_to 107 39 [some (.ref (17)), some (.int (nI k)), some (.int (nI ki)), some (.int (w)), none] [.ref (S + 9 * k + 6)] h _
        refine e_astore (L' := [some (.ref (17)), some (.int (nI k)), some (.int (nI ki)), some (.int (w)), some (.ref (S + 9 * k + 6))]) f_107_39 (Nat.le_of_ble_eq_true rfl) rfl rfl ?_
        refine e_iload_n f_107_41 rfl rfl ?_
        by_cases c_42_0 : w = nI 0
        · skip
          refine e_sw_t f_107_42 (t := 72) (by rw [c_42_0]; rfl) ?_
          refine e_aload f_107_72 rfl rfl ?_
          refine e_getf f_107_74 g30.1 rfl rfl ?_
          refine e_iload_n f_107_77 rfl rfl ?_
          refine e_iaload_p (xs := (cs.getD k ct0).1) f_107_78 g30.2.1 (d := (0, 0, 0, 0)) (by first | omega | (simp only [List.length_set]; omega)) rfl ?_
          show px_to 107 79 [some (.ref (17)), some (.int (nI k)), some (.int (nI ki)), some (.int (w)), some (.ref (S + 9 * k + 6))] [.int (nI ((((cs.getD k ct0).1).getD ki (0, 0, 0, 0)).1))] h _
          refine e_iret f_107_79 rfl (rfl) ?_
          have g32 : pJT h tx j (cs.map c3of) := ⟨cs, S, D, pz, kk, ck, wo, xr, kl, cv, g1, g2, g3, g4, g5, g6, g7, g8, g9, g10, g11, g12, g13, g14, g15, g16, g17, g18, g19, g20, g21, g22, g23, g24, g25, rfl, ok⟩
          exact ⟨congrArg (fun z => some (Value.int z)) (show nI ((((cs.getD k ct0).1).getD ki (0, 0, 0, 0)).1) = _ from by unfold aEvent; rw [onC_k h8m hkm, map_c3 hk]; show _ = if hasC _ (cs.getD k ct0).1.length = true then evO ((cs.getD k ct0).1.getD _ _) _ else _; rw [if_pos (hasC_nI (by omega) hki), nN_nI (by omega)]; unfold evO; rw [if_pos c_42_0]), g32, fr0⟩
        · skip
          by_cases c_42_1 : w = nI 1
          · skip
            refine e_sw_t f_107_42 (t := 80) (by rw [c_42_1]; rfl) ?_
            refine e_aload f_107_80 rfl rfl ?_
            refine e_getf f_107_82 g30.1 rfl rfl ?_
            refine e_iload_n f_107_85 rfl rfl ?_
            refine e_iaload_p (xs := (cs.getD k ct0).1) f_107_86 g30.2.2.1 (d := (0, 0, 0, 0)) (by first | omega | (simp only [List.length_set]; omega)) rfl ?_
            show px_to 107 87 [some (.ref (17)), some (.int (nI k)), some (.int (nI ki)), some (.int (w)), some (.ref (S + 9 * k + 6))] [.int ((((cs.getD k ct0).1).getD ki (0, 0, 0, 0)).2.1)] h _
            refine e_iret f_107_87 rfl (rfl) ?_
            have g33 : pJT h tx j (cs.map c3of) := ⟨cs, S, D, pz, kk, ck, wo, xr, kl, cv, g1, g2, g3, g4, g5, g6, g7, g8, g9, g10, g11, g12, g13, g14, g15, g16, g17, g18, g19, g20, g21, g22, g23, g24, g25, rfl, ok⟩
            exact ⟨congrArg (fun z => some (Value.int z)) (show (((cs.getD k ct0).1).getD ki (0, 0, 0, 0)).2.1 = _ from by unfold aEvent; rw [onC_k h8m hkm, map_c3 hk]; show _ = if hasC _ (cs.getD k ct0).1.length = true then evO ((cs.getD k ct0).1.getD _ _) _ else _; rw [if_pos (hasC_nI (by omega) hki), nN_nI (by omega)]; unfold evO; rw [if_neg c_42_0, if_pos c_42_1]), g33, fr0⟩
          · skip
            by_cases c_42_2 : w = nI 2
            · skip
              refine e_sw_t f_107_42 (t := 88) (by rw [c_42_2]; rfl) ?_
              refine e_aload f_107_88 rfl rfl ?_
              refine e_getf f_107_90 g30.1 rfl rfl ?_
              refine e_iload_n f_107_93 rfl rfl ?_
              refine e_iaload_p (xs := (cs.getD k ct0).1) f_107_94 g30.2.2.2.1 (d := (0, 0, 0, 0)) (by first | omega | (simp only [List.length_set]; omega)) rfl ?_
              show px_to 107 95 [some (.ref (17)), some (.int (nI k)), some (.int (nI ki)), some (.int (w)), some (.ref (S + 9 * k + 6))] [.int ((((cs.getD k ct0).1).getD ki (0, 0, 0, 0)).2.2.1)] h _
              refine e_iret f_107_95 rfl (rfl) ?_
              have g34 : pJT h tx j (cs.map c3of) := ⟨cs, S, D, pz, kk, ck, wo, xr, kl, cv, g1, g2, g3, g4, g5, g6, g7, g8, g9, g10, g11, g12, g13, g14, g15, g16, g17, g18, g19, g20, g21, g22, g23, g24, g25, rfl, ok⟩
              exact ⟨congrArg (fun z => some (Value.int z)) (show (((cs.getD k ct0).1).getD ki (0, 0, 0, 0)).2.2.1 = _ from by unfold aEvent; rw [onC_k h8m hkm, map_c3 hk]; show _ = if hasC _ (cs.getD k ct0).1.length = true then evO ((cs.getD k ct0).1.getD _ _) _ else _; rw [if_pos (hasC_nI (by omega) hki), nN_nI (by omega)]; unfold evO; rw [if_neg c_42_0, if_neg c_42_1, if_pos c_42_2]), g34, fr0⟩
            · skip
              by_cases c_42_3 : w = nI 3
              · skip
                refine e_sw_t f_107_42 (t := 96) (by rw [c_42_3]; rfl) ?_
                refine e_aload f_107_96 rfl rfl ?_
                refine e_getf f_107_98 g30.1 rfl rfl ?_
                refine e_iload_n f_107_101 rfl rfl ?_
                refine e_iaload_p (xs := (cs.getD k ct0).1) f_107_102 g30.2.2.2.2.1 (d := (0, 0, 0, 0)) (by first | omega | (simp only [List.length_set]; omega)) rfl ?_
                show px_to 107 103 [some (.ref (17)), some (.int (nI k)), some (.int (nI ki)), some (.int (w)), some (.ref (S + 9 * k + 6))] [.int ((((cs.getD k ct0).1).getD ki (0, 0, 0, 0)).2.2.2)] h _
                refine e_iret f_107_103 rfl (rfl) ?_
                have g35 : pJT h tx j (cs.map c3of) := ⟨cs, S, D, pz, kk, ck, wo, xr, kl, cv, g1, g2, g3, g4, g5, g6, g7, g8, g9, g10, g11, g12, g13, g14, g15, g16, g17, g18, g19, g20, g21, g22, g23, g24, g25, rfl, ok⟩
                exact ⟨congrArg (fun z => some (Value.int z)) (show (((cs.getD k ct0).1).getD ki (0, 0, 0, 0)).2.2.2 = _ from by unfold aEvent; rw [onC_k h8m hkm, map_c3 hk]; show _ = if hasC _ (cs.getD k ct0).1.length = true then evO ((cs.getD k ct0).1.getD _ _) _ else _; rw [if_pos (hasC_nI (by omega) hki), nN_nI (by omega)]; unfold evO; rw [if_neg c_42_0, if_neg c_42_1, if_neg c_42_2, if_pos c_42_3]), g35, fr0⟩
              · skip
                refine e_sw_t f_107_42 (t := 104) (tsw_df (by have z0 := ne_toInt c_42_0 (by decide); have z1 := ne_toInt c_42_1 (by decide); have z2 := ne_toInt c_42_2 (by decide); have z3 := ne_toInt c_42_3 (by decide); omega) rfl) ?_
                refine e_iconst (v := (-1)) f_107_104 (by decide) rfl ?_
                refine e_iret f_107_105 rfl (rfl) ?_
                have g36 : pJT h tx j (cs.map c3of) := ⟨cs, S, D, pz, kk, ck, wo, xr, kl, cv, g1, g2, g3, g4, g5, g6, g7, g8, g9, g10, g11, g12, g13, g14, g15, g16, g17, g18, g19, g20, g21, g22, g23, g24, g25, rfl, ok⟩
                exact ⟨congrArg (fun z => some (Value.int z)) (show (-1) = _ from by unfold aEvent; rw [onC_k h8m hkm, map_c3 hk]; show _ = if hasC _ (cs.getD k ct0).1.length = true then evO ((cs.getD k ct0).1.getD _ _) _ else _; rw [if_pos (hasC_nI (by omega) hki), nN_nI (by omega)]; unfold evO; rw [if_neg c_42_0, if_neg c_42_1, if_neg c_42_2, if_neg c_42_3]), g36, fr0⟩
      · skip
        refine e_iconst (v := (-1)) f_107_28 (by decide) rfl ?_
        refine e_iret f_107_29 rfl (rfl) ?_
        have g37 : pJT h tx j (cs.map c3of) := ⟨cs, S, D, pz, kk, ck, wo, xr, kl, cv, g1, g2, g3, g4, g5, g6, g7, g8, g9, g10, g11, g12, g13, g14, g15, g16, g17, g18, g19, g20, g21, g22, g23, g24, g25, rfl, ok⟩
        exact ⟨congrArg (fun z => some (Value.int z)) (show (-1) = _ from by unfold aEvent; rw [onC_k h8m hkm, map_c3 hk]; show _ = if hasC _ (cs.getD k ct0).1.length = true then _ else _; rw [if_neg (by rw [rng_c c_25]; decide)]), g37, fr0⟩

set_option maxRecDepth 20000 in
set_option maxHeartbeats 4000000 in
theorem cc_JT_step {h : px_H} {tx : List Nat} {j : List St} {xs : List CS3} {k : Int32} {w : Int32} (H0 : pJT h tx j xs)  : px_wp 108 [.ref (17), .int (k), .int (w)] h (fun h1 r => r = some (.int (aStep j k w)) ∧ pJT h1 tx j xs ∧ px_fi 17 252 h h1) := by
  have fr0 : px_fi 17 252 h h := fi_rf _ _ _
  show px_to 108 0 [some (.ref (17)), some (.int (k)), some (.int (w))] [] h _
  obtain ⟨cs, S, D, pz, kk, ck, wo, xr, kl, cv, g1, g2, g3, g4, g5, g6, g7, g8, g9, g10, g11, g12, g13, g14, g15, g16, g17, g18, g19, g20, g21, g22, g23, g24, g25, hx, ok⟩ := id H0
  subst hx
  have h8 := ok.2.2.2.1.1
  have hS : 18 < S ∧ S + 78 ≤ 175 := by have := ok.1; omega
  have hD : 18 < D ∧ D + 78 ≤ 175 := by have := ok.1; omega
  have hSD : D + 78 ≤ S ∨ S + 78 ≤ D := by have := ok.1; omega
  have h8m : (cs.map c3of).length ≤ 8 := by rw [List.length_map]; exact h8
  have htl : tx.length ≤ 500 := pa_len g2
  have hj6 := ok.2.2.1.1.1
  refine e_iload_n f_108_0 rfl rfl ?_
  refine e_if_lt f_108_1 rfl (fun c_1 => ?_) (fun c_1 => ?_)
  · skip
    refine e_iconst (v := (-1)) f_108_18 (by decide) rfl ?_
    refine e_iret f_108_19 rfl (rfl) ?_
    have g26 : pJT h tx j (cs.map c3of) := ⟨cs, S, D, pz, kk, ck, wo, xr, kl, cv, g1, g2, g3, g4, g5, g6, g7, g8, g9, g10, g11, g12, g13, g14, g15, g16, g17, g18, g19, g20, g21, g22, g23, g24, g25, rfl, ok⟩
    exact ⟨congrArg (fun z => some (Value.int z)) (show (-1) = _ from by unfold aStep; rw [if_neg (by rw [rng_a c_1]; decide)]), g26, fr0⟩
  · skip
    refine e_iload_n f_108_4 rfl rfl ?_
    refine e_aload_n f_108_5 rfl rfl ?_
    refine e_getf f_108_6 g1 rfl rfl ?_
    refine e_getf f_108_9 g3 rfl rfl ?_
    refine e_getf f_108_12 g4.1 rfl rfl ?_
    refine e_icmp_lt f_108_15 rfl (fun c_15 => ?_) (fun c_15 => ?_)
    · skip
      obtain ⟨ki, hki, hwcki⟩ := rng_u (by omega) c_1 c_15
      subst hwcki
      refine e_iload_n f_108_20 rfl rfl ?_
      by_cases c_21_0 : w = nI 0
      · skip
        refine e_sw_t f_108_21 (t := 48) (by rw [c_21_0]; rfl) ?_
        refine e_aload_n f_108_48 rfl rfl ?_
        refine e_getf f_108_49 g1 rfl rfl ?_
        refine e_getf f_108_52 g3 rfl rfl ?_
        refine e_getf f_108_55 g4.1 rfl rfl ?_
        refine e_iload_n f_108_58 rfl rfl ?_
        refine e_iaload_p (xs := j) f_108_59 g4.2.1 (d := (0, 0, 0)) (by first | omega | (simp only [List.length_set]; omega)) rfl ?_
        show px_to 108 60 [some (.ref (17)), some (.int (nI ki)), some (.int (w))] [.int (nI ((j.getD ki (0, 0, 0)).1))] h _
        refine e_iret f_108_60 rfl (rfl) ?_
        have g27 : pJT h tx j (cs.map c3of) := ⟨cs, S, D, pz, kk, ck, wo, xr, kl, cv, g1, g2, g3, g4, g5, g6, g7, g8, g9, g10, g11, g12, g13, g14, g15, g16, g17, g18, g19, g20, g21, g22, g23, g24, g25, rfl, ok⟩
        exact ⟨congrArg (fun z => some (Value.int z)) (show nI ((j.getD ki (0, 0, 0)).1) = _ from by unfold aStep; rw [if_pos (hasC_nI (by omega) hki), nN_nI (by omega)]; unfold stO; rw [if_pos c_21_0]), g27, fr0⟩
      · skip
        by_cases c_21_1 : w = nI 1
        · skip
          refine e_sw_t f_108_21 (t := 61) (by rw [c_21_1]; rfl) ?_
          refine e_aload_n f_108_61 rfl rfl ?_
          refine e_getf f_108_62 g1 rfl rfl ?_
          refine e_getf f_108_65 g3 rfl rfl ?_
          refine e_getf f_108_68 g4.1 rfl rfl ?_
          refine e_iload_n f_108_71 rfl rfl ?_
          refine e_iaload_p (xs := j) f_108_72 g4.2.2.2 (d := (0, 0, 0)) (by first | omega | (simp only [List.length_set]; omega)) rfl ?_
          show px_to 108 73 [some (.ref (17)), some (.int (nI ki)), some (.int (w))] [.int ((j.getD ki (0, 0, 0)).2.2)] h _
          refine e_iret f_108_73 rfl (rfl) ?_
          have g28 : pJT h tx j (cs.map c3of) := ⟨cs, S, D, pz, kk, ck, wo, xr, kl, cv, g1, g2, g3, g4, g5, g6, g7, g8, g9, g10, g11, g12, g13, g14, g15, g16, g17, g18, g19, g20, g21, g22, g23, g24, g25, rfl, ok⟩
          exact ⟨congrArg (fun z => some (Value.int z)) (show (j.getD ki (0, 0, 0)).2.2 = _ from by unfold aStep; rw [if_pos (hasC_nI (by omega) hki), nN_nI (by omega)]; unfold stO; rw [if_neg c_21_0, if_pos c_21_1]), g28, fr0⟩
        · skip
          by_cases c_21_2 : w = nI 2
          · skip
            refine e_sw_t f_108_21 (t := 74) (by rw [c_21_2]; rfl) ?_
            refine e_aload_n f_108_74 rfl rfl ?_
            refine e_getf f_108_75 g1 rfl rfl ?_
            refine e_getf f_108_78 g3 rfl rfl ?_
            refine e_getf f_108_81 g4.1 rfl rfl ?_
            refine e_iload_n f_108_84 rfl rfl ?_
            refine e_iaload_p (xs := j) f_108_85 g4.2.2.1 (d := (0, 0, 0)) (by first | omega | (simp only [List.length_set]; omega)) rfl ?_
            show px_to 108 86 [some (.ref (17)), some (.int (nI ki)), some (.int (w))] [.int (nI ((j.getD ki (0, 0, 0)).2.1))] h _
            refine e_iret f_108_86 rfl (rfl) ?_
            have g29 : pJT h tx j (cs.map c3of) := ⟨cs, S, D, pz, kk, ck, wo, xr, kl, cv, g1, g2, g3, g4, g5, g6, g7, g8, g9, g10, g11, g12, g13, g14, g15, g16, g17, g18, g19, g20, g21, g22, g23, g24, g25, rfl, ok⟩
            exact ⟨congrArg (fun z => some (Value.int z)) (show nI ((j.getD ki (0, 0, 0)).2.1) = _ from by unfold aStep; rw [if_pos (hasC_nI (by omega) hki), nN_nI (by omega)]; unfold stO; rw [if_neg c_21_0, if_neg c_21_1, if_pos c_21_2]), g29, fr0⟩
          · skip
            refine e_sw_t f_108_21 (t := 87) (tsw_df (by have z0 := ne_toInt c_21_0 (by decide); have z1 := ne_toInt c_21_1 (by decide); have z2 := ne_toInt c_21_2 (by decide); omega) rfl) ?_
            refine e_iconst (v := (-1)) f_108_87 (by decide) rfl ?_
            refine e_iret f_108_88 rfl (rfl) ?_
            have g30 : pJT h tx j (cs.map c3of) := ⟨cs, S, D, pz, kk, ck, wo, xr, kl, cv, g1, g2, g3, g4, g5, g6, g7, g8, g9, g10, g11, g12, g13, g14, g15, g16, g17, g18, g19, g20, g21, g22, g23, g24, g25, rfl, ok⟩
            exact ⟨congrArg (fun z => some (Value.int z)) (show (-1) = _ from by unfold aStep; rw [if_pos (hasC_nI (by omega) hki), nN_nI (by omega)]; unfold stO; rw [if_neg c_21_0, if_neg c_21_1, if_neg c_21_2]), g30, fr0⟩
    · skip
      refine e_iconst (v := (-1)) f_108_18 (by decide) rfl ?_
      refine e_iret f_108_19 rfl (rfl) ?_
      have g31 : pJT h tx j (cs.map c3of) := ⟨cs, S, D, pz, kk, ck, wo, xr, kl, cv, g1, g2, g3, g4, g5, g6, g7, g8, g9, g10, g11, g12, g13, g14, g15, g16, g17, g18, g19, g20, g21, g22, g23, g24, g25, rfl, ok⟩
      exact ⟨congrArg (fun z => some (Value.int z)) (show (-1) = _ from by unfold aStep; rw [if_neg (by rw [rng_c c_15]; decide)]), g31, fr0⟩

set_option maxRecDepth 20000 in
set_option maxHeartbeats 4000000 in
theorem cc_JT_ls {h : px_H} {c : Nat} {cs : List CT7} {L S D : Nat} {pz kk ck : Bool} (H0 : pSc h) (H1 : h.2.2 17 = some (11, [.ref (18), .int (nI L), .ref (S), .ref (D), .ref (175), .ref (177), .ref (249), .ref (254), .ref (256), .ref (258), .ref (261), .ref (265), .int (bI pz), .ref (267), .int (bI kk), .ref (268), .int (bI ck)])) (H2 : h.2.2 S = some (8, [.ref (S + 1), .ref (S + 5), .int (nI cs.length)])) (H3 : px_rs h (S + 5) 56 8 (fun k => S + 9 * k + 6)) (H4 : pCs h S cs) (p0 : c < cs.length) (p1 : cs.length ≤ 8) (p2 : okT (cs.getD c ct0)) (p3 : 18 < S ∧ S + 78 ≤ 175) : px_wp 111 [.ref (17), .int (nI c)] h (fun h1 r => r = none ∧ h1.2.2 258 = some (7, [.ref (259), .ref (260), .int (nI ((schU (evCnt false (cs.getD c ct0).1) (evCnt true (cs.getD c ct0).1) 3).length)), .int (nI (evCnt false (cs.getD c ct0).1)), .int (nI (evCnt true (cs.getD c ct0).1))]) ∧ px_pa h1 259 50 266 vN (schU (evCnt false (cs.getD c ct0).1) (evCnt true (cs.getD c ct0).1) 3) ∧ px_pa h1 260 50 4 vN (schE (evCnt false (cs.getD c ct0).1) (evCnt true (cs.getD c ct0).1)) ∧ px_fi 258 3 h h1) := by
  have fr0 : px_fi 258 3 h h := fi_rf _ _ _
  show px_to 111 0 [some (.ref (17)), some (.int (nI c))] [] h _
  have gc1 : pCase h (S + 9 * c + 6) ((cs.getD c ct0).1) ((cs.getD c ct0).2.1) ((cs.getD c ct0).2.2.1) ((cs.getD c ct0).2.2.2.1) ((cs.getD c ct0).2.2.2.2.1) ((cs.getD c ct0).2.2.2.2.2.1) ((cs.getD c ct0).2.2.2.2.2.2) := (pCs_get (k := c) H4 (by omega) p0).1
  have hoe : ∀ e ∈ (cs.getD c ct0).1, e.1 < 65536 := fun e he => by have := (p2.2.1 e he).1; omega
  have hab := ab24 p2
  obtain ⟨n2, A3, B4, xs5, es6, g7, g8, g9, hl10, hs11⟩ := id H0
  refine e_aload_n f_111_0 rfl rfl ?_
  refine e_getf f_111_1 H1 rfl rfl ?_
  refine e_aload_n f_111_4 rfl rfl ?_
  refine e_getf f_111_5 H1 rfl rfl ?_
  refine e_getf f_111_8 H2 rfl rfl ?_
  refine e_iload_n f_111_11 rfl rfl ?_
  refine e_aaload_r f_111_12 (by decide) H3 (by first | omega | (simp only [List.length_set]; omega)) (by decide) rfl ?_
  show px_to 111 13 [some (.ref (17)), some (.int (nI c))] [.ref (S + 9 * c + 6), .ref (258)] h _
  refine e_iconst (v := nI 0) f_111_13 (by decide) rfl ?_
  refine e_callV (As := [.int (nI 0)]) (rest := [.ref (258)]) f_111_14 rfl rfl rfl (Nat.le_of_ble_eq_true rfl) (Nat.le_of_ble_eq_true rfl) gc1.1 rfl (Nat.le_of_ble_eq_true rfl) (cc_Case_eventsOf (b := false) (a := S + 9 * c + 6) (ev := (cs.getD c ct0).1) (told := (cs.getD c ct0).2.1) (os := (cs.getD c ct0).2.2.1) (ks := (cs.getD c ct0).2.2.2.1) (kept := (cs.getD c ct0).2.2.2.2.1) (ck := (cs.getD c ct0).2.2.2.2.2.1) (un := (cs.getD c ct0).2.2.2.2.2.2) gc1 (hoe)) rfl (fun h12 r13 q14 => ?_)
  obtain ⟨rfl, qe⟩ := q14
  have qe := qe.symm
  subst qe
  show px_to 111 17 [some (.ref (17)), some (.int (nI c))] [.int (nI (evCnt false ((cs.getD c ct0).1))), .ref (258)] h _
  refine e_aload_n f_111_17 rfl rfl ?_
  refine e_getf f_111_18 H1 rfl rfl ?_
  refine e_getf f_111_21 H2 rfl rfl ?_
  refine e_iload_n f_111_24 rfl rfl ?_
  refine e_aaload_r f_111_25 (by decide) H3 (by first | omega | (simp only [List.length_set]; omega)) (by decide) rfl ?_
  show px_to 111 26 [some (.ref (17)), some (.int (nI c))] [.ref (S + 9 * c + 6), .int (nI (evCnt false ((cs.getD c ct0).1))), .ref (258)] h _
  refine e_iconst (v := nI 1) f_111_26 (by decide) rfl ?_
  refine e_callV (As := [.int (nI 1)]) (rest := [.int (nI (evCnt false ((cs.getD c ct0).1))), .ref (258)]) f_111_27 rfl rfl rfl (Nat.le_of_ble_eq_true rfl) (Nat.le_of_ble_eq_true rfl) gc1.1 rfl (Nat.le_of_ble_eq_true rfl) (cc_Case_eventsOf (b := true) (a := S + 9 * c + 6) (ev := (cs.getD c ct0).1) (told := (cs.getD c ct0).2.1) (os := (cs.getD c ct0).2.2.1) (ks := (cs.getD c ct0).2.2.2.1) (kept := (cs.getD c ct0).2.2.2.2.1) (ck := (cs.getD c ct0).2.2.2.2.2.1) (un := (cs.getD c ct0).2.2.2.2.2.2) gc1 (hoe)) rfl (fun h15 r16 q17 => ?_)
  obtain ⟨rfl, qe⟩ := q17
  have qe := qe.symm
  subst qe
  show px_to 111 30 [some (.ref (17)), some (.int (nI c))] [.int (nI (evCnt true ((cs.getD c ct0).1))), .int (nI (evCnt false ((cs.getD c ct0).1))), .ref (258)] h _
  refine e_callV (As := [.int (nI (evCnt false ((cs.getD c ct0).1))), .int (nI (evCnt true ((cs.getD c ct0).1)))]) (rest := []) f_111_30 rfl rfl rfl (Nat.le_of_ble_eq_true rfl) (Nat.le_of_ble_eq_true rfl) g7 rfl (Nat.le_of_ble_eq_true rfl) (cc_Sch_list (a := evCnt false ((cs.getD c ct0).1)) (b := evCnt true ((cs.getD c ct0).1)) (n := n2) (A0 := A3) (B0 := B4) (xs := xs5) (es := es6) g7 g8 g9 (hab) (hl10) (hs11 _ _ hab)) rfl (fun h18 r19 q20 => ?_)
  obtain ⟨rfl, g21, g22, g23, fx24⟩ := q20
  have fr25 : px_fi 258 3 h h18 := fi_tr fr0 fx24 (by omega)
  show px_to 111 33 [some (.ref (17)), some (.int (nI c))] [] h18 _
  refine e_vret f_111_33 rfl ?_
  first | (exfalso; omega) | exact ⟨rfl, g21, g22, g23, fr25⟩

set_option maxRecDepth 20000 in
set_option maxHeartbeats 4000000 in
theorem cc_JT_scs {h : px_H} {tx : List Nat} {j : List St} {xs : List CS3} {c : Int32} {s : Int32} (H0 : pJT h tx j xs)  : px_wp 97 [.ref (17), .int (c), .int (s)] h (fun h1 r => r = some (.int (aScs xs c s)) ∧ pJT h1 tx j xs ∧ px_fi 17 252 h h1) := by
  have fr0 : px_fi 17 252 h h := fi_rf _ _ _
  show px_to 97 0 [some (.ref (17)), some (.int (c)), some (.int (s))] [] h _
  obtain ⟨cs, S, D, pz, kk, ck, wo, xr, kl, cv, g1, g2, g3, g4, g5, g6, g7, g8, g9, g10, g11, g12, g13, g14, g15, g16, g17, g18, g19, g20, g21, g22, g23, g24, g25, hx, ok⟩ := id H0
  subst hx
  have h8 := ok.2.2.2.1.1
  have hS : 18 < S ∧ S + 78 ≤ 175 := by have := ok.1; omega
  have hD : 18 < D ∧ D + 78 ≤ 175 := by have := ok.1; omega
  have hSD : D + 78 ≤ S ∨ S + 78 ≤ D := by have := ok.1; omega
  have h8m : (cs.map c3of).length ≤ 8 := by rw [List.length_map]; exact h8
  have htl : tx.length ≤ 500 := pa_len g2
  refine e_aload_n f_97_0 rfl rfl ?_
  refine e_iload_n f_97_1 rfl rfl ?_
  refine e_callV (As := [.int (c)]) (rest := []) f_97_2 rfl rfl rfl (Nat.le_of_ble_eq_true rfl) (Nat.le_of_ble_eq_true rfl) g1 rfl (Nat.le_of_ble_eq_true rfl) (cc_JT_has (c := c) (L := tx.length) (S := S) (D := D) (n := cs.length) (pz := pz) (kk := kk) (ck := ck) g1 g3 (by omega)) rfl (fun h26 r27 q28 => ?_)
  obtain ⟨rfl, qe⟩ := q28
  have qe := qe.symm
  subst qe
  show px_to 97 5 [some (.ref (17)), some (.int (c)), some (.int (s))] [.int (bI (hasC c cs.length))] h _
  refine e_if_eq f_97_5 rfl (fun c_5 => ?_) (fun c_5 => ?_)
  · skip
    have c_5 : (hasC c cs.length) = false := bI_f c_5
    have hno : hasC c (cs.map c3of).length = false := by rw [List.length_map]; exact c_5
    refine e_iconst (v := (-1)) f_97_17 (by decide) rfl ?_
    refine e_iret f_97_18 rfl (rfl) ?_
    have g29 : pJT h tx j (cs.map c3of) := ⟨cs, S, D, pz, kk, ck, wo, xr, kl, cv, g1, g2, g3, g4, g5, g6, g7, g8, g9, g10, g11, g12, g13, g14, g15, g16, g17, g18, g19, g20, g21, g22, g23, g24, g25, rfl, ok⟩
    exact ⟨congrArg (fun z => some (Value.int z)) (show (-1) = _ from by unfold aScs; rw [onC_no hno]; split <;> rfl), g29, fr0⟩
  · skip
    have c_5 : (hasC c cs.length) = true := bI_t' c_5
    obtain ⟨k, hk, hkc⟩ := hasC_t (by omega) c_5
    subst hkc
    have hkm : k < (cs.map c3of).length := by rw [List.length_map]; exact hk
    have g30 : pCase h (S + 9 * k + 6) ((cs.getD k ct0).1) ((cs.getD k ct0).2.1) ((cs.getD k ct0).2.2.1) ((cs.getD k ct0).2.2.2.1) ((cs.getD k ct0).2.2.2.2.1) ((cs.getD k ct0).2.2.2.2.2.1) ((cs.getD k ct0).2.2.2.2.2.2) := (pCs_get (k := k) g6 (by omega) hk).1
    have hct : okK j (cs.getD k ct0) := ok.2.2.2.1.2 _ (getD_mem _ hk)
    refine e_iload_n f_97_8 rfl rfl ?_
    refine e_if_lt f_97_9 rfl (fun c_9 => ?_) (fun c_9 => ?_)
    · skip
      refine e_iconst (v := (-1)) f_97_17 (by decide) rfl ?_
      refine e_iret f_97_18 rfl (rfl) ?_
      have g31 : pJT h tx j (cs.map c3of) := ⟨cs, S, D, pz, kk, ck, wo, xr, kl, cv, g1, g2, g3, g4, g5, g6, g7, g8, g9, g10, g11, g12, g13, g14, g15, g16, g17, g18, g19, g20, g21, g22, g23, g24, g25, rfl, ok⟩
      exact ⟨congrArg (fun z => some (Value.int z)) (show (-1) = _ from by unfold aScs; rw [if_neg (by rw [rng_a c_9]; decide)]), g31, fr0⟩
    · skip
      refine e_iload_n f_97_12 rfl rfl ?_
      refine e_iconst (v := nI 3) f_97_13 (by decide) rfl ?_
      refine e_icmp_le f_97_14 rfl (fun c_14 => ?_) (fun c_14 => ?_)
      · skip
        obtain ⟨ks, hks, hwcks⟩ := rng_t (by omega) c_9 c_14
        subst hwcks
        refine e_aload_n f_97_19 rfl rfl ?_
        refine e_iload_n f_97_20 rfl rfl ?_
        refine e_callV (As := [.int (nI k)]) (rest := []) f_97_21 rfl rfl rfl (Nat.le_of_ble_eq_true rfl) (Nat.le_of_ble_eq_true rfl) g1 rfl (Nat.le_of_ble_eq_true rfl) (cc_JT_ls (c := k) (cs := cs) (L := tx.length) (S := S) (D := D) (pz := pz) (kk := kk) (ck := ck) g13 g1 g3 g5 g6 (hk) (h8) (hct.1) (hS)) rfl (fun h32 r33 q34 => ?_)
        obtain ⟨rfl, g35, g36, g37, fx38⟩ := q34
        have fr39 : px_fi 17 252 h h32 := fi_tr fr0 fx38 (by omega)
        show px_to 97 24 [some (.ref (17)), some (.int (nI k)), some (.int (nI ks))] [] h32 _
        have hab := ab24 hct.1
        have hul := schU_len hab
        have hus := schU_le (a := (evCnt false (cs.getD k ct0).1)) (b := (evCnt true (cs.getD k ct0).1)) (s := ks) (by omega)
        refine e_aload_n f_97_24 rfl rfl ?_
        have g40 : h32.2.2 17 = some (11, [.ref (18), .int (nI tx.length), .ref (S), .ref (D), .ref (175), .ref (177), .ref (249), .ref (254), .ref (256), .ref (258), .ref (261), .ref (265), .int (bI pz), .ref (267), .int (bI kk), .ref (268), .int (bI ck)]) := fi_at g1 fx38 (by omega)
        refine e_getf f_97_25 g40 rfl rfl ?_
        refine e_getf f_97_28 g35 rfl rfl ?_
        refine e_iload_n f_97_31 rfl rfl ?_
        refine e_iaload_p (xs := schE (evCnt false (cs.getD k ct0).1) (evCnt true (cs.getD k ct0).1)) f_97_32 g37 (d := 0) (by show ks < 4; omega) rfl ?_
        show px_to 97 33 [some (.ref (17)), some (.int (nI k)), some (.int (nI ks))] [.int (nI ((schE (evCnt false (cs.getD k ct0).1) (evCnt true (cs.getD k ct0).1)).getD ks 0))] h32 _
        refine e_iret f_97_33 rfl (rfl) ?_
        have g41 : pSc h32 := ⟨_, _, _, _, _, g35, g36, g37, rfl, (sc_self hab)⟩
        have g42 : px_pa h32 18 52 500 vN tx := pa_fi g2 fx38 (by omega)
        have g43 : h32.2.2 S = some (8, [.ref (S + 1), .ref (S + 5), .int (nI cs.length)]) := fi_at g3 fx38 (by omega)
        have g44 : pJob h32 (S + 1) j := pJob_fi g4 fx38 (by omega)
        have g45 : px_rs h32 (S + 5) 56 8 (fun k => S + 9 * k + 6) := rs_fi g5 fx38 (by omega)
        have g46 : pCs h32 S cs := pCs_fi g6 fx38 (by omega)
        have g47 : pDr h32 D := pDr_fi g7 fx38 (by omega)
        have g48 : pRA h32 := pRA_fi g8 fx38 (by omega)
        have g49 : pRun h32 wo xr := pRun_fi g9 fx38 (by omega)
        have g50 : pJud h32 := pJud_fi g10 fx38 (by omega)
        have g51 : pOrA h32 254 := pOrA_fi g11 fx38 (by omega)
        have g52 : pOrA h32 256 := pOrA_fi g12 fx38 (by omega)
        have g53 : pJA h32 261 := pJA_fi g14 fx38 (by omega)
        have g54 : pRwA h32 265 := pRwA_fi g15 fx38 (by omega)
        have g55 : px_pa h32 267 50 30 Value.int kl := pa_fi g16 fx38 (by omega)
        have g56 : px_pa h32 268 50 30 Value.int cv := pa_fi g17 fx38 (by omega)
        have g57 : pStr h32 1 ([60, 61, 62]) := pStr_fi g18 fx38 (by omega)
        have g58 : pStr h32 2 ([43, 45, 42, 47]) := pStr_fi g19 fx38 (by omega)
        have g59 : pStr h32 3 stepSigns := pStr_fi g20 fx38 (by omega)
        have g60 : pStr h32 4 ([60, 61, 62]) := pStr_fi g21 fx38 (by omega)
        have g61 : pStr h32 5 ([43, 45, 42, 47]) := pStr_fi g22 fx38 (by omega)
        have g62 : pStr h32 6 evSigns := pStr_fi g23 fx38 (by omega)
        have g63 : pStr h32 7 keyL := pStr_fi g24 fx38 (by omega)
        have g64 : pStr h32 8 ordL := pStr_fi g25 fx38 (by omega)
        have g65 : pJT h32 tx j (cs.map c3of) := ⟨cs, S, D, pz, kk, ck, wo, xr, kl, cv, g40, g42, g43, g44, g45, g46, g47, g48, g49, g50, g51, g52, g41, g53, g54, g55, g56, g57, g58, g59, g60, g61, g62, g63, g64, rfl, ok⟩
        exact ⟨congrArg (fun z => some (Value.int z)) (show nI ((schE (evCnt false (cs.getD k ct0).1) (evCnt true (cs.getD k ct0).1)).getD ks 0) = _ from by unfold aScs; rw [if_pos (hasC_nI (by omega) (by omega)), onC_k h8m hkm, map_c3 hk, nN_nI (by omega), schE_get (by omega)]; rfl), g65, fr39⟩
      · skip
        refine e_iconst (v := (-1)) f_97_17 (by decide) rfl ?_
        refine e_iret f_97_18 rfl (rfl) ?_
        have g66 : pJT h tx j (cs.map c3of) := ⟨cs, S, D, pz, kk, ck, wo, xr, kl, cv, g1, g2, g3, g4, g5, g6, g7, g8, g9, g10, g11, g12, g13, g14, g15, g16, g17, g18, g19, g20, g21, g22, g23, g24, g25, rfl, ok⟩
        exact ⟨congrArg (fun z => some (Value.int z)) (show (-1) = _ from by unfold aScs; rw [if_neg (by rw [rng_b (by omega) c_14]; decide)]), g66, fr0⟩

set_option maxRecDepth 20000 in
set_option maxHeartbeats 4000000 in
theorem cc_JT_sc {h : px_H} {tx : List Nat} {j : List St} {xs : List CS3} {c : Int32} {s : Int32} {k2 : Int32} (H0 : pJT h tx j xs)  : px_wp 98 [.ref (17), .int (c), .int (s), .int (k2)] h (fun h1 r => r = some (.int (aSc xs c s k2)) ∧ pJT h1 tx j xs ∧ px_fi 17 252 h h1) := by
  have fr0 : px_fi 17 252 h h := fi_rf _ _ _
  show px_to 98 0 [some (.ref (17)), some (.int (c)), some (.int (s)), some (.int (k2))] [] h _
  obtain ⟨cs, S, D, pz, kk, ck, wo, xr, kl, cv, g1, g2, g3, g4, g5, g6, g7, g8, g9, g10, g11, g12, g13, g14, g15, g16, g17, g18, g19, g20, g21, g22, g23, g24, g25, hx, ok⟩ := id H0
  subst hx
  have h8 := ok.2.2.2.1.1
  have hS : 18 < S ∧ S + 78 ≤ 175 := by have := ok.1; omega
  have hD : 18 < D ∧ D + 78 ≤ 175 := by have := ok.1; omega
  have hSD : D + 78 ≤ S ∨ S + 78 ≤ D := by have := ok.1; omega
  have h8m : (cs.map c3of).length ≤ 8 := by rw [List.length_map]; exact h8
  have htl : tx.length ≤ 500 := pa_len g2
  refine e_aload_n f_98_0 rfl rfl ?_
  refine e_iload_n f_98_1 rfl rfl ?_
  refine e_callV (As := [.int (c)]) (rest := []) f_98_2 rfl rfl rfl (Nat.le_of_ble_eq_true rfl) (Nat.le_of_ble_eq_true rfl) g1 rfl (Nat.le_of_ble_eq_true rfl) (cc_JT_has (c := c) (L := tx.length) (S := S) (D := D) (n := cs.length) (pz := pz) (kk := kk) (ck := ck) g1 g3 (by omega)) rfl (fun h26 r27 q28 => ?_)
  obtain ⟨rfl, qe⟩ := q28
  have qe := qe.symm
  subst qe
  show px_to 98 5 [some (.ref (17)), some (.int (c)), some (.int (s)), some (.int (k2))] [.int (bI (hasC c cs.length))] h _
  refine e_if_eq f_98_5 rfl (fun c_5 => ?_) (fun c_5 => ?_)
  · skip
    have c_5 : (hasC c cs.length) = false := bI_f c_5
    have hno : hasC c (cs.map c3of).length = false := by rw [List.length_map]; exact c_5
    refine e_iconst (v := (-1)) f_98_17 (by decide) rfl ?_
    refine e_iret f_98_18 rfl (rfl) ?_
    have g29 : pJT h tx j (cs.map c3of) := ⟨cs, S, D, pz, kk, ck, wo, xr, kl, cv, g1, g2, g3, g4, g5, g6, g7, g8, g9, g10, g11, g12, g13, g14, g15, g16, g17, g18, g19, g20, g21, g22, g23, g24, g25, rfl, ok⟩
    exact ⟨congrArg (fun z => some (Value.int z)) (show (-1) = _ from by unfold aSc; rw [onC_no hno]; split <;> rfl), g29, fr0⟩
  · skip
    have c_5 : (hasC c cs.length) = true := bI_t' c_5
    obtain ⟨k, hk, hkc⟩ := hasC_t (by omega) c_5
    subst hkc
    have hkm : k < (cs.map c3of).length := by rw [List.length_map]; exact hk
    have g30 : pCase h (S + 9 * k + 6) ((cs.getD k ct0).1) ((cs.getD k ct0).2.1) ((cs.getD k ct0).2.2.1) ((cs.getD k ct0).2.2.2.1) ((cs.getD k ct0).2.2.2.2.1) ((cs.getD k ct0).2.2.2.2.2.1) ((cs.getD k ct0).2.2.2.2.2.2) := (pCs_get (k := k) g6 (by omega) hk).1
    have hct : okK j (cs.getD k ct0) := ok.2.2.2.1.2 _ (getD_mem _ hk)
    refine e_iload_n f_98_8 rfl rfl ?_
    refine e_if_lt f_98_9 rfl (fun c_9 => ?_) (fun c_9 => ?_)
    · skip
      refine e_iconst (v := (-1)) f_98_17 (by decide) rfl ?_
      refine e_iret f_98_18 rfl (rfl) ?_
      have g31 : pJT h tx j (cs.map c3of) := ⟨cs, S, D, pz, kk, ck, wo, xr, kl, cv, g1, g2, g3, g4, g5, g6, g7, g8, g9, g10, g11, g12, g13, g14, g15, g16, g17, g18, g19, g20, g21, g22, g23, g24, g25, rfl, ok⟩
      exact ⟨congrArg (fun z => some (Value.int z)) (show (-1) = _ from by unfold aSc; rw [if_neg (by rw [rng_a c_9]; decide)]), g31, fr0⟩
    · skip
      refine e_iload_n f_98_12 rfl rfl ?_
      refine e_iconst (v := nI 3) f_98_13 (by decide) rfl ?_
      refine e_icmp_le f_98_14 rfl (fun c_14 => ?_) (fun c_14 => ?_)
      · skip
        obtain ⟨ks, hks, hwcks⟩ := rng_t (by omega) c_9 c_14
        subst hwcks
        refine e_aload_n f_98_19 rfl rfl ?_
        refine e_iload_n f_98_20 rfl rfl ?_
        refine e_callV (As := [.int (nI k)]) (rest := []) f_98_21 rfl rfl rfl (Nat.le_of_ble_eq_true rfl) (Nat.le_of_ble_eq_true rfl) g1 rfl (Nat.le_of_ble_eq_true rfl) (cc_JT_ls (c := k) (cs := cs) (L := tx.length) (S := S) (D := D) (pz := pz) (kk := kk) (ck := ck) g13 g1 g3 g5 g6 (hk) (h8) (hct.1) (hS)) rfl (fun h32 r33 q34 => ?_)
        obtain ⟨rfl, g35, g36, g37, fx38⟩ := q34
        have fr39 : px_fi 17 252 h h32 := fi_tr fr0 fx38 (by omega)
        show px_to 98 24 [some (.ref (17)), some (.int (nI k)), some (.int (nI ks)), some (.int (k2))] [] h32 _
        have hab := ab24 hct.1
        have hul := schU_len hab
        have hus := schU_le (a := (evCnt false (cs.getD k ct0).1)) (b := (evCnt true (cs.getD k ct0).1)) (s := ks) (by omega)
        refine e_iload_n f_98_24 rfl rfl ?_
        refine e_if_lt f_98_25 rfl (fun c_25 => ?_) (fun c_25 => ?_)
        · skip
          refine e_bipush (v := (-3)) f_98_41 (by decide) rfl ?_
          refine e_goto f_98_43 ?_
          refine e_iret f_98_55 rfl (rfl) ?_
          have g40 : pSc h32 := ⟨_, _, _, _, _, g35, g36, g37, rfl, (sc_self hab)⟩
          have g41 : h32.2.2 17 = some (11, [.ref (18), .int (nI tx.length), .ref (S), .ref (D), .ref (175), .ref (177), .ref (249), .ref (254), .ref (256), .ref (258), .ref (261), .ref (265), .int (bI pz), .ref (267), .int (bI kk), .ref (268), .int (bI ck)]) := fi_at g1 fx38 (by omega)
          have g42 : px_pa h32 18 52 500 vN tx := pa_fi g2 fx38 (by omega)
          have g43 : h32.2.2 S = some (8, [.ref (S + 1), .ref (S + 5), .int (nI cs.length)]) := fi_at g3 fx38 (by omega)
          have g44 : pJob h32 (S + 1) j := pJob_fi g4 fx38 (by omega)
          have g45 : px_rs h32 (S + 5) 56 8 (fun k => S + 9 * k + 6) := rs_fi g5 fx38 (by omega)
          have g46 : pCs h32 S cs := pCs_fi g6 fx38 (by omega)
          have g47 : pDr h32 D := pDr_fi g7 fx38 (by omega)
          have g48 : pRA h32 := pRA_fi g8 fx38 (by omega)
          have g49 : pRun h32 wo xr := pRun_fi g9 fx38 (by omega)
          have g50 : pJud h32 := pJud_fi g10 fx38 (by omega)
          have g51 : pOrA h32 254 := pOrA_fi g11 fx38 (by omega)
          have g52 : pOrA h32 256 := pOrA_fi g12 fx38 (by omega)
          have g53 : pJA h32 261 := pJA_fi g14 fx38 (by omega)
          have g54 : pRwA h32 265 := pRwA_fi g15 fx38 (by omega)
          have g55 : px_pa h32 267 50 30 Value.int kl := pa_fi g16 fx38 (by omega)
          have g56 : px_pa h32 268 50 30 Value.int cv := pa_fi g17 fx38 (by omega)
          have g57 : pStr h32 1 ([60, 61, 62]) := pStr_fi g18 fx38 (by omega)
          have g58 : pStr h32 2 ([43, 45, 42, 47]) := pStr_fi g19 fx38 (by omega)
          have g59 : pStr h32 3 stepSigns := pStr_fi g20 fx38 (by omega)
          have g60 : pStr h32 4 ([60, 61, 62]) := pStr_fi g21 fx38 (by omega)
          have g61 : pStr h32 5 ([43, 45, 42, 47]) := pStr_fi g22 fx38 (by omega)
          have g62 : pStr h32 6 evSigns := pStr_fi g23 fx38 (by omega)
          have g63 : pStr h32 7 keyL := pStr_fi g24 fx38 (by omega)
          have g64 : pStr h32 8 ordL := pStr_fi g25 fx38 (by omega)
          have g65 : pJT h32 tx j (cs.map c3of) := ⟨cs, S, D, pz, kk, ck, wo, xr, kl, cv, g41, g42, g43, g44, g45, g46, g47, g48, g49, g50, g51, g52, g40, g53, g54, g55, g56, g57, g58, g59, g60, g61, g62, g63, g64, rfl, ok⟩
          exact ⟨congrArg (fun z => some (Value.int z)) (show (-3) = _ from by unfold aSc; rw [if_pos (hasC_nI (by omega) (by omega)), onC_k h8m hkm, map_c3 hk, nN_nI (by omega)]; show _ = atL (schU (evCnt false (cs.getD k ct0).1) (evCnt true (cs.getD k ct0).1) ks) _; unfold atL; rw [if_neg (by rw [rng_a c_25]; decide)]), g65, fr39⟩
        · skip
          refine e_iload_n f_98_28 rfl rfl ?_
          refine e_aload_n f_98_29 rfl rfl ?_
          have g66 : h32.2.2 17 = some (11, [.ref (18), .int (nI tx.length), .ref (S), .ref (D), .ref (175), .ref (177), .ref (249), .ref (254), .ref (256), .ref (258), .ref (261), .ref (265), .int (bI pz), .ref (267), .int (bI kk), .ref (268), .int (bI ck)]) := fi_at g1 fx38 (by omega)
          refine e_getf f_98_30 g66 rfl rfl ?_
          refine e_getf f_98_33 g35 rfl rfl ?_
          refine e_iload_n f_98_36 rfl rfl ?_
          refine e_iaload_p (xs := schE (evCnt false (cs.getD k ct0).1) (evCnt true (cs.getD k ct0).1)) f_98_37 g37 (d := 0) (by show ks < 4; omega) rfl ?_
          show px_to 98 38 [some (.ref (17)), some (.int (nI k)), some (.int (nI ks)), some (.int (k2))] [.int (nI ((schE (evCnt false (cs.getD k ct0).1) (evCnt true (cs.getD k ct0).1)).getD ks 0)), .int (k2)] h32 _
          rw [schE_get (by omega)]
          refine e_icmp_lt f_98_38 rfl (fun c_38 => ?_) (fun c_38 => ?_)
          · skip
            obtain ⟨ki, hki, hwcki⟩ := rng_u (by omega) c_25 c_38
            subst hwcki
            refine e_aload_n f_98_46 rfl rfl ?_
            refine e_getf f_98_47 g66 rfl rfl ?_
            refine e_getf f_98_50 g35 rfl rfl ?_
            refine e_iload_n f_98_53 rfl rfl ?_
            refine e_iaload_p (xs := schU (evCnt false (cs.getD k ct0).1) (evCnt true (cs.getD k ct0).1) 3) f_98_54 g36 (d := 0) (by omega) rfl ?_
            show px_to 98 55 [some (.ref (17)), some (.int (nI k)), some (.int (nI ks)), some (.int (nI ki))] [.int (nI ((schU (evCnt false (cs.getD k ct0).1) (evCnt true (cs.getD k ct0).1) 3).getD ki 0))] h32 _
            refine e_iret f_98_55 rfl (rfl) ?_
            have g67 : pSc h32 := ⟨_, _, _, _, _, g35, g36, g37, rfl, (sc_self hab)⟩
            have g68 : px_pa h32 18 52 500 vN tx := pa_fi g2 fx38 (by omega)
            have g69 : h32.2.2 S = some (8, [.ref (S + 1), .ref (S + 5), .int (nI cs.length)]) := fi_at g3 fx38 (by omega)
            have g70 : pJob h32 (S + 1) j := pJob_fi g4 fx38 (by omega)
            have g71 : px_rs h32 (S + 5) 56 8 (fun k => S + 9 * k + 6) := rs_fi g5 fx38 (by omega)
            have g72 : pCs h32 S cs := pCs_fi g6 fx38 (by omega)
            have g73 : pDr h32 D := pDr_fi g7 fx38 (by omega)
            have g74 : pRA h32 := pRA_fi g8 fx38 (by omega)
            have g75 : pRun h32 wo xr := pRun_fi g9 fx38 (by omega)
            have g76 : pJud h32 := pJud_fi g10 fx38 (by omega)
            have g77 : pOrA h32 254 := pOrA_fi g11 fx38 (by omega)
            have g78 : pOrA h32 256 := pOrA_fi g12 fx38 (by omega)
            have g79 : pJA h32 261 := pJA_fi g14 fx38 (by omega)
            have g80 : pRwA h32 265 := pRwA_fi g15 fx38 (by omega)
            have g81 : px_pa h32 267 50 30 Value.int kl := pa_fi g16 fx38 (by omega)
            have g82 : px_pa h32 268 50 30 Value.int cv := pa_fi g17 fx38 (by omega)
            have g83 : pStr h32 1 ([60, 61, 62]) := pStr_fi g18 fx38 (by omega)
            have g84 : pStr h32 2 ([43, 45, 42, 47]) := pStr_fi g19 fx38 (by omega)
            have g85 : pStr h32 3 stepSigns := pStr_fi g20 fx38 (by omega)
            have g86 : pStr h32 4 ([60, 61, 62]) := pStr_fi g21 fx38 (by omega)
            have g87 : pStr h32 5 ([43, 45, 42, 47]) := pStr_fi g22 fx38 (by omega)
            have g88 : pStr h32 6 evSigns := pStr_fi g23 fx38 (by omega)
            have g89 : pStr h32 7 keyL := pStr_fi g24 fx38 (by omega)
            have g90 : pStr h32 8 ordL := pStr_fi g25 fx38 (by omega)
            have g91 : pJT h32 tx j (cs.map c3of) := ⟨cs, S, D, pz, kk, ck, wo, xr, kl, cv, g66, g68, g69, g70, g71, g72, g73, g74, g75, g76, g77, g78, g67, g79, g80, g81, g82, g83, g84, g85, g86, g87, g88, g89, g90, rfl, ok⟩
            exact ⟨congrArg (fun z => some (Value.int z)) (show nI ((schU (evCnt false (cs.getD k ct0).1) (evCnt true (cs.getD k ct0).1) 3).getD ki 0) = _ from by unfold aSc; rw [if_pos (hasC_nI (by omega) (by omega)), onC_k h8m hkm, map_c3 hk, nN_nI (by omega)]; show _ = atL (schU (evCnt false (cs.getD k ct0).1) (evCnt true (cs.getD k ct0).1) ks) _; unfold atL; rw [if_pos (hasC_nI (by omega) hki), nN_nI (by omega), schU_pre (by omega) hki]), g91, fr39⟩
          · skip
            refine e_bipush (v := (-3)) f_98_41 (by decide) rfl ?_
            refine e_goto f_98_43 ?_
            refine e_iret f_98_55 rfl (rfl) ?_
            have g92 : pSc h32 := ⟨_, _, _, _, _, g35, g36, g37, rfl, (sc_self hab)⟩
            have g93 : px_pa h32 18 52 500 vN tx := pa_fi g2 fx38 (by omega)
            have g94 : h32.2.2 S = some (8, [.ref (S + 1), .ref (S + 5), .int (nI cs.length)]) := fi_at g3 fx38 (by omega)
            have g95 : pJob h32 (S + 1) j := pJob_fi g4 fx38 (by omega)
            have g96 : px_rs h32 (S + 5) 56 8 (fun k => S + 9 * k + 6) := rs_fi g5 fx38 (by omega)
            have g97 : pCs h32 S cs := pCs_fi g6 fx38 (by omega)
            have g98 : pDr h32 D := pDr_fi g7 fx38 (by omega)
            have g99 : pRA h32 := pRA_fi g8 fx38 (by omega)
            have g100 : pRun h32 wo xr := pRun_fi g9 fx38 (by omega)
            have g101 : pJud h32 := pJud_fi g10 fx38 (by omega)
            have g102 : pOrA h32 254 := pOrA_fi g11 fx38 (by omega)
            have g103 : pOrA h32 256 := pOrA_fi g12 fx38 (by omega)
            have g104 : pJA h32 261 := pJA_fi g14 fx38 (by omega)
            have g105 : pRwA h32 265 := pRwA_fi g15 fx38 (by omega)
            have g106 : px_pa h32 267 50 30 Value.int kl := pa_fi g16 fx38 (by omega)
            have g107 : px_pa h32 268 50 30 Value.int cv := pa_fi g17 fx38 (by omega)
            have g108 : pStr h32 1 ([60, 61, 62]) := pStr_fi g18 fx38 (by omega)
            have g109 : pStr h32 2 ([43, 45, 42, 47]) := pStr_fi g19 fx38 (by omega)
            have g110 : pStr h32 3 stepSigns := pStr_fi g20 fx38 (by omega)
            have g111 : pStr h32 4 ([60, 61, 62]) := pStr_fi g21 fx38 (by omega)
            have g112 : pStr h32 5 ([43, 45, 42, 47]) := pStr_fi g22 fx38 (by omega)
            have g113 : pStr h32 6 evSigns := pStr_fi g23 fx38 (by omega)
            have g114 : pStr h32 7 keyL := pStr_fi g24 fx38 (by omega)
            have g115 : pStr h32 8 ordL := pStr_fi g25 fx38 (by omega)
            have g116 : pJT h32 tx j (cs.map c3of) := ⟨cs, S, D, pz, kk, ck, wo, xr, kl, cv, g66, g93, g94, g95, g96, g97, g98, g99, g100, g101, g102, g103, g92, g104, g105, g106, g107, g108, g109, g110, g111, g112, g113, g114, g115, rfl, ok⟩
            exact ⟨congrArg (fun z => some (Value.int z)) (show (-3) = _ from by unfold aSc; rw [if_pos (hasC_nI (by omega) (by omega)), onC_k h8m hkm, map_c3 hk, nN_nI (by omega)]; show _ = atL (schU (evCnt false (cs.getD k ct0).1) (evCnt true (cs.getD k ct0).1) ks) _; unfold atL; rw [if_neg (by rw [rng_c c_38]; decide)]), g116, fr39⟩
      · skip
        refine e_iconst (v := (-1)) f_98_17 (by decide) rfl ?_
        refine e_iret f_98_18 rfl (rfl) ?_
        have g117 : pJT h tx j (cs.map c3of) := ⟨cs, S, D, pz, kk, ck, wo, xr, kl, cv, g1, g2, g3, g4, g5, g6, g7, g8, g9, g10, g11, g12, g13, g14, g15, g16, g17, g18, g19, g20, g21, g22, g23, g24, g25, rfl, ok⟩
        exact ⟨congrArg (fun z => some (Value.int z)) (show (-1) = _ from by unfold aSc; rw [if_neg (by rw [rng_b (by omega) c_14]; decide)]), g117, fr0⟩
