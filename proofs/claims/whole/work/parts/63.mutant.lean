def mutO (j : List St) (xs : List CS3) (k w : Nat) : Int32 := if w = 0 then nI (mutAt j k).1 else if w = 1 then nI (mutAt j k).2 else if w = 2 then (if (mutAt j k).2 + 1 = ways (j.getD (mutAt j k).1 (0, 0, 0)) then nI 1 else nI 0) else if w = 3 then (if killN j k xs 0 = 0 then -3 else nI (ctz 8 (killN j k xs 0))) else nI (bcN (killN j k xs 0))
def aMut (j : List St) (xs : List CS3) (k w : Int32) : Int32 := if hasC k (jMut j) = true ∧ hasC w 5 = true then mutO j xs (nN k) (nN w) else -1
/-- how many of the mutants from k on this case alone kills -/
def aloN (j : List St) (xs : List CS3) (c : Nat) : Nat → Nat → Nat
  | 0, _ => 0
  | d + 1, k => (if killN j k xs 0 = 2 ^ c then 1 else 0) + aloN j xs c d (k + 1)
def aAlone (j : List St) (xs : List CS3) (c : Int32) : Int32 := if hasC c xs.length = true then nI (aloN j xs (nN c) (jMut j) 0) else -1
theorem killL_get {j : List St} {xs : List CS3} {k : Nat} (h : k < jMut j) (h3 : k < 30) : (killL j xs).getD k 0 = nI (killN j k xs 0) := by
  unfold killL
  rw [List.getD_eq_getElem?_getD, List.getElem?_map, List.getElem?_range h3]
  show (if k < jMut j then _ else _) = _
  rw [if_pos h]
theorem killN_256 {j : List St} {k : Nat} {xs : List CS3} (h : xs.length ≤ 8) : killN j k xs 0 < 256 := by
  have h1 := killN_lt (j := j) (k := k) xs 0
  have h2 : 2 ^ (0 + xs.length) ≤ 2 ^ 8 := Nat.pow_le_pow_right (by decide) (by omega)
  rw [Nat.pow_zero] at h1
  omega
theorem okJT_kl {tx : List Nat} {j : List St} {cs : List CT7} {S D : Nat} {kk ck : Bool} {wo : Int32} {x : RO} {kl cv : List Int32} (h : okJT tx j cs S D kk ck wo x kl cv) : okJT tx j cs S D true ck wo x (killL j (cs.map c3of)) cv := ⟨h.1, h.2.1, h.2.2.1, h.2.2.2.1, h.2.2.2.2.1, ⟨killL_len _ _, fun _ => rfl⟩, h.2.2.2.2.2.2⟩

set_option maxRecDepth 20000 in
set_option maxHeartbeats 4000000 in
theorem cc_JT_mut {h : px_H} {tx : List Nat} {j : List St} {xs : List CS3} {k : Int32} {w : Int32} (H0 : pJT h tx j xs)  : px_wp 105 [.ref (17), .int (k), .int (w)] h (fun h1 r => r = some (.int (aMut j xs k w)) ∧ pJT h1 tx j xs ∧ px_fi 17 252 h h1) := by
  have fr0 : px_fi 17 252 h h := fi_rf _ _ _
  show px_to 105 0 [some (.ref (17)), some (.int (k)), some (.int (w)), none, none] [] h _
  obtain ⟨cs, S, D, pz, kk, ck, wo, xr, kl, cv, g1, g2, g3, g4, g5, g6, g7, g8, g9, g10, g11, g12, g13, g14, g15, g16, g17, g18, g19, g20, g21, g22, g23, g24, g25, hx, ok⟩ := id H0
  subst hx
  have h8 := ok.2.2.2.1.1
  have hS : 18 < S ∧ S + 78 ≤ 175 := by have := ok.1; omega
  have hD : 18 < D ∧ D + 78 ≤ 175 := by have := ok.1; omega
  have hSD : D + 78 ≤ S ∨ S + 78 ≤ D := by have := ok.1; omega
  have h8m : (cs.map c3of).length ≤ 8 := by rw [List.length_map]; exact h8
  have htl : tx.length ≤ 500 := pa_len g2
  have hj6 := ok.2.2.1.1.1
  have hjm := jMut_le j
  refine e_iload_n f_105_0 rfl rfl ?_
  refine e_if_lt f_105_1 rfl (fun c_1 => ?_) (fun c_1 => ?_)
  · skip
    refine e_iconst (v := (-1)) f_105_27 (by decide) rfl ?_
    refine e_iret f_105_28 rfl (rfl) ?_
    have g26 : pJT h tx j (cs.map c3of) := ⟨cs, S, D, pz, kk, ck, wo, xr, kl, cv, g1, g2, g3, g4, g5, g6, g7, g8, g9, g10, g11, g12, g13, g14, g15, g16, g17, g18, g19, g20, g21, g22, g23, g24, g25, rfl, ok⟩
    exact ⟨congrArg (fun z => some (Value.int z)) (show (-1) = _ from by unfold aMut; rw [if_neg (fun z => by rw [rng_a c_1] at z; exact absurd z.1 (by decide))]), g26, fr0⟩
  · skip
    refine e_iload_n f_105_4 rfl rfl ?_
    refine e_aload_n f_105_5 rfl rfl ?_
    refine e_getf f_105_6 g1 rfl rfl ?_
    refine e_getf f_105_9 g3 rfl rfl ?_
    refine e_callV (As := []) (rest := [.int (k)]) f_105_12 rfl rfl rfl (Nat.le_of_ble_eq_true rfl) (Nat.le_of_ble_eq_true rfl) g4.1 rfl (Nat.le_of_ble_eq_true rfl) (cc_Job_mutants (a := S + 1) (j := j) g4 (fun s hs => by have := (ok.2.2.1.2 s hs).1.1; omega)) rfl (fun h27 r28 q29 => ?_)
    obtain ⟨rfl, qe⟩ := q29
    have qe := qe.symm
    subst qe
    show px_to 105 15 [some (.ref (17)), some (.int (k)), some (.int (w)), none, none] [.int (nI (jMut j)), .int (k)] h _
    refine e_icmp_ge f_105_15 rfl (fun c_15 => ?_) (fun c_15 => ?_)
    · skip
      refine e_iconst (v := (-1)) f_105_27 (by decide) rfl ?_
      refine e_iret f_105_28 rfl (rfl) ?_
      have g30 : pJT h tx j (cs.map c3of) := ⟨cs, S, D, pz, kk, ck, wo, xr, kl, cv, g1, g2, g3, g4, g5, g6, g7, g8, g9, g10, g11, g12, g13, g14, g15, g16, g17, g18, g19, g20, g21, g22, g23, g24, g25, rfl, ok⟩
      exact ⟨congrArg (fun z => some (Value.int z)) (show (-1) = _ from by unfold aMut; rw [if_neg (fun z => by rw [rng_c (Int32.not_lt.mpr c_15)] at z; exact absurd z.1 (by decide))]), g30, fr0⟩
    · skip
      obtain ⟨km, hkm2, hwcm⟩ := rng_u (by omega) c_1 (Int32.not_le.mp c_15)
      subst hwcm
      have hml := mutAt_lt hkm2
      have hkn := killN_256 (j := j) (k := km) h8m
      have hjs := (ok.2.2.1.2 _ (getD_mem (0, 0, 0) hml.1)).1.1
      refine e_iload_n f_105_18 rfl rfl ?_
      refine e_if_lt f_105_19 rfl (fun c_19 => ?_) (fun c_19 => ?_)
      · skip
        refine e_iconst (v := (-1)) f_105_27 (by decide) rfl ?_
        refine e_iret f_105_28 rfl (rfl) ?_
        have g31 : pJT h tx j (cs.map c3of) := ⟨cs, S, D, pz, kk, ck, wo, xr, kl, cv, g1, g2, g3, g4, g5, g6, g7, g8, g9, g10, g11, g12, g13, g14, g15, g16, g17, g18, g19, g20, g21, g22, g23, g24, g25, rfl, ok⟩
        exact ⟨congrArg (fun z => some (Value.int z)) (show (-1) = _ from by unfold aMut; rw [if_neg (fun z => by rw [rng_a c_19] at z; exact absurd z.2 (by decide))]), g31, fr0⟩
      · skip
        refine e_iload_n f_105_22 rfl rfl ?_
        refine e_iconst (v := nI 4) f_105_23 (by decide) rfl ?_
        refine e_icmp_le f_105_24 rfl (fun c_24 => ?_) (fun c_24 => ?_)
        · skip
          obtain ⟨kw, hkw, hwckw⟩ := rng_t (by omega) c_19 c_24
          subst hwckw
          refine e_aload_n f_105_29 rfl rfl ?_
          refine e_getf f_105_30 g1 rfl rfl ?_
          refine e_getf f_105_33 g3 rfl rfl ?_
          refine e_iload_n f_105_36 rfl rfl ?_
          refine e_callV (As := [.int (nI km)]) (rest := []) f_105_37 rfl rfl rfl (Nat.le_of_ble_eq_true rfl) (Nat.le_of_ble_eq_true rfl) g4.1 rfl (Nat.le_of_ble_eq_true rfl) (cc_Job_stepOf (a := S + 1) (k := km) (j := j) g4 (fun s hs => by have := (ok.2.2.1.2 s hs).1.1; omega) (hkm2)) rfl (fun h32 r33 q34 => ?_)
          obtain ⟨rfl, qe⟩ := q34
          have qe := qe.symm
          subst qe
          show px_to 105 40 [some (.ref (17)), some (.int (nI km)), some (.int (nI kw)), none, none] [.int (nI ((mutAt j km).1))] h _
          refine e_istore_n (L' := [some (.ref (17)), some (.int (nI km)), some (.int (nI kw)), some (.int (nI ((mutAt j km).1))), none]) f_105_40 (Nat.le_of_ble_eq_true rfl) rfl rfl ?_
          refine e_aload_n f_105_41 rfl rfl ?_
          refine e_getf f_105_42 g1 rfl rfl ?_
          refine e_getf f_105_45 g3 rfl rfl ?_
          refine e_iload_n f_105_48 rfl rfl ?_
          refine e_callV (As := [.int (nI km)]) (rest := []) f_105_49 rfl rfl rfl (Nat.le_of_ble_eq_true rfl) (Nat.le_of_ble_eq_true rfl) g4.1 rfl (Nat.le_of_ble_eq_true rfl) (cc_Job_wayOf (a := S + 1) (k := km) (j := j) g4 (fun s hs => by have := (ok.2.2.1.2 s hs).1.1; omega) (hkm2)) rfl (fun h35 r36 q37 => ?_)
          obtain ⟨rfl, qe⟩ := q37
          have qe := qe.symm
          subst qe
          show px_to 105 52 [some (.ref (17)), some (.int (nI km)), some (.int (nI kw)), some (.int (nI ((mutAt j km).1))), none] [.int (nI ((mutAt j km).2))] h _
          refine e_istore (L' := [some (.ref (17)), some (.int (nI km)), some (.int (nI kw)), some (.int (nI ((mutAt j km).1))), some (.int (nI ((mutAt j km).2)))]) f_105_52 (Nat.le_of_ble_eq_true rfl) rfl rfl ?_
          refine e_iload_n f_105_54 rfl rfl ?_
          by_cases c_55_0 : kw = 0
          · skip
            refine e_sw_t f_105_55 (t := 84) (by rw [c_55_0]; rfl) ?_
            refine e_iload_n f_105_84 rfl rfl ?_
            refine e_iret f_105_85 rfl (rfl) ?_
            have g38 : pJT h tx j (cs.map c3of) := ⟨cs, S, D, pz, kk, ck, wo, xr, kl, cv, g1, g2, g3, g4, g5, g6, g7, g8, g9, g10, g11, g12, g13, g14, g15, g16, g17, g18, g19, g20, g21, g22, g23, g24, g25, rfl, ok⟩
            exact ⟨congrArg (fun z => some (Value.int z)) (show nI ((mutAt j km).1) = _ from by unfold aMut; rw [if_pos ⟨hasC_nI (by omega) hkm2, hasC_nI (by omega) (by omega)⟩, nN_nI (by omega), nN_nI (by omega)]; unfold mutO; rw [if_pos c_55_0]), g38, fr0⟩
          · skip
            by_cases c_55_1 : kw = 1
            · skip
              refine e_sw_t f_105_55 (t := 86) (by rw [c_55_1]; rfl) ?_
              refine e_iload f_105_86 rfl rfl ?_
              refine e_iret f_105_88 rfl (rfl) ?_
              have g39 : pJT h tx j (cs.map c3of) := ⟨cs, S, D, pz, kk, ck, wo, xr, kl, cv, g1, g2, g3, g4, g5, g6, g7, g8, g9, g10, g11, g12, g13, g14, g15, g16, g17, g18, g19, g20, g21, g22, g23, g24, g25, rfl, ok⟩
              exact ⟨congrArg (fun z => some (Value.int z)) (show nI ((mutAt j km).2) = _ from by unfold aMut; rw [if_pos ⟨hasC_nI (by omega) hkm2, hasC_nI (by omega) (by omega)⟩, nN_nI (by omega), nN_nI (by omega)]; unfold mutO; rw [if_neg c_55_0, if_pos c_55_1]), g39, fr0⟩
            · skip
              by_cases c_55_2 : kw = 2
              · skip
                refine e_sw_t f_105_55 (t := 89) (by rw [c_55_2]; rfl) ?_
                have hwl := ways_le (j.getD (mutAt j km).1 (0, 0, 0))
                refine e_iload f_105_89 rfl rfl ?_
                refine e_aload_n f_105_91 rfl rfl ?_
                refine e_getf f_105_92 g1 rfl rfl ?_
                refine e_getf f_105_95 g3 rfl rfl ?_
                refine e_iload_n f_105_98 rfl rfl ?_
                refine e_callV (As := [.int (nI ((mutAt j km).1))]) (rest := [.int (nI ((mutAt j km).2))]) f_105_99 rfl rfl rfl (Nat.le_of_ble_eq_true rfl) (Nat.le_of_ble_eq_true rfl) g4.1 rfl (Nat.le_of_ble_eq_true rfl) (cc_Job_waysOf (a := S + 1) (i := (mutAt j km).1) (j := j) g4 (hml.1) (by omega)) rfl (fun h40 r41 q42 => ?_)
                obtain ⟨rfl, qe⟩ := q42
                have qe := qe.symm
                subst qe
                show px_to 105 102 [some (.ref (17)), some (.int (nI km)), some (.int (nI kw)), some (.int (nI ((mutAt j km).1))), some (.int (nI ((mutAt j km).2)))] [.int (nI (ways (j.getD ((mutAt j km).1) (0, 0, 0)))), .int (nI ((mutAt j km).2))] h _
                refine e_iconst (v := nI 1) f_105_102 (by decide) rfl ?_
                refine e_isub (z := nI (ways (j.getD ((mutAt j km).1) (0, 0, 0)) - 1)) f_105_103 (pk_sub (by omega)) rfl ?_
                refine e_icmp_ne f_105_104 rfl (fun c_104 => ?_) (fun c_104 => ?_)
                · skip
                  have c_104 : (mutAt j km).2 ≠ ways (j.getD ((mutAt j km).1) (0, 0, 0)) - 1 := cv_ne c_104
                  refine e_iconst (v := nI 0) f_105_111 (by decide) rfl ?_
                  refine e_iret f_105_112 rfl (rfl) ?_
                  have g43 : pJT h tx j (cs.map c3of) := ⟨cs, S, D, pz, kk, ck, wo, xr, kl, cv, g1, g2, g3, g4, g5, g6, g7, g8, g9, g10, g11, g12, g13, g14, g15, g16, g17, g18, g19, g20, g21, g22, g23, g24, g25, rfl, ok⟩
                  exact ⟨congrArg (fun z => some (Value.int z)) (show nI 0 = _ from by unfold aMut; rw [if_pos ⟨hasC_nI (by omega) hkm2, hasC_nI (by omega) (by omega)⟩, nN_nI (by omega), nN_nI (by omega)]; unfold mutO; rw [if_neg c_55_0, if_neg c_55_1, if_pos c_55_2, if_neg (by omega)]), g43, fr0⟩
                · skip
                  have c_104 : (mutAt j km).2 = ways (j.getD ((mutAt j km).1) (0, 0, 0)) - 1 := cv_nne (by omega) (by omega) c_104
                  refine e_iconst (v := nI 1) f_105_107 (by decide) rfl ?_
                  refine e_goto f_105_108 ?_
                  refine e_iret f_105_112 rfl (rfl) ?_
                  have g44 : pJT h tx j (cs.map c3of) := ⟨cs, S, D, pz, kk, ck, wo, xr, kl, cv, g1, g2, g3, g4, g5, g6, g7, g8, g9, g10, g11, g12, g13, g14, g15, g16, g17, g18, g19, g20, g21, g22, g23, g24, g25, rfl, ok⟩
                  exact ⟨congrArg (fun z => some (Value.int z)) (show nI 1 = _ from by unfold aMut; rw [if_pos ⟨hasC_nI (by omega) hkm2, hasC_nI (by omega) (by omega)⟩, nN_nI (by omega), nN_nI (by omega)]; unfold mutO; rw [if_neg c_55_0, if_neg c_55_1, if_pos c_55_2, if_pos (by omega)]), g44, fr0⟩
              · skip
                by_cases c_55_3 : kw = 3
                · skip
                  refine e_sw_t f_105_55 (t := 113) (by rw [c_55_3]; rfl) ?_
                  refine e_aload_n f_105_113 rfl rfl ?_
                  refine e_callV (As := []) (rest := []) f_105_114 rfl rfl rfl (Nat.le_of_ble_eq_true rfl) (Nat.le_of_ble_eq_true rfl) g1 rfl (Nat.le_of_ble_eq_true rfl) (cc_JT_kil (wo := wo) (x := xr) (kl := kl) (j := j) (cs := cs) (L := tx.length) (S := S) (D := D) (pz := pz) (kk := kk) (ck := ck) g9 g11 g10 g14 g1 g16 g3 g4 g5 g6 g18 g19 (ok.2.2.2.2.2.1.2) (ok.2.2.2.2.2.1.1) (ok.2.2.1) (fun t ht => (ok.2.2.2.1.2 t ht).1) (h8) (hS)) rfl (fun h45 r46 q47 => ?_)
                  obtain ⟨rfl, g48, g49, g50, g51, g52, g53, fx54⟩ := q47
                  obtain ⟨hm55, fa56, fb57⟩ := fl_mid fx54
                  have fr58 : px_fi 17 252 h hm55 := fi_tr fr0 fa56 (by omega)
                  obtain ⟨hm59, fa60, fb61⟩ := fl_mid fb57
                  have fr62 : px_fi 17 252 h hm59 := fi_tr fr58 fa60 (by omega)
                  obtain ⟨hm63, fa64, fb65⟩ := fl_mid fb61
                  have fr66 : px_fi 17 252 h hm63 := fi_tr fr62 fa64 (by omega)
                  have fb67 := fl_one fb65
                  have fr68 : px_fi 17 252 h h45 := fi_tr fr66 fb67 (by omega)
                  show px_to 105 117 [some (.ref (17)), some (.int (nI km)), some (.int (nI kw)), some (.int (nI ((mutAt j km).1))), some (.int (nI ((mutAt j km).2)))] [] h45 _
                  refine e_aload_n f_105_117 rfl rfl ?_
                  refine e_getf f_105_118 g52 rfl rfl ?_
                  refine e_iload_n f_105_121 rfl rfl ?_
                  refine e_iaload_p (xs := killL j (cs.map c3of)) f_105_122 g53 (d := 0) (by rw [killL_len]; omega) rfl ?_
                  show px_to 105 123 [some (.ref (17)), some (.int (nI km)), some (.int (nI kw)), some (.int (nI ((mutAt j km).1))), some (.int (nI ((mutAt j km).2)))] [.int ((killL j (cs.map c3of)).getD km 0)] h45 _
                  rw [killL_get hkm2 (by omega)]
                  refine e_if_ne f_105_123 rfl (fun c_123 => ?_) (fun c_123 => ?_)
                  · skip
                    rw [← nI_0] at c_123
                    have c_123 : killN j km (cs.map c3of) 0 ≠ 0 := cv_ne c_123
                    refine e_aload_n f_105_131 rfl rfl ?_
                    refine e_getf f_105_132 g52 rfl rfl ?_
                    refine e_iload_n f_105_135 rfl rfl ?_
                    refine e_iaload_p (xs := killL j (cs.map c3of)) f_105_136 g53 (d := 0) (by rw [killL_len]; omega) rfl ?_
                    show px_to 105 137 [some (.ref (17)), some (.int (nI km)), some (.int (nI kw)), some (.int (nI ((mutAt j km).1))), some (.int (nI ((mutAt j km).2)))] [.int ((killL j (cs.map c3of)).getD km 0)] h45 _
                    rw [killL_get hkm2 (by omega)]
                    refine e_callS (As := [.int (nI (killN j km (cs.map c3of) 0))]) (rest := []) f_105_137 rfl rfl rfl (Nat.le_of_ble_eq_true rfl) (Nat.le_of_ble_eq_true rfl) (cc_Int_tz (n := killN j km (cs.map c3of) 0)  (hkn) (by omega)) rfl (fun h69 r70 q71 => ?_)
                    obtain ⟨rfl, qe⟩ := q71
                    have qe := qe.symm
                    subst qe
                    show px_to 105 140 [some (.ref (17)), some (.int (nI km)), some (.int (nI kw)), some (.int (nI ((mutAt j km).1))), some (.int (nI ((mutAt j km).2)))] [.int (nI (ctz 8 (killN j km (cs.map c3of) 0)))] h45 _
                    refine e_iret f_105_140 rfl (rfl) ?_
                    obtain ⟨wo72, xo73, g74, hwo75⟩ := id g48
                    have ok2 := okJT_woE ok hwo75
                    have ok4 := okJT_kl ok2
                    have g76 : px_pa hm55 18 52 500 vN tx := pa_fi g2 fa56 (by omega)
                    have g77 : px_pa hm59 18 52 500 vN tx := pa_fi g76 fa60 (by omega)
                    have g78 : px_pa hm63 18 52 500 vN tx := pa_fi g77 fa64 (by omega)
                    have g79 : px_pa h45 18 52 500 vN tx := pa_fi g78 fb67 (by omega)
                    have g80 : hm55.2.2 S = some (8, [.ref (S + 1), .ref (S + 5), .int (nI cs.length)]) := fi_at g3 fa56 (by omega)
                    have g81 : hm59.2.2 S = some (8, [.ref (S + 1), .ref (S + 5), .int (nI cs.length)]) := fi_at g80 fa60 (by omega)
                    have g82 : hm63.2.2 S = some (8, [.ref (S + 1), .ref (S + 5), .int (nI cs.length)]) := fi_at g81 fa64 (by omega)
                    have g83 : h45.2.2 S = some (8, [.ref (S + 1), .ref (S + 5), .int (nI cs.length)]) := fi_at g82 fb67 (by omega)
                    have g84 : pJob hm55 (S + 1) j := pJob_fi g4 fa56 (by omega)
                    have g85 : pJob hm59 (S + 1) j := pJob_fi g84 fa60 (by omega)
                    have g86 : pJob hm63 (S + 1) j := pJob_fi g85 fa64 (by omega)
                    have g87 : pJob h45 (S + 1) j := pJob_fi g86 fb67 (by omega)
                    have g88 : px_rs hm55 (S + 5) 56 8 (fun k => S + 9 * k + 6) := rs_fi g5 fa56 (by omega)
                    have g89 : px_rs hm59 (S + 5) 56 8 (fun k => S + 9 * k + 6) := rs_fi g88 fa60 (by omega)
                    have g90 : px_rs hm63 (S + 5) 56 8 (fun k => S + 9 * k + 6) := rs_fi g89 fa64 (by omega)
                    have g91 : px_rs h45 (S + 5) 56 8 (fun k => S + 9 * k + 6) := rs_fi g90 fb67 (by omega)
                    have g92 : pCs hm55 S cs := pCs_fi g6 fa56 (by omega)
                    have g93 : pCs hm59 S cs := pCs_fi g92 fa60 (by omega)
                    have g94 : pCs hm63 S cs := pCs_fi g93 fa64 (by omega)
                    have g95 : pCs h45 S cs := pCs_fi g94 fb67 (by omega)
                    have g96 : pDr hm55 D := pDr_fi g7 fa56 (by omega)
                    have g97 : pDr hm59 D := pDr_fi g96 fa60 (by omega)
                    have g98 : pDr hm63 D := pDr_fi g97 fa64 (by omega)
                    have g99 : pDr h45 D := pDr_fi g98 fb67 (by omega)
                    have g100 : pRA hm55 := pRA_fi g8 fa56 (by omega)
                    have g101 : pRA hm59 := pRA_fi g100 fa60 (by omega)
                    have g102 : pRA hm63 := pRA_fi g101 fa64 (by omega)
                    have g103 : pRA h45 := pRA_fi g102 fb67 (by omega)
                    have g104 : pOrA hm55 256 := pOrA_fi g12 fa56 (by omega)
                    have g105 : pOrA hm59 256 := pOrA_fi g104 fa60 (by omega)
                    have g106 : pOrA hm63 256 := pOrA_fi g105 fa64 (by omega)
                    have g107 : pOrA h45 256 := pOrA_fi g106 fb67 (by omega)
                    have g108 : pSc hm55 := pSc_fi g13 fa56 (by omega)
                    have g109 : pSc hm59 := pSc_fi g108 fa60 (by omega)
                    have g110 : pSc hm63 := pSc_fi g109 fa64 (by omega)
                    have g111 : pSc h45 := pSc_fi g110 fb67 (by omega)
                    have g112 : pRwA hm55 265 := pRwA_fi g15 fa56 (by omega)
                    have g113 : pRwA hm59 265 := pRwA_fi g112 fa60 (by omega)
                    have g114 : pRwA hm63 265 := pRwA_fi g113 fa64 (by omega)
                    have g115 : pRwA h45 265 := pRwA_fi g114 fb67 (by omega)
                    have g116 : px_pa hm55 268 50 30 Value.int cv := pa_fi g17 fa56 (by omega)
                    have g117 : px_pa hm59 268 50 30 Value.int cv := pa_fi g116 fa60 (by omega)
                    have g118 : px_pa hm63 268 50 30 Value.int cv := pa_fi g117 fa64 (by omega)
                    have g119 : px_pa h45 268 50 30 Value.int cv := pa_fi g118 fb67 (by omega)
                    have g120 : pStr hm55 1 ([60, 61, 62]) := pStr_fi g18 fa56 (by omega)
                    have g121 : pStr hm59 1 ([60, 61, 62]) := pStr_fi g120 fa60 (by omega)
                    have g122 : pStr hm63 1 ([60, 61, 62]) := pStr_fi g121 fa64 (by omega)
                    have g123 : pStr h45 1 ([60, 61, 62]) := pStr_fi g122 fb67 (by omega)
                    have g124 : pStr hm55 2 ([43, 45, 42, 47]) := pStr_fi g19 fa56 (by omega)
                    have g125 : pStr hm59 2 ([43, 45, 42, 47]) := pStr_fi g124 fa60 (by omega)
                    have g126 : pStr hm63 2 ([43, 45, 42, 47]) := pStr_fi g125 fa64 (by omega)
                    have g127 : pStr h45 2 ([43, 45, 42, 47]) := pStr_fi g126 fb67 (by omega)
                    have g128 : pStr hm55 3 stepSigns := pStr_fi g20 fa56 (by omega)
                    have g129 : pStr hm59 3 stepSigns := pStr_fi g128 fa60 (by omega)
                    have g130 : pStr hm63 3 stepSigns := pStr_fi g129 fa64 (by omega)
                    have g131 : pStr h45 3 stepSigns := pStr_fi g130 fb67 (by omega)
                    have g132 : pStr hm55 4 ([60, 61, 62]) := pStr_fi g21 fa56 (by omega)
                    have g133 : pStr hm59 4 ([60, 61, 62]) := pStr_fi g132 fa60 (by omega)
                    have g134 : pStr hm63 4 ([60, 61, 62]) := pStr_fi g133 fa64 (by omega)
                    have g135 : pStr h45 4 ([60, 61, 62]) := pStr_fi g134 fb67 (by omega)
                    have g136 : pStr hm55 5 ([43, 45, 42, 47]) := pStr_fi g22 fa56 (by omega)
                    have g137 : pStr hm59 5 ([43, 45, 42, 47]) := pStr_fi g136 fa60 (by omega)
                    have g138 : pStr hm63 5 ([43, 45, 42, 47]) := pStr_fi g137 fa64 (by omega)
                    have g139 : pStr h45 5 ([43, 45, 42, 47]) := pStr_fi g138 fb67 (by omega)
                    have g140 : pStr hm55 6 evSigns := pStr_fi g23 fa56 (by omega)
                    have g141 : pStr hm59 6 evSigns := pStr_fi g140 fa60 (by omega)
                    have g142 : pStr hm63 6 evSigns := pStr_fi g141 fa64 (by omega)
                    have g143 : pStr h45 6 evSigns := pStr_fi g142 fb67 (by omega)
                    have g144 : pStr hm55 7 keyL := pStr_fi g24 fa56 (by omega)
                    have g145 : pStr hm59 7 keyL := pStr_fi g144 fa60 (by omega)
                    have g146 : pStr hm63 7 keyL := pStr_fi g145 fa64 (by omega)
                    have g147 : pStr h45 7 keyL := pStr_fi g146 fb67 (by omega)
                    have g148 : pStr hm55 8 ordL := pStr_fi g25 fa56 (by omega)
                    have g149 : pStr hm59 8 ordL := pStr_fi g148 fa60 (by omega)
                    have g150 : pStr hm63 8 ordL := pStr_fi g149 fa64 (by omega)
                    have g151 : pStr h45 8 ordL := pStr_fi g150 fb67 (by omega)
                    have g152 : pJT h45 tx j (cs.map c3of) := ⟨cs, S, D, pz, true, ck, wo72, xo73, (killL j (cs.map c3of)), cv, g52, g79, g83, g87, g91, g95, g99, g103, g74, g50, g49, g107, g111, g51, g115, g53, g119, g123, g127, g131, g135, g139, g143, g147, g151, rfl, ok4⟩
                    exact ⟨congrArg (fun z => some (Value.int z)) (show nI (ctz 8 (killN j km (cs.map c3of) 0)) = _ from by unfold aMut; rw [if_pos ⟨hasC_nI (by omega) hkm2, hasC_nI (by omega) (by omega)⟩, nN_nI (by omega), nN_nI (by omega)]; unfold mutO; rw [if_neg c_55_0, if_neg c_55_1, if_neg c_55_2, if_pos c_55_3, if_neg c_123]), g152, fr68⟩
                  · skip
                    rw [← nI_0] at c_123
                    have c_123 : killN j km (cs.map c3of) 0 = 0 := cv_nne (by omega) (by omega) c_123
                    refine e_bipush (v := (-3)) f_105_126 (by decide) rfl ?_
                    refine e_goto f_105_128 ?_
                    refine e_iret f_105_140 rfl (rfl) ?_
                    obtain ⟨wo153, xo154, g155, hwo156⟩ := id g48
                    have ok2 := okJT_woE ok hwo156
                    have ok4 := okJT_kl ok2
                    have g157 : px_pa hm55 18 52 500 vN tx := pa_fi g2 fa56 (by omega)
                    have g158 : px_pa hm59 18 52 500 vN tx := pa_fi g157 fa60 (by omega)
                    have g159 : px_pa hm63 18 52 500 vN tx := pa_fi g158 fa64 (by omega)
                    have g160 : px_pa h45 18 52 500 vN tx := pa_fi g159 fb67 (by omega)
                    have g161 : hm55.2.2 S = some (8, [.ref (S + 1), .ref (S + 5), .int (nI cs.length)]) := fi_at g3 fa56 (by omega)
                    have g162 : hm59.2.2 S = some (8, [.ref (S + 1), .ref (S + 5), .int (nI cs.length)]) := fi_at g161 fa60 (by omega)
                    have g163 : hm63.2.2 S = some (8, [.ref (S + 1), .ref (S + 5), .int (nI cs.length)]) := fi_at g162 fa64 (by omega)
                    have g164 : h45.2.2 S = some (8, [.ref (S + 1), .ref (S + 5), .int (nI cs.length)]) := fi_at g163 fb67 (by omega)
                    have g165 : pJob hm55 (S + 1) j := pJob_fi g4 fa56 (by omega)
                    have g166 : pJob hm59 (S + 1) j := pJob_fi g165 fa60 (by omega)
                    have g167 : pJob hm63 (S + 1) j := pJob_fi g166 fa64 (by omega)
                    have g168 : pJob h45 (S + 1) j := pJob_fi g167 fb67 (by omega)
                    have g169 : px_rs hm55 (S + 5) 56 8 (fun k => S + 9 * k + 6) := rs_fi g5 fa56 (by omega)
                    have g170 : px_rs hm59 (S + 5) 56 8 (fun k => S + 9 * k + 6) := rs_fi g169 fa60 (by omega)
                    have g171 : px_rs hm63 (S + 5) 56 8 (fun k => S + 9 * k + 6) := rs_fi g170 fa64 (by omega)
                    have g172 : px_rs h45 (S + 5) 56 8 (fun k => S + 9 * k + 6) := rs_fi g171 fb67 (by omega)
                    have g173 : pCs hm55 S cs := pCs_fi g6 fa56 (by omega)
                    have g174 : pCs hm59 S cs := pCs_fi g173 fa60 (by omega)
                    have g175 : pCs hm63 S cs := pCs_fi g174 fa64 (by omega)
                    have g176 : pCs h45 S cs := pCs_fi g175 fb67 (by omega)
                    have g177 : pDr hm55 D := pDr_fi g7 fa56 (by omega)
                    have g178 : pDr hm59 D := pDr_fi g177 fa60 (by omega)
                    have g179 : pDr hm63 D := pDr_fi g178 fa64 (by omega)
                    have g180 : pDr h45 D := pDr_fi g179 fb67 (by omega)
                    have g181 : pRA hm55 := pRA_fi g8 fa56 (by omega)
                    have g182 : pRA hm59 := pRA_fi g181 fa60 (by omega)
                    have g183 : pRA hm63 := pRA_fi g182 fa64 (by omega)
                    have g184 : pRA h45 := pRA_fi g183 fb67 (by omega)
                    have g185 : pOrA hm55 256 := pOrA_fi g12 fa56 (by omega)
                    have g186 : pOrA hm59 256 := pOrA_fi g185 fa60 (by omega)
                    have g187 : pOrA hm63 256 := pOrA_fi g186 fa64 (by omega)
                    have g188 : pOrA h45 256 := pOrA_fi g187 fb67 (by omega)
                    have g189 : pSc hm55 := pSc_fi g13 fa56 (by omega)
                    have g190 : pSc hm59 := pSc_fi g189 fa60 (by omega)
                    have g191 : pSc hm63 := pSc_fi g190 fa64 (by omega)
                    have g192 : pSc h45 := pSc_fi g191 fb67 (by omega)
                    have g193 : pRwA hm55 265 := pRwA_fi g15 fa56 (by omega)
                    have g194 : pRwA hm59 265 := pRwA_fi g193 fa60 (by omega)
                    have g195 : pRwA hm63 265 := pRwA_fi g194 fa64 (by omega)
                    have g196 : pRwA h45 265 := pRwA_fi g195 fb67 (by omega)
                    have g197 : px_pa hm55 268 50 30 Value.int cv := pa_fi g17 fa56 (by omega)
                    have g198 : px_pa hm59 268 50 30 Value.int cv := pa_fi g197 fa60 (by omega)
                    have g199 : px_pa hm63 268 50 30 Value.int cv := pa_fi g198 fa64 (by omega)
                    have g200 : px_pa h45 268 50 30 Value.int cv := pa_fi g199 fb67 (by omega)
                    have g201 : pStr hm55 1 ([60, 61, 62]) := pStr_fi g18 fa56 (by omega)
                    have g202 : pStr hm59 1 ([60, 61, 62]) := pStr_fi g201 fa60 (by omega)
                    have g203 : pStr hm63 1 ([60, 61, 62]) := pStr_fi g202 fa64 (by omega)
                    have g204 : pStr h45 1 ([60, 61, 62]) := pStr_fi g203 fb67 (by omega)
                    have g205 : pStr hm55 2 ([43, 45, 42, 47]) := pStr_fi g19 fa56 (by omega)
                    have g206 : pStr hm59 2 ([43, 45, 42, 47]) := pStr_fi g205 fa60 (by omega)
                    have g207 : pStr hm63 2 ([43, 45, 42, 47]) := pStr_fi g206 fa64 (by omega)
                    have g208 : pStr h45 2 ([43, 45, 42, 47]) := pStr_fi g207 fb67 (by omega)
                    have g209 : pStr hm55 3 stepSigns := pStr_fi g20 fa56 (by omega)
                    have g210 : pStr hm59 3 stepSigns := pStr_fi g209 fa60 (by omega)
                    have g211 : pStr hm63 3 stepSigns := pStr_fi g210 fa64 (by omega)
                    have g212 : pStr h45 3 stepSigns := pStr_fi g211 fb67 (by omega)
                    have g213 : pStr hm55 4 ([60, 61, 62]) := pStr_fi g21 fa56 (by omega)
                    have g214 : pStr hm59 4 ([60, 61, 62]) := pStr_fi g213 fa60 (by omega)
                    have g215 : pStr hm63 4 ([60, 61, 62]) := pStr_fi g214 fa64 (by omega)
                    have g216 : pStr h45 4 ([60, 61, 62]) := pStr_fi g215 fb67 (by omega)
                    have g217 : pStr hm55 5 ([43, 45, 42, 47]) := pStr_fi g22 fa56 (by omega)
                    have g218 : pStr hm59 5 ([43, 45, 42, 47]) := pStr_fi g217 fa60 (by omega)
                    have g219 : pStr hm63 5 ([43, 45, 42, 47]) := pStr_fi g218 fa64 (by omega)
                    have g220 : pStr h45 5 ([43, 45, 42, 47]) := pStr_fi g219 fb67 (by omega)
                    have g221 : pStr hm55 6 evSigns := pStr_fi g23 fa56 (by omega)
                    have g222 : pStr hm59 6 evSigns := pStr_fi g221 fa60 (by omega)
                    have g223 : pStr hm63 6 evSigns := pStr_fi g222 fa64 (by omega)
                    have g224 : pStr h45 6 evSigns := pStr_fi g223 fb67 (by omega)
                    have g225 : pStr hm55 7 keyL := pStr_fi g24 fa56 (by omega)
                    have g226 : pStr hm59 7 keyL := pStr_fi g225 fa60 (by omega)
                    have g227 : pStr hm63 7 keyL := pStr_fi g226 fa64 (by omega)
                    have g228 : pStr h45 7 keyL := pStr_fi g227 fb67 (by omega)
                    have g229 : pStr hm55 8 ordL := pStr_fi g25 fa56 (by omega)
                    have g230 : pStr hm59 8 ordL := pStr_fi g229 fa60 (by omega)
                    have g231 : pStr hm63 8 ordL := pStr_fi g230 fa64 (by omega)
                    have g232 : pStr h45 8 ordL := pStr_fi g231 fb67 (by omega)
                    have g233 : pJT h45 tx j (cs.map c3of) := ⟨cs, S, D, pz, true, ck, wo153, xo154, (killL j (cs.map c3of)), cv, g52, g160, g164, g168, g172, g176, g180, g184, g155, g50, g49, g188, g192, g51, g196, g53, g200, g204, g208, g212, g216, g220, g224, g228, g232, rfl, ok4⟩
                    exact ⟨congrArg (fun z => some (Value.int z)) (show (-3) = _ from by unfold aMut; rw [if_pos ⟨hasC_nI (by omega) hkm2, hasC_nI (by omega) (by omega)⟩, nN_nI (by omega), nN_nI (by omega)]; unfold mutO; rw [if_neg c_55_0, if_neg c_55_1, if_neg c_55_2, if_pos c_55_3, if_pos c_123]), g233, fr68⟩
                · skip
                  refine e_sw_t f_105_55 (t := 141) (tsw_dfN (by omega) (by omega) rfl) ?_
                  refine e_aload_n f_105_141 rfl rfl ?_
                  refine e_callV (As := []) (rest := []) f_105_142 rfl rfl rfl (Nat.le_of_ble_eq_true rfl) (Nat.le_of_ble_eq_true rfl) g1 rfl (Nat.le_of_ble_eq_true rfl) (cc_JT_kil (wo := wo) (x := xr) (kl := kl) (j := j) (cs := cs) (L := tx.length) (S := S) (D := D) (pz := pz) (kk := kk) (ck := ck) g9 g11 g10 g14 g1 g16 g3 g4 g5 g6 g18 g19 (ok.2.2.2.2.2.1.2) (ok.2.2.2.2.2.1.1) (ok.2.2.1) (fun t ht => (ok.2.2.2.1.2 t ht).1) (h8) (hS)) rfl (fun h234 r235 q236 => ?_)
                  obtain ⟨rfl, g237, g238, g239, g240, g241, g242, fx243⟩ := q236
                  obtain ⟨hm244, fa245, fb246⟩ := fl_mid fx243
                  have fr247 : px_fi 17 252 h hm244 := fi_tr fr0 fa245 (by omega)
                  obtain ⟨hm248, fa249, fb250⟩ := fl_mid fb246
                  have fr251 : px_fi 17 252 h hm248 := fi_tr fr247 fa249 (by omega)
                  obtain ⟨hm252, fa253, fb254⟩ := fl_mid fb250
                  have fr255 : px_fi 17 252 h hm252 := fi_tr fr251 fa253 (by omega)
                  have fb256 := fl_one fb254
                  have fr257 : px_fi 17 252 h h234 := fi_tr fr255 fb256 (by omega)
                  show px_to 105 145 [some (.ref (17)), some (.int (nI km)), some (.int (nI kw)), some (.int (nI ((mutAt j km).1))), some (.int (nI ((mutAt j km).2)))] [] h234 _
                  refine e_aload_n f_105_145 rfl rfl ?_
                  refine e_getf f_105_146 g241 rfl rfl ?_
                  refine e_iload_n f_105_149 rfl rfl ?_
                  refine e_iaload_p (xs := killL j (cs.map c3of)) f_105_150 g242 (d := 0) (by rw [killL_len]; omega) rfl ?_
                  show px_to 105 151 [some (.ref (17)), some (.int (nI km)), some (.int (nI kw)), some (.int (nI ((mutAt j km).1))), some (.int (nI ((mutAt j km).2)))] [.int ((killL j (cs.map c3of)).getD km 0)] h234 _
                  rw [killL_get hkm2 (by omega)]
                  refine e_callS (As := [.int (nI (killN j km (cs.map c3of) 0))]) (rest := []) f_105_151 rfl rfl rfl (Nat.le_of_ble_eq_true rfl) (Nat.le_of_ble_eq_true rfl) (cc_Int_bc (n := killN j km (cs.map c3of) 0)  (by omega)) rfl (fun h258 r259 q260 => ?_)
                  obtain ⟨rfl, qe⟩ := q260
                  have qe := qe.symm
                  subst qe
                  show px_to 105 154 [some (.ref (17)), some (.int (nI km)), some (.int (nI kw)), some (.int (nI ((mutAt j km).1))), some (.int (nI ((mutAt j km).2)))] [.int (nI (bcN (killN j km (cs.map c3of) 0)))] h234 _
                  refine e_iret f_105_154 rfl (rfl) ?_
                  obtain ⟨wo261, xo262, g263, hwo264⟩ := id g237
                  have ok2 := okJT_woE ok hwo264
                  have ok4 := okJT_kl ok2
                  have g265 : px_pa hm244 18 52 500 vN tx := pa_fi g2 fa245 (by omega)
                  have g266 : px_pa hm248 18 52 500 vN tx := pa_fi g265 fa249 (by omega)
                  have g267 : px_pa hm252 18 52 500 vN tx := pa_fi g266 fa253 (by omega)
                  have g268 : px_pa h234 18 52 500 vN tx := pa_fi g267 fb256 (by omega)
                  have g269 : hm244.2.2 S = some (8, [.ref (S + 1), .ref (S + 5), .int (nI cs.length)]) := fi_at g3 fa245 (by omega)
                  have g270 : hm248.2.2 S = some (8, [.ref (S + 1), .ref (S + 5), .int (nI cs.length)]) := fi_at g269 fa249 (by omega)
                  have g271 : hm252.2.2 S = some (8, [.ref (S + 1), .ref (S + 5), .int (nI cs.length)]) := fi_at g270 fa253 (by omega)
                  have g272 : h234.2.2 S = some (8, [.ref (S + 1), .ref (S + 5), .int (nI cs.length)]) := fi_at g271 fb256 (by omega)
                  have g273 : pJob hm244 (S + 1) j := pJob_fi g4 fa245 (by omega)
                  have g274 : pJob hm248 (S + 1) j := pJob_fi g273 fa249 (by omega)
                  have g275 : pJob hm252 (S + 1) j := pJob_fi g274 fa253 (by omega)
                  have g276 : pJob h234 (S + 1) j := pJob_fi g275 fb256 (by omega)
                  have g277 : px_rs hm244 (S + 5) 56 8 (fun k => S + 9 * k + 6) := rs_fi g5 fa245 (by omega)
                  have g278 : px_rs hm248 (S + 5) 56 8 (fun k => S + 9 * k + 6) := rs_fi g277 fa249 (by omega)
                  have g279 : px_rs hm252 (S + 5) 56 8 (fun k => S + 9 * k + 6) := rs_fi g278 fa253 (by omega)
                  have g280 : px_rs h234 (S + 5) 56 8 (fun k => S + 9 * k + 6) := rs_fi g279 fb256 (by omega)
                  have g281 : pCs hm244 S cs := pCs_fi g6 fa245 (by omega)
                  have g282 : pCs hm248 S cs := pCs_fi g281 fa249 (by omega)
                  have g283 : pCs hm252 S cs := pCs_fi g282 fa253 (by omega)
                  have g284 : pCs h234 S cs := pCs_fi g283 fb256 (by omega)
                  have g285 : pDr hm244 D := pDr_fi g7 fa245 (by omega)
                  have g286 : pDr hm248 D := pDr_fi g285 fa249 (by omega)
                  have g287 : pDr hm252 D := pDr_fi g286 fa253 (by omega)
                  have g288 : pDr h234 D := pDr_fi g287 fb256 (by omega)
                  have g289 : pRA hm244 := pRA_fi g8 fa245 (by omega)
                  have g290 : pRA hm248 := pRA_fi g289 fa249 (by omega)
                  have g291 : pRA hm252 := pRA_fi g290 fa253 (by omega)
                  have g292 : pRA h234 := pRA_fi g291 fb256 (by omega)
                  have g293 : pOrA hm244 256 := pOrA_fi g12 fa245 (by omega)
                  have g294 : pOrA hm248 256 := pOrA_fi g293 fa249 (by omega)
                  have g295 : pOrA hm252 256 := pOrA_fi g294 fa253 (by omega)
                  have g296 : pOrA h234 256 := pOrA_fi g295 fb256 (by omega)
                  have g297 : pSc hm244 := pSc_fi g13 fa245 (by omega)
                  have g298 : pSc hm248 := pSc_fi g297 fa249 (by omega)
                  have g299 : pSc hm252 := pSc_fi g298 fa253 (by omega)
                  have g300 : pSc h234 := pSc_fi g299 fb256 (by omega)
                  have g301 : pRwA hm244 265 := pRwA_fi g15 fa245 (by omega)
                  have g302 : pRwA hm248 265 := pRwA_fi g301 fa249 (by omega)
                  have g303 : pRwA hm252 265 := pRwA_fi g302 fa253 (by omega)
                  have g304 : pRwA h234 265 := pRwA_fi g303 fb256 (by omega)
                  have g305 : px_pa hm244 268 50 30 Value.int cv := pa_fi g17 fa245 (by omega)
                  have g306 : px_pa hm248 268 50 30 Value.int cv := pa_fi g305 fa249 (by omega)
                  have g307 : px_pa hm252 268 50 30 Value.int cv := pa_fi g306 fa253 (by omega)
                  have g308 : px_pa h234 268 50 30 Value.int cv := pa_fi g307 fb256 (by omega)
                  have g309 : pStr hm244 1 ([60, 61, 62]) := pStr_fi g18 fa245 (by omega)
                  have g310 : pStr hm248 1 ([60, 61, 62]) := pStr_fi g309 fa249 (by omega)
                  have g311 : pStr hm252 1 ([60, 61, 62]) := pStr_fi g310 fa253 (by omega)
                  have g312 : pStr h234 1 ([60, 61, 62]) := pStr_fi g311 fb256 (by omega)
                  have g313 : pStr hm244 2 ([43, 45, 42, 47]) := pStr_fi g19 fa245 (by omega)
                  have g314 : pStr hm248 2 ([43, 45, 42, 47]) := pStr_fi g313 fa249 (by omega)
                  have g315 : pStr hm252 2 ([43, 45, 42, 47]) := pStr_fi g314 fa253 (by omega)
                  have g316 : pStr h234 2 ([43, 45, 42, 47]) := pStr_fi g315 fb256 (by omega)
                  have g317 : pStr hm244 3 stepSigns := pStr_fi g20 fa245 (by omega)
                  have g318 : pStr hm248 3 stepSigns := pStr_fi g317 fa249 (by omega)
                  have g319 : pStr hm252 3 stepSigns := pStr_fi g318 fa253 (by omega)
                  have g320 : pStr h234 3 stepSigns := pStr_fi g319 fb256 (by omega)
                  have g321 : pStr hm244 4 ([60, 61, 62]) := pStr_fi g21 fa245 (by omega)
                  have g322 : pStr hm248 4 ([60, 61, 62]) := pStr_fi g321 fa249 (by omega)
                  have g323 : pStr hm252 4 ([60, 61, 62]) := pStr_fi g322 fa253 (by omega)
                  have g324 : pStr h234 4 ([60, 61, 62]) := pStr_fi g323 fb256 (by omega)
                  have g325 : pStr hm244 5 ([43, 45, 42, 47]) := pStr_fi g22 fa245 (by omega)
                  have g326 : pStr hm248 5 ([43, 45, 42, 47]) := pStr_fi g325 fa249 (by omega)
                  have g327 : pStr hm252 5 ([43, 45, 42, 47]) := pStr_fi g326 fa253 (by omega)
                  have g328 : pStr h234 5 ([43, 45, 42, 47]) := pStr_fi g327 fb256 (by omega)
                  have g329 : pStr hm244 6 evSigns := pStr_fi g23 fa245 (by omega)
                  have g330 : pStr hm248 6 evSigns := pStr_fi g329 fa249 (by omega)
                  have g331 : pStr hm252 6 evSigns := pStr_fi g330 fa253 (by omega)
                  have g332 : pStr h234 6 evSigns := pStr_fi g331 fb256 (by omega)
                  have g333 : pStr hm244 7 keyL := pStr_fi g24 fa245 (by omega)
                  have g334 : pStr hm248 7 keyL := pStr_fi g333 fa249 (by omega)
                  have g335 : pStr hm252 7 keyL := pStr_fi g334 fa253 (by omega)
                  have g336 : pStr h234 7 keyL := pStr_fi g335 fb256 (by omega)
                  have g337 : pStr hm244 8 ordL := pStr_fi g25 fa245 (by omega)
                  have g338 : pStr hm248 8 ordL := pStr_fi g337 fa249 (by omega)
                  have g339 : pStr hm252 8 ordL := pStr_fi g338 fa253 (by omega)
                  have g340 : pStr h234 8 ordL := pStr_fi g339 fb256 (by omega)
                  have g341 : pJT h234 tx j (cs.map c3of) := ⟨cs, S, D, pz, true, ck, wo261, xo262, (killL j (cs.map c3of)), cv, g241, g268, g272, g276, g280, g284, g288, g292, g263, g239, g238, g296, g300, g240, g304, g242, g308, g312, g316, g320, g324, g328, g332, g336, g340, rfl, ok4⟩
                  exact ⟨congrArg (fun z => some (Value.int z)) (show nI (bcN (killN j km (cs.map c3of) 0)) = _ from by unfold aMut; rw [if_pos ⟨hasC_nI (by omega) hkm2, hasC_nI (by omega) (by omega)⟩, nN_nI (by omega), nN_nI (by omega)]; unfold mutO; rw [if_neg c_55_0, if_neg c_55_1, if_neg c_55_2, if_neg c_55_3]), g341, fr257⟩
        · skip
          refine e_iconst (v := (-1)) f_105_27 (by decide) rfl ?_
          refine e_iret f_105_28 rfl (rfl) ?_
          have g342 : pJT h tx j (cs.map c3of) := ⟨cs, S, D, pz, kk, ck, wo, xr, kl, cv, g1, g2, g3, g4, g5, g6, g7, g8, g9, g10, g11, g12, g13, g14, g15, g16, g17, g18, g19, g20, g21, g22, g23, g24, g25, rfl, ok⟩
          exact ⟨congrArg (fun z => some (Value.int z)) (show (-1) = _ from by unfold aMut; rw [if_neg (fun z => by rw [rng_b (by omega) c_24] at z; exact absurd z.2 (by decide))]), g342, fr0⟩

set_option maxRecDepth 20000 in
set_option maxHeartbeats 4000000 in
theorem ll_JT_alo {P : px_H → Option Value → Prop} {h : px_H} {j : List St} {xs : List CS3} {L S D c n : Nat} {pz kk ck : Bool} (HJ : h.2.2 17 = some (11, [.ref (18), .int (nI L), .ref (S), .ref (D), .ref (175), .ref (177), .ref (249), .ref (254), .ref (256), .ref (258), .ref (261), .ref (265), .int (bI pz), .ref (267), .int (bI kk), .ref (268), .int (bI ck)])) (HK : px_pa h 267 50 30 Value.int (killL j xs)) (h8 : xs.length ≤ 8) (hc : c < 8) (h30 : jMut j ≤ 30) (hk : ∀ {r}, r = some (.int (nI n)) → P h r) : ∀ (d : Nat) (f : Nat) (k : Nat), (jMut j ≤ k + d) → (k ≤ jMut j) → (f + aloN j xs c (jMut j - k) k = n) → (f ≤ k) → px_to 106 30 [some (.ref (17)), some (.int (nI c)), some (.int (nI (jMut j))), some (.int (nI f)), some (.int (nI k))] [] h P := by
  intro d
  induction d using Nat.strongRecOn with
  | ind d ih =>
    intro f k q0 q1 q2 q3
    refine e_iload f_106_30 rfl rfl ?_
    refine e_iload_n f_106_32 rfl rfl ?_
    refine e_icmp_ge f_106_33 rfl (fun c_33 => ?_) (fun c_33 => ?_)
    · skip
      have c_33 : jMut j ≤ k := cv_le (by omega) (by omega) c_33
      refine e_iload_n f_106_65 rfl rfl ?_
      refine e_iret f_106_66 rfl (rfl) ?_
      rw [show jMut j - k = 0 by omega, aloN] at q2
      exact hk (by rw [← q2]; rfl)
    · skip
      have c_33 : k < jMut j := cv_nle (by omega) (by omega) c_33
      refine e_iload f_106_36 rfl rfl ?_
      refine e_bipush (v := nI 30) f_106_38 (by decide) rfl ?_
      refine e_icmp_ge f_106_40 rfl (fun c_40 => ?_) (fun c_40 => ?_)
      · skip
        have c_40 : 30 ≤ k := cv_le (by omega) (by omega) c_40
        refine e_iload_n f_106_65 rfl rfl ?_
        refine e_iret f_106_66 rfl (rfl) ?_
        rw [show jMut j - k = 0 by omega, aloN] at q2
        exact hk (by rw [← q2]; rfl)
      · skip
        have c_40 : k < 30 := cv_nle (by omega) (by omega) c_40
        refine e_aload_n f_106_43 rfl rfl ?_
        refine e_getf f_106_44 HJ rfl rfl ?_
        refine e_iload f_106_47 rfl rfl ?_
        refine e_iaload_p (xs := killL j xs) f_106_49 HK (d := 0) (by rw [killL_len]; omega) rfl ?_
        show px_to 106 50 [some (.ref (17)), some (.int (nI c)), some (.int (nI (jMut j))), some (.int (nI f)), some (.int (nI k))] [.int ((killL j xs).getD k 0)] h _
        rw [killL_get (show k < jMut j by omega) (by omega)]
        have hkn := killN_256 (j := j) (k := k) h8
        have hc8 : 1 * 2 ^ c ≤ 1 * 2 ^ 8 := Nat.mul_le_mul_left _ (Nat.pow_le_pow_right (by decide) (by omega))
        refine e_iconst (v := nI 1) f_106_50 (by decide) rfl ?_
        refine e_iload_n f_106_51 rfl rfl ?_
        refine e_ishl (z := nI (1 * 2 ^ c)) f_106_52 (shlN _ (by omega)) rfl ?_
        refine e_icmp_ne f_106_53 rfl (fun c_53 => ?_) (fun c_53 => ?_)
        · skip
          have c_53 : killN j k xs 0 ≠ 1 * 2 ^ c := cv_ne c_53
          have hke : ¬ killN j k xs 0 = 2 ^ c := fun z => c_53 (by rw [z, Nat.one_mul])
          refine e_iinc (y := nI (k + 1)) (L' := [some (.ref (17)), some (.int (nI c)), some (.int (nI (jMut j))), some (.int (nI f)), some (.int (nI (k + 1)))]) f_106_59 rfl (by rw [show Int32.ofInt 1 = nI 1 by decide]; exact (nI_add _ _)) rfl rfl ?_
          refine e_goto f_106_62 ?_
          first | (exfalso; omega) | exact ih (d - 1) (by omega) f (k + 1)  (by omega) (by omega) (by rw [show jMut j - k = (jMut j - (k + 1)) + 1 by omega, aloN, if_neg hke] at q2; omega) (by omega)  
        · skip
          have c_53 : killN j k xs 0 = 1 * 2 ^ c := cv_nne (by omega) (by omega) c_53
          have hke : killN j k xs 0 = 2 ^ c := c_53.trans (Nat.one_mul _)
          refine e_iinc (y := nI (f + 1)) (L' := [some (.ref (17)), some (.int (nI c)), some (.int (nI (jMut j))), some (.int (nI (f + 1))), some (.int (nI k))]) f_106_56 rfl (by rw [show Int32.ofInt 1 = nI 1 by decide]; exact (nI_add _ _)) rfl rfl ?_
          refine e_iinc (y := nI (k + 1)) (L' := [some (.ref (17)), some (.int (nI c)), some (.int (nI (jMut j))), some (.int (nI (f + 1))), some (.int (nI (k + 1)))]) f_106_59 rfl (by rw [show Int32.ofInt 1 = nI 1 by decide]; exact (nI_add _ _)) rfl rfl ?_
          refine e_goto f_106_62 ?_
          first | (exfalso; omega) | exact ih (d - 1) (by omega) (f + 1) (k + 1)  (by omega) (by omega) (by rw [show jMut j - k = (jMut j - (k + 1)) + 1 by omega, aloN, if_pos hke] at q2; omega) (by omega)  

set_option maxRecDepth 20000 in
set_option maxHeartbeats 4000000 in
theorem cc_JT_alone {h : px_H} {tx : List Nat} {j : List St} {xs : List CS3} {c : Int32} (H0 : pJT h tx j xs)  : px_wp 106 [.ref (17), .int (c)] h (fun h1 r => r = some (.int (aAlone j xs c)) ∧ pJT h1 tx j xs ∧ px_fi 17 252 h h1) := by
  have fr0 : px_fi 17 252 h h := fi_rf _ _ _
  show px_to 106 0 [some (.ref (17)), some (.int (c)), none, none, none] [] h _
  obtain ⟨cs, S, D, pz, kk, ck, wo, xr, kl, cv, g1, g2, g3, g4, g5, g6, g7, g8, g9, g10, g11, g12, g13, g14, g15, g16, g17, g18, g19, g20, g21, g22, g23, g24, g25, hx, ok⟩ := id H0
  subst hx
  have h8 := ok.2.2.2.1.1
  have hS : 18 < S ∧ S + 78 ≤ 175 := by have := ok.1; omega
  have hD : 18 < D ∧ D + 78 ≤ 175 := by have := ok.1; omega
  have hSD : D + 78 ≤ S ∨ S + 78 ≤ D := by have := ok.1; omega
  have h8m : (cs.map c3of).length ≤ 8 := by rw [List.length_map]; exact h8
  have htl : tx.length ≤ 500 := pa_len g2
  have hj6 := ok.2.2.1.1.1
  have hjm := jMut_le j
  refine e_aload_n f_106_0 rfl rfl ?_
  refine e_iload_n f_106_1 rfl rfl ?_
  refine e_callV (As := [.int (c)]) (rest := []) f_106_2 rfl rfl rfl (Nat.le_of_ble_eq_true rfl) (Nat.le_of_ble_eq_true rfl) g1 rfl (Nat.le_of_ble_eq_true rfl) (cc_JT_has (c := c) (L := tx.length) (S := S) (D := D) (n := cs.length) (pz := pz) (kk := kk) (ck := ck) g1 g3 (by omega)) rfl (fun h26 r27 q28 => ?_)
  obtain ⟨rfl, qe⟩ := q28
  have qe := qe.symm
  subst qe
  show px_to 106 5 [some (.ref (17)), some (.int (c)), none, none, none] [.int (bI (hasC c cs.length))] h _
  refine e_if_ne f_106_5 rfl (fun c_5 => ?_) (fun c_5 => ?_)
  · skip
    have c_5 : (hasC c cs.length) = true := bI_t c_5
    obtain ⟨k, hk, hkc⟩ := hasC_t (by omega) c_5
    subst hkc
    have hkm : k < (cs.map c3of).length := by rw [List.length_map]; exact hk
    have g29 : pCase h (S + 9 * k + 6) ((cs.getD k ct0).1) ((cs.getD k ct0).2.1) ((cs.getD k ct0).2.2.1) ((cs.getD k ct0).2.2.2.1) ((cs.getD k ct0).2.2.2.2.1) ((cs.getD k ct0).2.2.2.2.2.1) ((cs.getD k ct0).2.2.2.2.2.2) := (pCs_get (k := k) g6 (by omega) hk).1
    have hct : okK j (cs.getD k ct0) := ok.2.2.2.1.2 _ (getD_mem _ hk)
    refine e_aload_n f_106_10 rfl rfl ?_
    refine e_callV (As := []) (rest := []) f_106_11 rfl rfl rfl (Nat.le_of_ble_eq_true rfl) (Nat.le_of_ble_eq_true rfl) g1 rfl (Nat.le_of_ble_eq_true rfl) (cc_JT_kil (wo := wo) (x := xr) (kl := kl) (j := j) (cs := cs) (L := tx.length) (S := S) (D := D) (pz := pz) (kk := kk) (ck := ck) g9 g11 g10 g14 g1 g16 g3 g4 g5 g6 g18 g19 (ok.2.2.2.2.2.1.2) (ok.2.2.2.2.2.1.1) (ok.2.2.1) (fun t ht => (ok.2.2.2.1.2 t ht).1) (h8) (hS)) rfl (fun h30 r31 q32 => ?_)
    obtain ⟨rfl, g33, g34, g35, g36, g37, g38, fx39⟩ := q32
    obtain ⟨hm40, fa41, fb42⟩ := fl_mid fx39
    have fr43 : px_fi 17 252 h hm40 := fi_tr fr0 fa41 (by omega)
    obtain ⟨hm44, fa45, fb46⟩ := fl_mid fb42
    have fr47 : px_fi 17 252 h hm44 := fi_tr fr43 fa45 (by omega)
    obtain ⟨hm48, fa49, fb50⟩ := fl_mid fb46
    have fr51 : px_fi 17 252 h hm48 := fi_tr fr47 fa49 (by omega)
    have fb52 := fl_one fb50
    have fr53 : px_fi 17 252 h h30 := fi_tr fr51 fb52 (by omega)
    show px_to 106 14 [some (.ref (17)), some (.int (nI k)), none, none, none] [] h30 _
    refine e_aload_n f_106_14 rfl rfl ?_
    refine e_getf f_106_15 g37 rfl rfl ?_
    have g54 : hm40.2.2 S = some (8, [.ref (S + 1), .ref (S + 5), .int (nI cs.length)]) := fi_at g3 fa41 (by omega)
    have g55 : hm44.2.2 S = some (8, [.ref (S + 1), .ref (S + 5), .int (nI cs.length)]) := fi_at g54 fa45 (by omega)
    have g56 : hm48.2.2 S = some (8, [.ref (S + 1), .ref (S + 5), .int (nI cs.length)]) := fi_at g55 fa49 (by omega)
    have g57 : h30.2.2 S = some (8, [.ref (S + 1), .ref (S + 5), .int (nI cs.length)]) := fi_at g56 fb52 (by omega)
    refine e_getf f_106_18 g57 rfl rfl ?_
    have g58 : pJob hm40 (S + 1) j := pJob_fi g4 fa41 (by omega)
    have g59 : pJob hm44 (S + 1) j := pJob_fi g58 fa45 (by omega)
    have g60 : pJob hm48 (S + 1) j := pJob_fi g59 fa49 (by omega)
    have g61 : pJob h30 (S + 1) j := pJob_fi g60 fb52 (by omega)
    refine e_callV (As := []) (rest := []) f_106_21 rfl rfl rfl (Nat.le_of_ble_eq_true rfl) (Nat.le_of_ble_eq_true rfl) g61.1 rfl (Nat.le_of_ble_eq_true rfl) (cc_Job_mutants (a := S + 1) (j := j) g61 (fun s hs => by have := (ok.2.2.1.2 s hs).1.1; omega)) rfl (fun h62 r63 q64 => ?_)
    obtain ⟨rfl, qe⟩ := q64
    have qe := qe.symm
    subst qe
    show px_to 106 24 [some (.ref (17)), some (.int (nI k)), none, none, none] [.int (nI (jMut j))] h30 _
    refine e_istore_n (L' := [some (.ref (17)), some (.int (nI k)), some (.int (nI (jMut j))), none, none]) f_106_24 (Nat.le_of_ble_eq_true rfl) rfl rfl ?_
    refine e_iconst (v := nI 0) f_106_25 (by decide) rfl ?_
    refine e_istore_n (L' := [some (.ref (17)), some (.int (nI k)), some (.int (nI (jMut j))), some (.int (nI 0)), none]) f_106_26 (Nat.le_of_ble_eq_true rfl) rfl rfl ?_
    refine e_iconst (v := nI 0) f_106_27 (by decide) rfl ?_
    refine e_istore (L' := [some (.ref (17)), some (.int (nI k)), some (.int (nI (jMut j))), some (.int (nI 0)), some (.int (nI 0))]) f_106_28 (Nat.le_of_ble_eq_true rfl) rfl rfl ?_
    refine ll_JT_alo (n := aloN j (cs.map c3of) k (jMut j) 0) g37 g38 h8m (by omega) (by omega) (fun e => ?_) (jMut j) 0 0 (by omega) (by omega) (Nat.zero_add _) (by omega)
    subst e
    obtain ⟨wo65, xo66, g67, hwo68⟩ := id g33
    have ok2 := okJT_woE ok hwo68
    have ok4 := okJT_kl ok2
    have g69 : px_pa hm40 18 52 500 vN tx := pa_fi g2 fa41 (by omega)
    have g70 : px_pa hm44 18 52 500 vN tx := pa_fi g69 fa45 (by omega)
    have g71 : px_pa hm48 18 52 500 vN tx := pa_fi g70 fa49 (by omega)
    have g72 : px_pa h30 18 52 500 vN tx := pa_fi g71 fb52 (by omega)
    have g73 : px_rs hm40 (S + 5) 56 8 (fun k => S + 9 * k + 6) := rs_fi g5 fa41 (by omega)
    have g74 : px_rs hm44 (S + 5) 56 8 (fun k => S + 9 * k + 6) := rs_fi g73 fa45 (by omega)
    have g75 : px_rs hm48 (S + 5) 56 8 (fun k => S + 9 * k + 6) := rs_fi g74 fa49 (by omega)
    have g76 : px_rs h30 (S + 5) 56 8 (fun k => S + 9 * k + 6) := rs_fi g75 fb52 (by omega)
    have g77 : pCs hm40 S cs := pCs_fi g6 fa41 (by omega)
    have g78 : pCs hm44 S cs := pCs_fi g77 fa45 (by omega)
    have g79 : pCs hm48 S cs := pCs_fi g78 fa49 (by omega)
    have g80 : pCs h30 S cs := pCs_fi g79 fb52 (by omega)
    have g81 : pDr hm40 D := pDr_fi g7 fa41 (by omega)
    have g82 : pDr hm44 D := pDr_fi g81 fa45 (by omega)
    have g83 : pDr hm48 D := pDr_fi g82 fa49 (by omega)
    have g84 : pDr h30 D := pDr_fi g83 fb52 (by omega)
    have g85 : pRA hm40 := pRA_fi g8 fa41 (by omega)
    have g86 : pRA hm44 := pRA_fi g85 fa45 (by omega)
    have g87 : pRA hm48 := pRA_fi g86 fa49 (by omega)
    have g88 : pRA h30 := pRA_fi g87 fb52 (by omega)
    have g89 : pOrA hm40 256 := pOrA_fi g12 fa41 (by omega)
    have g90 : pOrA hm44 256 := pOrA_fi g89 fa45 (by omega)
    have g91 : pOrA hm48 256 := pOrA_fi g90 fa49 (by omega)
    have g92 : pOrA h30 256 := pOrA_fi g91 fb52 (by omega)
    have g93 : pSc hm40 := pSc_fi g13 fa41 (by omega)
    have g94 : pSc hm44 := pSc_fi g93 fa45 (by omega)
    have g95 : pSc hm48 := pSc_fi g94 fa49 (by omega)
    have g96 : pSc h30 := pSc_fi g95 fb52 (by omega)
    have g97 : pRwA hm40 265 := pRwA_fi g15 fa41 (by omega)
    have g98 : pRwA hm44 265 := pRwA_fi g97 fa45 (by omega)
    have g99 : pRwA hm48 265 := pRwA_fi g98 fa49 (by omega)
    have g100 : pRwA h30 265 := pRwA_fi g99 fb52 (by omega)
    have g101 : px_pa hm40 268 50 30 Value.int cv := pa_fi g17 fa41 (by omega)
    have g102 : px_pa hm44 268 50 30 Value.int cv := pa_fi g101 fa45 (by omega)
    have g103 : px_pa hm48 268 50 30 Value.int cv := pa_fi g102 fa49 (by omega)
    have g104 : px_pa h30 268 50 30 Value.int cv := pa_fi g103 fb52 (by omega)
    have g105 : pStr hm40 1 ([60, 61, 62]) := pStr_fi g18 fa41 (by omega)
    have g106 : pStr hm44 1 ([60, 61, 62]) := pStr_fi g105 fa45 (by omega)
    have g107 : pStr hm48 1 ([60, 61, 62]) := pStr_fi g106 fa49 (by omega)
    have g108 : pStr h30 1 ([60, 61, 62]) := pStr_fi g107 fb52 (by omega)
    have g109 : pStr hm40 2 ([43, 45, 42, 47]) := pStr_fi g19 fa41 (by omega)
    have g110 : pStr hm44 2 ([43, 45, 42, 47]) := pStr_fi g109 fa45 (by omega)
    have g111 : pStr hm48 2 ([43, 45, 42, 47]) := pStr_fi g110 fa49 (by omega)
    have g112 : pStr h30 2 ([43, 45, 42, 47]) := pStr_fi g111 fb52 (by omega)
    have g113 : pStr hm40 3 stepSigns := pStr_fi g20 fa41 (by omega)
    have g114 : pStr hm44 3 stepSigns := pStr_fi g113 fa45 (by omega)
    have g115 : pStr hm48 3 stepSigns := pStr_fi g114 fa49 (by omega)
    have g116 : pStr h30 3 stepSigns := pStr_fi g115 fb52 (by omega)
    have g117 : pStr hm40 4 ([60, 61, 62]) := pStr_fi g21 fa41 (by omega)
    have g118 : pStr hm44 4 ([60, 61, 62]) := pStr_fi g117 fa45 (by omega)
    have g119 : pStr hm48 4 ([60, 61, 62]) := pStr_fi g118 fa49 (by omega)
    have g120 : pStr h30 4 ([60, 61, 62]) := pStr_fi g119 fb52 (by omega)
    have g121 : pStr hm40 5 ([43, 45, 42, 47]) := pStr_fi g22 fa41 (by omega)
    have g122 : pStr hm44 5 ([43, 45, 42, 47]) := pStr_fi g121 fa45 (by omega)
    have g123 : pStr hm48 5 ([43, 45, 42, 47]) := pStr_fi g122 fa49 (by omega)
    have g124 : pStr h30 5 ([43, 45, 42, 47]) := pStr_fi g123 fb52 (by omega)
    have g125 : pStr hm40 6 evSigns := pStr_fi g23 fa41 (by omega)
    have g126 : pStr hm44 6 evSigns := pStr_fi g125 fa45 (by omega)
    have g127 : pStr hm48 6 evSigns := pStr_fi g126 fa49 (by omega)
    have g128 : pStr h30 6 evSigns := pStr_fi g127 fb52 (by omega)
    have g129 : pStr hm40 7 keyL := pStr_fi g24 fa41 (by omega)
    have g130 : pStr hm44 7 keyL := pStr_fi g129 fa45 (by omega)
    have g131 : pStr hm48 7 keyL := pStr_fi g130 fa49 (by omega)
    have g132 : pStr h30 7 keyL := pStr_fi g131 fb52 (by omega)
    have g133 : pStr hm40 8 ordL := pStr_fi g25 fa41 (by omega)
    have g134 : pStr hm44 8 ordL := pStr_fi g133 fa45 (by omega)
    have g135 : pStr hm48 8 ordL := pStr_fi g134 fa49 (by omega)
    have g136 : pStr h30 8 ordL := pStr_fi g135 fb52 (by omega)
    have g137 : pJT h30 tx j (cs.map c3of) := ⟨cs, S, D, pz, true, ck, wo65, xo66, (killL j (cs.map c3of)), cv, g37, g72, g57, g61, g76, g80, g84, g88, g67, g35, g34, g92, g96, g36, g100, g38, g104, g108, g112, g116, g120, g124, g128, g132, g136, rfl, ok4⟩
    exact ⟨congrArg (fun z => some (Value.int z)) (show nI (aloN j (cs.map c3of) k (jMut j) 0) = _ from by unfold aAlone; rw [if_pos (hasC_nI (by omega) hkm), nN_nI (by omega)]), g137, fr53⟩
  · skip
    have c_5 : (hasC c cs.length) = false := bI_f' c_5
    have hno : hasC c (cs.map c3of).length = false := by rw [List.length_map]; exact c_5
    refine e_iconst (v := (-1)) f_106_8 (by decide) rfl ?_
    refine e_iret f_106_9 rfl (rfl) ?_
    have g138 : pJT h tx j (cs.map c3of) := ⟨cs, S, D, pz, kk, ck, wo, xr, kl, cv, g1, g2, g3, g4, g5, g6, g7, g8, g9, g10, g11, g12, g13, g14, g15, g16, g17, g18, g19, g20, g21, g22, g23, g24, g25, rfl, ok⟩
    exact ⟨congrArg (fun z => some (Value.int z)) (show (-1) = _ from by unfold aAlone; rw [if_neg (by rw [hno]; decide)]), g138, fr0⟩
