theorem rdStep_okP {tx : List Nat} {s p : Nat} (hs : s ∈ stepSigns) (ht : okTx tx) (h : (rdStep tx s p).1 = true) : okP (rdStep tx s p).2.2 := by
  refine ⟨rdStep_ok hs ht h, fun z => ?_, fun z => ?_⟩
  · unfold rdStep at h z ⊢
    by_cases c : s = 102 ∨ s = 109
    · rw [if_pos c] at h z ⊢
      by_cases c2 : sgn tx p ∈ actsOf s
      · rw [if_pos c2]; exact c2
      · rw [if_neg c2] at h; exact absurd h Bool.false_ne_true
    · exfalso
      rw [if_neg c] at z
      split at z
      · exact c z
      · split at z
        · exact c z
        · exact c z
  · unfold rdStep at h z ⊢
    by_cases c : s = 102 ∨ s = 109
    · exfalso
      rw [if_pos c] at z
      split at z <;> (dsimp only at z; omega)
    · rw [if_neg c] at h z ⊢
      by_cases c2 : s = 119 ∨ s = 116
      · rw [if_pos c2] at h ⊢
        simp at h
        exact ⟨_, h.2, rdT_b, rfl⟩
      · exfalso
        rw [if_neg c2] at z
        split at z
        · exact c2 z
        · exact c2 z
theorem rdSteps_okP {tx : List Nat} (ht : okTx tx) : ∀ (f tm p : Nat) (j : List St), (∀ s ∈ j, okP s) → ∀ s ∈ (rdSteps tx f tm p j).2.2, okP s
  | 0, _, _, _, h => h
  | f + 1, tm, p, j, h => by
    rw [rdSteps]
    split
    · exact h
    · rename_i c
      split
      · refine rdSteps_okP ht f _ _ _ (fun s hs => ?_)
        rw [List.mem_append, List.mem_singleton] at hs
        rcases hs with z | z
        · exact h s z
        · rw [z]; exact rdStep_okP (Classical.not_not.mp (fun z => c (Or.inl z))) ht (by assumption)
      · exact h
theorem rdAll_okB {tx : List Nat} (ht : okTx tx) : okB (rdAll tx).2.2.1 := by
  refine ⟨(rdAll_ok ht).1, ?_⟩
  have h1 : ∀ s ∈ (aJ tx).2.2, okP s := rdSteps_okP ht 6 0 _ [] (fun s hs => absurd hs (by simp))
  unfold rdAll
  repeat' split
  · exact h1
  · exact h1
  · exact h1
  · exact h1
  · exact fun s hs => absurd hs (by simp)
theorem mkC_c3 (xs : List CS3) : (xs.map mkC).map c3of = xs := by
  rw [List.map_map]
  exact List.map_id xs
theorem mkC_ok {j : List St} {x : CS3} (h : okC3 x) : okK j (mkC x) := ⟨h, Nat.zero_le _, rfl, Or.inl rfl⟩
def aParse (tx : List Nat) : Int32 := if (rdAll tx).1 = true then nI (rdAll tx).2.2.2.length else -10 - nI (rdAll tx).2.1

set_option maxRecDepth 20000 in
set_option maxHeartbeats 4000000 in
theorem cc_JT_parse {h : px_H} {tx : List Nat} {j : List St} {xs : List CS3}  (H0 : pJT h tx j xs)  : px_wp 91 [.ref (17)] h (fun h1 r => r = some (.int (aParse tx)) ∧ pJT h1 ([] : List Nat) (if (rdAll tx).1 = true then (rdAll tx).2.2.1 else j) (if (rdAll tx).1 = true then (rdAll tx).2.2.2 else xs) ∧ px_fi 17 252 h h1) := by
  have fr0 : px_fi 17 252 h h := fi_rf _ _ _
  show px_to 91 0 [some (.ref (17)), none, none] [] h _
  obtain ⟨cs, S, D, pz, kk, ck, wo, xr, kl, cv, g1, g2, g3, g4, g5, g6, g7, g8, g9, g10, g11, g12, g13, g14, g15, g16, g17, g18, g19, g20, g21, g22, g23, g24, g25, hx, ok⟩ := id H0
  subst hx
  have h8 := ok.2.2.2.1.1
  have hS : 18 < S ∧ S + 78 ≤ 175 := by have := ok.1; omega
  have hD : 18 < D ∧ D + 78 ≤ 175 := by have := ok.1; omega
  have hSD : D + 78 ≤ S ∨ S + 78 ≤ D := by have := ok.1; omega
  have h8m : (cs.map c3of).length ≤ 8 := by rw [List.length_map]; exact h8
  have htl : tx.length ≤ 500 := pa_len g2
  obtain ⟨n26, j27, cs28, g29, g30, g31, g32⟩ := id g7
  obtain ⟨r33, l34, n35, q36, g37⟩ := id g8
  refine e_aload_n f_91_0 rfl rfl ?_
  refine e_getf f_91_1 g1 rfl rfl ?_
  refine e_aload_n f_91_4 rfl rfl ?_
  refine e_getf f_91_5 g1 rfl rfl ?_
  refine e_aload_n f_91_8 rfl rfl ?_
  refine e_getf f_91_9 g1 rfl rfl ?_
  refine e_aload_n f_91_12 rfl rfl ?_
  refine e_getf f_91_13 g1 rfl rfl ?_
  refine e_callV (As := [.ref (18), .int (nI tx.length), .ref (D)]) (rest := []) f_91_16 rfl rfl rfl (Nat.le_of_ble_eq_true rfl) (Nat.le_of_ble_eq_true rfl) g37 rfl (Nat.le_of_ble_eq_true rfl) (cc_Rd_read (S := D) (n := n26) (j := j27) (cs := cs28) (tx := tx) (r0 := r33) (l0 := l34) (n0 := n35) (q0 := q36) g37 g29 g30 g32 g31 g2 g20 g21 g22 g23 g24 g25 (ok.2.1) (hD)) rfl (fun h38 r39 q40 => ?_)
  obtain ⟨rfl, g41, g42, g43, g44, g45, fx46⟩ := q40
  obtain ⟨hm47, fa48, fb49⟩ := fj_mid fx46
  have fr50 : px_fi 17 252 h hm47 := fi_tr fr0 fa48 (by omega)
  have fr51 : px_fi 17 252 h h38 := fi_tr fr50 fb49 (by omega)
  show px_to 91 19 [some (.ref (17)), none, none] [.int (bI ((rdAll tx).1))] h38 _
  refine e_istore_n (L' := [some (.ref (17)), some (.int (bI ((rdAll tx).1))), none]) f_91_19 (Nat.le_of_ble_eq_true rfl) rfl rfl ?_
  refine e_aload_n f_91_20 rfl rfl ?_
  refine e_iconst (v := nI 0) f_91_21 (by decide) rfl ?_
  have g52 : hm47.2.2 17 = some (11, [.ref (18), .int (nI tx.length), .ref (S), .ref (D), .ref (175), .ref (177), .ref (249), .ref (254), .ref (256), .ref (258), .ref (261), .ref (265), .int (bI pz), .ref (267), .int (bI kk), .ref (268), .int (bI ck)]) := fi_at g1 fa48 (by omega)
  have g53 : h38.2.2 17 = some (11, [.ref (18), .int (nI tx.length), .ref (S), .ref (D), .ref (175), .ref (177), .ref (249), .ref (254), .ref (256), .ref (258), .ref (261), .ref (265), .int (bI pz), .ref (267), .int (bI kk), .ref (268), .int (bI ck)]) := fi_at g52 fb49 (by omega)
  refine e_putp (vs' := [.ref (18), .int (nI 0), .ref (S), .ref (D), .ref (175), .ref (177), .ref (249), .ref (254), .ref (256), .ref (258), .ref (261), .ref (265), .int (bI pz), .ref (267), .int (bI kk), .ref (268), .int (bI ck)]) f_91_22 g53 (Nat.le_of_ble_eq_true rfl) (rfl) (rfl) rfl rfl (fun h54 g55 fx56 => ?_)
  have fr57 : px_fi 17 252 h h54 := fi_tr fr51 fx56 (by omega)
  refine e_iload_n f_91_25 rfl rfl ?_
  refine e_if_ne f_91_26 rfl (fun c_26 => ?_) (fun c_26 => ?_)
  · skip
    have c_26 : ((rdAll tx).1) = true := bI_t c_26
    refine e_aload_n f_91_40 rfl rfl ?_
    refine e_getf f_91_41 g55 rfl rfl ?_
    refine e_astore_n (L' := [some (.ref (17)), some (.int (bI ((rdAll tx).1))), some (.ref (S))]) f_91_44 (Nat.le_of_ble_eq_true rfl) rfl rfl ?_
    refine e_aload_n f_91_45 rfl rfl ?_
    refine e_aload_n f_91_46 rfl rfl ?_
    refine e_getf f_91_47 g55 rfl rfl ?_
    refine e_putp (vs' := [.ref (18), .int (nI 0), .ref (D), .ref (D), .ref (175), .ref (177), .ref (249), .ref (254), .ref (256), .ref (258), .ref (261), .ref (265), .int (bI pz), .ref (267), .int (bI kk), .ref (268), .int (bI ck)]) f_91_50 g55 (Nat.le_of_ble_eq_true rfl) (rfl) (rfl) rfl rfl (fun h58 g59 fx60 => ?_)
    have fr61 : px_fi 17 252 h h58 := fi_tr fr57 fx60 (by omega)
    refine e_aload_n f_91_53 rfl rfl ?_
    refine e_aload_n f_91_54 rfl rfl ?_
    refine e_putp (vs' := [.ref (18), .int (nI 0), .ref (D), .ref (S), .ref (175), .ref (177), .ref (249), .ref (254), .ref (256), .ref (258), .ref (261), .ref (265), .int (bI pz), .ref (267), .int (bI kk), .ref (268), .int (bI ck)]) f_91_55 g59 (Nat.le_of_ble_eq_true rfl) (rfl) (rfl) rfl rfl (fun h62 g63 fx64 => ?_)
    have fr65 : px_fi 17 252 h h62 := fi_tr fr61 fx64 (by omega)
    refine e_aload_n f_91_58 rfl rfl ?_
    refine e_getf f_91_59 g63 rfl rfl ?_
    refine e_bipush (v := (-3)) f_91_62 (by decide) rfl ?_
    have g66 : pRun hm47 wo xr := pRun_fi g9 fa48 (by omega)
    have g67 : pRun h38 wo xr := pRun_fi g66 fb49 (by omega)
    have g68 : pRun h54 wo xr := pRun_fi g67 fx56 (by omega)
    have g69 : pRun h58 wo xr := pRun_fi g68 fx60 (by omega)
    have g70 : pRun h62 wo xr := pRun_fi g69 fx64 (by omega)
    obtain ⟨jb71, gv72, la73, lb74, A75, B76, W77, sms78, tl79, A380, B381, W382, S383, sm384, hl92, g85, g86, g87, g88, g89, g90, g91⟩ := id g70
    refine e_putp (vs' := [.ref (jb71), .ref (182), .ref (214), .ref (246), .int (nI gv72), .int (bI la73), .int (bI lb74), .int (oI xr.2.2.1), .int (xr.2.2.2), .int ((-3)), .ref (248)]) f_91_64 g85 (Nat.le_of_ble_eq_true rfl) (rfl) (rfl) rfl rfl (fun h93 g94 fx95 => ?_)
    have fr96 : px_fi 17 252 h h93 := fi_tr fr65 fx95 (by omega)
    refine e_aload_n f_91_67 rfl rfl ?_
    refine e_iconst (v := nI 0) f_91_68 (by decide) rfl ?_
    have g97 : h93.2.2 17 = some (11, [.ref (18), .int (nI 0), .ref (D), .ref (S), .ref (175), .ref (177), .ref (249), .ref (254), .ref (256), .ref (258), .ref (261), .ref (265), .int (bI pz), .ref (267), .int (bI kk), .ref (268), .int (bI ck)]) := fi_at g63 fx95 (by omega)
    refine e_putp (vs' := [.ref (18), .int (nI 0), .ref (D), .ref (S), .ref (175), .ref (177), .ref (249), .ref (254), .ref (256), .ref (258), .ref (261), .ref (265), .int (bI pz), .ref (267), .int (nI 0), .ref (268), .int (bI ck)]) f_91_69 g97 (Nat.le_of_ble_eq_true rfl) (rfl) (rfl) rfl rfl (fun h98 g99 fx100 => ?_)
    have fr101 : px_fi 17 252 h h98 := fi_tr fr96 fx100 (by omega)
    refine e_aload_n f_91_72 rfl rfl ?_
    refine e_iconst (v := nI 0) f_91_73 (by decide) rfl ?_
    refine e_putp (vs' := [.ref (18), .int (nI 0), .ref (D), .ref (S), .ref (175), .ref (177), .ref (249), .ref (254), .ref (256), .ref (258), .ref (261), .ref (265), .int (bI pz), .ref (267), .int (nI 0), .ref (268), .int (nI 0)]) f_91_74 g99 (Nat.le_of_ble_eq_true rfl) (rfl) (rfl) rfl rfl (fun h102 g103 fx104 => ?_)
    have fr105 : px_fi 17 252 h h102 := fi_tr fr101 fx104 (by omega)
    refine e_aload_n f_91_77 rfl rfl ?_
    refine e_getf f_91_78 g103 rfl rfl ?_
    have g106 : h54.2.2 D = some (8, [.ref (D + 1), .ref (D + 5), .int (nI ((rdAll tx).2.2.2.length))]) := fi_at g42 fx56 (by omega)
    have g107 : h58.2.2 D = some (8, [.ref (D + 1), .ref (D + 5), .int (nI ((rdAll tx).2.2.2.length))]) := fi_at g106 fx60 (by omega)
    have g108 : h62.2.2 D = some (8, [.ref (D + 1), .ref (D + 5), .int (nI ((rdAll tx).2.2.2.length))]) := fi_at g107 fx64 (by omega)
    have g109 : h93.2.2 D = some (8, [.ref (D + 1), .ref (D + 5), .int (nI ((rdAll tx).2.2.2.length))]) := fi_at g108 fx95 (by omega)
    have g110 : h98.2.2 D = some (8, [.ref (D + 1), .ref (D + 5), .int (nI ((rdAll tx).2.2.2.length))]) := fi_at g109 fx100 (by omega)
    have g111 : h102.2.2 D = some (8, [.ref (D + 1), .ref (D + 5), .int (nI ((rdAll tx).2.2.2.length))]) := fi_at g110 fx104 (by omega)
    refine e_getf f_91_81 g111 rfl rfl ?_
    refine e_iret f_91_84 rfl (rfl) ?_
    have g112 : px_pa hm47 18 52 500 vN tx := pa_fi g2 fa48 (by omega)
    have g113 : px_pa h38 18 52 500 vN tx := pa_fi g112 fb49 (by omega)
    have g114 : px_pa h54 18 52 500 vN tx := pa_fi g113 fx56 (by omega)
    have g115 : px_pa h58 18 52 500 vN tx := pa_fi g114 fx60 (by omega)
    have g116 : px_pa h62 18 52 500 vN tx := pa_fi g115 fx64 (by omega)
    have g117 : px_pa h93 18 52 500 vN tx := pa_fi g116 fx95 (by omega)
    have g118 : px_pa h98 18 52 500 vN tx := pa_fi g117 fx100 (by omega)
    have g119 : px_pa h102 18 52 500 vN tx := pa_fi g118 fx104 (by omega)
    have g120 : px_pa h102 18 52 500 vN ([] : List Nat) := pa_nil g119
    have g121 : pRd h54 tx ((rdAll tx).2.1) := pRd_fi g41 fx56 (by omega)
    have g122 : pRd h58 tx ((rdAll tx).2.1) := pRd_fi g121 fx60 (by omega)
    have g123 : pRd h62 tx ((rdAll tx).2.1) := pRd_fi g122 fx64 (by omega)
    have g124 : pRd h93 tx ((rdAll tx).2.1) := pRd_fi g123 fx95 (by omega)
    have g125 : pRd h98 tx ((rdAll tx).2.1) := pRd_fi g124 fx100 (by omega)
    have g126 : pRd h102 tx ((rdAll tx).2.1) := pRd_fi g125 fx104 (by omega)
    obtain ⟨n127, g128⟩ := g126
    have g129 : pRA h102 := ⟨_, _, _, _, g128⟩
    have hra := rdAll_ok (tx := tx) ok.2.1
    have g130 : hm47.2.2 S = some (8, [.ref (S + 1), .ref (S + 5), .int (nI cs.length)]) := fi_at g3 fa48 (by omega)
    have g131 : h38.2.2 S = some (8, [.ref (S + 1), .ref (S + 5), .int (nI cs.length)]) := fi_at g130 fb49 (by omega)
    have g132 : h54.2.2 S = some (8, [.ref (S + 1), .ref (S + 5), .int (nI cs.length)]) := fi_at g131 fx56 (by omega)
    have g133 : h58.2.2 S = some (8, [.ref (S + 1), .ref (S + 5), .int (nI cs.length)]) := fi_at g132 fx60 (by omega)
    have g134 : h62.2.2 S = some (8, [.ref (S + 1), .ref (S + 5), .int (nI cs.length)]) := fi_at g133 fx64 (by omega)
    have g135 : h93.2.2 S = some (8, [.ref (S + 1), .ref (S + 5), .int (nI cs.length)]) := fi_at g134 fx95 (by omega)
    have g136 : h98.2.2 S = some (8, [.ref (S + 1), .ref (S + 5), .int (nI cs.length)]) := fi_at g135 fx100 (by omega)
    have g137 : h102.2.2 S = some (8, [.ref (S + 1), .ref (S + 5), .int (nI cs.length)]) := fi_at g136 fx104 (by omega)
    have g138 : pJob hm47 (S + 1) j := pJob_fi g4 fa48 (by omega)
    have g139 : pJob h38 (S + 1) j := pJob_fi g138 fb49 (by omega)
    have g140 : pJob h54 (S + 1) j := pJob_fi g139 fx56 (by omega)
    have g141 : pJob h58 (S + 1) j := pJob_fi g140 fx60 (by omega)
    have g142 : pJob h62 (S + 1) j := pJob_fi g141 fx64 (by omega)
    have g143 : pJob h93 (S + 1) j := pJob_fi g142 fx95 (by omega)
    have g144 : pJob h98 (S + 1) j := pJob_fi g143 fx100 (by omega)
    have g145 : pJob h102 (S + 1) j := pJob_fi g144 fx104 (by omega)
    have g146 : px_rs hm47 (S + 5) 56 8 (fun k => S + 9 * k + 6) := rs_fi g5 fa48 (by omega)
    have g147 : px_rs h38 (S + 5) 56 8 (fun k => S + 9 * k + 6) := rs_fi g146 fb49 (by omega)
    have g148 : px_rs h54 (S + 5) 56 8 (fun k => S + 9 * k + 6) := rs_fi g147 fx56 (by omega)
    have g149 : px_rs h58 (S + 5) 56 8 (fun k => S + 9 * k + 6) := rs_fi g148 fx60 (by omega)
    have g150 : px_rs h62 (S + 5) 56 8 (fun k => S + 9 * k + 6) := rs_fi g149 fx64 (by omega)
    have g151 : px_rs h93 (S + 5) 56 8 (fun k => S + 9 * k + 6) := rs_fi g150 fx95 (by omega)
    have g152 : px_rs h98 (S + 5) 56 8 (fun k => S + 9 * k + 6) := rs_fi g151 fx100 (by omega)
    have g153 : px_rs h102 (S + 5) 56 8 (fun k => S + 9 * k + 6) := rs_fi g152 fx104 (by omega)
    have g154 : pCs hm47 S cs := pCs_fi g6 fa48 (by omega)
    have g155 : pCs h38 S cs := pCs_fi g154 fb49 (by omega)
    have g156 : pCs h54 S cs := pCs_fi g155 fx56 (by omega)
    have g157 : pCs h58 S cs := pCs_fi g156 fx60 (by omega)
    have g158 : pCs h62 S cs := pCs_fi g157 fx64 (by omega)
    have g159 : pCs h93 S cs := pCs_fi g158 fx95 (by omega)
    have g160 : pCs h98 S cs := pCs_fi g159 fx100 (by omega)
    have g161 : pCs h102 S cs := pCs_fi g160 fx104 (by omega)
    have g162 : pDr h102 S := ⟨_, _, _, g137, g145, g153, g161⟩
    have g163 : h98.2.2 177 = some (6, [.ref (jb71), .ref (182), .ref (214), .ref (246), .int (nI gv72), .int (bI la73), .int (bI lb74), .int (oI xr.2.2.1), .int (xr.2.2.2), .int ((-3)), .ref (248)]) := fi_at g94 fx100 (by omega)
    have g164 : h102.2.2 177 = some (6, [.ref (jb71), .ref (182), .ref (214), .ref (246), .int (nI gv72), .int (bI la73), .int (bI lb74), .int (oI xr.2.2.1), .int (xr.2.2.2), .int ((-3)), .ref (248)]) := fi_at g163 fx104 (by omega)
    have g165 : h93.2.2 182 = some (2, [.int (A75), .int (B76), .int (W77), .int (xr.1), .ref (183)]) := fi_at g86 fx95 (by omega)
    have g166 : h98.2.2 182 = some (2, [.int (A75), .int (B76), .int (W77), .int (xr.1), .ref (183)]) := fi_at g165 fx100 (by omega)
    have g167 : h102.2.2 182 = some (2, [.int (A75), .int (B76), .int (W77), .int (xr.1), .ref (183)]) := fi_at g166 fx104 (by omega)
    have g168 : px_rs h93 183 55 6 (fun k => 182 + 5 * k + 2) := rs_fi g87 fx95 (by omega)
    have g169 : px_rs h98 183 55 6 (fun k => 182 + 5 * k + 2) := rs_fi g168 fx100 (by omega)
    have g170 : px_rs h102 183 55 6 (fun k => 182 + 5 * k + 2) := rs_fi g169 fx104 (by omega)
    have g171 : pSt h93 182 sms78 := pSt_fi g88 fx95 (by omega)
    have g172 : pSt h98 182 sms78 := pSt_fi g171 fx100 (by omega)
    have g173 : pSt h102 182 sms78 := pSt_fi g172 fx104 (by omega)
    have g174 : pRows h93 246 96 xr.2.1 := pRows_fi g89 fx95 (by omega)
    have g175 : pRows h98 246 96 xr.2.1 := pRows_fi g174 fx100 (by omega)
    have g176 : pRows h102 246 96 xr.2.1 := pRows_fi g175 fx104 (by omega)
    have g177 : px_pa h93 248 50 30 Value.int tl79 := pa_fi g90 fx95 (by omega)
    have g178 : px_pa h98 248 50 30 Value.int tl79 := pa_fi g177 fx100 (by omega)
    have g179 : px_pa h102 248 50 30 Value.int tl79 := pa_fi g178 fx104 (by omega)
    have g180 : pMm h93 214 A380 B381 W382 S383 sm384 := pMm_fi g91 fx95 (by omega)
    have g181 : pMm h98 214 A380 B381 W382 S383 sm384 := pMm_fi g180 fx100 (by omega)
    have g182 : pMm h102 214 A380 B381 W382 S383 sm384 := pMm_fi g181 fx104 (by omega)
    have g183 : pRun h102 (-3) xr := ⟨_, _, _, _, _, _, _, _, _, _, _, _, _, _, hl92, g164, g167, g170, g173, g176, g179, g182⟩
    rw [if_pos c_26, if_pos c_26]
    have ok2 : okJT [] (rdAll tx).2.2.1 ((rdAll tx).2.2.2.map mkC) D S false false (-3) xr kl cv := ⟨by have := ok.1; omega, fun c hc => absurd hc (by simp), rdAll_okB ok.2.1, ⟨by rw [List.length_map]; exact hra.2.1, fun t ht => by rw [List.mem_map] at ht; obtain ⟨y, hy, rfl⟩ := ht; exact mkC_ok (hra.2.2 y hy)⟩, fun c hc e => absurd e.symm (nI_m3 (by rw [List.length_map] at hc; have := hra.2.1; omega)), ⟨ok.2.2.2.2.2.1.1, fun e => absurd e (by decide)⟩, ⟨ok.2.2.2.2.2.2.1, fun e => absurd e (by decide)⟩⟩
    have g184 : h102.2.2 D = some (8, [.ref (D + 1), .ref (D + 5), .int (nI (((rdAll tx).2.2.2.map mkC).length))]) := by rw [List.length_map]; exact g111
    have g185 : pJob h54 (D + 1) ((rdAll tx).2.2.1) := pJob_fi g43 fx56 (by omega)
    have g186 : pJob h58 (D + 1) ((rdAll tx).2.2.1) := pJob_fi g185 fx60 (by omega)
    have g187 : pJob h62 (D + 1) ((rdAll tx).2.2.1) := pJob_fi g186 fx64 (by omega)
    have g188 : pJob h93 (D + 1) ((rdAll tx).2.2.1) := pJob_fi g187 fx95 (by omega)
    have g189 : pJob h98 (D + 1) ((rdAll tx).2.2.1) := pJob_fi g188 fx100 (by omega)
    have g190 : pJob h102 (D + 1) ((rdAll tx).2.2.1) := pJob_fi g189 fx104 (by omega)
    have g191 : px_rs h54 (D + 5) 56 8 (fun k => D + 9 * k + 6) := rs_fi g45 fx56 (by omega)
    have g192 : px_rs h58 (D + 5) 56 8 (fun k => D + 9 * k + 6) := rs_fi g191 fx60 (by omega)
    have g193 : px_rs h62 (D + 5) 56 8 (fun k => D + 9 * k + 6) := rs_fi g192 fx64 (by omega)
    have g194 : px_rs h93 (D + 5) 56 8 (fun k => D + 9 * k + 6) := rs_fi g193 fx95 (by omega)
    have g195 : px_rs h98 (D + 5) 56 8 (fun k => D + 9 * k + 6) := rs_fi g194 fx100 (by omega)
    have g196 : px_rs h102 (D + 5) 56 8 (fun k => D + 9 * k + 6) := rs_fi g195 fx104 (by omega)
    have g197 : pCs h54 D ((rdAll tx).2.2.2.map mkC) := pCs_fi g44 fx56 (by omega)
    have g198 : pCs h58 D ((rdAll tx).2.2.2.map mkC) := pCs_fi g197 fx60 (by omega)
    have g199 : pCs h62 D ((rdAll tx).2.2.2.map mkC) := pCs_fi g198 fx64 (by omega)
    have g200 : pCs h93 D ((rdAll tx).2.2.2.map mkC) := pCs_fi g199 fx95 (by omega)
    have g201 : pCs h98 D ((rdAll tx).2.2.2.map mkC) := pCs_fi g200 fx100 (by omega)
    have g202 : pCs h102 D ((rdAll tx).2.2.2.map mkC) := pCs_fi g201 fx104 (by omega)
    have g203 : pJud hm47 := pJud_fi g10 fa48 (by omega)
    have g204 : pJud h38 := pJud_fi g203 fb49 (by omega)
    have g205 : pJud h54 := pJud_fi g204 fx56 (by omega)
    have g206 : pJud h58 := pJud_fi g205 fx60 (by omega)
    have g207 : pJud h62 := pJud_fi g206 fx64 (by omega)
    have g208 : pJud h93 := pJud_fi g207 fx95 (by omega)
    have g209 : pJud h98 := pJud_fi g208 fx100 (by omega)
    have g210 : pJud h102 := pJud_fi g209 fx104 (by omega)
    have g211 : pOrA hm47 254 := pOrA_fi g11 fa48 (by omega)
    have g212 : pOrA h38 254 := pOrA_fi g211 fb49 (by omega)
    have g213 : pOrA h54 254 := pOrA_fi g212 fx56 (by omega)
    have g214 : pOrA h58 254 := pOrA_fi g213 fx60 (by omega)
    have g215 : pOrA h62 254 := pOrA_fi g214 fx64 (by omega)
    have g216 : pOrA h93 254 := pOrA_fi g215 fx95 (by omega)
    have g217 : pOrA h98 254 := pOrA_fi g216 fx100 (by omega)
    have g218 : pOrA h102 254 := pOrA_fi g217 fx104 (by omega)
    have g219 : pOrA hm47 256 := pOrA_fi g12 fa48 (by omega)
    have g220 : pOrA h38 256 := pOrA_fi g219 fb49 (by omega)
    have g221 : pOrA h54 256 := pOrA_fi g220 fx56 (by omega)
    have g222 : pOrA h58 256 := pOrA_fi g221 fx60 (by omega)
    have g223 : pOrA h62 256 := pOrA_fi g222 fx64 (by omega)
    have g224 : pOrA h93 256 := pOrA_fi g223 fx95 (by omega)
    have g225 : pOrA h98 256 := pOrA_fi g224 fx100 (by omega)
    have g226 : pOrA h102 256 := pOrA_fi g225 fx104 (by omega)
    have g227 : pSc hm47 := pSc_fi g13 fa48 (by omega)
    have g228 : pSc h38 := pSc_fi g227 fb49 (by omega)
    have g229 : pSc h54 := pSc_fi g228 fx56 (by omega)
    have g230 : pSc h58 := pSc_fi g229 fx60 (by omega)
    have g231 : pSc h62 := pSc_fi g230 fx64 (by omega)
    have g232 : pSc h93 := pSc_fi g231 fx95 (by omega)
    have g233 : pSc h98 := pSc_fi g232 fx100 (by omega)
    have g234 : pSc h102 := pSc_fi g233 fx104 (by omega)
    have g235 : pJA hm47 261 := pJA_fi g14 fa48 (by omega)
    have g236 : pJA h38 261 := pJA_fi g235 fb49 (by omega)
    have g237 : pJA h54 261 := pJA_fi g236 fx56 (by omega)
    have g238 : pJA h58 261 := pJA_fi g237 fx60 (by omega)
    have g239 : pJA h62 261 := pJA_fi g238 fx64 (by omega)
    have g240 : pJA h93 261 := pJA_fi g239 fx95 (by omega)
    have g241 : pJA h98 261 := pJA_fi g240 fx100 (by omega)
    have g242 : pJA h102 261 := pJA_fi g241 fx104 (by omega)
    have g243 : pRwA hm47 265 := pRwA_fi g15 fa48 (by omega)
    have g244 : pRwA h38 265 := pRwA_fi g243 fb49 (by omega)
    have g245 : pRwA h54 265 := pRwA_fi g244 fx56 (by omega)
    have g246 : pRwA h58 265 := pRwA_fi g245 fx60 (by omega)
    have g247 : pRwA h62 265 := pRwA_fi g246 fx64 (by omega)
    have g248 : pRwA h93 265 := pRwA_fi g247 fx95 (by omega)
    have g249 : pRwA h98 265 := pRwA_fi g248 fx100 (by omega)
    have g250 : pRwA h102 265 := pRwA_fi g249 fx104 (by omega)
    have g251 : px_pa hm47 267 50 30 Value.int kl := pa_fi g16 fa48 (by omega)
    have g252 : px_pa h38 267 50 30 Value.int kl := pa_fi g251 fb49 (by omega)
    have g253 : px_pa h54 267 50 30 Value.int kl := pa_fi g252 fx56 (by omega)
    have g254 : px_pa h58 267 50 30 Value.int kl := pa_fi g253 fx60 (by omega)
    have g255 : px_pa h62 267 50 30 Value.int kl := pa_fi g254 fx64 (by omega)
    have g256 : px_pa h93 267 50 30 Value.int kl := pa_fi g255 fx95 (by omega)
    have g257 : px_pa h98 267 50 30 Value.int kl := pa_fi g256 fx100 (by omega)
    have g258 : px_pa h102 267 50 30 Value.int kl := pa_fi g257 fx104 (by omega)
    have g259 : px_pa hm47 268 50 30 Value.int cv := pa_fi g17 fa48 (by omega)
    have g260 : px_pa h38 268 50 30 Value.int cv := pa_fi g259 fb49 (by omega)
    have g261 : px_pa h54 268 50 30 Value.int cv := pa_fi g260 fx56 (by omega)
    have g262 : px_pa h58 268 50 30 Value.int cv := pa_fi g261 fx60 (by omega)
    have g263 : px_pa h62 268 50 30 Value.int cv := pa_fi g262 fx64 (by omega)
    have g264 : px_pa h93 268 50 30 Value.int cv := pa_fi g263 fx95 (by omega)
    have g265 : px_pa h98 268 50 30 Value.int cv := pa_fi g264 fx100 (by omega)
    have g266 : px_pa h102 268 50 30 Value.int cv := pa_fi g265 fx104 (by omega)
    have g267 : pStr hm47 1 ([60, 61, 62]) := pStr_fi g18 fa48 (by omega)
    have g268 : pStr h38 1 ([60, 61, 62]) := pStr_fi g267 fb49 (by omega)
    have g269 : pStr h54 1 ([60, 61, 62]) := pStr_fi g268 fx56 (by omega)
    have g270 : pStr h58 1 ([60, 61, 62]) := pStr_fi g269 fx60 (by omega)
    have g271 : pStr h62 1 ([60, 61, 62]) := pStr_fi g270 fx64 (by omega)
    have g272 : pStr h93 1 ([60, 61, 62]) := pStr_fi g271 fx95 (by omega)
    have g273 : pStr h98 1 ([60, 61, 62]) := pStr_fi g272 fx100 (by omega)
    have g274 : pStr h102 1 ([60, 61, 62]) := pStr_fi g273 fx104 (by omega)
    have g275 : pStr hm47 2 ([43, 45, 42, 47]) := pStr_fi g19 fa48 (by omega)
    have g276 : pStr h38 2 ([43, 45, 42, 47]) := pStr_fi g275 fb49 (by omega)
    have g277 : pStr h54 2 ([43, 45, 42, 47]) := pStr_fi g276 fx56 (by omega)
    have g278 : pStr h58 2 ([43, 45, 42, 47]) := pStr_fi g277 fx60 (by omega)
    have g279 : pStr h62 2 ([43, 45, 42, 47]) := pStr_fi g278 fx64 (by omega)
    have g280 : pStr h93 2 ([43, 45, 42, 47]) := pStr_fi g279 fx95 (by omega)
    have g281 : pStr h98 2 ([43, 45, 42, 47]) := pStr_fi g280 fx100 (by omega)
    have g282 : pStr h102 2 ([43, 45, 42, 47]) := pStr_fi g281 fx104 (by omega)
    have g283 : pStr hm47 3 stepSigns := pStr_fi g20 fa48 (by omega)
    have g284 : pStr h38 3 stepSigns := pStr_fi g283 fb49 (by omega)
    have g285 : pStr h54 3 stepSigns := pStr_fi g284 fx56 (by omega)
    have g286 : pStr h58 3 stepSigns := pStr_fi g285 fx60 (by omega)
    have g287 : pStr h62 3 stepSigns := pStr_fi g286 fx64 (by omega)
    have g288 : pStr h93 3 stepSigns := pStr_fi g287 fx95 (by omega)
    have g289 : pStr h98 3 stepSigns := pStr_fi g288 fx100 (by omega)
    have g290 : pStr h102 3 stepSigns := pStr_fi g289 fx104 (by omega)
    have g291 : pStr hm47 4 ([60, 61, 62]) := pStr_fi g21 fa48 (by omega)
    have g292 : pStr h38 4 ([60, 61, 62]) := pStr_fi g291 fb49 (by omega)
    have g293 : pStr h54 4 ([60, 61, 62]) := pStr_fi g292 fx56 (by omega)
    have g294 : pStr h58 4 ([60, 61, 62]) := pStr_fi g293 fx60 (by omega)
    have g295 : pStr h62 4 ([60, 61, 62]) := pStr_fi g294 fx64 (by omega)
    have g296 : pStr h93 4 ([60, 61, 62]) := pStr_fi g295 fx95 (by omega)
    have g297 : pStr h98 4 ([60, 61, 62]) := pStr_fi g296 fx100 (by omega)
    have g298 : pStr h102 4 ([60, 61, 62]) := pStr_fi g297 fx104 (by omega)
    have g299 : pStr hm47 5 ([43, 45, 42, 47]) := pStr_fi g22 fa48 (by omega)
    have g300 : pStr h38 5 ([43, 45, 42, 47]) := pStr_fi g299 fb49 (by omega)
    have g301 : pStr h54 5 ([43, 45, 42, 47]) := pStr_fi g300 fx56 (by omega)
    have g302 : pStr h58 5 ([43, 45, 42, 47]) := pStr_fi g301 fx60 (by omega)
    have g303 : pStr h62 5 ([43, 45, 42, 47]) := pStr_fi g302 fx64 (by omega)
    have g304 : pStr h93 5 ([43, 45, 42, 47]) := pStr_fi g303 fx95 (by omega)
    have g305 : pStr h98 5 ([43, 45, 42, 47]) := pStr_fi g304 fx100 (by omega)
    have g306 : pStr h102 5 ([43, 45, 42, 47]) := pStr_fi g305 fx104 (by omega)
    have g307 : pStr hm47 6 evSigns := pStr_fi g23 fa48 (by omega)
    have g308 : pStr h38 6 evSigns := pStr_fi g307 fb49 (by omega)
    have g309 : pStr h54 6 evSigns := pStr_fi g308 fx56 (by omega)
    have g310 : pStr h58 6 evSigns := pStr_fi g309 fx60 (by omega)
    have g311 : pStr h62 6 evSigns := pStr_fi g310 fx64 (by omega)
    have g312 : pStr h93 6 evSigns := pStr_fi g311 fx95 (by omega)
    have g313 : pStr h98 6 evSigns := pStr_fi g312 fx100 (by omega)
    have g314 : pStr h102 6 evSigns := pStr_fi g313 fx104 (by omega)
    have g315 : pStr hm47 7 keyL := pStr_fi g24 fa48 (by omega)
    have g316 : pStr h38 7 keyL := pStr_fi g315 fb49 (by omega)
    have g317 : pStr h54 7 keyL := pStr_fi g316 fx56 (by omega)
    have g318 : pStr h58 7 keyL := pStr_fi g317 fx60 (by omega)
    have g319 : pStr h62 7 keyL := pStr_fi g318 fx64 (by omega)
    have g320 : pStr h93 7 keyL := pStr_fi g319 fx95 (by omega)
    have g321 : pStr h98 7 keyL := pStr_fi g320 fx100 (by omega)
    have g322 : pStr h102 7 keyL := pStr_fi g321 fx104 (by omega)
    have g323 : pStr hm47 8 ordL := pStr_fi g25 fa48 (by omega)
    have g324 : pStr h38 8 ordL := pStr_fi g323 fb49 (by omega)
    have g325 : pStr h54 8 ordL := pStr_fi g324 fx56 (by omega)
    have g326 : pStr h58 8 ordL := pStr_fi g325 fx60 (by omega)
    have g327 : pStr h62 8 ordL := pStr_fi g326 fx64 (by omega)
    have g328 : pStr h93 8 ordL := pStr_fi g327 fx95 (by omega)
    have g329 : pStr h98 8 ordL := pStr_fi g328 fx100 (by omega)
    have g330 : pStr h102 8 ordL := pStr_fi g329 fx104 (by omega)
    have g331 : pJT h102 [] (rdAll tx).2.2.1 (rdAll tx).2.2.2 := ⟨((rdAll tx).2.2.2.map mkC), D, S, pz, false, false, (-3), xr, kl, cv, g103, g120, g184, g190, g196, g202, g162, g129, g183, g210, g218, g226, g234, g242, g250, g258, g266, g274, g282, g290, g298, g306, g314, g322, g330, (mkC_c3 _).symm, ok2⟩
    exact ⟨congrArg (fun z => some (Value.int z)) (show nI ((rdAll tx).2.2.2.length) = _ by unfold aParse; rw [if_pos c_26]), g331, fr105⟩
  · skip
    have c_26 : ((rdAll tx).1) = false := bI_f' c_26
    refine e_bipush (v := (-10)) f_91_29 (by decide) rfl ?_
    refine e_aload_n f_91_31 rfl rfl ?_
    refine e_getf f_91_32 g55 rfl rfl ?_
    have g332 : pRd h54 tx ((rdAll tx).2.1) := pRd_fi g41 fx56 (by omega)
    obtain ⟨n333, g334⟩ := g332
    refine e_getf f_91_35 g334 rfl rfl ?_
    refine e_isub (z := -10 - (nI ((rdAll tx).2.1))) f_91_38 (rfl) rfl ?_
    refine e_iret f_91_39 rfl (rfl) ?_
    have g335 : px_pa hm47 18 52 500 vN tx := pa_fi g2 fa48 (by omega)
    have g336 : px_pa h38 18 52 500 vN tx := pa_fi g335 fb49 (by omega)
    have g337 : px_pa h54 18 52 500 vN tx := pa_fi g336 fx56 (by omega)
    have g338 : px_pa h54 18 52 500 vN ([] : List Nat) := pa_nil g337
    have g339 : pRA h54 := ⟨_, _, _, _, g334⟩
    have hra := rdAll_ok (tx := tx) ok.2.1
    rw [if_neg (by rw [c_26]; decide), if_neg (by rw [c_26]; decide)]
    have ok2 : okJT [] j cs S D kk ck wo xr kl cv := ⟨ok.1, fun c hc => absurd hc (by simp), ok.2.2⟩
    have g340 : hm47.2.2 S = some (8, [.ref (S + 1), .ref (S + 5), .int (nI cs.length)]) := fi_at g3 fa48 (by omega)
    have g341 : h38.2.2 S = some (8, [.ref (S + 1), .ref (S + 5), .int (nI cs.length)]) := fi_at g340 fb49 (by omega)
    have g342 : h54.2.2 S = some (8, [.ref (S + 1), .ref (S + 5), .int (nI cs.length)]) := fi_at g341 fx56 (by omega)
    have g343 : pJob hm47 (S + 1) j := pJob_fi g4 fa48 (by omega)
    have g344 : pJob h38 (S + 1) j := pJob_fi g343 fb49 (by omega)
    have g345 : pJob h54 (S + 1) j := pJob_fi g344 fx56 (by omega)
    have g346 : px_rs hm47 (S + 5) 56 8 (fun k => S + 9 * k + 6) := rs_fi g5 fa48 (by omega)
    have g347 : px_rs h38 (S + 5) 56 8 (fun k => S + 9 * k + 6) := rs_fi g346 fb49 (by omega)
    have g348 : px_rs h54 (S + 5) 56 8 (fun k => S + 9 * k + 6) := rs_fi g347 fx56 (by omega)
    have g349 : pCs hm47 S cs := pCs_fi g6 fa48 (by omega)
    have g350 : pCs h38 S cs := pCs_fi g349 fb49 (by omega)
    have g351 : pCs h54 S cs := pCs_fi g350 fx56 (by omega)
    have g352 : h54.2.2 D = some (8, [.ref (D + 1), .ref (D + 5), .int (nI ((rdAll tx).2.2.2.length))]) := fi_at g42 fx56 (by omega)
    have g353 : pJob h54 (D + 1) ((rdAll tx).2.2.1) := pJob_fi g43 fx56 (by omega)
    have g354 : px_rs h54 (D + 5) 56 8 (fun k => D + 9 * k + 6) := rs_fi g45 fx56 (by omega)
    have g355 : pCs h54 D ((rdAll tx).2.2.2.map mkC) := pCs_fi g44 fx56 (by omega)
    have g356 : pDr h54 D := ⟨_, _, _, g352, g353, g354, g355⟩
    have g357 : pRun hm47 wo xr := pRun_fi g9 fa48 (by omega)
    have g358 : pRun h38 wo xr := pRun_fi g357 fb49 (by omega)
    have g359 : pRun h54 wo xr := pRun_fi g358 fx56 (by omega)
    have g360 : pJud hm47 := pJud_fi g10 fa48 (by omega)
    have g361 : pJud h38 := pJud_fi g360 fb49 (by omega)
    have g362 : pJud h54 := pJud_fi g361 fx56 (by omega)
    have g363 : pOrA hm47 254 := pOrA_fi g11 fa48 (by omega)
    have g364 : pOrA h38 254 := pOrA_fi g363 fb49 (by omega)
    have g365 : pOrA h54 254 := pOrA_fi g364 fx56 (by omega)
    have g366 : pOrA hm47 256 := pOrA_fi g12 fa48 (by omega)
    have g367 : pOrA h38 256 := pOrA_fi g366 fb49 (by omega)
    have g368 : pOrA h54 256 := pOrA_fi g367 fx56 (by omega)
    have g369 : pSc hm47 := pSc_fi g13 fa48 (by omega)
    have g370 : pSc h38 := pSc_fi g369 fb49 (by omega)
    have g371 : pSc h54 := pSc_fi g370 fx56 (by omega)
    have g372 : pJA hm47 261 := pJA_fi g14 fa48 (by omega)
    have g373 : pJA h38 261 := pJA_fi g372 fb49 (by omega)
    have g374 : pJA h54 261 := pJA_fi g373 fx56 (by omega)
    have g375 : pRwA hm47 265 := pRwA_fi g15 fa48 (by omega)
    have g376 : pRwA h38 265 := pRwA_fi g375 fb49 (by omega)
    have g377 : pRwA h54 265 := pRwA_fi g376 fx56 (by omega)
    have g378 : px_pa hm47 267 50 30 Value.int kl := pa_fi g16 fa48 (by omega)
    have g379 : px_pa h38 267 50 30 Value.int kl := pa_fi g378 fb49 (by omega)
    have g380 : px_pa h54 267 50 30 Value.int kl := pa_fi g379 fx56 (by omega)
    have g381 : px_pa hm47 268 50 30 Value.int cv := pa_fi g17 fa48 (by omega)
    have g382 : px_pa h38 268 50 30 Value.int cv := pa_fi g381 fb49 (by omega)
    have g383 : px_pa h54 268 50 30 Value.int cv := pa_fi g382 fx56 (by omega)
    have g384 : pStr hm47 1 ([60, 61, 62]) := pStr_fi g18 fa48 (by omega)
    have g385 : pStr h38 1 ([60, 61, 62]) := pStr_fi g384 fb49 (by omega)
    have g386 : pStr h54 1 ([60, 61, 62]) := pStr_fi g385 fx56 (by omega)
    have g387 : pStr hm47 2 ([43, 45, 42, 47]) := pStr_fi g19 fa48 (by omega)
    have g388 : pStr h38 2 ([43, 45, 42, 47]) := pStr_fi g387 fb49 (by omega)
    have g389 : pStr h54 2 ([43, 45, 42, 47]) := pStr_fi g388 fx56 (by omega)
    have g390 : pStr hm47 3 stepSigns := pStr_fi g20 fa48 (by omega)
    have g391 : pStr h38 3 stepSigns := pStr_fi g390 fb49 (by omega)
    have g392 : pStr h54 3 stepSigns := pStr_fi g391 fx56 (by omega)
    have g393 : pStr hm47 4 ([60, 61, 62]) := pStr_fi g21 fa48 (by omega)
    have g394 : pStr h38 4 ([60, 61, 62]) := pStr_fi g393 fb49 (by omega)
    have g395 : pStr h54 4 ([60, 61, 62]) := pStr_fi g394 fx56 (by omega)
    have g396 : pStr hm47 5 ([43, 45, 42, 47]) := pStr_fi g22 fa48 (by omega)
    have g397 : pStr h38 5 ([43, 45, 42, 47]) := pStr_fi g396 fb49 (by omega)
    have g398 : pStr h54 5 ([43, 45, 42, 47]) := pStr_fi g397 fx56 (by omega)
    have g399 : pStr hm47 6 evSigns := pStr_fi g23 fa48 (by omega)
    have g400 : pStr h38 6 evSigns := pStr_fi g399 fb49 (by omega)
    have g401 : pStr h54 6 evSigns := pStr_fi g400 fx56 (by omega)
    have g402 : pStr hm47 7 keyL := pStr_fi g24 fa48 (by omega)
    have g403 : pStr h38 7 keyL := pStr_fi g402 fb49 (by omega)
    have g404 : pStr h54 7 keyL := pStr_fi g403 fx56 (by omega)
    have g405 : pStr hm47 8 ordL := pStr_fi g25 fa48 (by omega)
    have g406 : pStr h38 8 ordL := pStr_fi g405 fb49 (by omega)
    have g407 : pStr h54 8 ordL := pStr_fi g406 fx56 (by omega)
    have g408 : pJT h54 ([] : List Nat) j (cs.map c3of) := ⟨cs, S, D, pz, kk, ck, wo, xr, kl, cv, g55, g338, g342, g345, g348, g351, g356, g339, g359, g362, g365, g368, g371, g374, g377, g380, g383, g386, g389, g392, g395, g398, g401, g404, g407, rfl, ok2⟩
    exact ⟨congrArg (fun z => some (Value.int z)) (show -10 - (nI ((rdAll tx).2.1)) = _ from by unfold aParse; rw [if_neg (by rw [c_26]; decide)]), g408, fr57⟩
