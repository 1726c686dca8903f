def px_fl (I : List (Nat × Nat)) (h h1 : px_H) : Prop := px_fr (fun q => ∃ i ∈ I, i.1 ≤ q ∧ q < i.1 + i.2) h h1
theorem fl_rf (I : List (Nat × Nat)) (h : px_H) : px_fl I h h := px_fr_rf _ _
theorem fl_tr {I : List (Nat × Nat)} {lo k : Nat} {h h1 h2 : px_H} (x : px_fl I h h1) (y : px_fi lo k h1 h2) (z : ∃ i ∈ I, i.1 ≤ lo ∧ lo + k ≤ i.1 + i.2) : px_fl I h h2 := px_fr_tr x y (fun q w => by
  obtain ⟨i, hi, h1, h2⟩ := z
  exact ⟨i, hi, by have := w.1; omega, by have := w.2; omega⟩)
theorem fl_one {a n : Nat} {h h1 : px_H} (x : px_fl [(a, n)] h h1) : px_fi a n h h1 := px_fr_tr (px_fr_rf _ _) x (fun q w => by
  obtain ⟨i, hi, h1, h2⟩ := w
  rw [List.mem_singleton] at hi
  subst hi
  exact ⟨h1, h2⟩)
theorem fl_mid {a n : Nat} {I : List (Nat × Nat)} {h h1 : px_H} (x : px_fl ((a, n) :: I) h h1) : ∃ hm, px_fi a n h hm ∧ px_fl I hm h1 := by
  refine ⟨(h.1, h.2.1, fun q => if a ≤ q ∧ q < a + n then h1.2.2 q else h.2.2 q), ⟨rfl, rfl, fun q hq => if_neg hq⟩, ⟨x.1, x.2.1, fun q hq => ?_⟩⟩
  show h1.2.2 q = if a ≤ q ∧ q < a + n then h1.2.2 q else h.2.2 q
  by_cases c : a ≤ q ∧ q < a + n
  · rw [if_pos c]
  · rw [if_neg c]
    refine x.2.2 q (fun w => ?_)
    obtain ⟨i, hi, h2⟩ := w
    rcases List.mem_cons.mp hi with e | e
    · subst e; exact c h2
    · exact hq ⟨i, e, h2⟩
theorem evPl_lt : ∀ (ev : List Ev) (i : Nat), ∀ p ∈ evPl ev i, i ≤ p ∧ p < i + ev.length
  | [], _, p, hp => nomatch hp
  | e :: r, i, p, hp => by
    rw [evPl] at hp
    rw [List.length_cons]
    have h := evPl_lt r (i + 1) p
    split at hp
    · rcases List.mem_cons.mp hp with z | z
      · omega
      · have := h z; omega
    · have := h hp; omega
theorem evs_ok {ev : List Ev} {ps : List Nat} (h : ∀ p ∈ ps, p < ev.length) (he : ∀ e ∈ ev, okEv e) : ∀ e ∈ evs ev ps, okEv e := fun x hx => by
  unfold evs at hx
  rw [List.mem_map] at hx
  obtain ⟨p, hp, rfl⟩ := hx
  exact he _ (getD_mem _ (h p hp))

set_option maxRecDepth 20000 in
set_option maxHeartbeats 4000000 in
theorem cc_JT_rp {h : px_H} {L S D n : Nat} {pz kk cf : Bool} {j : List St} {wo : Int32} {x : RO} {a : Nat} {ev : List Ev} {told : List Row} {os : Nat} {ks : Int32} {kept : List Nat} {ck : Nat} {un : List Nat} (H0 : pRun h wo x) (H1 : pOrA h 254) (H2 : pRwA h 265) (H3 : h.2.2 17 = some (11, [.ref (18), .int (nI L), .ref (S), .ref (D), .ref (175), .ref (177), .ref (249), .ref (254), .ref (256), .ref (258), .ref (261), .ref (265), .int (bI pz), .ref (267), .int (bI kk), .ref (268), .int (bI cf)])) (H4 : h.2.2 S = some (8, [.ref (S + 1), .ref (S + 5), .int (nI n)])) (H5 : pJob h (S + 1) j) (H6 : pCase h a ev told os ks kept ck un) (p0 : okJ j) (p1 : ∀ e ∈ ev, okEv e) (p2 : 18 < S ∧ S + 78 ≤ 175) (p3 : 18 < a ∧ a + 9 ≤ 175) : px_wp 112 [.ref (17), .ref (a)] h (fun h1 r => r = none ∧ pRun h1 (-3) (plO j ev) ∧ pOrA h1 254 ∧ pRows h1 265 96 (rsort (plO j ev).2.1) ∧ h1.2.2 17 = some (11, [.ref (18), .int (nI L), .ref (S), .ref (D), .ref (175), .ref (177), .ref (249), .ref (254), .ref (256), .ref (258), .ref (261), .ref (265), .int (bI ((plO j ev).2.2.1.isSome)), .ref (267), .int (bI kk), .ref (268), .int (bI cf)]) ∧ px_fl [(17, 1), (177, 72), (254, 2), (265, 2)] h h1) := by
  have fr0 : px_fl [(17, 1), (177, 72), (254, 2), (265, 2)] h h := fl_rf _ _
  show px_to 112 0 [some (.ref (17)), some (.ref (a))] [] h _
  have hoe : ∀ e ∈ ev, e.1 < 65536 := fun e he => by have := (p1 e he).1; omega
  have hpl : ∀ p ∈ evPl ev 0, p < ev.length := fun p hp => by have := evPl_lt ev 0 p hp; omega
  have hre := runO_ok (es := (evs ev (evPl ev 0))) p0 (evs_ok hpl p1)
  refine e_aload_n f_112_0 rfl rfl ?_
  refine e_getf f_112_1 H3 rfl rfl ?_
  refine e_aload_n f_112_4 rfl rfl ?_
  obtain ⟨ps1, g2⟩ := H1
  refine e_callV (As := [.ref (a)]) (rest := []) f_112_5 rfl rfl rfl (Nat.le_of_ble_eq_true rfl) (Nat.le_of_ble_eq_true rfl) g2.1 rfl (Nat.le_of_ble_eq_true rfl) (cc_Ord_plain (p := 254) (ps := ps1) (a := a) (ev := ev) (told := told) (os := os) (ks := ks) (kept := kept) (ck := ck) (un := un) g2 H6 (by omega) (by omega) (hoe)) rfl (fun h3 r4 q5 => ?_)
  obtain ⟨rfl, g6, fx7⟩ := q5
  have fr8 : px_fl [(17, 1), (177, 72), (254, 2), (265, 2)] h h3 := fl_tr fr0 fx7 (by first | exact ⟨_, List.mem_cons_self, by omega, by omega⟩ | exact ⟨_, List.mem_cons_of_mem _ (List.mem_cons_self), by omega, by omega⟩ | exact ⟨_, List.mem_cons_of_mem _ (List.mem_cons_of_mem _ (List.mem_cons_self)), by omega, by omega⟩ | exact ⟨_, List.mem_cons_of_mem _ (List.mem_cons_of_mem _ (List.mem_cons_of_mem _ (List.mem_cons_self))), by omega, by omega⟩)
  show px_to 112 8 [some (.ref (17)), some (.ref (a))] [] h3 _
  refine e_aload_n f_112_8 rfl rfl ?_
  have g9 : h3.2.2 17 = some (11, [.ref (18), .int (nI L), .ref (S), .ref (D), .ref (175), .ref (177), .ref (249), .ref (254), .ref (256), .ref (258), .ref (261), .ref (265), .int (bI pz), .ref (267), .int (bI kk), .ref (268), .int (bI cf)]) := fi_at H3 fx7 (by omega)
  refine e_getf f_112_9 g9 rfl rfl ?_
  refine e_aload_n f_112_12 rfl rfl ?_
  refine e_getf f_112_13 g9 rfl rfl ?_
  obtain ⟨hm11, fa12, fb13⟩ := fl_mid fr8
  obtain ⟨hm14, fa15, fb16⟩ := fl_mid fb13
  obtain ⟨hm17, fa18, fb19⟩ := fl_mid fb16
  have g10 : h3.2.2 S = some (8, [.ref (S + 1), .ref (S + 5), .int (nI n)]) := fi_at (fi_at (fi_at (fi_at H4 fa12 (by omega)) fa15 (by omega)) fa18 (by omega)) (fl_one fb19) (by omega)
  refine e_getf f_112_16 g10 rfl rfl ?_
  refine e_aload_n f_112_19 rfl rfl ?_
  refine e_aload_n f_112_20 rfl rfl ?_
  refine e_getf f_112_21 g9 rfl rfl ?_
  have g20 : pRun h3 wo x := pRun_fi H0 fx7 (by omega)
  obtain ⟨jb21, gv22, la23, lb24, A25, B26, W27, sms28, tl29, A330, B331, W332, S333, sm334, hl42, g35, g36, g37, g38, g39, g40, g41⟩ := id g20
  obtain ⟨hm44, fa45, fb46⟩ := fl_mid fr8
  obtain ⟨hm47, fa48, fb49⟩ := fl_mid fb46
  obtain ⟨hm50, fa51, fb52⟩ := fl_mid fb49
  have g43 : pJob h3 (S + 1) j := pJob_fi (pJob_fi (pJob_fi (pJob_fi H5 fa45 (by omega)) fa48 (by omega)) fa51 (by omega)) (fl_one fb52) (by omega)
  obtain ⟨hm54, fa55, fb56⟩ := fl_mid fr8
  obtain ⟨hm57, fa58, fb59⟩ := fl_mid fb56
  obtain ⟨hm60, fa61, fb62⟩ := fl_mid fb59
  have g53 : pCase h3 a ev told os ks kept ck un := pCase_fi (pCase_fi (pCase_fi (pCase_fi H6 fa55 (by omega)) fa58 (by omega)) fa61 (by omega)) (fl_one fb62) (by omega)
  refine e_callV (As := [.ref (S + 1), .ref (a), .ref (254)]) (rest := []) f_112_24 rfl rfl rfl (Nat.le_of_ble_eq_true rfl) (Nat.le_of_ble_eq_true rfl) g35 rfl (Nat.le_of_ble_eq_true rfl) (cc_Run_perf (od := 254) (ps := evPl ev 0) (j := j) (jb := S + 1) (a := a) (ev := ev) (told := told) (os := os) (ks := ks) (kept := kept) (ck := ck) (un := un) (jb0 := jb21) (gv := gv22) (la0 := la23) (lb0 := lb24) (z := x.2.2.1) (dn := x.2.2.2) (wo := wo) (A := A25) (B := B26) (W := W27) (S := x.1) (sms := sms28) (outs := x.2.1) (tl := tl29) (A3 := A330) (B3 := B331) (W3 := W332) (S3 := S333) (sm3 := sm334) g35 g36 g37 g38 g39 g40 g41 g43 g53 g6 (p0) (by omega) (by omega) (by omega) (hpl) (p1) (hl42)) rfl (fun h63 r64 q65 => ?_)
  obtain ⟨rfl, g66, g67, g68, g69, g70, g71, g72, fx73⟩ := q65
  have fr74 : px_fl [(17, 1), (177, 72), (254, 2), (265, 2)] h h63 := fl_tr fr8 fx73 (by first | exact ⟨_, List.mem_cons_self, by omega, by omega⟩ | exact ⟨_, List.mem_cons_of_mem _ (List.mem_cons_self), by omega, by omega⟩ | exact ⟨_, List.mem_cons_of_mem _ (List.mem_cons_of_mem _ (List.mem_cons_self)), by omega, by omega⟩ | exact ⟨_, List.mem_cons_of_mem _ (List.mem_cons_of_mem _ (List.mem_cons_of_mem _ (List.mem_cons_self))), by omega, by omega⟩)
  show px_to 112 27 [some (.ref (17)), some (.ref (a))] [] h63 _
  have okr75 := runS_ok (es := (evs ev (evPl ev 0))) (tl := tl29) p0 (evs_ok hpl p1) hl42
  have er76 := runO_eq j (evs ev (evPl ev 0)) tl29
  have g77 : pRun h63 (-3) (outOf (runS j (evs ev (evPl ev 0)) tl29)) := ⟨_, _, _, _, _, _, _, _, _, _, _, _, _, _, okr75.1.2.1, g66, g67, g68, g69, g70, g71, g72⟩
  have g78 : pRun h63 (-3) (runO j (evs ev (evPl ev 0))) := by have z := g77; rw [er76] at z; exact z
  obtain ⟨jb79, gv80, la81, lb82, A83, B84, W85, sms86, tl87, A388, B389, W390, S391, sm392, hl100, g93, g94, g95, g96, g97, g98, g99⟩ := id g78
  refine e_aload_n f_112_27 rfl rfl ?_
  have g101 : h63.2.2 17 = some (11, [.ref (18), .int (nI L), .ref (S), .ref (D), .ref (175), .ref (177), .ref (249), .ref (254), .ref (256), .ref (258), .ref (261), .ref (265), .int (bI pz), .ref (267), .int (bI kk), .ref (268), .int (bI cf)]) := fi_at g9 fx73 (by omega)
  refine e_getf f_112_28 g101 rfl rfl ?_
  refine e_aload_n f_112_31 rfl rfl ?_
  refine e_getf f_112_32 g101 rfl rfl ?_
  refine e_getf f_112_35 g93 rfl rfl ?_
  have g103 : pRwA h3 265 := pRwA_fi H2 fx7 (by omega)
  have g104 : pRwA h63 265 := pRwA_fi g103 fx73 (by omega)
  obtain ⟨q102, g105⟩ := id g104
  refine e_callV (As := [.ref (246)]) (rest := []) f_112_38 rfl rfl rfl (Nat.le_of_ble_eq_true rfl) (Nat.le_of_ble_eq_true rfl) g105.1 rfl (Nat.le_of_ble_eq_true rfl) (cc_Rows_sort (a := 265) (b := 246) (ca := 96) (cb := 96) (rs := q102) (ss := (runO j (evs ev (evPl ev 0))).2.1) g105 g97 (by omega) (hre.2.1) (by omega) (hre.1)) rfl (fun h106 r107 q108 => ?_)
  obtain ⟨rfl, g109, fx110⟩ := q108
  have fr111 : px_fl [(17, 1), (177, 72), (254, 2), (265, 2)] h h106 := fl_tr fr74 fx110 (by first | exact ⟨_, List.mem_cons_self, by omega, by omega⟩ | exact ⟨_, List.mem_cons_of_mem _ (List.mem_cons_self), by omega, by omega⟩ | exact ⟨_, List.mem_cons_of_mem _ (List.mem_cons_of_mem _ (List.mem_cons_self)), by omega, by omega⟩ | exact ⟨_, List.mem_cons_of_mem _ (List.mem_cons_of_mem _ (List.mem_cons_of_mem _ (List.mem_cons_self))), by omega, by omega⟩)
  show px_to 112 41 [some (.ref (17)), some (.ref (a))] [] h106 _
  refine e_aload_n f_112_41 rfl rfl ?_
  refine e_aload_n f_112_42 rfl rfl ?_
  have g112 : h106.2.2 17 = some (11, [.ref (18), .int (nI L), .ref (S), .ref (D), .ref (175), .ref (177), .ref (249), .ref (254), .ref (256), .ref (258), .ref (261), .ref (265), .int (bI pz), .ref (267), .int (bI kk), .ref (268), .int (bI cf)]) := fi_at g101 fx110 (by omega)
  refine e_getf f_112_43 g112 rfl rfl ?_
  have g113 : h106.2.2 177 = some (6, [.ref (jb79), .ref (182), .ref (214), .ref (246), .int (nI gv80), .int (bI la81), .int (bI lb82), .int (oI ((runO j (evs ev (evPl ev 0))).2.2.1)), .int ((runO j (evs ev (evPl ev 0))).2.2.2), .int ((-3)), .ref (248)]) := fi_at g93 fx110 (by omega)
  refine e_getf f_112_46 g113 rfl rfl ?_
  refine e_bipush (v := (-3)) f_112_49 (by decide) rfl ?_
  refine e_icmp_eq f_112_51 rfl (fun c_51 => ?_) (fun c_51 => ?_)
  · skip
    have hz := oI_z c_51 hre.2.2
    refine e_iconst (v := nI 0) f_112_58 (by decide) rfl ?_
    have hsm : (plO j ev).2.2.1.isSome = false := by show (runO j (evs ev (evPl ev 0))).2.2.1.isSome = _; rw [hz]; rfl
    show px_to 112 59 [some (.ref (17)), some (.ref (a))] [.int (bI false), .ref (17)] h106 _
    refine e_putp (vs' := [.ref (18), .int (nI L), .ref (S), .ref (D), .ref (175), .ref (177), .ref (249), .ref (254), .ref (256), .ref (258), .ref (261), .ref (265), .int (bI false), .ref (267), .int (bI kk), .ref (268), .int (bI cf)]) f_112_59 g112 (Nat.le_of_ble_eq_true rfl) (nw_bI _) (rfl) rfl rfl (fun h114 g115 fx116 => ?_)
    have fr117 : px_fl [(17, 1), (177, 72), (254, 2), (265, 2)] h h114 := fl_tr fr111 fx116 (by first | exact ⟨_, List.mem_cons_self, by omega, by omega⟩ | exact ⟨_, List.mem_cons_of_mem _ (List.mem_cons_self), by omega, by omega⟩ | exact ⟨_, List.mem_cons_of_mem _ (List.mem_cons_of_mem _ (List.mem_cons_self)), by omega, by omega⟩ | exact ⟨_, List.mem_cons_of_mem _ (List.mem_cons_of_mem _ (List.mem_cons_of_mem _ (List.mem_cons_self))), by omega, by omega⟩)
    refine e_vret f_112_62 rfl ?_
    have g118 : h114.2.2 177 = some (6, [.ref (jb79), .ref (182), .ref (214), .ref (246), .int (nI gv80), .int (bI la81), .int (bI lb82), .int (oI ((runO j (evs ev (evPl ev 0))).2.2.1)), .int ((runO j (evs ev (evPl ev 0))).2.2.2), .int ((-3)), .ref (248)]) := fi_at g113 fx116 (by omega)
    have g119 : h106.2.2 182 = some (2, [.int (A83), .int (B84), .int (W85), .int ((runO j (evs ev (evPl ev 0))).1), .ref (183)]) := fi_at g94 fx110 (by omega)
    have g120 : h114.2.2 182 = some (2, [.int (A83), .int (B84), .int (W85), .int ((runO j (evs ev (evPl ev 0))).1), .ref (183)]) := fi_at g119 fx116 (by omega)
    have g121 : px_rs h106 183 55 6 (fun k => 182 + 5 * k + 2) := rs_fi g95 fx110 (by omega)
    have g122 : px_rs h114 183 55 6 (fun k => 182 + 5 * k + 2) := rs_fi g121 fx116 (by omega)
    have g123 : pSt h106 182 sms86 := pSt_fi g96 fx110 (by omega)
    have g124 : pSt h114 182 sms86 := pSt_fi g123 fx116 (by omega)
    have g125 : pRows h106 246 96 ((runO j (evs ev (evPl ev 0))).2.1) := pRows_fi g97 fx110 (by omega)
    have g126 : pRows h114 246 96 ((runO j (evs ev (evPl ev 0))).2.1) := pRows_fi g125 fx116 (by omega)
    have g127 : px_pa h106 248 50 30 Value.int tl87 := pa_fi g98 fx110 (by omega)
    have g128 : px_pa h114 248 50 30 Value.int tl87 := pa_fi g127 fx116 (by omega)
    have g129 : pMm h106 214 A388 B389 W390 S391 sm392 := pMm_fi g99 fx110 (by omega)
    have g130 : pMm h114 214 A388 B389 W390 S391 sm392 := pMm_fi g129 fx116 (by omega)
    have g131 : pRun h114 (-3) (runO j (evs ev (evPl ev 0))) := ⟨_, _, _, _, _, _, _, _, _, _, _, _, _, _, hl100, g118, g120, g122, g124, g126, g128, g130⟩
    have g132 : pOrd h63 254 (evPl ev 0) := pOrd_fi g6 fx73 (by omega)
    have g133 : pOrd h106 254 (evPl ev 0) := pOrd_fi g132 fx110 (by omega)
    have g134 : pOrd h114 254 (evPl ev 0) := pOrd_fi g133 fx116 (by omega)
    have g135 : pOrA h114 254 := ⟨_, g134⟩
    have g136 : pRows h114 265 96 (rsort ((runO j (evs ev (evPl ev 0))).2.1)) := pRows_fi g109 fx116 (by omega)
    rw [hsm]
    exact ⟨rfl, g131, g135, g136, g115, fr117⟩
  · skip
    obtain ⟨zq, hz⟩ := oI_ne c_51
    refine e_iconst (v := nI 1) f_112_54 (by decide) rfl ?_
    refine e_goto f_112_55 ?_
    have hsm : (plO j ev).2.2.1.isSome = true := by show (runO j (evs ev (evPl ev 0))).2.2.1.isSome = _; rw [hz]; rfl
    show px_to 112 59 [some (.ref (17)), some (.ref (a))] [.int (bI true), .ref (17)] h106 _
    refine e_putp (vs' := [.ref (18), .int (nI L), .ref (S), .ref (D), .ref (175), .ref (177), .ref (249), .ref (254), .ref (256), .ref (258), .ref (261), .ref (265), .int (bI true), .ref (267), .int (bI kk), .ref (268), .int (bI cf)]) f_112_59 g112 (Nat.le_of_ble_eq_true rfl) (nw_bI _) (rfl) rfl rfl (fun h137 g138 fx139 => ?_)
    have fr140 : px_fl [(17, 1), (177, 72), (254, 2), (265, 2)] h h137 := fl_tr fr111 fx139 (by first | exact ⟨_, List.mem_cons_self, by omega, by omega⟩ | exact ⟨_, List.mem_cons_of_mem _ (List.mem_cons_self), by omega, by omega⟩ | exact ⟨_, List.mem_cons_of_mem _ (List.mem_cons_of_mem _ (List.mem_cons_self)), by omega, by omega⟩ | exact ⟨_, List.mem_cons_of_mem _ (List.mem_cons_of_mem _ (List.mem_cons_of_mem _ (List.mem_cons_self))), by omega, by omega⟩)
    refine e_vret f_112_62 rfl ?_
    have g141 : h137.2.2 177 = some (6, [.ref (jb79), .ref (182), .ref (214), .ref (246), .int (nI gv80), .int (bI la81), .int (bI lb82), .int (oI ((runO j (evs ev (evPl ev 0))).2.2.1)), .int ((runO j (evs ev (evPl ev 0))).2.2.2), .int ((-3)), .ref (248)]) := fi_at g113 fx139 (by omega)
    have g142 : h106.2.2 182 = some (2, [.int (A83), .int (B84), .int (W85), .int ((runO j (evs ev (evPl ev 0))).1), .ref (183)]) := fi_at g94 fx110 (by omega)
    have g143 : h137.2.2 182 = some (2, [.int (A83), .int (B84), .int (W85), .int ((runO j (evs ev (evPl ev 0))).1), .ref (183)]) := fi_at g142 fx139 (by omega)
    have g144 : px_rs h106 183 55 6 (fun k => 182 + 5 * k + 2) := rs_fi g95 fx110 (by omega)
    have g145 : px_rs h137 183 55 6 (fun k => 182 + 5 * k + 2) := rs_fi g144 fx139 (by omega)
    have g146 : pSt h106 182 sms86 := pSt_fi g96 fx110 (by omega)
    have g147 : pSt h137 182 sms86 := pSt_fi g146 fx139 (by omega)
    have g148 : pRows h106 246 96 ((runO j (evs ev (evPl ev 0))).2.1) := pRows_fi g97 fx110 (by omega)
    have g149 : pRows h137 246 96 ((runO j (evs ev (evPl ev 0))).2.1) := pRows_fi g148 fx139 (by omega)
    have g150 : px_pa h106 248 50 30 Value.int tl87 := pa_fi g98 fx110 (by omega)
    have g151 : px_pa h137 248 50 30 Value.int tl87 := pa_fi g150 fx139 (by omega)
    have g152 : pMm h106 214 A388 B389 W390 S391 sm392 := pMm_fi g99 fx110 (by omega)
    have g153 : pMm h137 214 A388 B389 W390 S391 sm392 := pMm_fi g152 fx139 (by omega)
    have g154 : pRun h137 (-3) (runO j (evs ev (evPl ev 0))) := ⟨_, _, _, _, _, _, _, _, _, _, _, _, _, _, hl100, g141, g143, g145, g147, g149, g151, g153⟩
    have g155 : pOrd h63 254 (evPl ev 0) := pOrd_fi g6 fx73 (by omega)
    have g156 : pOrd h106 254 (evPl ev 0) := pOrd_fi g155 fx110 (by omega)
    have g157 : pOrd h137 254 (evPl ev 0) := pOrd_fi g156 fx139 (by omega)
    have g158 : pOrA h137 254 := ⟨_, g157⟩
    have g159 : pRows h137 265 96 (rsort ((runO j (evs ev (evPl ev 0))).2.1)) := pRows_fi g109 fx139 (by omega)
    rw [hsm]
    exact ⟨rfl, g154, g158, g159, g138, fr140⟩

set_option maxRecDepth 20000 in
set_option maxHeartbeats 4000000 in
theorem cc_JT_ie {h : px_H} {bits : Int32} {rp : List Row} {L S D n : Nat} {pz kk cf : Bool} {j : List St} {wo : Int32} {x : RO} {a : Nat} {ev : List Ev} {told : List Row} {os : Nat} {ks : Int32} {kept : List Nat} {ck : Nat} {un : List Nat} (H0 : pRun h wo x) (H1 : pOrA h 254) (H2 : pJud h) (H3 : h.2.2 17 = some (11, [.ref (18), .int (nI L), .ref (S), .ref (D), .ref (175), .ref (177), .ref (249), .ref (254), .ref (256), .ref (258), .ref (261), .ref (265), .int (bI pz), .ref (267), .int (bI kk), .ref (268), .int (bI cf)])) (H4 : h.2.2 S = some (8, [.ref (S + 1), .ref (S + 5), .int (nI n)])) (H5 : pJob h (S + 1) j) (H6 : pCase h a ev told os ks kept ck un) (H7 : pRows h 265 96 rp) (p0 : okJ j) (p1 : ∀ e ∈ ev, okEv e) (p2 : 18 < S ∧ S + 78 ≤ 175) (p3 : 18 < a ∧ a + 9 ≤ 175) (p4 : schOk ev (bsOf bits (nAB ev)) 0 0) (p5 : rp = rsort (plO j ev).2.1) (p6 : pz = (plO j ev).2.2.1.isSome) : px_wp 113 [.ref (17), .ref (a), .int (bits)] h (fun h1 r => r = some (.int (bI (isEq j ev bits))) ∧ pRun h1 (-3) (scO j ev bits) ∧ pOrA h1 254 ∧ pJud h1 ∧ px_fi 177 79 h h1) := by
  have fr0 : px_fi 177 79 h h := fi_rf _ _ _
  show px_to 113 0 [some (.ref (17)), some (.ref (a)), some (.int (bits)), none] [] h _
  have hoe : ∀ e ∈ ev, e.1 < 65536 := fun e he => by have := (p1 e he).1; omega
  have hpl : ∀ p ∈ schL ev (bsOf bits (nAB ev)) 0 0, p < ev.length := schL_lt p4
  have hre := runO_ok (es := (evs ev (schL ev (bsOf bits (nAB ev)) 0 0))) p0 (evs_ok hpl p1)
  have hpp := runO_ok (es := (evs ev (evPl ev 0))) p0 (evs_ok (fun p hp => by have := evPl_lt ev 0 p hp; omega) p1)
  refine e_aload_n f_113_0 rfl rfl ?_
  refine e_getf f_113_1 H3 rfl rfl ?_
  refine e_aload_n f_113_4 rfl rfl ?_
  refine e_iload_n f_113_5 rfl rfl ?_
  obtain ⟨ps1, g2⟩ := H1
  refine e_callV (As := [.ref (a), .int (bits)]) (rest := []) f_113_6 rfl rfl rfl (Nat.le_of_ble_eq_true rfl) (Nat.le_of_ble_eq_true rfl) g2.1 rfl (Nat.le_of_ble_eq_true rfl) (cc_Ord_sch (bits := bits) (p := 254) (ps := ps1) (a := a) (ev := ev) (told := told) (os := os) (ks := ks) (kept := kept) (ck := ck) (un := un) g2 H6 (by omega) (by omega) (hoe) (p4)) rfl (fun h3 r4 q5 => ?_)
  obtain ⟨rfl, g6, fx7⟩ := q5
  have fr8 : px_fi 177 79 h h3 := fi_tr fr0 fx7 (by omega)
  show px_to 113 9 [some (.ref (17)), some (.ref (a)), some (.int (bits)), none] [] h3 _
  refine e_aload_n f_113_9 rfl rfl ?_
  have g9 : h3.2.2 17 = some (11, [.ref (18), .int (nI L), .ref (S), .ref (D), .ref (175), .ref (177), .ref (249), .ref (254), .ref (256), .ref (258), .ref (261), .ref (265), .int (bI pz), .ref (267), .int (bI kk), .ref (268), .int (bI cf)]) := fi_at H3 fr8 (by omega)
  refine e_getf f_113_10 g9 rfl rfl ?_
  refine e_aload_n f_113_13 rfl rfl ?_
  refine e_getf f_113_14 g9 rfl rfl ?_
  have g10 : h3.2.2 S = some (8, [.ref (S + 1), .ref (S + 5), .int (nI n)]) := fi_at H4 fr8 (by omega)
  refine e_getf f_113_17 g10 rfl rfl ?_
  refine e_aload_n f_113_20 rfl rfl ?_
  refine e_aload_n f_113_21 rfl rfl ?_
  refine e_getf f_113_22 g9 rfl rfl ?_
  have g11 : pRun h3 wo x := pRun_fi H0 fx7 (by omega)
  obtain ⟨jb12, gv13, la14, lb15, A16, B17, W18, sms19, tl20, A321, B322, W323, S324, sm325, hl33, g26, g27, g28, g29, g30, g31, g32⟩ := id g11
  have g34 : pJob h3 (S + 1) j := pJob_fi H5 fr8 (by omega)
  have g35 : pCase h3 a ev told os ks kept ck un := pCase_fi H6 fr8 (by omega)
  refine e_callV (As := [.ref (S + 1), .ref (a), .ref (254)]) (rest := []) f_113_25 rfl rfl rfl (Nat.le_of_ble_eq_true rfl) (Nat.le_of_ble_eq_true rfl) g26 rfl (Nat.le_of_ble_eq_true rfl) (cc_Run_perf (od := 254) (ps := schL ev (bsOf bits (evCnt false ev + evCnt true ev)) 0 0) (j := j) (jb := S + 1) (a := a) (ev := ev) (told := told) (os := os) (ks := ks) (kept := kept) (ck := ck) (un := un) (jb0 := jb12) (gv := gv13) (la0 := la14) (lb0 := lb15) (z := x.2.2.1) (dn := x.2.2.2) (wo := wo) (A := A16) (B := B17) (W := W18) (S := x.1) (sms := sms19) (outs := x.2.1) (tl := tl20) (A3 := A321) (B3 := B322) (W3 := W323) (S3 := S324) (sm3 := sm325) g26 g27 g28 g29 g30 g31 g32 g34 g35 g6 (p0) (by omega) (by omega) (by omega) (hpl) (p1) (hl33)) rfl (fun h36 r37 q38 => ?_)
  obtain ⟨rfl, g39, g40, g41, g42, g43, g44, g45, fx46⟩ := q38
  have fr47 : px_fi 177 79 h h36 := fi_tr fr8 fx46 (by omega)
  show px_to 113 28 [some (.ref (17)), some (.ref (a)), some (.int (bits)), none] [] h36 _
  have okr48 := runS_ok (es := (evs ev (schL ev (bsOf bits (nAB ev)) 0 0))) (tl := tl20) p0 (evs_ok hpl p1) hl33
  have er49 := runO_eq j (evs ev (schL ev (bsOf bits (nAB ev)) 0 0)) tl20
  have g50 : pRun h36 (-3) (outOf (runS j (evs ev (schL ev (bsOf bits (nAB ev)) 0 0)) tl20)) := ⟨_, _, _, _, _, _, _, _, _, _, _, _, _, _, okr48.1.2.1, g39, g40, g41, g42, g43, g44, g45⟩
  have g51 : pRun h36 (-3) (runO j (evs ev (schL ev (bsOf bits (nAB ev)) 0 0))) := by have z := g50; rw [er49] at z; exact z
  obtain ⟨jb52, gv53, la54, lb55, A56, B57, W58, sms59, tl60, A361, B362, W363, S364, sm365, hl73, g66, g67, g68, g69, g70, g71, g72⟩ := id g51
  refine e_aload_n f_113_28 rfl rfl ?_
  have g74 : h36.2.2 17 = some (11, [.ref (18), .int (nI L), .ref (S), .ref (D), .ref (175), .ref (177), .ref (249), .ref (254), .ref (256), .ref (258), .ref (261), .ref (265), .int (bI pz), .ref (267), .int (bI kk), .ref (268), .int (bI cf)]) := fi_at H3 fr47 (by omega)
  refine e_getf f_113_29 g74 rfl rfl ?_
  refine e_getf f_113_32 g66 rfl rfl ?_
  refine e_bipush (v := (-3)) f_113_35 (by decide) rfl ?_
  refine e_icmp_eq f_113_37 rfl (fun c_37 => ?_) (fun c_37 => ?_)
  · skip
    have hz : (scO j ev bits).2.2.1 = none := oI_z c_37 hre.2.2
    refine e_iconst (v := nI 0) f_113_44 (by decide) rfl ?_
    show px_to 113 45 [some (.ref (17)), some (.ref (a)), some (.int (bits)), none] [.int (bI false)] h36 _
    refine e_istore_n (L' := [some (.ref (17)), some (.ref (a)), some (.int (bits)), some (.int (bI false))]) f_113_45 (Nat.le_of_ble_eq_true rfl) rfl rfl ?_
    refine e_iload_n f_113_46 rfl rfl ?_
    refine e_aload_n f_113_47 rfl rfl ?_
    refine e_getf f_113_48 g74 rfl rfl ?_
    refine e_icmp_ne f_113_51 rfl (fun c_51 => ?_) (fun c_51 => ?_)
    · skip
      refine e_iconst (v := nI 0) f_113_79 (by decide) rfl ?_
      refine e_iret f_113_80 rfl (rfl) ?_
      have g75 : pRun h36 (-3) (runO j (evs ev (schL ev (bsOf bits (nAB ev)) 0 0))) := ⟨_, _, _, _, _, _, _, _, _, _, _, _, _, _, hl73, g66, g67, g68, g69, g70, g71, g72⟩
      have g76 : pOrd h36 254 (schL ev (bsOf bits (evCnt false ev + evCnt true ev)) 0 0) := pOrd_fi g6 fx46 (by omega)
      have g77 : pOrA h36 254 := ⟨_, g76⟩
      have g78 : pJud h3 := pJud_fi H2 fx7 (by omega)
      have g79 : pJud h36 := pJud_fi g78 fx46 (by omega)
      have hne : isEq j ev bits = false := decide_eq_false (fun e => c_51 (by rw [p6]; cases hq : (plO j ev).2.2.1 with
        | none => rfl
        | some y => exact absurd (e.1.mp hz) (by rw [hq]; exact fun z => nomatch z)))
      exact ⟨congrArg (fun z => some (Value.int z)) (b0 hne), g75, g77, g79, fr47⟩
    · skip
      refine e_aload_n f_113_54 rfl rfl ?_
      refine e_getf f_113_55 g74 rfl rfl ?_
      refine e_aload_n f_113_58 rfl rfl ?_
      refine e_getf f_113_59 g74 rfl rfl ?_
      refine e_aload_n f_113_62 rfl rfl ?_
      refine e_getf f_113_63 g74 rfl rfl ?_
      refine e_getf f_113_66 g66 rfl rfl ?_
      have g80 : pJud h3 := pJud_fi H2 fx7 (by omega)
      have g81 : pJud h36 := pJud_fi g80 fx46 (by omega)
      obtain ⟨g84, ⟨sa82, g85⟩, sb83, g86⟩ := g81
      have g87 : pRows h36 265 96 rp := pRows_fi H7 fr47 (by omega)
      refine e_callV (As := [.ref (265), .ref (246)]) (rest := []) f_113_69 rfl rfl rfl (Nat.le_of_ble_eq_true rfl) (Nat.le_of_ble_eq_true rfl) g84 rfl (Nat.le_of_ble_eq_true rfl) (cc_Jud_as (p := 265) (b := 246) (ss := rp) (cs := 96) (outs := (runO j (evs ev (schL ev (bsOf bits (nAB ev)) 0 0))).2.1) (s1 := sa82) (s2 := sb83) g84 g85 g86 g87 g70 (by rw [p5]; exact rsort_ok hpp.1) (hre.1) (by omega) (by omega) (by omega)) rfl (fun h88 r89 q90 => ?_)
      obtain ⟨rfl, g91, g92, g93, fx94⟩ := q90
      have fr95 : px_fi 177 79 h h88 := fi_tr fr47 fx94 (by omega)
      show px_to 113 72 [some (.ref (17)), some (.ref (a)), some (.int (bits)), some (.int (bI false))] [.int (bI (decide (rsort ((runO j (evs ev (schL ev (bsOf bits (nAB ev)) 0 0))).2.1) = rp)))] h88 _
      refine e_if_eq f_113_72 rfl (fun c_72 => ?_) (fun c_72 => ?_)
      · skip
        have c_72 : (decide (rsort ((runO j (evs ev (schL ev (bsOf bits (nAB ev)) 0 0))).2.1) = rp)) = false := bI_f c_72
        refine e_iconst (v := nI 0) f_113_79 (by decide) rfl ?_
        refine e_iret f_113_80 rfl (rfl) ?_
        have g96 : h88.2.2 177 = some (6, [.ref (jb52), .ref (182), .ref (214), .ref (246), .int (nI gv53), .int (bI la54), .int (bI lb55), .int (oI ((runO j (evs ev (schL ev (bsOf bits (nAB ev)) 0 0))).2.2.1)), .int ((runO j (evs ev (schL ev (bsOf bits (nAB ev)) 0 0))).2.2.2), .int ((-3)), .ref (248)]) := fi_at g66 fx94 (by omega)
        have g97 : h88.2.2 182 = some (2, [.int (A56), .int (B57), .int (W58), .int ((runO j (evs ev (schL ev (bsOf bits (nAB ev)) 0 0))).1), .ref (183)]) := fi_at g67 fx94 (by omega)
        have g98 : px_rs h88 183 55 6 (fun k => 182 + 5 * k + 2) := rs_fi g68 fx94 (by omega)
        have g99 : pSt h88 182 sms59 := pSt_fi g69 fx94 (by omega)
        have g100 : pRows h88 246 96 ((runO j (evs ev (schL ev (bsOf bits (nAB ev)) 0 0))).2.1) := pRows_fi g70 fx94 (by omega)
        have g101 : px_pa h88 248 50 30 Value.int tl60 := pa_fi g71 fx94 (by omega)
        have g102 : pMm h88 214 A361 B362 W363 S364 sm365 := pMm_fi g72 fx94 (by omega)
        have g103 : pRun h88 (-3) (runO j (evs ev (schL ev (bsOf bits (nAB ev)) 0 0))) := ⟨_, _, _, _, _, _, _, _, _, _, _, _, _, _, hl73, g96, g97, g98, g99, g100, g101, g102⟩
        have g104 : pOrd h36 254 (schL ev (bsOf bits (evCnt false ev + evCnt true ev)) 0 0) := pOrd_fi g6 fx46 (by omega)
        have g105 : pOrd h88 254 (schL ev (bsOf bits (evCnt false ev + evCnt true ev)) 0 0) := pOrd_fi g104 fx94 (by omega)
        have g106 : pOrA h88 254 := ⟨_, g105⟩
        have g107 : pJud h88 := ⟨g91, ⟨_, g92⟩, _, g93⟩
        have hpz : bI false = bI pz := Classical.not_not.mp c_51
        have hps : pz = false := by cases pz <;> first | rfl | exact absurd hpz (by decide)
        have hiff : (scO j ev bits).2.2.1 = none ↔ (plO j ev).2.2.1 = none := by
          rw [hps] at p6
          cases hq : (plO j ev).2.2.1 with
          | none => exact ⟨fun _ => rfl, fun _ => hz⟩
          | some y => rw [hq] at p6; exact absurd p6 Bool.false_ne_true
        have hne : isEq j ev bits = false := decide_eq_false (fun e => of_decide_eq_false c_72 (e.2.trans p5.symm))
        exact ⟨congrArg (fun z => some (Value.int z)) (b0 hne), g103, g106, g107, fr95⟩
      · skip
        have c_72 : (decide (rsort ((runO j (evs ev (schL ev (bsOf bits (nAB ev)) 0 0))).2.1) = rp)) = true := bI_t' c_72
        refine e_iconst (v := nI 1) f_113_75 (by decide) rfl ?_
        refine e_goto f_113_76 ?_
        refine e_iret f_113_80 rfl (rfl) ?_
        have g108 : h88.2.2 177 = some (6, [.ref (jb52), .ref (182), .ref (214), .ref (246), .int (nI gv53), .int (bI la54), .int (bI lb55), .int (oI ((runO j (evs ev (schL ev (bsOf bits (nAB ev)) 0 0))).2.2.1)), .int ((runO j (evs ev (schL ev (bsOf bits (nAB ev)) 0 0))).2.2.2), .int ((-3)), .ref (248)]) := fi_at g66 fx94 (by omega)
        have g109 : h88.2.2 182 = some (2, [.int (A56), .int (B57), .int (W58), .int ((runO j (evs ev (schL ev (bsOf bits (nAB ev)) 0 0))).1), .ref (183)]) := fi_at g67 fx94 (by omega)
        have g110 : px_rs h88 183 55 6 (fun k => 182 + 5 * k + 2) := rs_fi g68 fx94 (by omega)
        have g111 : pSt h88 182 sms59 := pSt_fi g69 fx94 (by omega)
        have g112 : pRows h88 246 96 ((runO j (evs ev (schL ev (bsOf bits (nAB ev)) 0 0))).2.1) := pRows_fi g70 fx94 (by omega)
        have g113 : px_pa h88 248 50 30 Value.int tl60 := pa_fi g71 fx94 (by omega)
        have g114 : pMm h88 214 A361 B362 W363 S364 sm365 := pMm_fi g72 fx94 (by omega)
        have g115 : pRun h88 (-3) (runO j (evs ev (schL ev (bsOf bits (nAB ev)) 0 0))) := ⟨_, _, _, _, _, _, _, _, _, _, _, _, _, _, hl73, g108, g109, g110, g111, g112, g113, g114⟩
        have g116 : pOrd h36 254 (schL ev (bsOf bits (evCnt false ev + evCnt true ev)) 0 0) := pOrd_fi g6 fx46 (by omega)
        have g117 : pOrd h88 254 (schL ev (bsOf bits (evCnt false ev + evCnt true ev)) 0 0) := pOrd_fi g116 fx94 (by omega)
        have g118 : pOrA h88 254 := ⟨_, g117⟩
        have g119 : pJud h88 := ⟨g91, ⟨_, g92⟩, _, g93⟩
        have hpz : bI false = bI pz := Classical.not_not.mp c_51
        have hps : pz = false := by cases pz <;> first | rfl | exact absurd hpz (by decide)
        have hiff : (scO j ev bits).2.2.1 = none ↔ (plO j ev).2.2.1 = none := by
          rw [hps] at p6
          cases hq : (plO j ev).2.2.1 with
          | none => exact ⟨fun _ => rfl, fun _ => hz⟩
          | some y => rw [hq] at p6; exact absurd p6 Bool.false_ne_true
        have hne : isEq j ev bits = true := decide_eq_true ⟨hiff, (of_decide_eq_true c_72).trans p5⟩
        exact ⟨congrArg (fun z => some (Value.int z)) (b1 hne), g115, g118, g119, fr95⟩
  · skip
    obtain ⟨zq, hz0⟩ := oI_ne c_37
    have hz : ¬ (scO j ev bits).2.2.1 = none := by show ¬ (runO j (evs ev (schL ev (bsOf bits (nAB ev)) 0 0))).2.2.1 = none; rw [hz0]; exact fun z => nomatch z
    refine e_iconst (v := nI 1) f_113_40 (by decide) rfl ?_
    refine e_goto f_113_41 ?_
    show px_to 113 45 [some (.ref (17)), some (.ref (a)), some (.int (bits)), none] [.int (bI true)] h36 _
    refine e_istore_n (L' := [some (.ref (17)), some (.ref (a)), some (.int (bits)), some (.int (bI true))]) f_113_45 (Nat.le_of_ble_eq_true rfl) rfl rfl ?_
    refine e_iload_n f_113_46 rfl rfl ?_
    refine e_aload_n f_113_47 rfl rfl ?_
    refine e_getf f_113_48 g74 rfl rfl ?_
    refine e_icmp_ne f_113_51 rfl (fun c_51 => ?_) (fun c_51 => ?_)
    · skip
      refine e_iconst (v := nI 0) f_113_79 (by decide) rfl ?_
      refine e_iret f_113_80 rfl (rfl) ?_
      have g120 : pRun h36 (-3) (runO j (evs ev (schL ev (bsOf bits (nAB ev)) 0 0))) := ⟨_, _, _, _, _, _, _, _, _, _, _, _, _, _, hl73, g66, g67, g68, g69, g70, g71, g72⟩
      have g121 : pOrd h36 254 (schL ev (bsOf bits (evCnt false ev + evCnt true ev)) 0 0) := pOrd_fi g6 fx46 (by omega)
      have g122 : pOrA h36 254 := ⟨_, g121⟩
      have g123 : pJud h3 := pJud_fi H2 fx7 (by omega)
      have g124 : pJud h36 := pJud_fi g123 fx46 (by omega)
      have hne : isEq j ev bits = false := decide_eq_false (fun e => c_51 (by rw [p6]; cases hq : (plO j ev).2.2.1 with
        | none => exact absurd (e.1.mpr hq) hz
        | some y => rfl))
      exact ⟨congrArg (fun z => some (Value.int z)) (b0 hne), g120, g122, g124, fr47⟩
    · skip
      refine e_aload_n f_113_54 rfl rfl ?_
      refine e_getf f_113_55 g74 rfl rfl ?_
      refine e_aload_n f_113_58 rfl rfl ?_
      refine e_getf f_113_59 g74 rfl rfl ?_
      refine e_aload_n f_113_62 rfl rfl ?_
      refine e_getf f_113_63 g74 rfl rfl ?_
      refine e_getf f_113_66 g66 rfl rfl ?_
      have g125 : pJud h3 := pJud_fi H2 fx7 (by omega)
      have g126 : pJud h36 := pJud_fi g125 fx46 (by omega)
      obtain ⟨g129, ⟨sa127, g130⟩, sb128, g131⟩ := g126
      have g132 : pRows h36 265 96 rp := pRows_fi H7 fr47 (by omega)
      refine e_callV (As := [.ref (265), .ref (246)]) (rest := []) f_113_69 rfl rfl rfl (Nat.le_of_ble_eq_true rfl) (Nat.le_of_ble_eq_true rfl) g129 rfl (Nat.le_of_ble_eq_true rfl) (cc_Jud_as (p := 265) (b := 246) (ss := rp) (cs := 96) (outs := (runO j (evs ev (schL ev (bsOf bits (nAB ev)) 0 0))).2.1) (s1 := sa127) (s2 := sb128) g129 g130 g131 g132 g70 (by rw [p5]; exact rsort_ok hpp.1) (hre.1) (by omega) (by omega) (by omega)) rfl (fun h133 r134 q135 => ?_)
      obtain ⟨rfl, g136, g137, g138, fx139⟩ := q135
      have fr140 : px_fi 177 79 h h133 := fi_tr fr47 fx139 (by omega)
      show px_to 113 72 [some (.ref (17)), some (.ref (a)), some (.int (bits)), some (.int (bI true))] [.int (bI (decide (rsort ((runO j (evs ev (schL ev (bsOf bits (nAB ev)) 0 0))).2.1) = rp)))] h133 _
      refine e_if_eq f_113_72 rfl (fun c_72 => ?_) (fun c_72 => ?_)
      · skip
        have c_72 : (decide (rsort ((runO j (evs ev (schL ev (bsOf bits (nAB ev)) 0 0))).2.1) = rp)) = false := bI_f c_72
        refine e_iconst (v := nI 0) f_113_79 (by decide) rfl ?_
        refine e_iret f_113_80 rfl (rfl) ?_
        have g141 : h133.2.2 177 = some (6, [.ref (jb52), .ref (182), .ref (214), .ref (246), .int (nI gv53), .int (bI la54), .int (bI lb55), .int (oI ((runO j (evs ev (schL ev (bsOf bits (nAB ev)) 0 0))).2.2.1)), .int ((runO j (evs ev (schL ev (bsOf bits (nAB ev)) 0 0))).2.2.2), .int ((-3)), .ref (248)]) := fi_at g66 fx139 (by omega)
        have g142 : h133.2.2 182 = some (2, [.int (A56), .int (B57), .int (W58), .int ((runO j (evs ev (schL ev (bsOf bits (nAB ev)) 0 0))).1), .ref (183)]) := fi_at g67 fx139 (by omega)
        have g143 : px_rs h133 183 55 6 (fun k => 182 + 5 * k + 2) := rs_fi g68 fx139 (by omega)
        have g144 : pSt h133 182 sms59 := pSt_fi g69 fx139 (by omega)
        have g145 : pRows h133 246 96 ((runO j (evs ev (schL ev (bsOf bits (nAB ev)) 0 0))).2.1) := pRows_fi g70 fx139 (by omega)
        have g146 : px_pa h133 248 50 30 Value.int tl60 := pa_fi g71 fx139 (by omega)
        have g147 : pMm h133 214 A361 B362 W363 S364 sm365 := pMm_fi g72 fx139 (by omega)
        have g148 : pRun h133 (-3) (runO j (evs ev (schL ev (bsOf bits (nAB ev)) 0 0))) := ⟨_, _, _, _, _, _, _, _, _, _, _, _, _, _, hl73, g141, g142, g143, g144, g145, g146, g147⟩
        have g149 : pOrd h36 254 (schL ev (bsOf bits (evCnt false ev + evCnt true ev)) 0 0) := pOrd_fi g6 fx46 (by omega)
        have g150 : pOrd h133 254 (schL ev (bsOf bits (evCnt false ev + evCnt true ev)) 0 0) := pOrd_fi g149 fx139 (by omega)
        have g151 : pOrA h133 254 := ⟨_, g150⟩
        have g152 : pJud h133 := ⟨g136, ⟨_, g137⟩, _, g138⟩
        have hpz : bI true = bI pz := Classical.not_not.mp c_51
        have hps : pz = true := by cases pz <;> first | rfl | exact absurd hpz (by decide)
        have hiff : (scO j ev bits).2.2.1 = none ↔ (plO j ev).2.2.1 = none := by
          rw [hps] at p6
          cases hq : (plO j ev).2.2.1 with
          | none => rw [hq] at p6; exact absurd p6 (by decide)
          | some y => exact ⟨fun e => absurd e hz, fun e => nomatch e⟩
        have hne : isEq j ev bits = false := decide_eq_false (fun e => of_decide_eq_false c_72 (e.2.trans p5.symm))
        exact ⟨congrArg (fun z => some (Value.int z)) (b0 hne), g148, g151, g152, fr140⟩
      · skip
        have c_72 : (decide (rsort ((runO j (evs ev (schL ev (bsOf bits (nAB ev)) 0 0))).2.1) = rp)) = true := bI_t' c_72
        refine e_iconst (v := nI 1) f_113_75 (by decide) rfl ?_
        refine e_goto f_113_76 ?_
        refine e_iret f_113_80 rfl (rfl) ?_
        have g153 : h133.2.2 177 = some (6, [.ref (jb52), .ref (182), .ref (214), .ref (246), .int (nI gv53), .int (bI la54), .int (bI lb55), .int (oI ((runO j (evs ev (schL ev (bsOf bits (nAB ev)) 0 0))).2.2.1)), .int ((runO j (evs ev (schL ev (bsOf bits (nAB ev)) 0 0))).2.2.2), .int ((-3)), .ref (248)]) := fi_at g66 fx139 (by omega)
        have g154 : h133.2.2 182 = some (2, [.int (A56), .int (B57), .int (W58), .int ((runO j (evs ev (schL ev (bsOf bits (nAB ev)) 0 0))).1), .ref (183)]) := fi_at g67 fx139 (by omega)
        have g155 : px_rs h133 183 55 6 (fun k => 182 + 5 * k + 2) := rs_fi g68 fx139 (by omega)
        have g156 : pSt h133 182 sms59 := pSt_fi g69 fx139 (by omega)
        have g157 : pRows h133 246 96 ((runO j (evs ev (schL ev (bsOf bits (nAB ev)) 0 0))).2.1) := pRows_fi g70 fx139 (by omega)
        have g158 : px_pa h133 248 50 30 Value.int tl60 := pa_fi g71 fx139 (by omega)
        have g159 : pMm h133 214 A361 B362 W363 S364 sm365 := pMm_fi g72 fx139 (by omega)
        have g160 : pRun h133 (-3) (runO j (evs ev (schL ev (bsOf bits (nAB ev)) 0 0))) := ⟨_, _, _, _, _, _, _, _, _, _, _, _, _, _, hl73, g153, g154, g155, g156, g157, g158, g159⟩
        have g161 : pOrd h36 254 (schL ev (bsOf bits (evCnt false ev + evCnt true ev)) 0 0) := pOrd_fi g6 fx46 (by omega)
        have g162 : pOrd h133 254 (schL ev (bsOf bits (evCnt false ev + evCnt true ev)) 0 0) := pOrd_fi g161 fx139 (by omega)
        have g163 : pOrA h133 254 := ⟨_, g162⟩
        have g164 : pJud h133 := ⟨g136, ⟨_, g137⟩, _, g138⟩
        have hpz : bI true = bI pz := Classical.not_not.mp c_51
        have hps : pz = true := by cases pz <;> first | rfl | exact absurd hpz (by decide)
        have hiff : (scO j ev bits).2.2.1 = none ↔ (plO j ev).2.2.1 = none := by
          rw [hps] at p6
          cases hq : (plO j ev).2.2.1 with
          | none => rw [hq] at p6; exact absurd p6 (by decide)
          | some y => exact ⟨fun e => absurd e hz, fun e => nomatch e⟩
        have hne : isEq j ev bits = true := decide_eq_true ⟨hiff, (of_decide_eq_true c_72).trans p5⟩
        exact ⟨congrArg (fun z => some (Value.int z)) (b1 hne), g160, g163, g164, fr140⟩
