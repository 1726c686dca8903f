def hasC (c : Int32) (n : Nat) : Bool := decide (0 ≤ c ∧ c < nI n)
theorem hasC_t {c : Int32} {n : Nat} (hn : n < 2 ^ 31) (h : hasC c n = true) : ∃ k, k < n ∧ c = nI k := by
  have h2 := of_decide_eq_true h
  have h3 := Int32.le_iff_toInt_le.mp h2.1
  have h4 := Int32.lt_iff_toInt_lt.mp h2.2
  rw [nI_toInt hn] at h4
  rw [show (0 : Int32).toInt = 0 by decide] at h3
  refine ⟨c.toInt.toNat, by omega, Int32.toInt_inj.mp ?_⟩
  rw [nI_toInt (by omega)]
  omega
theorem hasC_nI {k n : Nat} (hn : n < 2 ^ 31) (hk : k < n) : hasC (nI k) n = true := decide_eq_true ⟨by rw [← nI_0]; exact (nI_leI (by omega) (by omega)).mpr (Nat.zero_le _), (nI_ltI (by omega) hn).mpr hk⟩
/-- the runner between runs: what came of the last one -/
def pRun (h : px_H) (wo : Int32) (x : RO) : Prop := ∃ (jb gv : Nat) (la lb : Bool) (A B W : Int32) (sms : List SM) (tl : List Int32) (A3 B3 W3 S3 : Int32) (sm3 : List SM), tl.length = 30 ∧ h.2.2 177 = some (6, [.ref (jb), .ref (182), .ref (214), .ref (246), .int (nI gv), .int (bI la), .int (bI lb), .int (oI x.2.2.1), .int (x.2.2.2), .int (wo), .ref (248)]) ∧ h.2.2 182 = some (2, [.int (A), .int (B), .int (W), .int (x.1), .ref (183)]) ∧ px_rs h 183 55 6 (fun k => 182 + 5 * k + 2) ∧ pSt h 182 sms ∧ pRows h 246 96 x.2.1 ∧ px_pa h 248 50 30 Value.int tl ∧ pMm h 214 A3 B3 W3 S3 sm3
def pJud (h : px_H) : Prop := h.2.2 249 = some (1, [.ref 250, .ref 252]) ∧ (∃ s, pRows h 250 96 s) ∧ ∃ s, pRows h 252 96 s
theorem pJud_fi {h h1 : px_H} {lo n : Nat} (p : pJud h) (f : px_fi lo n h h1) (d : 254 ≤ lo ∨ lo + n ≤ 249) : pJud h1 := by
  obtain ⟨h1, ⟨s, h2⟩, s2, h3⟩ := p
  exact ⟨fi_at h1 f (by omega), ⟨s, pRows_fi h2 f (by omega)⟩, s2, pRows_fi h3 f (by omega)⟩
def pOrA (h : px_H) (a : Nat) : Prop := ∃ ps, pOrd h a ps
theorem pOrA_fi {h h1 : px_H} {a lo n : Nat} (p : pOrA h a) (f : px_fi lo n h h1) (d : a + 2 ≤ lo ∨ lo + n ≤ a) : pOrA h1 a := by
  obtain ⟨s, q⟩ := p
  exact ⟨s, pOrd_fi q f d⟩

theorem pRun_fi {h h1 : px_H} {wo : Int32} {x : RO} {lo n : Nat} (p : pRun h wo x) (f : px_fi lo n h h1) (d : 249 ≤ lo ∨ lo + n ≤ 177) : pRun h1 wo x := by
  obtain ⟨jb, gv, la, lb, A, B, W, sms, tl, A3, B3, W3, S3, sm3, hl, z1, z2, z3, z4, z5, z6, z7⟩ := p
  exact ⟨jb, gv, la, lb, A, B, W, sms, tl, A3, B3, W3, S3, sm3, hl, fi_at z1 f (by omega), fi_at z2 f (by omega), rs_fi z3 f (by omega), pSt_fi z4 f (by omega), pRows_fi z5 f (by omega), pa_fi z6 f (by omega), pMm_fi z7 f (by omega)⟩
theorem evs_all (ev : List Ev) : evs ev (List.range ev.length) = ev := by
  unfold evs
  apply List.ext_getElem
  · rw [List.length_map, List.length_range]
  · intro i h1 h2
    rw [List.getElem_map, List.getElem_range, getD_lt _ h2]
def okT (t : CT7) : Prop := okC3 (t.1, t.2.1, t.2.2.1)

set_option maxRecDepth 20000 in
set_option maxHeartbeats 4000000 in
theorem cc_JT_has {h : px_H} {c : Int32} {L S D n : Nat} {pz kk ck : Bool} (H0 : h.2.2 17 = some (11, [.ref (18), .int (nI L), .ref (S), .ref (D), .ref (175), .ref (177), .ref (249), .ref (254), .ref (256), .ref (258), .ref (261), .ref (265), .int (bI pz), .ref (267), .int (bI kk), .ref (268), .int (bI ck)])) (H1 : h.2.2 S = some (8, [.ref (S + 1), .ref (S + 5), .int (nI n)])) (p0 : n < 2 ^ 31) : px_wp 109 [.ref (17), .int (c)] h (fun h1 r => r = some (.int (bI (hasC c n))) ∧ h1 = h) := by
  show px_to 109 0 [some (.ref (17)), some (.int (c))] [] h _
  refine e_iload_n f_109_0 rfl rfl ?_
  refine e_if_lt f_109_1 rfl (fun c_1 => ?_) (fun c_1 => ?_)
  · skip
    refine e_iconst (v := nI 0) f_109_19 (by decide) rfl ?_
    refine e_iret f_109_20 rfl (rfl) ?_
    exact ⟨congrArg (fun z => some (Value.int z)) (b0 (decide_eq_false (fun z => Int32.not_le.mpr c_1 z.1))), rfl⟩
  · skip
    refine e_iload_n f_109_4 rfl rfl ?_
    refine e_aload_n f_109_5 rfl rfl ?_
    refine e_getf f_109_6 H0 rfl rfl ?_
    refine e_getf f_109_9 H1 rfl rfl ?_
    refine e_icmp_ge f_109_12 rfl (fun c_12 => ?_) (fun c_12 => ?_)
    · skip
      refine e_iconst (v := nI 0) f_109_19 (by decide) rfl ?_
      refine e_iret f_109_20 rfl (rfl) ?_
      exact ⟨congrArg (fun z => some (Value.int z)) (b0 (decide_eq_false (fun z => Int32.not_lt.mpr c_12 z.2))), rfl⟩
    · skip
      refine e_iconst (v := nI 1) f_109_15 (by decide) rfl ?_
      refine e_goto f_109_16 ?_
      refine e_iret f_109_20 rfl (rfl) ?_
      exact ⟨congrArg (fun z => some (Value.int z)) (b1 (decide_eq_true ⟨Int32.not_lt.mp c_1, Int32.not_le.mp c_12⟩)), rfl⟩

set_option maxRecDepth 20000 in
set_option maxHeartbeats 4000000 in
theorem cc_JT_rw {h : px_H} {c : Nat} {wo : Int32} {x : RO} {j : List St} {cs : List CT7} {L S D n : Nat} {pz kk ck : Bool} (H0 : pRun h wo x) (H1 : pOrA h 254) (H2 : h.2.2 17 = some (11, [.ref (18), .int (nI L), .ref (S), .ref (D), .ref (175), .ref (177), .ref (249), .ref (254), .ref (256), .ref (258), .ref (261), .ref (265), .int (bI pz), .ref (267), .int (bI kk), .ref (268), .int (bI ck)])) (H3 : h.2.2 S = some (8, [.ref (S + 1), .ref (S + 5), .int (nI n)])) (H4 : pJob h (S + 1) j) (H5 : px_rs h (S + 5) 56 8 (fun k => S + 9 * k + 6)) (H6 : pCs h S cs) (p0 : c < cs.length) (p1 : cs.length ≤ 8) (p2 : okJ j) (p3 : ∀ t ∈ cs, okT t) (p4 : 18 < S ∧ S + 78 ≤ 175) (p5 : (wo = nI c → x = runO j (cs.getD c ct0).1)) : px_wp 110 [.ref (17), .int (nI c)] h (fun h1 r => r = none ∧ pRun h1 (nI c) (runO j (cs.getD c ct0).1) ∧ pOrA h1 254 ∧ px_fj 177 72 254 2 h h1) := by
  have fr0 : px_fj 177 72 254 2 h h := fj_rf _ _ _ _ _
  show px_to 110 0 [some (.ref (17)), some (.int (nI c))] [] h _
  refine e_aload_n f_110_0 rfl rfl ?_
  refine e_getf f_110_1 H2 rfl rfl ?_
  obtain ⟨jb1, gv2, la3, lb4, A5, B6, W7, sms8, tl9, A310, B311, W312, S313, sm314, hl22, g15, g16, g17, g18, g19, g20, g21⟩ := id H0
  refine e_getf f_110_4 g15 rfl rfl ?_
  refine e_iload_n f_110_7 rfl rfl ?_
  refine e_icmp_eq f_110_8 rfl (fun c_8 => ?_) (fun c_8 => ?_)
  · skip
    refine e_vret f_110_62 rfl ?_
    have e5 := p5 c_8
    subst e5
    have e6 := c_8
    subst e6
    exact ⟨rfl, H0, H1, fr0⟩
  · skip
    have gc23 : pCase h (S + 9 * c + 6) ((cs.getD c ct0).1) ((cs.getD c ct0).2.1) ((cs.getD c ct0).2.2.1) ((cs.getD c ct0).2.2.2.1) ((cs.getD c ct0).2.2.2.2.1) ((cs.getD c ct0).2.2.2.2.2.1) ((cs.getD c ct0).2.2.2.2.2.2) := (pCs_get H6 (by omega) (by omega)).1
    have hct : okT (cs.getD c ct0) := p3 _ (getD_mem _ (by omega))
    refine e_aload_n f_110_11 rfl rfl ?_
    refine e_getf f_110_12 H2 rfl rfl ?_
    refine e_aload_n f_110_15 rfl rfl ?_
    refine e_getf f_110_16 H2 rfl rfl ?_
    refine e_getf f_110_19 H3 rfl rfl ?_
    refine e_iload_n f_110_22 rfl rfl ?_
    refine e_aaload_r f_110_23 (by decide) H5 (by first | omega | (simp only [List.length_set]; omega)) (by decide) rfl ?_
    show px_to 110 24 [some (.ref (17)), some (.int (nI c))] [.ref (S + 9 * c + 6), .ref (254)] h _
    obtain ⟨ps24, g25⟩ := H1
    refine e_callV (As := [.ref (S + 9 * c + 6)]) (rest := []) f_110_24 rfl rfl rfl (Nat.le_of_ble_eq_true rfl) (Nat.le_of_ble_eq_true rfl) g25.1 rfl (Nat.le_of_ble_eq_true rfl) (cc_Ord_all (p := 254) (ps := ps24) (a := S + 9 * c + 6) (ev := (cs.getD c ct0).1) (told := (cs.getD c ct0).2.1) (os := (cs.getD c ct0).2.2.1) (ks := (cs.getD c ct0).2.2.2.1) (kept := (cs.getD c ct0).2.2.2.2.1) (ck := (cs.getD c ct0).2.2.2.2.2.1) (un := (cs.getD c ct0).2.2.2.2.2.2) g25 gc23 (by omega) (by omega)) rfl (fun h26 r27 q28 => ?_)
    obtain ⟨rfl, g29, fx30⟩ := q28
    have fr31 : px_fj 177 72 254 2 h h26 := fj_tr fr0 fx30 (by omega)
    show px_to 110 27 [some (.ref (17)), some (.int (nI c))] [] h26 _
    refine e_aload_n f_110_27 rfl rfl ?_
    obtain ⟨hm33, fa34, fb35⟩ := fj_mid fr31
    have g32 : h26.2.2 17 = some (11, [.ref (18), .int (nI L), .ref (S), .ref (D), .ref (175), .ref (177), .ref (249), .ref (254), .ref (256), .ref (258), .ref (261), .ref (265), .int (bI pz), .ref (267), .int (bI kk), .ref (268), .int (bI ck)]) := fi_at (fi_at H2 fa34 (by omega)) fb35 (by omega)
    refine e_getf f_110_28 g32 rfl rfl ?_
    refine e_aload_n f_110_31 rfl rfl ?_
    refine e_getf f_110_32 g32 rfl rfl ?_
    obtain ⟨hm37, fa38, fb39⟩ := fj_mid fr31
    have g36 : h26.2.2 S = some (8, [.ref (S + 1), .ref (S + 5), .int (nI n)]) := fi_at (fi_at H3 fa38 (by omega)) fb39 (by omega)
    refine e_getf f_110_35 g36 rfl rfl ?_
    refine e_aload_n f_110_38 rfl rfl ?_
    refine e_getf f_110_39 g32 rfl rfl ?_
    refine e_getf f_110_42 g36 rfl rfl ?_
    refine e_iload_n f_110_45 rfl rfl ?_
    obtain ⟨hm41, fa42, fb43⟩ := fj_mid fr31
    have g40 : px_rs h26 (S + 5) 56 8 (fun k => S + 9 * k + 6) := rs_fi (rs_fi H5 fa42 (by omega)) fb43 (by omega)
    refine e_aaload_r f_110_46 (by decide) g40 (by first | omega | (simp only [List.length_set]; omega)) (by decide) rfl ?_
    show px_to 110 47 [some (.ref (17)), some (.int (nI c))] [.ref (S + 9 * c + 6), .ref (S + 1), .ref (177)] h26 _
    refine e_aload_n f_110_47 rfl rfl ?_
    refine e_getf f_110_48 g32 rfl rfl ?_
    have g44 : h26.2.2 177 = some (6, [.ref (jb1), .ref (182), .ref (214), .ref (246), .int (nI gv2), .int (bI la3), .int (bI lb4), .int (oI x.2.2.1), .int (x.2.2.2), .int (wo), .ref (248)]) := fi_at g15 fx30 (by omega)
    have g45 : h26.2.2 182 = some (2, [.int (A5), .int (B6), .int (W7), .int (x.1), .ref (183)]) := fi_at g16 fx30 (by omega)
    have g46 : px_rs h26 183 55 6 (fun k => 182 + 5 * k + 2) := rs_fi g17 fx30 (by omega)
    have g47 : pSt h26 182 sms8 := pSt_fi g18 fx30 (by omega)
    have g48 : pRows h26 246 96 x.2.1 := pRows_fi g19 fx30 (by omega)
    have g49 : px_pa h26 248 50 30 Value.int tl9 := pa_fi g20 fx30 (by omega)
    have g50 : pMm h26 214 A310 B311 W312 S313 sm314 := pMm_fi g21 fx30 (by omega)
    obtain ⟨hm52, fa53, fb54⟩ := fj_mid fr31
    have g51 : pJob h26 (S + 1) j := pJob_fi (pJob_fi H4 fa53 (by omega)) fb54 (by omega)
    obtain ⟨hm56, fa57, fb58⟩ := fj_mid fr31
    have g55 : pCase h26 (S + 9 * c + 6) ((cs.getD c ct0).1) ((cs.getD c ct0).2.1) ((cs.getD c ct0).2.2.1) ((cs.getD c ct0).2.2.2.1) ((cs.getD c ct0).2.2.2.2.1) ((cs.getD c ct0).2.2.2.2.2.1) ((cs.getD c ct0).2.2.2.2.2.2) := pCase_fi (pCase_fi gc23 fa57 (by omega)) fb58 (by omega)
    refine e_callV (As := [.ref (S + 1), .ref (S + 9 * c + 6), .ref (254)]) (rest := []) f_110_51 rfl rfl rfl (Nat.le_of_ble_eq_true rfl) (Nat.le_of_ble_eq_true rfl) g44 rfl (Nat.le_of_ble_eq_true rfl) (cc_Run_perf (od := 254) (ps := List.range ((cs.getD c ct0).1).length) (j := j) (jb := S + 1) (a := S + 9 * c + 6) (ev := (cs.getD c ct0).1) (told := (cs.getD c ct0).2.1) (os := (cs.getD c ct0).2.2.1) (ks := (cs.getD c ct0).2.2.2.1) (kept := (cs.getD c ct0).2.2.2.2.1) (ck := (cs.getD c ct0).2.2.2.2.2.1) (un := (cs.getD c ct0).2.2.2.2.2.2) (jb0 := jb1) (gv := gv2) (la0 := la3) (lb0 := lb4) (z := x.2.2.1) (dn := x.2.2.2) (wo := wo) (A := A5) (B := B6) (W := W7) (S := x.1) (sms := sms8) (outs := x.2.1) (tl := tl9) (A3 := A310) (B3 := B311) (W3 := W312) (S3 := S313) (sm3 := sm314) g44 g45 g46 g47 g48 g49 g50 g51 g55 g29 (p2) (by omega) (by omega) (by omega) (fun p hp => List.mem_range.mp hp) (hct.2.1) (hl22)) rfl (fun h59 r60 q61 => ?_)
    obtain ⟨rfl, g62, g63, g64, g65, g66, g67, g68, fx69⟩ := q61
    have fr70 : px_fj 177 72 254 2 h h59 := fj_tr fr31 fx69 (by omega)
    show px_to 110 54 [some (.ref (17)), some (.int (nI c))] [] h59 _
    refine e_aload_n f_110_54 rfl rfl ?_
    obtain ⟨hm72, fa73, fb74⟩ := fj_mid fr70
    have g71 : h59.2.2 17 = some (11, [.ref (18), .int (nI L), .ref (S), .ref (D), .ref (175), .ref (177), .ref (249), .ref (254), .ref (256), .ref (258), .ref (261), .ref (265), .int (bI pz), .ref (267), .int (bI kk), .ref (268), .int (bI ck)]) := fi_at (fi_at H2 fa73 (by omega)) fb74 (by omega)
    refine e_getf f_110_55 g71 rfl rfl ?_
    refine e_iload_n f_110_58 rfl rfl ?_
    refine e_putp (vs' := [.ref (S + 1), .ref (182), .ref (214), .ref (246), .int (nI ((runS j (evs ((cs.getD c ct0).1) (List.range ((cs.getD c ct0).1).length)) tl9).2.2.1)), .int (bI (lks false (evs ((cs.getD c ct0).1) (List.range ((cs.getD c ct0).1).length)))), .int (bI (lks true (evs ((cs.getD c ct0).1) (List.range ((cs.getD c ct0).1).length)))), .int (oI ((runS j (evs ((cs.getD c ct0).1) (List.range ((cs.getD c ct0).1).length)) tl9).1.2.2.2.2)), .int ((runS j (evs ((cs.getD c ct0).1) (List.range ((cs.getD c ct0).1).length)) tl9).2.2.2.2), .int (nI c), .ref (248)]) f_110_59 g62 (Nat.le_of_ble_eq_true rfl) (rfl) (rfl) rfl rfl (fun h75 g76 fx77 => ?_)
    have fr78 : px_fj 177 72 254 2 h h75 := fj_tr fr70 fx77 (by omega)
    refine e_vret f_110_62 rfl ?_
    have ok := runS_ok (es := evs (cs.getD c ct0).1 (List.range (cs.getD c ct0).1.length)) (tl := tl9) p2 (by rw [evs_all]; exact hct.2.1) hl22
    have er := runO_eq j (evs (cs.getD c ct0).1 (List.range (cs.getD c ct0).1.length)) tl9
    rw [evs_all] at er
    have g79 : h75.2.2 182 = some (2, [.int ((runS j (evs ((cs.getD c ct0).1) (List.range ((cs.getD c ct0).1).length)) tl9).2.1.1), .int ((runS j (evs ((cs.getD c ct0).1) (List.range ((cs.getD c ct0).1).length)) tl9).2.1.2.1), .int ((runS j (evs ((cs.getD c ct0).1) (List.range ((cs.getD c ct0).1).length)) tl9).2.1.2.2), .int ((runS j (evs ((cs.getD c ct0).1) (List.range ((cs.getD c ct0).1).length)) tl9).1.1), .ref (183)]) := fi_at g63 fx77 (by omega)
    have g80 : px_rs h75 183 55 6 (fun k => 182 + 5 * k + 2) := rs_fi g64 fx77 (by omega)
    have g81 : pSt h75 182 ((runS j (evs ((cs.getD c ct0).1) (List.range ((cs.getD c ct0).1).length)) tl9).1.2.1) := pSt_fi g65 fx77 (by omega)
    have g82 : pRows h75 246 96 ((runS j (evs ((cs.getD c ct0).1) (List.range ((cs.getD c ct0).1).length)) tl9).1.2.2.1) := pRows_fi g66 fx77 (by omega)
    have g83 : px_pa h75 248 50 30 Value.int ((runS j (evs ((cs.getD c ct0).1) (List.range ((cs.getD c ct0).1).length)) tl9).1.2.2.2.1) := pa_fi g67 fx77 (by omega)
    have g84 : pMm h75 214 ((runS j (evs ((cs.getD c ct0).1) (List.range ((cs.getD c ct0).1).length)) tl9).2.2.2.1.1) ((runS j (evs ((cs.getD c ct0).1) (List.range ((cs.getD c ct0).1).length)) tl9).2.2.2.1.2.1) ((runS j (evs ((cs.getD c ct0).1) (List.range ((cs.getD c ct0).1).length)) tl9).2.2.2.1.2.2.1) ((runS j (evs ((cs.getD c ct0).1) (List.range ((cs.getD c ct0).1).length)) tl9).2.2.2.1.2.2.2.1) ((runS j (evs ((cs.getD c ct0).1) (List.range ((cs.getD c ct0).1).length)) tl9).2.2.2.1.2.2.2.2) := pMm_fi g68 fx77 (by omega)
    have g85 : pRun h75 (nI c) (outOf (runS j (evs (cs.getD c ct0).1 (List.range (cs.getD c ct0).1.length)) tl9)) := ⟨_, _, _, _, _, _, _, _, _, _, _, _, _, _, ok.1.2.1, g76, g79, g80, g81, g82, g83, g84⟩
    have g86 : pOrd h59 254 (List.range ((cs.getD c ct0).1).length) := pOrd_fi g29 fx69 (by omega)
    have g87 : pOrd h75 254 (List.range ((cs.getD c ct0).1).length) := pOrd_fi g86 fx77 (by omega)
    have g88 : pOrA h75 254 := ⟨_, g87⟩
    rw [evs_all, er] at g85
    exact ⟨rfl, g85, g88, fr78⟩
