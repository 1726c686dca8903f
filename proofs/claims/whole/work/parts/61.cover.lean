def pRunT (h : px_H) (tl : List Int32) (wo0 : Int32) (x0 : RO) : Prop := ∃ (wo : Int32) (x : RO) (jb gv : Nat) (la lb : Bool) (A B W : Int32) (sms : List SM) (A3 B3 W3 S3 : Int32) (sm3 : List SM), h.2.2 177 = some (6, [.ref (jb), .ref (182), .ref (214), .ref (246), .int (nI gv), .int (bI la), .int (bI lb), .int (oI x.2.2.1), .int (x.2.2.2), .int (wo), .ref (248)]) ∧ h.2.2 182 = some (2, [.int (A), .int (B), .int (W), .int (x.1), .ref (183)]) ∧ px_rs h 183 55 6 (fun k => 182 + 5 * k + 2) ∧ pSt h 182 sms ∧ pRows h 246 96 x.2.1 ∧ px_pa h 248 50 30 Value.int tl ∧ pMm h 214 A3 B3 W3 S3 sm3 ∧ tl.length = 30 ∧ (wo = -3 ∨ (wo = wo0 ∧ x = x0))
theorem pRunT_fi {h h1 : px_H} {tl : List Int32} {wo0 : Int32} {x0 : RO} {lo n : Nat} (p : pRunT h tl wo0 x0) (f : px_fi lo n h h1) (d : 249 ≤ lo ∨ lo + n ≤ 177) : pRunT h1 tl wo0 x0 := by
  obtain ⟨wo, x, jb, gv, la, lb, A, B, W, sms, A3, B3, W3, S3, sm3, z1, z2, z3, z4, z5, z6, z7, hl, hw⟩ := p
  exact ⟨wo, x, jb, gv, la, lb, A, B, W, sms, A3, B3, W3, S3, sm3, fi_at z1 f (by omega), fi_at z2 f (by omega), rs_fi z3 f (by omega), pSt_fi z4 f (by omega), pRows_fi z5 f (by omega), pa_fi z6 f (by omega), pMm_fi z7 f (by omega), hl, hw⟩
def aCov (j : List St) (xs : List CS3) (s w : Int32) : Int32 := if hasC s j.length = true ∧ hasC w 5 = true then (covL j xs tl0).getD (nN s * 5 + nN w) 0 else -1
theorem covL_len {j : List St} (hj : okJ j) : ∀ (xs : List CS3) (tl : List Int32), (∀ x ∈ xs, okC3 x) → tl.length = 30 → (covL j xs tl).length = 30
  | [], _, _, h => h
  | x :: r, tl, hx, h => by
    show (covL j r ((runS j x.1 tl).1.2.2.2.1)).length = 30
    exact covL_len hj r _ (fun y hy => hx y (List.mem_cons_of_mem _ hy)) (runS_ok hj (hx x List.mem_cons_self).2.1 h).1.2.1
theorem drop_c3 {cs : List CT7} {c : Nat} (h : c < cs.length) : (cs.map c3of).drop c = c3of (cs.getD c ct0) :: (cs.map c3of).drop (c + 1) := by
  rw [drop_step c30 (by rw [List.length_map]; exact h), map_c3 h]

set_option maxRecDepth 20000 in
set_option maxHeartbeats 4000000 in
theorem ll_JT_cov {P : px_H → Option Value → Prop} {h0 : px_H} {wo0 : Int32} {x0 : RO} {y : List Int32} {j : List St} {cs : List CT7} {L S D : Nat} {pz kk ck : Bool} (HJ : h0.2.2 17 = some (11, [.ref (18), .int (nI L), .ref (S), .ref (D), .ref (175), .ref (177), .ref (249), .ref (254), .ref (256), .ref (258), .ref (261), .ref (265), .int (bI pz), .ref (267), .int (bI kk), .ref (268), .int (bI ck)])) (HS : h0.2.2 S = some (8, [.ref (S + 1), .ref (S + 5), .int (nI cs.length)])) (HB : pJob h0 (S + 1) j) (HR : px_rs h0 (S + 5) 56 8 (fun k => S + 9 * k + 6)) (HC : pCs h0 S cs) (p2 : okJ j) (p3 : ∀ t ∈ cs, okT t) (p4 : cs.length ≤ 8) (p5 : 18 < S ∧ S + 78 ≤ 175) (kx : ∀ g, pRunT g y wo0 x0 → pOrA g 254 → px_fj 177 72 254 2 h0 g → px_to 115 77 [some (.ref (17)), none] [] g P) : ∀ (d : Nat) (c : Nat) (tl : List Int32) (g : px_H), (cs.length ≤ c + d) → (c ≤ cs.length) → (covL j ((cs.map c3of).drop c) tl = y) → pRunT g tl wo0 x0 → pOrA g 254 → px_fj 177 72 254 2 h0 g → px_to 115 17 [some (.ref (17)), some (.int (nI c))] [] g P := by
  intro d
  induction d using Nat.strongRecOn with
  | ind d ih =>
    intro c tl g q0 q1 q2 G0 G1 frg
    refine e_iload_n f_115_17 rfl rfl ?_
    refine e_aload_n f_115_18 rfl rfl ?_
    obtain ⟨hm2, fa3, fb4⟩ := fj_mid frg
    have g1 : g.2.2 17 = some (11, [.ref (18), .int (nI L), .ref (S), .ref (D), .ref (175), .ref (177), .ref (249), .ref (254), .ref (256), .ref (258), .ref (261), .ref (265), .int (bI pz), .ref (267), .int (bI kk), .ref (268), .int (bI ck)]) := fi_at (fi_at HJ fa3 (by omega)) fb4 (by omega)
    refine e_getf f_115_19 g1 rfl rfl ?_
    obtain ⟨hm6, fa7, fb8⟩ := fj_mid frg
    have g5 : g.2.2 S = some (8, [.ref (S + 1), .ref (S + 5), .int (nI cs.length)]) := fi_at (fi_at HS fa7 (by omega)) fb8 (by omega)
    refine e_getf f_115_22 g5 rfl rfl ?_
    refine e_icmp_ge f_115_25 rfl (fun c_25 => ?_) (fun c_25 => ?_)
    · skip
      have c_25 : cs.length ≤ c := cv_le (by omega) (by omega) c_25
      refine px_to_L (L := [some (.ref (17)), none]) ⟨Or.inr rfl, Or.inl rfl, trivial⟩ ?_
      rw [List.drop_eq_nil_of_le (by rw [List.length_map]; omega)] at q2
      have q2 : tl = y := q2
      subst q2
      exact kx g G0 G1 frg
    · skip
      have c_25 : c < cs.length := cv_nle (by omega) (by omega) c_25
      have gc9 : pCase h0 (S + 9 * c + 6) ((cs.getD c ct0).1) ((cs.getD c ct0).2.1) ((cs.getD c ct0).2.2.1) ((cs.getD c ct0).2.2.2.1) ((cs.getD c ct0).2.2.2.2.1) ((cs.getD c ct0).2.2.2.2.2.1) ((cs.getD c ct0).2.2.2.2.2.2) := (pCs_get (k := c) HC (by omega) (by omega)).1
      have hct : okT (cs.getD c ct0) := p3 _ (getD_mem _ (by omega))
      refine e_aload_n f_115_28 rfl rfl ?_
      refine e_getf f_115_29 g1 rfl rfl ?_
      refine e_aload_n f_115_32 rfl rfl ?_
      refine e_getf f_115_33 g1 rfl rfl ?_
      refine e_getf f_115_36 g5 rfl rfl ?_
      refine e_iload_n f_115_39 rfl rfl ?_
      obtain ⟨hm11, fa12, fb13⟩ := fj_mid frg
      have g10 : px_rs g (S + 5) 56 8 (fun k => S + 9 * k + 6) := rs_fi (rs_fi HR fa12 (by omega)) fb13 (by omega)
      refine e_aaload_r f_115_40 (by decide) g10 (by first | omega | (simp only [List.length_set]; omega)) (by decide) rfl ?_
      show px_to 115 41 [some (.ref (17)), some (.int (nI c))] [.ref (S + 9 * c + 6), .ref (254)] g _
      obtain ⟨ps14, g15⟩ := G1
      obtain ⟨hm17, fa18, fb19⟩ := fj_mid frg
      have g16 : pCase g (S + 9 * c + 6) ((cs.getD c ct0).1) ((cs.getD c ct0).2.1) ((cs.getD c ct0).2.2.1) ((cs.getD c ct0).2.2.2.1) ((cs.getD c ct0).2.2.2.2.1) ((cs.getD c ct0).2.2.2.2.2.1) ((cs.getD c ct0).2.2.2.2.2.2) := pCase_fi (pCase_fi gc9 fa18 (by omega)) fb19 (by omega)
      refine e_callV (As := [.ref (S + 9 * c + 6)]) (rest := []) f_115_41 rfl rfl rfl (Nat.le_of_ble_eq_true rfl) (Nat.le_of_ble_eq_true rfl) g15.1 rfl (Nat.le_of_ble_eq_true rfl) (cc_Ord_all (p := 254) (ps := ps14) (a := S + 9 * c + 6) (ev := (cs.getD c ct0).1) (told := (cs.getD c ct0).2.1) (os := (cs.getD c ct0).2.2.1) (ks := (cs.getD c ct0).2.2.2.1) (kept := (cs.getD c ct0).2.2.2.2.1) (ck := (cs.getD c ct0).2.2.2.2.2.1) (un := (cs.getD c ct0).2.2.2.2.2.2) g15 g16 (by omega) (by omega)) rfl (fun h20 r21 q22 => ?_)
      obtain ⟨rfl, g23, fx24⟩ := q22
      have fr25 : px_fj 177 72 254 2 h0 h20 := fj_tr frg fx24 (by omega)
      show px_to 115 44 [some (.ref (17)), some (.int (nI c))] [] h20 _
      refine e_aload_n f_115_44 rfl rfl ?_
      obtain ⟨hm27, fa28, fb29⟩ := fj_mid fr25
      have g26 : h20.2.2 17 = some (11, [.ref (18), .int (nI L), .ref (S), .ref (D), .ref (175), .ref (177), .ref (249), .ref (254), .ref (256), .ref (258), .ref (261), .ref (265), .int (bI pz), .ref (267), .int (bI kk), .ref (268), .int (bI ck)]) := fi_at (fi_at HJ fa28 (by omega)) fb29 (by omega)
      refine e_getf f_115_45 g26 rfl rfl ?_
      refine e_aload_n f_115_48 rfl rfl ?_
      refine e_getf f_115_49 g26 rfl rfl ?_
      obtain ⟨hm31, fa32, fb33⟩ := fj_mid fr25
      have g30 : h20.2.2 S = some (8, [.ref (S + 1), .ref (S + 5), .int (nI cs.length)]) := fi_at (fi_at HS fa32 (by omega)) fb33 (by omega)
      refine e_getf f_115_52 g30 rfl rfl ?_
      refine e_aload_n f_115_55 rfl rfl ?_
      refine e_getf f_115_56 g26 rfl rfl ?_
      refine e_getf f_115_59 g30 rfl rfl ?_
      refine e_iload_n f_115_62 rfl rfl ?_
      obtain ⟨hm35, fa36, fb37⟩ := fj_mid fr25
      have g34 : px_rs h20 (S + 5) 56 8 (fun k => S + 9 * k + 6) := rs_fi (rs_fi HR fa36 (by omega)) fb37 (by omega)
      refine e_aaload_r f_115_63 (by decide) g34 (by first | omega | (simp only [List.length_set]; omega)) (by decide) rfl ?_
      show px_to 115 64 [some (.ref (17)), some (.int (nI c))] [.ref (S + 9 * c + 6), .ref (S + 1), .ref (177)] h20 _
      refine e_aload_n f_115_64 rfl rfl ?_
      refine e_getf f_115_65 g26 rfl rfl ?_
      have g53 : pRunT h20 tl wo0 x0 := pRunT_fi G0 fx24 (by omega)
      obtain ⟨wo38, xo39, jb40, gv41, la42, lb43, A44, B45, W46, sms47, A348, B349, W350, S351, sm352, g54, g55, g56, g57, g58, g59, g60, htl61, hwo62⟩ := id g53
      obtain ⟨hm64, fa65, fb66⟩ := fj_mid fr25
      have g63 : pJob h20 (S + 1) j := pJob_fi (pJob_fi HB fa65 (by omega)) fb66 (by omega)
      obtain ⟨hm68, fa69, fb70⟩ := fj_mid fr25
      have g67 : pCase h20 (S + 9 * c + 6) ((cs.getD c ct0).1) ((cs.getD c ct0).2.1) ((cs.getD c ct0).2.2.1) ((cs.getD c ct0).2.2.2.1) ((cs.getD c ct0).2.2.2.2.1) ((cs.getD c ct0).2.2.2.2.2.1) ((cs.getD c ct0).2.2.2.2.2.2) := pCase_fi (pCase_fi gc9 fa69 (by omega)) fb70 (by omega)
      refine e_callV (As := [.ref (S + 1), .ref (S + 9 * c + 6), .ref (254)]) (rest := []) f_115_68 rfl rfl rfl (Nat.le_of_ble_eq_true rfl) (Nat.le_of_ble_eq_true rfl) g54 rfl (Nat.le_of_ble_eq_true rfl) (cc_Run_perf (od := 254) (ps := List.range ((cs.getD c ct0).1).length) (j := j) (jb := S + 1) (a := S + 9 * c + 6) (ev := (cs.getD c ct0).1) (told := (cs.getD c ct0).2.1) (os := (cs.getD c ct0).2.2.1) (ks := (cs.getD c ct0).2.2.2.1) (kept := (cs.getD c ct0).2.2.2.2.1) (ck := (cs.getD c ct0).2.2.2.2.2.1) (un := (cs.getD c ct0).2.2.2.2.2.2) (jb0 := jb40) (gv := gv41) (la0 := la42) (lb0 := lb43) (z := xo39.2.2.1) (dn := xo39.2.2.2) (wo := wo38) (A := A44) (B := B45) (W := W46) (S := xo39.1) (sms := sms47) (outs := xo39.2.1) (tl := tl) (A3 := A348) (B3 := B349) (W3 := W350) (S3 := S351) (sm3 := sm352) g54 g55 g56 g57 g58 g59 g60 g63 g67 g23 (p2) (by omega) (by omega) (by omega) (fun p hp => List.mem_range.mp hp) (hct.2.1) (htl61)) rfl (fun h71 r72 q73 => ?_)
      obtain ⟨rfl, g74, g75, g76, g77, g78, g79, g80, fx81⟩ := q73
      have fr82 : px_fj 177 72 254 2 h0 h71 := fj_tr fr25 fx81 (by omega)
      show px_to 115 71 [some (.ref (17)), some (.int (nI c))] [] h71 _
      refine e_iinc (y := nI (c + 1)) (L' := [some (.ref (17)), some (.int (nI (c + 1)))]) f_115_71 rfl (by rw [show Int32.ofInt 1 = nI 1 by decide]; exact (nI_add _ _)) rfl rfl ?_
      refine e_goto f_115_74 ?_
      have okr := runS_ok (es := (evs (cs.getD c ct0).1 (List.range (cs.getD c ct0).1.length))) (tl := tl) p2 (by rw [evs_all]; exact hct.2.1) htl61
      have g83 : pRunT h71 (runS j (evs (cs.getD c ct0).1 (List.range (cs.getD c ct0).1.length)) tl).1.2.2.2.1 wo0 x0 := ⟨_, outOf (runS j (evs (cs.getD c ct0).1 (List.range (cs.getD c ct0).1.length)) tl), _, _, _, _, _, _, _, _, _, _, _, _, _, g74, g75, g76, g77, g78, g79, g80, okr.1.2.1, Or.inl rfl⟩
      rw [evs_all] at g83
      have g84 : pOrd h71 254 (List.range ((cs.getD c ct0).1).length) := pOrd_fi g23 fx81 (by omega)
      have g85 : pOrA h71 254 := ⟨_, g84⟩
      first | (exfalso; omega) | exact ih (d - 1) (by omega) (c + 1) ((runS j (cs.getD c ct0).1 tl).1.2.2.2.1) h71 (by omega) (by omega) (by rw [drop_c3 (by omega)] at q2; exact q2) g83 g85 fr82

set_option maxRecDepth 20000 in
set_option maxHeartbeats 4000000 in
theorem cc_JT_cov {h : px_H} {wo : Int32} {x : RO} {cv : List Int32} {j : List St} {cs : List CT7} {L S D : Nat} {pz kk ck : Bool} (H0 : pRun h wo x) (H1 : pOrA h 254) (H2 : h.2.2 17 = some (11, [.ref (18), .int (nI L), .ref (S), .ref (D), .ref (175), .ref (177), .ref (249), .ref (254), .ref (256), .ref (258), .ref (261), .ref (265), .int (bI pz), .ref (267), .int (bI kk), .ref (268), .int (bI ck)])) (H3 : px_pa h 268 50 30 Value.int cv) (H4 : h.2.2 S = some (8, [.ref (S + 1), .ref (S + 5), .int (nI cs.length)])) (H5 : pJob h (S + 1) j) (H6 : px_rs h (S + 5) 56 8 (fun k => S + 9 * k + 6)) (H7 : pCs h S cs) (p0 : (ck = true → cv = covL j (cs.map c3of) tl0)) (p1 : cv.length = 30) (p2 : okJ j) (p3 : ∀ t ∈ cs, okT t) (p4 : cs.length ≤ 8) (p5 : 18 < S ∧ S + 78 ≤ 175) : px_wp 115 [.ref (17)] h (fun h1 r => r = none ∧ pRunE h1 wo x ∧ pOrA h1 254 ∧ h1.2.2 17 = some (11, [.ref (18), .int (nI L), .ref (S), .ref (D), .ref (175), .ref (177), .ref (249), .ref (254), .ref (256), .ref (258), .ref (261), .ref (265), .int (bI pz), .ref (267), .int (bI kk), .ref (268), .int (bI true)]) ∧ px_pa h1 268 50 30 Value.int (covL j (cs.map c3of) tl0) ∧ px_fl [(17, 1), (177, 72), (254, 2), (268, 1)] h h1) := by
  have fr0 : px_fl [(17, 1), (177, 72), (254, 2), (268, 1)] h h := fl_rf _ _
  show px_to 115 0 [some (.ref (17)), none] [] h _
  refine e_aload_n f_115_0 rfl rfl ?_
  refine e_getf f_115_1 H2 rfl rfl ?_
  refine e_if_eq f_115_4 rfl (fun c_4 => ?_) (fun c_4 => ?_)
  · skip
    have c_4 : ck = false := bI_f c_4
    refine e_aload_n f_115_8 rfl rfl ?_
    refine e_getf f_115_9 H2 rfl rfl ?_
    obtain ⟨jb1, gv2, la3, lb4, A5, B6, W7, sms8, tl9, A310, B311, W312, S313, sm314, hl22, g15, g16, g17, g18, g19, g20, g21⟩ := id H0
    refine e_callV (As := []) (rest := []) f_115_12 rfl rfl rfl (Nat.le_of_ble_eq_true rfl) (Nat.le_of_ble_eq_true rfl) g15 rfl (Nat.le_of_ble_eq_true rfl) (cc_Run_clr (tl := tl9) (jb := jb1) (gv := gv2) (la := la3) (lb := lb4) (z := x.2.2.1) (dn := x.2.2.2) (wo := wo) g15 g20 (hl22)) rfl (fun h23 r24 q25 => ?_)
    obtain ⟨rfl, g26, fx27⟩ := q25
    have fr28 : px_fl [(17, 1), (177, 72), (254, 2), (268, 1)] h h23 := fl_tr fr0 fx27 (by first | exact ⟨_, List.mem_cons_self, by omega, by omega⟩ | exact ⟨_, List.mem_cons_of_mem _ (List.mem_cons_self), by omega, by omega⟩ | exact ⟨_, List.mem_cons_of_mem _ (List.mem_cons_of_mem _ (List.mem_cons_self)), by omega, by omega⟩ | exact ⟨_, List.mem_cons_of_mem _ (List.mem_cons_of_mem _ (List.mem_cons_of_mem _ (List.mem_cons_self))), by omega, by omega⟩)
    show px_to 115 15 [some (.ref (17)), none] [] h23 _
    refine e_iconst (v := nI 0) f_115_15 (by decide) rfl ?_
    refine e_istore_n (L' := [some (.ref (17)), some (.int (nI 0))]) f_115_16 (Nat.le_of_ble_eq_true rfl) rfl rfl ?_
    have g29 : h23.2.2 177 = some (6, [.ref (jb1), .ref (182), .ref (214), .ref (246), .int (nI gv2), .int (bI la3), .int (bI lb4), .int (oI x.2.2.1), .int (x.2.2.2), .int (wo), .ref (248)]) := fi_at g15 fx27 (by omega)
    have g30 : h23.2.2 182 = some (2, [.int (A5), .int (B6), .int (W7), .int (x.1), .ref (183)]) := fi_at g16 fx27 (by omega)
    have g31 : px_rs h23 183 55 6 (fun k => 182 + 5 * k + 2) := rs_fi g17 fx27 (by omega)
    have g32 : pSt h23 182 sms8 := pSt_fi g18 fx27 (by omega)
    have g33 : pRows h23 246 96 x.2.1 := pRows_fi g19 fx27 (by omega)
    have g34 : pMm h23 214 A310 B311 W312 S313 sm314 := pMm_fi g21 fx27 (by omega)
    have g35 : pRunT h23 tl0 wo x := ⟨_, _, _, _, _, _, _, _, _, _, _, _, _, _, _, g29, g30, g31, g32, g33, g26, g34, List.length_replicate, Or.inr ⟨rfl, rfl⟩⟩
    have g36 : h23.2.2 17 = some (11, [.ref (18), .int (nI L), .ref (S), .ref (D), .ref (175), .ref (177), .ref (249), .ref (254), .ref (256), .ref (258), .ref (261), .ref (265), .int (bI pz), .ref (267), .int (bI kk), .ref (268), .int (bI ck)]) := fi_at H2 fx27 (by omega)
    obtain ⟨hm38, fa39, fb40⟩ := fl_mid fr28
    obtain ⟨hm41, fa42, fb43⟩ := fl_mid fb40
    obtain ⟨hm44, fa45, fb46⟩ := fl_mid fb43
    have g37 : h23.2.2 S = some (8, [.ref (S + 1), .ref (S + 5), .int (nI cs.length)]) := fi_at (fi_at (fi_at (fi_at H4 fa39 (by omega)) fa42 (by omega)) fa45 (by omega)) (fl_one fb46) (by omega)
    obtain ⟨hm48, fa49, fb50⟩ := fl_mid fr28
    obtain ⟨hm51, fa52, fb53⟩ := fl_mid fb50
    obtain ⟨hm54, fa55, fb56⟩ := fl_mid fb53
    have g47 : pJob h23 (S + 1) j := pJob_fi (pJob_fi (pJob_fi (pJob_fi H5 fa49 (by omega)) fa52 (by omega)) fa55 (by omega)) (fl_one fb56) (by omega)
    obtain ⟨hm58, fa59, fb60⟩ := fl_mid fr28
    obtain ⟨hm61, fa62, fb63⟩ := fl_mid fb60
    obtain ⟨hm64, fa65, fb66⟩ := fl_mid fb63
    have g57 : px_rs h23 (S + 5) 56 8 (fun k => S + 9 * k + 6) := rs_fi (rs_fi (rs_fi (rs_fi H6 fa59 (by omega)) fa62 (by omega)) fa65 (by omega)) (fl_one fb66) (by omega)
    obtain ⟨hm68, fa69, fb70⟩ := fl_mid fr28
    obtain ⟨hm71, fa72, fb73⟩ := fl_mid fb70
    obtain ⟨hm74, fa75, fb76⟩ := fl_mid fb73
    have g67 : pCs h23 S cs := pCs_fi (pCs_fi (pCs_fi (pCs_fi H7 fa69 (by omega)) fa72 (by omega)) fa75 (by omega)) (fl_one fb76) (by omega)
    have g77 : pOrA h23 254 := pOrA_fi H1 fx27 (by omega)
    refine ll_JT_cov (h0 := h23) (wo0 := wo) (x0 := x) (y := covL j (cs.map c3of) tl0) g36 g37 g47 g57 g67 p2 p3 p4 p5 (fun g1 z0 z1 zf => ?_) cs.length 0 tl0 h23 (by omega) (by omega) rfl g35 g77 (fj_rf _ _ _ _ _)
    obtain ⟨hm78, fa79, fb80⟩ := fj_mid zf
    have fr81 : px_fl [(17, 1), (177, 72), (254, 2), (268, 1)] h hm78 := fl_tr fr28 fa79 (by first | exact ⟨_, List.mem_cons_self, by omega, by omega⟩ | exact ⟨_, List.mem_cons_of_mem _ (List.mem_cons_self), by omega, by omega⟩ | exact ⟨_, List.mem_cons_of_mem _ (List.mem_cons_of_mem _ (List.mem_cons_self)), by omega, by omega⟩ | exact ⟨_, List.mem_cons_of_mem _ (List.mem_cons_of_mem _ (List.mem_cons_of_mem _ (List.mem_cons_self))), by omega, by omega⟩)
    have fr82 : px_fl [(17, 1), (177, 72), (254, 2), (268, 1)] h g1 := fl_tr fr81 fb80 (by first | exact ⟨_, List.mem_cons_self, by omega, by omega⟩ | exact ⟨_, List.mem_cons_of_mem _ (List.mem_cons_self), by omega, by omega⟩ | exact ⟨_, List.mem_cons_of_mem _ (List.mem_cons_of_mem _ (List.mem_cons_self)), by omega, by omega⟩ | exact ⟨_, List.mem_cons_of_mem _ (List.mem_cons_of_mem _ (List.mem_cons_of_mem _ (List.mem_cons_self))), by omega, by omega⟩)
    refine e_aload_n f_115_77 rfl rfl ?_
    have g83 : hm78.2.2 17 = some (11, [.ref (18), .int (nI L), .ref (S), .ref (D), .ref (175), .ref (177), .ref (249), .ref (254), .ref (256), .ref (258), .ref (261), .ref (265), .int (bI pz), .ref (267), .int (bI kk), .ref (268), .int (bI ck)]) := fi_at g36 fa79 (by omega)
    have g84 : g1.2.2 17 = some (11, [.ref (18), .int (nI L), .ref (S), .ref (D), .ref (175), .ref (177), .ref (249), .ref (254), .ref (256), .ref (258), .ref (261), .ref (265), .int (bI pz), .ref (267), .int (bI kk), .ref (268), .int (bI ck)]) := fi_at g83 fb80 (by omega)
    refine e_getf f_115_78 g84 rfl rfl ?_
    obtain ⟨wo85, xo86, jb87, gv88, la89, lb90, A91, B92, W93, sms94, A395, B396, W397, S398, sm399, g100, g101, g102, g103, g104, g105, g106, htl107, hwo108⟩ := id z0
    refine e_getf f_115_81 g100 rfl rfl ?_
    refine e_iconst (v := nI 0) f_115_84 (by decide) rfl ?_
    refine e_aload_n f_115_85 rfl rfl ?_
    refine e_getf f_115_86 g84 rfl rfl ?_
    refine e_iconst (v := nI 0) f_115_89 (by decide) rfl ?_
    refine e_aload_n f_115_90 rfl rfl ?_
    refine e_getf f_115_91 g84 rfl rfl ?_
    have g109 : px_pa h23 268 50 30 Value.int cv := pa_fi H3 fx27 (by omega)
    have g110 : px_pa hm78 268 50 30 Value.int cv := pa_fi g109 fa79 (by omega)
    have g111 : px_pa g1 268 50 30 Value.int cv := pa_fi g110 fb80 (by omega)
    refine e_alen_p f_115_94 (Nat.le_of_ble_eq_true rfl) g111 rfl ?_
    refine e_acp_p f_115_95 g105 g111 (htl107) (p1) (by omega) (Nat.le_of_ble_eq_true rfl) rfl (fun h112 g113 fx114 => ?_)
    have fr115 : px_fl [(17, 1), (177, 72), (254, 2), (268, 1)] h h112 := fl_tr fr82 fx114 (by first | exact ⟨_, List.mem_cons_self, by omega, by omega⟩ | exact ⟨_, List.mem_cons_of_mem _ (List.mem_cons_self), by omega, by omega⟩ | exact ⟨_, List.mem_cons_of_mem _ (List.mem_cons_of_mem _ (List.mem_cons_self)), by omega, by omega⟩ | exact ⟨_, List.mem_cons_of_mem _ (List.mem_cons_of_mem _ (List.mem_cons_of_mem _ (List.mem_cons_self))), by omega, by omega⟩)
    refine e_aload_n f_115_98 rfl rfl ?_
    refine e_iconst (v := nI 1) f_115_99 (by decide) rfl ?_
    show px_to 115 100 [some (.ref (17)), none] [.int (bI true), .ref (17)] h112 _
    have g116 : h112.2.2 17 = some (11, [.ref (18), .int (nI L), .ref (S), .ref (D), .ref (175), .ref (177), .ref (249), .ref (254), .ref (256), .ref (258), .ref (261), .ref (265), .int (bI pz), .ref (267), .int (bI kk), .ref (268), .int (bI ck)]) := fi_at g84 fx114 (by omega)
    refine e_putp (vs' := [.ref (18), .int (nI L), .ref (S), .ref (D), .ref (175), .ref (177), .ref (249), .ref (254), .ref (256), .ref (258), .ref (261), .ref (265), .int (bI pz), .ref (267), .int (bI kk), .ref (268), .int (bI true)]) f_115_100 g116 (Nat.le_of_ble_eq_true rfl) (nw_bI _) (rfl) rfl rfl (fun h117 g118 fx119 => ?_)
    have fr120 : px_fl [(17, 1), (177, 72), (254, 2), (268, 1)] h h117 := fl_tr fr115 fx119 (by first | exact ⟨_, List.mem_cons_self, by omega, by omega⟩ | exact ⟨_, List.mem_cons_of_mem _ (List.mem_cons_self), by omega, by omega⟩ | exact ⟨_, List.mem_cons_of_mem _ (List.mem_cons_of_mem _ (List.mem_cons_self)), by omega, by omega⟩ | exact ⟨_, List.mem_cons_of_mem _ (List.mem_cons_of_mem _ (List.mem_cons_of_mem _ (List.mem_cons_self))), by omega, by omega⟩)
    refine e_vret f_115_103 rfl ?_
    have g121 : h112.2.2 177 = some (6, [.ref (jb87), .ref (182), .ref (214), .ref (246), .int (nI gv88), .int (bI la89), .int (bI lb90), .int (oI xo86.2.2.1), .int (xo86.2.2.2), .int (wo85), .ref (248)]) := fi_at g100 fx114 (by omega)
    have g122 : h117.2.2 177 = some (6, [.ref (jb87), .ref (182), .ref (214), .ref (246), .int (nI gv88), .int (bI la89), .int (bI lb90), .int (oI xo86.2.2.1), .int (xo86.2.2.2), .int (wo85), .ref (248)]) := fi_at g121 fx119 (by omega)
    have g123 : h112.2.2 182 = some (2, [.int (A91), .int (B92), .int (W93), .int (xo86.1), .ref (183)]) := fi_at g101 fx114 (by omega)
    have g124 : h117.2.2 182 = some (2, [.int (A91), .int (B92), .int (W93), .int (xo86.1), .ref (183)]) := fi_at g123 fx119 (by omega)
    have g125 : px_rs h112 183 55 6 (fun k => 182 + 5 * k + 2) := rs_fi g102 fx114 (by omega)
    have g126 : px_rs h117 183 55 6 (fun k => 182 + 5 * k + 2) := rs_fi g125 fx119 (by omega)
    have g127 : pSt h112 182 sms94 := pSt_fi g103 fx114 (by omega)
    have g128 : pSt h117 182 sms94 := pSt_fi g127 fx119 (by omega)
    have g129 : pRows h112 246 96 xo86.2.1 := pRows_fi g104 fx114 (by omega)
    have g130 : pRows h117 246 96 xo86.2.1 := pRows_fi g129 fx119 (by omega)
    have g131 : px_pa h112 248 50 30 Value.int (covL j (cs.map c3of) tl0) := pa_fi g105 fx114 (by omega)
    have g132 : px_pa h117 248 50 30 Value.int (covL j (cs.map c3of) tl0) := pa_fi g131 fx119 (by omega)
    have g133 : pMm h112 214 A395 B396 W397 S398 sm399 := pMm_fi g106 fx114 (by omega)
    have g134 : pMm h117 214 A395 B396 W397 S398 sm399 := pMm_fi g133 fx119 (by omega)
    have g135 : pOrA h112 254 := pOrA_fi z1 fx114 (by omega)
    have g136 : pOrA h117 254 := pOrA_fi g135 fx119 (by omega)
    have g137 : px_pa h117 268 50 30 Value.int (covL j (cs.map c3of) tl0) := pa_fi g113 fx119 (by omega)
    exact ⟨rfl, ⟨wo85, xo86, ⟨_, _, _, _, _, _, _, _, _, _, _, _, _, _, htl107, g122, g124, g126, g128, g130, g132, g134⟩, hwo108⟩, g136, g118, g137, fr120⟩
  · skip
    have c_4 : ck = true := bI_t' c_4
    refine e_vret f_115_7 rfl ?_
    have e0 := p0 c_4
    subst c_4
    rw [← e0]
    exact ⟨rfl, ⟨_, _, H0, Or.inr ⟨rfl, rfl⟩⟩, H1, H2, H3, fr0⟩

set_option maxRecDepth 20000 in
set_option maxHeartbeats 4000000 in
theorem cc_JT_cover {h : px_H} {tx : List Nat} {j : List St} {xs : List CS3} {s : Int32} {w : Int32} (H0 : pJT h tx j xs)  : px_wp 104 [.ref (17), .int (s), .int (w)] h (fun h1 r => r = some (.int (aCov j xs s w)) ∧ pJT h1 tx j xs ∧ px_fi 17 252 h h1) := by
  have fr0 : px_fi 17 252 h h := fi_rf _ _ _
  show px_to 104 0 [some (.ref (17)), some (.int (s)), some (.int (w))] [] h _
  obtain ⟨cs, S, D, pz, kk, ck, wo, xr, kl, cv, g1, g2, g3, g4, g5, g6, g7, g8, g9, g10, g11, g12, g13, g14, g15, g16, g17, g18, g19, g20, g21, g22, g23, g24, g25, hx, ok⟩ := id H0
  subst hx
  have h8 := ok.2.2.2.1.1
  have hS : 18 < S ∧ S + 78 ≤ 175 := by have := ok.1; omega
  have hD : 18 < D ∧ D + 78 ≤ 175 := by have := ok.1; omega
  have hSD : D + 78 ≤ S ∨ S + 78 ≤ D := by have := ok.1; omega
  have h8m : (cs.map c3of).length ≤ 8 := by rw [List.length_map]; exact h8
  have htl : tx.length ≤ 500 := pa_len g2
  have hj6 := ok.2.2.1.1.1
  refine e_iload_n f_104_0 rfl rfl ?_
  refine e_if_lt f_104_1 rfl (fun c_1 => ?_) (fun c_1 => ?_)
  · skip
    refine e_iconst (v := (-1)) f_104_27 (by decide) rfl ?_
    refine e_iret f_104_28 rfl (rfl) ?_
    have g26 : pJT h tx j (cs.map c3of) := ⟨cs, S, D, pz, kk, ck, wo, xr, kl, cv, g1, g2, g3, g4, g5, g6, g7, g8, g9, g10, g11, g12, g13, g14, g15, g16, g17, g18, g19, g20, g21, g22, g23, g24, g25, rfl, ok⟩
    exact ⟨congrArg (fun z => some (Value.int z)) (show (-1) = _ from by unfold aCov; rw [if_neg (fun z => by rw [rng_a c_1] at z; exact absurd z.1 (by decide))]), g26, fr0⟩
  · skip
    refine e_iload_n f_104_4 rfl rfl ?_
    refine e_aload_n f_104_5 rfl rfl ?_
    refine e_getf f_104_6 g1 rfl rfl ?_
    refine e_getf f_104_9 g3 rfl rfl ?_
    refine e_getf f_104_12 g4.1 rfl rfl ?_
    refine e_icmp_ge f_104_15 rfl (fun c_15 => ?_) (fun c_15 => ?_)
    · skip
      refine e_iconst (v := (-1)) f_104_27 (by decide) rfl ?_
      refine e_iret f_104_28 rfl (rfl) ?_
      have g27 : pJT h tx j (cs.map c3of) := ⟨cs, S, D, pz, kk, ck, wo, xr, kl, cv, g1, g2, g3, g4, g5, g6, g7, g8, g9, g10, g11, g12, g13, g14, g15, g16, g17, g18, g19, g20, g21, g22, g23, g24, g25, rfl, ok⟩
      exact ⟨congrArg (fun z => some (Value.int z)) (show (-1) = _ from by unfold aCov; rw [if_neg (fun z => by rw [rng_c (Int32.not_lt.mpr c_15)] at z; exact absurd z.1 (by decide))]), g27, fr0⟩
    · skip
      obtain ⟨ks, hks, hwcs⟩ := rng_u (by omega) c_1 (Int32.not_le.mp c_15)
      subst hwcs
      refine e_iload_n f_104_18 rfl rfl ?_
      refine e_if_lt f_104_19 rfl (fun c_19 => ?_) (fun c_19 => ?_)
      · skip
        refine e_iconst (v := (-1)) f_104_27 (by decide) rfl ?_
        refine e_iret f_104_28 rfl (rfl) ?_
        have g28 : pJT h tx j (cs.map c3of) := ⟨cs, S, D, pz, kk, ck, wo, xr, kl, cv, g1, g2, g3, g4, g5, g6, g7, g8, g9, g10, g11, g12, g13, g14, g15, g16, g17, g18, g19, g20, g21, g22, g23, g24, g25, rfl, ok⟩
        exact ⟨congrArg (fun z => some (Value.int z)) (show (-1) = _ from by unfold aCov; rw [if_neg (fun z => by rw [rng_a c_19] at z; exact absurd z.2 (by decide))]), g28, fr0⟩
      · skip
        refine e_iload_n f_104_22 rfl rfl ?_
        refine e_iconst (v := nI 5) f_104_23 (by decide) rfl ?_
        refine e_icmp_lt f_104_24 rfl (fun c_24 => ?_) (fun c_24 => ?_)
        · skip
          obtain ⟨kw, hkw, hwckw⟩ := rng_u (by omega) c_19 c_24
          subst hwckw
          have hcl : (covL j (cs.map c3of) tl0).length = 30 := covL_len ok.2.2.1.1 _ _ (fun y hy => by rw [List.mem_map] at hy; obtain ⟨t, ht, rfl⟩ := hy; exact (ok.2.2.2.1.2 t ht).1) (by decide)
          refine e_aload_n f_104_29 rfl rfl ?_
          refine e_callV (As := []) (rest := []) f_104_30 rfl rfl rfl (Nat.le_of_ble_eq_true rfl) (Nat.le_of_ble_eq_true rfl) g1 rfl (Nat.le_of_ble_eq_true rfl) (cc_JT_cov (wo := wo) (x := xr) (cv := cv) (j := j) (cs := cs) (L := tx.length) (S := S) (D := D) (pz := pz) (kk := kk) (ck := ck) g9 g11 g1 g17 g3 g4 g5 g6 (ok.2.2.2.2.2.2.2) (ok.2.2.2.2.2.2.1) (ok.2.2.1.1) (fun t ht => (ok.2.2.2.1.2 t ht).1) (h8) (hS)) rfl (fun h29 r30 q31 => ?_)
          obtain ⟨rfl, g32, g33, g34, g35, fx36⟩ := q31
          obtain ⟨hm37, fa38, fb39⟩ := fl_mid fx36
          have fr40 : px_fi 17 252 h hm37 := fi_tr fr0 fa38 (by omega)
          obtain ⟨hm41, fa42, fb43⟩ := fl_mid fb39
          have fr44 : px_fi 17 252 h hm41 := fi_tr fr40 fa42 (by omega)
          obtain ⟨hm45, fa46, fb47⟩ := fl_mid fb43
          have fr48 : px_fi 17 252 h hm45 := fi_tr fr44 fa46 (by omega)
          have fb49 := fl_one fb47
          have fr50 : px_fi 17 252 h h29 := fi_tr fr48 fb49 (by omega)
          show px_to 104 33 [some (.ref (17)), some (.int (nI ks)), some (.int (nI kw))] [] h29 _
          refine e_aload_n f_104_33 rfl rfl ?_
          refine e_getf f_104_34 g34 rfl rfl ?_
          refine e_iload_n f_104_37 rfl rfl ?_
          refine e_iconst (v := nI 5) f_104_38 (by decide) rfl ?_
          refine e_imul (z := nI (ks * 5)) f_104_39 (pk_mul _ _) rfl ?_
          refine e_iload_n f_104_40 rfl rfl ?_
          refine e_iadd (z := nI (ks * 5 + kw)) f_104_41 (nI_add _ _) rfl ?_
          refine e_iaload_p (xs := covL j (cs.map c3of) tl0) f_104_42 g35 (d := 0) (by first | omega | (simp only [List.length_set]; omega)) rfl ?_
          show px_to 104 43 [some (.ref (17)), some (.int (nI ks)), some (.int (nI kw))] [.int ((covL j (cs.map c3of) tl0).getD (ks * 5 + kw) 0)] h29 _
          refine e_iret f_104_43 rfl (rfl) ?_
          obtain ⟨wo51, xo52, g53, hwo54⟩ := id g32
          have ok2 := okJT_woE ok hwo54
          have ok3 : okJT tx j cs S D kk true wo51 xo52 kl (covL j (cs.map c3of) tl0) := ⟨ok2.1, ok2.2.1, ok2.2.2.1, ok2.2.2.2.1, ok2.2.2.2.2.1, ok2.2.2.2.2.2.1, hcl, fun _ => rfl⟩
          have g55 : px_pa hm37 18 52 500 vN tx := pa_fi g2 fa38 (by omega)
          have g56 : px_pa hm41 18 52 500 vN tx := pa_fi g55 fa42 (by omega)
          have g57 : px_pa hm45 18 52 500 vN tx := pa_fi g56 fa46 (by omega)
          have g58 : px_pa h29 18 52 500 vN tx := pa_fi g57 fb49 (by omega)
          have g59 : hm37.2.2 S = some (8, [.ref (S + 1), .ref (S + 5), .int (nI cs.length)]) := fi_at g3 fa38 (by omega)
          have g60 : hm41.2.2 S = some (8, [.ref (S + 1), .ref (S + 5), .int (nI cs.length)]) := fi_at g59 fa42 (by omega)
          have g61 : hm45.2.2 S = some (8, [.ref (S + 1), .ref (S + 5), .int (nI cs.length)]) := fi_at g60 fa46 (by omega)
          have g62 : h29.2.2 S = some (8, [.ref (S + 1), .ref (S + 5), .int (nI cs.length)]) := fi_at g61 fb49 (by omega)
          have g63 : pJob hm37 (S + 1) j := pJob_fi g4 fa38 (by omega)
          have g64 : pJob hm41 (S + 1) j := pJob_fi g63 fa42 (by omega)
          have g65 : pJob hm45 (S + 1) j := pJob_fi g64 fa46 (by omega)
          have g66 : pJob h29 (S + 1) j := pJob_fi g65 fb49 (by omega)
          have g67 : px_rs hm37 (S + 5) 56 8 (fun k => S + 9 * k + 6) := rs_fi g5 fa38 (by omega)
          have g68 : px_rs hm41 (S + 5) 56 8 (fun k => S + 9 * k + 6) := rs_fi g67 fa42 (by omega)
          have g69 : px_rs hm45 (S + 5) 56 8 (fun k => S + 9 * k + 6) := rs_fi g68 fa46 (by omega)
          have g70 : px_rs h29 (S + 5) 56 8 (fun k => S + 9 * k + 6) := rs_fi g69 fb49 (by omega)
          have g71 : pCs hm37 S cs := pCs_fi g6 fa38 (by omega)
          have g72 : pCs hm41 S cs := pCs_fi g71 fa42 (by omega)
          have g73 : pCs hm45 S cs := pCs_fi g72 fa46 (by omega)
          have g74 : pCs h29 S cs := pCs_fi g73 fb49 (by omega)
          have g75 : pDr hm37 D := pDr_fi g7 fa38 (by omega)
          have g76 : pDr hm41 D := pDr_fi g75 fa42 (by omega)
          have g77 : pDr hm45 D := pDr_fi g76 fa46 (by omega)
          have g78 : pDr h29 D := pDr_fi g77 fb49 (by omega)
          have g79 : pRA hm37 := pRA_fi g8 fa38 (by omega)
          have g80 : pRA hm41 := pRA_fi g79 fa42 (by omega)
          have g81 : pRA hm45 := pRA_fi g80 fa46 (by omega)
          have g82 : pRA h29 := pRA_fi g81 fb49 (by omega)
          have g83 : pJud hm37 := pJud_fi g10 fa38 (by omega)
          have g84 : pJud hm41 := pJud_fi g83 fa42 (by omega)
          have g85 : pJud hm45 := pJud_fi g84 fa46 (by omega)
          have g86 : pJud h29 := pJud_fi g85 fb49 (by omega)
          have g87 : pOrA hm37 256 := pOrA_fi g12 fa38 (by omega)
          have g88 : pOrA hm41 256 := pOrA_fi g87 fa42 (by omega)
          have g89 : pOrA hm45 256 := pOrA_fi g88 fa46 (by omega)
          have g90 : pOrA h29 256 := pOrA_fi g89 fb49 (by omega)
          have g91 : pSc hm37 := pSc_fi g13 fa38 (by omega)
          have g92 : pSc hm41 := pSc_fi g91 fa42 (by omega)
          have g93 : pSc hm45 := pSc_fi g92 fa46 (by omega)
          have g94 : pSc h29 := pSc_fi g93 fb49 (by omega)
          have g95 : pJA hm37 261 := pJA_fi g14 fa38 (by omega)
          have g96 : pJA hm41 261 := pJA_fi g95 fa42 (by omega)
          have g97 : pJA hm45 261 := pJA_fi g96 fa46 (by omega)
          have g98 : pJA h29 261 := pJA_fi g97 fb49 (by omega)
          have g99 : pRwA hm37 265 := pRwA_fi g15 fa38 (by omega)
          have g100 : pRwA hm41 265 := pRwA_fi g99 fa42 (by omega)
          have g101 : pRwA hm45 265 := pRwA_fi g100 fa46 (by omega)
          have g102 : pRwA h29 265 := pRwA_fi g101 fb49 (by omega)
          have g103 : px_pa hm37 267 50 30 Value.int kl := pa_fi g16 fa38 (by omega)
          have g104 : px_pa hm41 267 50 30 Value.int kl := pa_fi g103 fa42 (by omega)
          have g105 : px_pa hm45 267 50 30 Value.int kl := pa_fi g104 fa46 (by omega)
          have g106 : px_pa h29 267 50 30 Value.int kl := pa_fi g105 fb49 (by omega)
          have g107 : pStr hm37 1 ([60, 61, 62]) := pStr_fi g18 fa38 (by omega)
          have g108 : pStr hm41 1 ([60, 61, 62]) := pStr_fi g107 fa42 (by omega)
          have g109 : pStr hm45 1 ([60, 61, 62]) := pStr_fi g108 fa46 (by omega)
          have g110 : pStr h29 1 ([60, 61, 62]) := pStr_fi g109 fb49 (by omega)
          have g111 : pStr hm37 2 ([43, 45, 42, 47]) := pStr_fi g19 fa38 (by omega)
          have g112 : pStr hm41 2 ([43, 45, 42, 47]) := pStr_fi g111 fa42 (by omega)
          have g113 : pStr hm45 2 ([43, 45, 42, 47]) := pStr_fi g112 fa46 (by omega)
          have g114 : pStr h29 2 ([43, 45, 42, 47]) := pStr_fi g113 fb49 (by omega)
          have g115 : pStr hm37 3 stepSigns := pStr_fi g20 fa38 (by omega)
          have g116 : pStr hm41 3 stepSigns := pStr_fi g115 fa42 (by omega)
          have g117 : pStr hm45 3 stepSigns := pStr_fi g116 fa46 (by omega)
          have g118 : pStr h29 3 stepSigns := pStr_fi g117 fb49 (by omega)
          have g119 : pStr hm37 4 ([60, 61, 62]) := pStr_fi g21 fa38 (by omega)
          have g120 : pStr hm41 4 ([60, 61, 62]) := pStr_fi g119 fa42 (by omega)
          have g121 : pStr hm45 4 ([60, 61, 62]) := pStr_fi g120 fa46 (by omega)
          have g122 : pStr h29 4 ([60, 61, 62]) := pStr_fi g121 fb49 (by omega)
          have g123 : pStr hm37 5 ([43, 45, 42, 47]) := pStr_fi g22 fa38 (by omega)
          have g124 : pStr hm41 5 ([43, 45, 42, 47]) := pStr_fi g123 fa42 (by omega)
          have g125 : pStr hm45 5 ([43, 45, 42, 47]) := pStr_fi g124 fa46 (by omega)
          have g126 : pStr h29 5 ([43, 45, 42, 47]) := pStr_fi g125 fb49 (by omega)
          have g127 : pStr hm37 6 evSigns := pStr_fi g23 fa38 (by omega)
          have g128 : pStr hm41 6 evSigns := pStr_fi g127 fa42 (by omega)
          have g129 : pStr hm45 6 evSigns := pStr_fi g128 fa46 (by omega)
          have g130 : pStr h29 6 evSigns := pStr_fi g129 fb49 (by omega)
          have g131 : pStr hm37 7 keyL := pStr_fi g24 fa38 (by omega)
          have g132 : pStr hm41 7 keyL := pStr_fi g131 fa42 (by omega)
          have g133 : pStr hm45 7 keyL := pStr_fi g132 fa46 (by omega)
          have g134 : pStr h29 7 keyL := pStr_fi g133 fb49 (by omega)
          have g135 : pStr hm37 8 ordL := pStr_fi g25 fa38 (by omega)
          have g136 : pStr hm41 8 ordL := pStr_fi g135 fa42 (by omega)
          have g137 : pStr hm45 8 ordL := pStr_fi g136 fa46 (by omega)
          have g138 : pStr h29 8 ordL := pStr_fi g137 fb49 (by omega)
          have g139 : pJT h29 tx j (cs.map c3of) := ⟨cs, S, D, pz, kk, true, wo51, xo52, kl, (covL j (cs.map c3of) tl0), g34, g58, g62, g66, g70, g74, g78, g82, g53, g86, g33, g90, g94, g98, g102, g106, g35, g110, g114, g118, g122, g126, g130, g134, g138, rfl, ok3⟩
          exact ⟨congrArg (fun z => some (Value.int z)) (show (covL j (cs.map c3of) tl0).getD (ks * 5 + kw) 0 = _ from by unfold aCov; rw [if_pos ⟨hasC_nI (by omega) hks, hasC_nI (by omega) hkw⟩, nN_nI (by omega), nN_nI (by omega)]), g139, fr50⟩
        · skip
          refine e_iconst (v := (-1)) f_104_27 (by decide) rfl ?_
          refine e_iret f_104_28 rfl (rfl) ?_
          have g140 : pJT h tx j (cs.map c3of) := ⟨cs, S, D, pz, kk, ck, wo, xr, kl, cv, g1, g2, g3, g4, g5, g6, g7, g8, g9, g10, g11, g12, g13, g14, g15, g16, g17, g18, g19, g20, g21, g22, g23, g24, g25, rfl, ok⟩
          exact ⟨congrArg (fun z => some (Value.int z)) (show (-1) = _ from by unfold aCov; rw [if_neg (fun z => by rw [rng_c c_24] at z; exact absurd z.2 (by decide))]), g140, fr0⟩
