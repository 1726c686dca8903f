theorem pass_out {j : List St} {d k key t : Nat} {v : Int32} {x : RX} (h : ¬ k < j.length) : pass j (d + 1) k key v t x = (x.1, x.2.1, radd 96 x.2.2.1 (key, v, t), x.2.2.2.1, x.2.2.2.2) := by
  rw [pass, if_neg h]
theorem pass_z {j : List St} {d k key t : Nat} {v : Int32} {x : RX} (h : k < j.length) (hz : isZ (j.getD k (0, 0, 0)) v = true) : pass j (d + 1) k key v t x = (x.1, x.2.1, x.2.2.1, tinc (tinc x.2.2.2.1 (k * 5)) (k * 5 + 4), some k) := by
  rw [pass, if_pos h, if_pos hz]
theorem pass_no {j : List St} {d k key t : Nat} {v : Int32} {x : RX} {m : SM} {late : Bool} (h : k < j.length) (hz : isZ (j.getD k (0, 0, 0)) v = false) (hs : stepDo (j.getD k (0, 0, 0)) (x.2.1.getD k sm0) key v t = (none, m, late)) : pass j (d + 1) k key v t x = (if late = true then x.1 + nI 1 else x.1, x.2.1.set k m, x.2.2.1, if late = true then tinc (tinc x.2.2.2.1 (k * 5)) (k * 5 + 3) else tinc x.2.2.2.1 (k * 5), x.2.2.2.2) := by
  rw [pass, if_pos h, if_neg (by rw [hz]; decide), hs]
theorem pass_on {j : List St} {d k key t : Nat} {v w : Int32} {x : RX} {m : SM} {late : Bool} (h : k < j.length) (hz : isZ (j.getD k (0, 0, 0)) v = false) (hs : stepDo (j.getD k (0, 0, 0)) (x.2.1.getD k sm0) key v t = (some w, m, late)) : pass j (d + 1) k key v t x = pass j d (k + 1) key w t (x.1, x.2.1.set k m, x.2.2.1, tinc (tinc x.2.2.2.1 (k * 5)) (k * 5 + 1), x.2.2.2.2) := by
  rw [pass, if_pos h, if_neg (by rw [hz]; decide), hs]
theorem sd_f {s : St} {m : SM} {key t : Nat} {v : Int32} (c : s.1 = 102) : stepDo s m key v t = (if lets s.2.1 v s.2.2 = true then some v else none, m, false) := by
  unfold stepDo; rw [if_pos c]
theorem sd_m {s : St} {m : SM} {key t : Nat} {v : Int32} (c : s.1 = 109) : stepDo s m key v t = (some (acted s.2.1 v s.2.2), m, false) := by
  unfold stepDo; rw [if_neg (by omega), if_pos c]
theorem sd_q {s : St} {m : SM} {key t : Nat} {v : Int32} (c : s.1 = 113) : stepDo s m key v t = (some (acted 47 s.2.2 v), m, false) := by
  unfold stepDo; rw [if_neg (by omega), if_neg (by omega), if_pos c]
theorem sd_d {s : St} {m : SM} {key t : Nat} {v : Int32} (c : s.1 = 100) : stepDo s m key v t = (if mkM key v ∈ m.2.2.2.1 then none else some v, (m.1, m.2.1, m.2.2.1, dAdd (mkM key v) m.2.2.2.1, m.2.2.2.2), false) := by
  unfold stepDo; rw [if_neg (by omega), if_neg (by omega), if_neg (by omega), if_pos c]
theorem sd_s {s : St} {m : SM} {key t : Nat} {v : Int32} (c : s.1 = 115) : stepDo s m key v t = (some (m.2.1.getD key 0 + v), (m.1, m.2.1.set key (m.2.1.getD key 0 + v), m.2.2.1, m.2.2.2.1, m.2.2.2.2), false) := by
  unfold stepDo; rw [if_neg (by omega), if_neg (by omega), if_neg (by omega), if_neg (by omega), if_pos c]
theorem sd_w {s : St} {m : SM} {key t n : Nat} {v : Int32} (c : s.1 = 119) (hn : nN s.2.2 = n) : stepDo s m key v t = (none, (m.1, m.2.1, m.2.2.1, if nI ((t / n + 1) * n) ≤ m.1 then m.2.2.2.1 else (spAdd (mkM key (nI ((t / n + 1) * n))) m.2.2.2.1 m.2.2.2.2).1, if nI ((t / n + 1) * n) ≤ m.1 then m.2.2.2.2 else (spAdd (mkM key (nI ((t / n + 1) * n))) m.2.2.2.1 m.2.2.2.2).2), decide (nI ((t / n + 1) * n) ≤ m.1)) := by
  unfold stepDo; rw [if_neg (by omega), if_neg (by omega), if_neg (by omega), if_neg (by omega), if_neg (by omega), if_pos c, hn]
theorem sd_t {s : St} {m : SM} {key t : Nat} {v : Int32} (c : s.1 = 116) : stepDo s m key v t = (some v, (m.1, m.2.1, m.2.2.1.set key (nI t + s.2.2), m.2.2.2.1, m.2.2.2.2), false) := by
  unfold stepDo; rw [if_neg (by omega), if_neg (by omega), if_neg (by omega), if_neg (by omega), if_neg (by omega), if_neg (by omega)]

set_option maxRecDepth 20000 in
set_option maxHeartbeats 4000000 in
theorem ll_Run_pass {h0 : px_H} {f key t : Nat} {v0 : Int32} {j : List St} {jb gv : Nat} {la lb : Bool} {dn wo : Int32} {A B W : Int32} {A3 B3 W3 S3 : Int32} {sm3 : List SM} {res : RX} (HJ : pJob h0 jb j) (p0 : okJ j) (p3 : jb + 4 ≤ 177 ∨ 249 ≤ jb) (p4 : key < 4) (p5 : t ≤ 5000) : ∀ (d : Nat) (k : Nat) (v : Int32) (S : Int32) (sms : List SM) (outs : List Row) (tl : List Int32) (g : px_H), (j.length < k + d) → (k ≤ j.length) → (pass j d k key v t (S, sms, outs, tl, none) = res) → (okM j sms) → (tl.length = 30) → g.2.2 177 = some (6, [.ref (jb), .ref (182), .ref (214), .ref (246), .int (nI gv), .int (bI la), .int (bI lb), .int (oI none), .int (dn), .int (wo), .ref (248)]) → g.2.2 182 = some (2, [.int (A), .int (B), .int (W), .int (S), .ref (183)]) → px_rs g 183 55 6 (fun k => 182 + 5 * k + 2) → pSt g 182 sms → pRows g 246 96 outs → px_pa g 248 50 30 Value.int tl → pMm g 214 A3 B3 W3 S3 sm3 → px_fi 177 72 h0 g → px_to 56 6 [some (.ref (177)), some (.int (nI f)), some (.int (nI key)), some (.int (v0)), some (.int (nI t)), some (.int (v)), some (.int (nI k)), none, none, none] [] g (fun h1 r => r = none ∧ h1.2.2 177 = some (6, [.ref (jb), .ref (182), .ref (214), .ref (246), .int (nI gv), .int (bI la), .int (bI lb), .int (oI res.2.2.2.2), .int (dn), .int (wo), .ref (248)]) ∧ h1.2.2 182 = some (2, [.int (A), .int (B), .int (W), .int (res.1), .ref (183)]) ∧ px_rs h1 183 55 6 (fun k => 182 + 5 * k + 2) ∧ pSt h1 182 res.2.1 ∧ pRows h1 246 96 res.2.2.1 ∧ px_pa h1 248 50 30 Value.int res.2.2.2.1 ∧ pMm h1 214 A3 B3 W3 S3 sm3 ∧ px_fi 177 72 h0 h1) := by
  intro d
  induction d using Nat.strongRecOn with
  | ind d ih =>
    intro k v S sms outs tl g q0 q1 q2 q3 q4 G0 G1 G2 G3 G4 G5 G6 frg
    have lj := p0.1
    have lsm := q3.1
    refine e_iload f_56_6 rfl rfl ?_
    refine e_aload_n f_56_8 rfl rfl ?_
    refine e_getf f_56_9 G0 rfl rfl ?_
    have g1 : pJob g jb j := pJob_fi HJ frg (by omega)
    refine e_getf f_56_12 g1.1 rfl rfl ?_
    refine e_icmp_ge f_56_15 rfl (fun c_15 => ?_) (fun c_15 => ?_)
    · skip
      have c_15 : j.length ≤ k := cv_le (by omega) (by omega) c_15
      refine e_aload_n f_56_366 rfl rfl ?_
      refine e_getf f_56_367 G0 rfl rfl ?_
      refine e_iload_n f_56_370 rfl rfl ?_
      refine e_iload f_56_371 rfl rfl ?_
      refine e_iload f_56_373 rfl rfl ?_
      refine e_callV (As := [.int (nI key), .int (v), .int (nI t)]) (rest := []) f_56_375 rfl rfl rfl (Nat.le_of_ble_eq_true rfl) (Nat.le_of_ble_eq_true rfl) G4.1 rfl (Nat.le_of_ble_eq_true rfl) (cc_Rows_add (a := 246) (cap := 96) (k := key) (t := t) (v := v) (rs := outs) G4 (by omega)) rfl (fun h2 r3 q4 => ?_)
      obtain ⟨rfl, g5, fx6⟩ := q4
      have fr7 : px_fi 177 72 h0 h2 := fi_tr frg fx6 (by omega)
      show px_to 56 378 [some (.ref (177)), some (.int (nI f)), some (.int (nI key)), some (.int (v0)), some (.int (nI t)), some (.int (v)), some (.int (nI k)), none, none, none] [] h2 _
      refine e_vret f_56_378 rfl ?_
      obtain ⟨d, rfl⟩ : ∃ y, d = y + 1 := ⟨d - 1, by omega⟩
      rw [pass_out (by omega)] at q2
      have g8 : h2.2.2 177 = some (6, [.ref (jb), .ref (182), .ref (214), .ref (246), .int (nI gv), .int (bI la), .int (bI lb), .int (oI none), .int (dn), .int (wo), .ref (248)]) := fi_at G0 fx6 (by omega)
      have g9 : h2.2.2 182 = some (2, [.int (A), .int (B), .int (W), .int (S), .ref (183)]) := fi_at G1 fx6 (by omega)
      have g10 : px_rs h2 183 55 6 (fun k => 182 + 5 * k + 2) := rs_fi G2 fx6 (by omega)
      have g11 : pSt h2 182 sms := pSt_fi G3 fx6 (by omega)
      have g12 : px_pa h2 248 50 30 Value.int tl := pa_fi G5 fx6 (by omega)
      have g13 : pMm h2 214 A3 B3 W3 S3 sm3 := pMm_fi G6 fx6 (by omega)
      subst q2
      exact ⟨rfl, g8, g9, g10, g11, g5, g12, g13, fr7⟩
    · skip
      have c_15 : k < j.length := cv_nle (by omega) (by omega) c_15
      have hkl : k < j.length := by omega
      have hkm : k < sms.length := by omega
      have hst : okSt (j.getD k (0, 0, 0)) := p0.2 _ (getD_mem _ hkl)
      have hsg := hst.1
      have hac := hst.2.1
      refine e_aload_n f_56_18 rfl rfl ?_
      refine e_getf f_56_19 G0 rfl rfl ?_
      refine e_getf f_56_22 G1 rfl rfl ?_
      refine e_iload f_56_25 rfl rfl ?_
      refine e_aaload_r f_56_27 (by decide) G2 (by first | omega | (simp only [List.length_set]; omega)) (by decide) rfl ?_
      show px_to 56 28 [some (.ref (177)), some (.int (nI f)), some (.int (nI key)), some (.int (v0)), some (.int (nI t)), some (.int (v)), some (.int (nI k)), none, none, none] [.ref (182 + 5 * k + 2)] g _
      refine e_astore (L' := [some (.ref (177)), some (.int (nI f)), some (.int (nI key)), some (.int (v0)), some (.int (nI t)), some (.int (v)), some (.int (nI k)), some (.ref (182 + 5 * k + 2)), none, none]) f_56_28 (Nat.le_of_ble_eq_true rfl) rfl rfl ?_
      refine e_aload_n f_56_30 rfl rfl ?_
      refine e_getf f_56_31 G0 rfl rfl ?_
      refine e_getf f_56_34 g1.1 rfl rfl ?_
      refine e_iload f_56_37 rfl rfl ?_
      refine e_iaload_p (xs := j) f_56_39 g1.2.2.2 (d := (0, 0, 0)) (by first | omega | (simp only [List.length_set]; omega)) rfl ?_
      show px_to 56 40 [some (.ref (177)), some (.int (nI f)), some (.int (nI key)), some (.int (v0)), some (.int (nI t)), some (.int (v)), some (.int (nI k)), some (.ref (182 + 5 * k + 2)), none, none] [.int ((j.getD k (0, 0, 0)).2.2)] g _
      refine e_istore (L' := [some (.ref (177)), some (.int (nI f)), some (.int (nI key)), some (.int (v0)), some (.int (nI t)), some (.int (v)), some (.int (nI k)), some (.ref (182 + 5 * k + 2)), some (.int ((j.getD k (0, 0, 0)).2.2)), none]) f_56_40 (Nat.le_of_ble_eq_true rfl) rfl rfl ?_
      refine e_iconst (v := nI 1) f_56_42 (by decide) rfl ?_
      refine e_istore (L' := [some (.ref (177)), some (.int (nI f)), some (.int (nI key)), some (.int (v0)), some (.int (nI t)), some (.int (v)), some (.int (nI k)), some (.ref (182 + 5 * k + 2)), some (.int ((j.getD k (0, 0, 0)).2.2)), some (.int (nI 1))]) f_56_43 (Nat.le_of_ble_eq_true rfl) rfl rfl ?_
      refine e_aload_n f_56_45 rfl rfl ?_
      refine e_getf f_56_46 G0 rfl rfl ?_
      refine e_iload f_56_49 rfl rfl ?_
      refine e_iconst (v := nI 5) f_56_51 (by decide) rfl ?_
      refine e_imul (z := nI (k * 5)) f_56_52 (pk_mul _ _) rfl ?_
      refine e_iconst (v := nI 0) f_56_53 (by decide) rfl ?_
      refine e_iadd (z := nI (k * 5)) f_56_54 ((nI_add _ _).trans (congrArg nI (by omega))) rfl ?_
      refine e_dup2 f_56_55 rfl rfl rfl ?_
      refine e_iaload_p (xs := tl) f_56_56 G5 (d := 0) (by first | omega | (simp only [List.length_set]; omega)) rfl ?_
      show px_to 56 57 [some (.ref (177)), some (.int (nI f)), some (.int (nI key)), some (.int (v0)), some (.int (nI t)), some (.int (v)), some (.int (nI k)), some (.ref (182 + 5 * k + 2)), some (.int ((j.getD k (0, 0, 0)).2.2)), some (.int (nI 1))] [.int (tl.getD (k * 5) 0), .int (nI (k * 5)), .ref (248)] g _
      refine e_iconst (v := nI 1) f_56_57 (by decide) rfl ?_
      refine e_iadd (z := (tl.getD (k * 5) 0) + (nI 1)) f_56_58 rfl rfl ?_
      refine e_iastore_p (xs := tl) (x := (tl.getD (k * 5) 0) + (nI 1)) f_56_59 G5 (by omega) (by first | omega | (simp only [List.length_set]; omega)) (rfl) rfl (fun h14 g15 fx16 => ?_)
      have fr17 : px_fi 177 72 h0 h14 := fi_tr frg fx16 (by omega)
      refine e_aload_n f_56_60 rfl rfl ?_
      refine e_iload f_56_61 rfl rfl ?_
      refine e_iload f_56_63 rfl rfl ?_
      have g18 : h14.2.2 177 = some (6, [.ref (jb), .ref (182), .ref (214), .ref (246), .int (nI gv), .int (bI la), .int (bI lb), .int (oI none), .int (dn), .int (wo), .ref (248)]) := fi_at G0 fx16 (by omega)
      have g19 : pJob h14 jb j := pJob_fi HJ fr17 (by omega)
      refine e_callV (As := [.int (nI k), .int (v)]) (rest := []) f_56_65 rfl rfl rfl (Nat.le_of_ble_eq_true rfl) (Nat.le_of_ble_eq_true rfl) g18 rfl (Nat.le_of_ble_eq_true rfl) (cc_Run_zero (k := k) (v := v) (j := j) (jb := jb) (gv := gv) (la := la) (lb := lb) (z := none) (dn := dn) (wo := wo) g18 g19 (by omega) (by omega) (by omega)) rfl (fun h20 r21 q22 => ?_)
      obtain ⟨rfl, qe⟩ := q22
      have qe := qe.symm
      subst qe
      show px_to 56 68 [some (.ref (177)), some (.int (nI f)), some (.int (nI key)), some (.int (v0)), some (.int (nI t)), some (.int (v)), some (.int (nI k)), some (.ref (182 + 5 * k + 2)), some (.int ((j.getD k (0, 0, 0)).2.2)), some (.int (nI 1))] [.int (bI (isZ (j.getD k (0, 0, 0)) v))] h14 _
      refine e_if_eq f_56_68 rfl (fun c_68 => ?_) (fun c_68 => ?_)
      · skip
        have c_68 : (isZ (j.getD k (0, 0, 0)) v) = false := bI_f c_68
        refine e_aload_n f_56_93 rfl rfl ?_
        refine e_getf f_56_94 g18 rfl rfl ?_
        refine e_getf f_56_97 g19.1 rfl rfl ?_
        refine e_iload f_56_100 rfl rfl ?_
        refine e_iaload_p (xs := j) f_56_102 g19.2.1 (d := (0, 0, 0)) (by first | omega | (simp only [List.length_set]; omega)) rfl ?_
        show px_to 56 103 [some (.ref (177)), some (.int (nI f)), some (.int (nI key)), some (.int (v0)), some (.int (nI t)), some (.int (v)), some (.int (nI k)), some (.ref (182 + 5 * k + 2)), some (.int ((j.getD k (0, 0, 0)).2.2)), some (.int (nI 1))] [.int (nI ((j.getD k (0, 0, 0)).1))] h14 _
        by_cases c_103_100 : (j.getD k (0, 0, 0)).1 = 100
        · skip
          refine e_sw_t f_56_103 (t := 254) (by rw [c_103_100]; rfl) ?_
          refine e_aload f_56_254 rfl rfl ?_
          refine e_iload_n f_56_256 rfl rfl ?_
          refine e_iload f_56_257 rfl rfl ?_
          have g23 : pSt h14 182 sms := pSt_fi G3 fx16 (by omega)
          obtain ⟨g24, g25⟩ := pSt_get (k := k) g23 (by omega) (hkm)
          refine e_callV (As := [.int (nI key), .int (v)]) (rest := []) f_56_259 rfl rfl rfl (Nat.le_of_ble_eq_true rfl) (Nat.le_of_ble_eq_true rfl) g24.1 rfl (Nat.le_of_ble_eq_true rfl) (cc_SM_noteNew (k := key) (v := v) (a := 182 + 5 * k + 2) (to := (sms.getD k sm0).1) (su := (sms.getD k sm0).2.1) (ti := (sms.getD k sm0).2.2.1) (ms := (sms.getD k sm0).2.2.2.1) (cs := (sms.getD k sm0).2.2.2.2) g24 (by omega)) rfl (fun h26 r27 q28 => ?_)
          obtain ⟨rfl, g29, fx30⟩ := q28
          have fr31 : px_fi 177 72 h0 h26 := fi_tr fr17 fx30 (by omega)
          show px_to 56 262 [some (.ref (177)), some (.int (nI f)), some (.int (nI key)), some (.int (v0)), some (.int (nI t)), some (.int (v)), some (.int (nI k)), some (.ref (182 + 5 * k + 2)), some (.int ((j.getD k (0, 0, 0)).2.2)), some (.int (nI 1))] [.int (bI (!decide (mkM key v ∈ ((sms.getD k sm0).2.2.2.1))))] h26 _
          refine e_istore (L' := [some (.ref (177)), some (.int (nI f)), some (.int (nI key)), some (.int (v0)), some (.int (nI t)), some (.int (v)), some (.int (nI k)), some (.ref (182 + 5 * k + 2)), some (.int ((j.getD k (0, 0, 0)).2.2)), some (.int (bI (!decide (mkM key v ∈ ((sms.getD k sm0).2.2.2.1)))))]) f_56_262 (Nat.le_of_ble_eq_true rfl) rfl rfl ?_
          refine e_goto f_56_264 ?_
          refine e_iload f_56_339 rfl rfl ?_
          refine e_if_ne f_56_341 rfl (fun c_341 => ?_) (fun c_341 => ?_)
          · skip
            have c_341 : (!decide (mkM key v ∈ ((sms.getD k sm0).2.2.2.1))) = true := bI_t c_341
            refine e_aload_n f_56_345 rfl rfl ?_
            have g32 : h26.2.2 177 = some (6, [.ref (jb), .ref (182), .ref (214), .ref (246), .int (nI gv), .int (bI la), .int (bI lb), .int (oI none), .int (dn), .int (wo), .ref (248)]) := fi_at g18 fx30 (by omega)
            refine e_getf f_56_346 g32 rfl rfl ?_
            refine e_iload f_56_349 rfl rfl ?_
            refine e_iconst (v := nI 5) f_56_351 (by decide) rfl ?_
            refine e_imul (z := nI (k * 5)) f_56_352 (pk_mul _ _) rfl ?_
            refine e_iconst (v := nI 1) f_56_353 (by decide) rfl ?_
            refine e_iadd (z := nI (k * 5 + 1)) f_56_354 (nI_add _ _) rfl ?_
            refine e_dup2 f_56_355 rfl rfl rfl ?_
            have g33 : px_pa h26 248 50 30 Value.int (tl.set (k * 5) ((tl.getD (k * 5) 0) + (nI 1))) := pa_fi g15 fx30 (by omega)
            refine e_iaload_p (xs := tl.set (k * 5) ((tl.getD (k * 5) 0) + (nI 1))) f_56_356 g33 (d := 0) (by first | omega | (simp only [List.length_set]; omega)) rfl ?_
            show px_to 56 357 [some (.ref (177)), some (.int (nI f)), some (.int (nI key)), some (.int (v0)), some (.int (nI t)), some (.int (v)), some (.int (nI k)), some (.ref (182 + 5 * k + 2)), some (.int ((j.getD k (0, 0, 0)).2.2)), some (.int (bI (!decide (mkM key v ∈ ((sms.getD k sm0).2.2.2.1)))))] [.int ((tl.set (k * 5) ((tl.getD (k * 5) 0) + (nI 1))).getD (k * 5 + 1) 0), .int (nI (k * 5 + 1)), .ref (248)] h26 _
            refine e_iconst (v := nI 1) f_56_357 (by decide) rfl ?_
            refine e_iadd (z := ((tl.set (k * 5) ((tl.getD (k * 5) 0) + (nI 1))).getD (k * 5 + 1) 0) + (nI 1)) f_56_358 rfl rfl ?_
            refine e_iastore_p (xs := tl.set (k * 5) ((tl.getD (k * 5) 0) + (nI 1))) (x := ((tl.set (k * 5) ((tl.getD (k * 5) 0) + (nI 1))).getD (k * 5 + 1) 0) + (nI 1)) f_56_359 g33 (by omega) (by first | omega | (simp only [List.length_set]; omega)) (rfl) rfl (fun h34 g35 fx36 => ?_)
            have fr37 : px_fi 177 72 h0 h34 := fi_tr fr31 fx36 (by omega)
            refine e_iinc (y := nI (k + 1)) (L' := [some (.ref (177)), some (.int (nI f)), some (.int (nI key)), some (.int (v0)), some (.int (nI t)), some (.int (v)), some (.int (nI (k + 1))), some (.ref (182 + 5 * k + 2)), some (.int ((j.getD k (0, 0, 0)).2.2)), some (.int (bI (!decide (mkM key v ∈ ((sms.getD k sm0).2.2.2.1)))))]) f_56_360 rfl (by rw [show Int32.ofInt 1 = nI 1 by decide]; exact (nI_add _ _)) rfl rfl ?_
            refine e_goto f_56_363 ?_
            obtain ⟨d, rfl⟩ : ∃ y, d = y + 1 := ⟨d - 1, by omega⟩
            have hno : mkM key v ∉ (sms.getD k sm0).2.2.2.1 := fun z => by simp only [z, decide_true] at c_341; exact absurd c_341 (by decide)
            have hsd := sd_d (m := (sms.getD k sm0)) (key := key) (t := t) (v := v) c_103_100
            rw [if_neg hno] at hsd
            rw [pass_on (x := (S, sms, outs, tl, none)) hkl c_68 hsd] at q2
            dsimp only at q2
            have g38 : pStx h26 182 sms k := pStx_fi g25 fx30 (by omega)
            have g39 : pStx h34 182 sms k := pStx_fi g38 fx36 (by omega)
            have g40 : pSM h34 (182 + 5 * k + 2) ((sms.getD k sm0).1, (sms.getD k sm0).2.1, (sms.getD k sm0).2.2.1, dAdd (mkM key v) ((sms.getD k sm0).2.2.2.1), (sms.getD k sm0).2.2.2.2) := pSM_fi g29 fx36 (by omega)
            have g41 : pSt h34 182 (sms.set k ((sms.getD k sm0).1, (sms.getD k sm0).2.1, (sms.getD k sm0).2.2.1, dAdd (mkM key v) (sms.getD k sm0).2.2.2.1, (sms.getD k sm0).2.2.2.2)) := pSt_in g39 g40
            have hok := okM_set q3 (stepDo_ok hst (q3.2 k hkl) p4 p5 (v := v))
            rw [hsd] at hok
            refine px_to_L (L := [some (.ref (177)), some (.int (nI f)), some (.int (nI key)), some (.int (v0)), some (.int (nI t)), some (.int (v)), some (.int (nI (k + 1))), none, none, none]) ⟨Or.inr rfl, Or.inr rfl, Or.inr rfl, Or.inr rfl, Or.inr rfl, Or.inr rfl, Or.inr rfl, Or.inl rfl, Or.inl rfl, Or.inl rfl, trivial⟩ ?_
            have g42 : h34.2.2 177 = some (6, [.ref (jb), .ref (182), .ref (214), .ref (246), .int (nI gv), .int (bI la), .int (bI lb), .int (oI none), .int (dn), .int (wo), .ref (248)]) := fi_at g32 fx36 (by omega)
            have g43 : h14.2.2 182 = some (2, [.int (A), .int (B), .int (W), .int (S), .ref (183)]) := fi_at G1 fx16 (by omega)
            have g44 : h26.2.2 182 = some (2, [.int (A), .int (B), .int (W), .int (S), .ref (183)]) := fi_at g43 fx30 (by omega)
            have g45 : h34.2.2 182 = some (2, [.int (A), .int (B), .int (W), .int (S), .ref (183)]) := fi_at g44 fx36 (by omega)
            have g46 : px_rs h14 183 55 6 (fun k => 182 + 5 * k + 2) := rs_fi G2 fx16 (by omega)
            have g47 : px_rs h26 183 55 6 (fun k => 182 + 5 * k + 2) := rs_fi g46 fx30 (by omega)
            have g48 : px_rs h34 183 55 6 (fun k => 182 + 5 * k + 2) := rs_fi g47 fx36 (by omega)
            have g49 : pRows h14 246 96 outs := pRows_fi G4 fx16 (by omega)
            have g50 : pRows h26 246 96 outs := pRows_fi g49 fx30 (by omega)
            have g51 : pRows h34 246 96 outs := pRows_fi g50 fx36 (by omega)
            have g52 : pMm h14 214 A3 B3 W3 S3 sm3 := pMm_fi G6 fx16 (by omega)
            have g53 : pMm h26 214 A3 B3 W3 S3 sm3 := pMm_fi g52 fx30 (by omega)
            have g54 : pMm h34 214 A3 B3 W3 S3 sm3 := pMm_fi g53 fx36 (by omega)
            first | (exfalso; omega) | exact ih (d) (by omega) (k + 1) v S (sms.set k ((sms.getD k sm0).1, (sms.getD k sm0).2.1, (sms.getD k sm0).2.2.1, dAdd (mkM key v) (sms.getD k sm0).2.2.2.1, (sms.getD k sm0).2.2.2.2)) outs (tinc (tinc tl (k * 5)) (k * 5 + 1)) h34 (by omega) (by omega) (q2) (hok) (by unfold tinc; rw [List.length_set, List.length_set]; exact q4) g42 g45 g48 g41 g51 g35 g54 fr37
          · skip
            have c_341 : (!decide (mkM key v ∈ ((sms.getD k sm0).2.2.2.1))) = false := bI_f' c_341
            refine e_vret f_56_344 rfl ?_
            obtain ⟨d, rfl⟩ : ∃ y, d = y + 1 := ⟨d - 1, by omega⟩
            have hin : mkM key v ∈ (sms.getD k sm0).2.2.2.1 := Classical.not_not.mp (fun z => by simp only [z, decide_false] at c_341; exact absurd c_341 (by decide))
            have hsd := sd_d (m := (sms.getD k sm0)) (key := key) (t := t) (v := v) c_103_100
            rw [if_pos hin] at hsd
            have g55 : pStx h26 182 sms k := pStx_fi g25 fx30 (by omega)
            have g56 : pSt h26 182 (sms.set k ((sms.getD k sm0).1, (sms.getD k sm0).2.1, (sms.getD k sm0).2.2.1, dAdd (mkM key v) (sms.getD k sm0).2.2.2.1, (sms.getD k sm0).2.2.2.2)) := pSt_in g55 g29
            rw [pass_no (x := (S, sms, outs, tl, none)) hkl c_68 hsd] at q2
            dsimp only at q2
            have g57 : h26.2.2 177 = some (6, [.ref (jb), .ref (182), .ref (214), .ref (246), .int (nI gv), .int (bI la), .int (bI lb), .int (oI none), .int (dn), .int (wo), .ref (248)]) := fi_at g18 fx30 (by omega)
            have g58 : h14.2.2 182 = some (2, [.int (A), .int (B), .int (W), .int (S), .ref (183)]) := fi_at G1 fx16 (by omega)
            have g59 : h26.2.2 182 = some (2, [.int (A), .int (B), .int (W), .int (S), .ref (183)]) := fi_at g58 fx30 (by omega)
            have g60 : px_rs h14 183 55 6 (fun k => 182 + 5 * k + 2) := rs_fi G2 fx16 (by omega)
            have g61 : px_rs h26 183 55 6 (fun k => 182 + 5 * k + 2) := rs_fi g60 fx30 (by omega)
            have g62 : pRows h14 246 96 outs := pRows_fi G4 fx16 (by omega)
            have g63 : pRows h26 246 96 outs := pRows_fi g62 fx30 (by omega)
            have g64 : px_pa h26 248 50 30 Value.int (tl.set (k * 5) ((tl.getD (k * 5) 0) + (nI 1))) := pa_fi g15 fx30 (by omega)
            have g65 : pMm h14 214 A3 B3 W3 S3 sm3 := pMm_fi G6 fx16 (by omega)
            have g66 : pMm h26 214 A3 B3 W3 S3 sm3 := pMm_fi g65 fx30 (by omega)
            subst q2
            exact ⟨rfl, g57, g59, g61, g56, g63, g64, g66, fr31⟩
        · skip
          by_cases c_103_102 : (j.getD k (0, 0, 0)).1 = 102
          · skip
            refine e_sw_t f_56_103 (t := 196) (by rw [c_103_102]; rfl) ?_
            refine e_aload_n f_56_196 rfl rfl ?_
            refine e_getf f_56_197 g18 rfl rfl ?_
            refine e_getf f_56_200 g19.1 rfl rfl ?_
            refine e_iload f_56_203 rfl rfl ?_
            refine e_iaload_p (xs := j) f_56_205 g19.2.2.1 (d := (0, 0, 0)) (by first | omega | (simp only [List.length_set]; omega)) rfl ?_
            show px_to 56 206 [some (.ref (177)), some (.int (nI f)), some (.int (nI key)), some (.int (v0)), some (.int (nI t)), some (.int (v)), some (.int (nI k)), some (.ref (182 + 5 * k + 2)), some (.int ((j.getD k (0, 0, 0)).2.2)), some (.int (nI 1))] [.int (nI ((j.getD k (0, 0, 0)).2.1))] h14 _
            refine e_iload f_56_206 rfl rfl ?_
            refine e_iload f_56_208 rfl rfl ?_
            refine e_callS (As := [.int (nI ((j.getD k (0, 0, 0)).2.1)), .int (v), .int ((j.getD k (0, 0, 0)).2.2)]) (rest := []) f_56_210 rfl rfl rfl (Nat.le_of_ble_eq_true rfl) (Nat.le_of_ble_eq_true rfl) (cc_Run_lets (ac := (j.getD k (0, 0, 0)).2.1) (v := v) (n := (j.getD k (0, 0, 0)).2.2)  (by omega)) rfl (fun h67 r68 q69 => ?_)
            obtain ⟨rfl, qe⟩ := q69
            have qe := qe.symm
            subst qe
            show px_to 56 213 [some (.ref (177)), some (.int (nI f)), some (.int (nI key)), some (.int (v0)), some (.int (nI t)), some (.int (v)), some (.int (nI k)), some (.ref (182 + 5 * k + 2)), some (.int ((j.getD k (0, 0, 0)).2.2)), some (.int (nI 1))] [.int (bI (lets ((j.getD k (0, 0, 0)).2.1) v ((j.getD k (0, 0, 0)).2.2)))] h14 _
            refine e_istore (L' := [some (.ref (177)), some (.int (nI f)), some (.int (nI key)), some (.int (v0)), some (.int (nI t)), some (.int (v)), some (.int (nI k)), some (.ref (182 + 5 * k + 2)), some (.int ((j.getD k (0, 0, 0)).2.2)), some (.int (bI (lets ((j.getD k (0, 0, 0)).2.1) v ((j.getD k (0, 0, 0)).2.2))))]) f_56_213 (Nat.le_of_ble_eq_true rfl) rfl rfl ?_
            refine e_goto f_56_215 ?_
            refine e_iload f_56_339 rfl rfl ?_
            refine e_if_ne f_56_341 rfl (fun c_341 => ?_) (fun c_341 => ?_)
            · skip
              have c_341 : (lets ((j.getD k (0, 0, 0)).2.1) v ((j.getD k (0, 0, 0)).2.2)) = true := bI_t c_341
              refine e_aload_n f_56_345 rfl rfl ?_
              refine e_getf f_56_346 g18 rfl rfl ?_
              refine e_iload f_56_349 rfl rfl ?_
              refine e_iconst (v := nI 5) f_56_351 (by decide) rfl ?_
              refine e_imul (z := nI (k * 5)) f_56_352 (pk_mul _ _) rfl ?_
              refine e_iconst (v := nI 1) f_56_353 (by decide) rfl ?_
              refine e_iadd (z := nI (k * 5 + 1)) f_56_354 (nI_add _ _) rfl ?_
              refine e_dup2 f_56_355 rfl rfl rfl ?_
              refine e_iaload_p (xs := tl.set (k * 5) ((tl.getD (k * 5) 0) + (nI 1))) f_56_356 g15 (d := 0) (by first | omega | (simp only [List.length_set]; omega)) rfl ?_
              show px_to 56 357 [some (.ref (177)), some (.int (nI f)), some (.int (nI key)), some (.int (v0)), some (.int (nI t)), some (.int (v)), some (.int (nI k)), some (.ref (182 + 5 * k + 2)), some (.int ((j.getD k (0, 0, 0)).2.2)), some (.int (bI (lets ((j.getD k (0, 0, 0)).2.1) v ((j.getD k (0, 0, 0)).2.2))))] [.int ((tl.set (k * 5) ((tl.getD (k * 5) 0) + (nI 1))).getD (k * 5 + 1) 0), .int (nI (k * 5 + 1)), .ref (248)] h14 _
              refine e_iconst (v := nI 1) f_56_357 (by decide) rfl ?_
              refine e_iadd (z := ((tl.set (k * 5) ((tl.getD (k * 5) 0) + (nI 1))).getD (k * 5 + 1) 0) + (nI 1)) f_56_358 rfl rfl ?_
              refine e_iastore_p (xs := tl.set (k * 5) ((tl.getD (k * 5) 0) + (nI 1))) (x := ((tl.set (k * 5) ((tl.getD (k * 5) 0) + (nI 1))).getD (k * 5 + 1) 0) + (nI 1)) f_56_359 g15 (by omega) (by first | omega | (simp only [List.length_set]; omega)) (rfl) rfl (fun h70 g71 fx72 => ?_)
              have fr73 : px_fi 177 72 h0 h70 := fi_tr fr17 fx72 (by omega)
              refine e_iinc (y := nI (k + 1)) (L' := [some (.ref (177)), some (.int (nI f)), some (.int (nI key)), some (.int (v0)), some (.int (nI t)), some (.int (v)), some (.int (nI (k + 1))), some (.ref (182 + 5 * k + 2)), some (.int ((j.getD k (0, 0, 0)).2.2)), some (.int (bI (lets ((j.getD k (0, 0, 0)).2.1) v ((j.getD k (0, 0, 0)).2.2))))]) f_56_360 rfl (by rw [show Int32.ofInt 1 = nI 1 by decide]; exact (nI_add _ _)) rfl rfl ?_
              refine e_goto f_56_363 ?_
              obtain ⟨d, rfl⟩ : ∃ y, d = y + 1 := ⟨d - 1, by omega⟩
              have hsd := sd_f (m := (sms.getD k sm0)) (key := key) (t := t) (v := v) c_103_102
              rw [if_pos c_341] at hsd
              rw [pass_on (x := (S, sms, outs, tl, none)) hkl c_68 hsd] at q2
              dsimp only at q2
              rw [set_self hkm] at q2
              refine px_to_L (L := [some (.ref (177)), some (.int (nI f)), some (.int (nI key)), some (.int (v0)), some (.int (nI t)), some (.int (v)), some (.int (nI (k + 1))), none, none, none]) ⟨Or.inr rfl, Or.inr rfl, Or.inr rfl, Or.inr rfl, Or.inr rfl, Or.inr rfl, Or.inr rfl, Or.inl rfl, Or.inl rfl, Or.inl rfl, trivial⟩ ?_
              have g74 : h70.2.2 177 = some (6, [.ref (jb), .ref (182), .ref (214), .ref (246), .int (nI gv), .int (bI la), .int (bI lb), .int (oI none), .int (dn), .int (wo), .ref (248)]) := fi_at g18 fx72 (by omega)
              have g75 : h14.2.2 182 = some (2, [.int (A), .int (B), .int (W), .int (S), .ref (183)]) := fi_at G1 fx16 (by omega)
              have g76 : h70.2.2 182 = some (2, [.int (A), .int (B), .int (W), .int (S), .ref (183)]) := fi_at g75 fx72 (by omega)
              have g77 : px_rs h14 183 55 6 (fun k => 182 + 5 * k + 2) := rs_fi G2 fx16 (by omega)
              have g78 : px_rs h70 183 55 6 (fun k => 182 + 5 * k + 2) := rs_fi g77 fx72 (by omega)
              have g79 : pSt h14 182 sms := pSt_fi G3 fx16 (by omega)
              have g80 : pSt h70 182 sms := pSt_fi g79 fx72 (by omega)
              have g81 : pRows h14 246 96 outs := pRows_fi G4 fx16 (by omega)
              have g82 : pRows h70 246 96 outs := pRows_fi g81 fx72 (by omega)
              have g83 : pMm h14 214 A3 B3 W3 S3 sm3 := pMm_fi G6 fx16 (by omega)
              have g84 : pMm h70 214 A3 B3 W3 S3 sm3 := pMm_fi g83 fx72 (by omega)
              first | (exfalso; omega) | exact ih (d) (by omega) (k + 1) v S sms outs (tinc (tinc tl (k * 5)) (k * 5 + 1)) h70 (by omega) (by omega) (q2) (q3) (by unfold tinc; rw [List.length_set, List.length_set]; exact q4) g74 g76 g78 g80 g82 g71 g84 fr73
            · skip
              have c_341 : (lets ((j.getD k (0, 0, 0)).2.1) v ((j.getD k (0, 0, 0)).2.2)) = false := bI_f' c_341
              refine e_vret f_56_344 rfl ?_
              obtain ⟨d, rfl⟩ : ∃ y, d = y + 1 := ⟨d - 1, by omega⟩
              have hsd := sd_f (m := (sms.getD k sm0)) (key := key) (t := t) (v := v) c_103_102
              rw [if_neg (by rw [c_341]; decide)] at hsd
              rw [pass_no (x := (S, sms, outs, tl, none)) hkl c_68 hsd] at q2
              dsimp only at q2
              rw [set_self hkm] at q2
              have g85 : h14.2.2 182 = some (2, [.int (A), .int (B), .int (W), .int (S), .ref (183)]) := fi_at G1 fx16 (by omega)
              have g86 : px_rs h14 183 55 6 (fun k => 182 + 5 * k + 2) := rs_fi G2 fx16 (by omega)
              have g87 : pSt h14 182 sms := pSt_fi G3 fx16 (by omega)
              have g88 : pRows h14 246 96 outs := pRows_fi G4 fx16 (by omega)
              have g89 : pMm h14 214 A3 B3 W3 S3 sm3 := pMm_fi G6 fx16 (by omega)
              subst q2
              exact ⟨rfl, g18, g85, g86, g87, g88, g15, g89, fr17⟩
          · skip
            by_cases c_103_109 : (j.getD k (0, 0, 0)).1 = 109
            · skip
              refine e_sw_t f_56_103 (t := 218) (by rw [c_103_109]; rfl) ?_
              refine e_aload_n f_56_218 rfl rfl ?_
              refine e_getf f_56_219 g18 rfl rfl ?_
              refine e_getf f_56_222 g19.1 rfl rfl ?_
              refine e_iload f_56_225 rfl rfl ?_
              refine e_iaload_p (xs := j) f_56_227 g19.2.2.1 (d := (0, 0, 0)) (by first | omega | (simp only [List.length_set]; omega)) rfl ?_
              show px_to 56 228 [some (.ref (177)), some (.int (nI f)), some (.int (nI key)), some (.int (v0)), some (.int (nI t)), some (.int (v)), some (.int (nI k)), some (.ref (182 + 5 * k + 2)), some (.int ((j.getD k (0, 0, 0)).2.2)), some (.int (nI 1))] [.int (nI ((j.getD k (0, 0, 0)).2.1))] h14 _
              refine e_iload f_56_228 rfl rfl ?_
              refine e_iload f_56_230 rfl rfl ?_
              refine e_callS (As := [.int (nI ((j.getD k (0, 0, 0)).2.1)), .int (v), .int ((j.getD k (0, 0, 0)).2.2)]) (rest := []) f_56_232 rfl rfl rfl (Nat.le_of_ble_eq_true rfl) (Nat.le_of_ble_eq_true rfl) (cc_Run_acted (ac := (j.getD k (0, 0, 0)).2.1) (v := v) (n := (j.getD k (0, 0, 0)).2.2)  (by omega)) rfl (fun h90 r91 q92 => ?_)
              obtain ⟨rfl, qe⟩ := q92
              have qe := qe.symm
              subst qe
              show px_to 56 235 [some (.ref (177)), some (.int (nI f)), some (.int (nI key)), some (.int (v0)), some (.int (nI t)), some (.int (v)), some (.int (nI k)), some (.ref (182 + 5 * k + 2)), some (.int ((j.getD k (0, 0, 0)).2.2)), some (.int (nI 1))] [.int (acted ((j.getD k (0, 0, 0)).2.1) v ((j.getD k (0, 0, 0)).2.2))] h14 _
              refine e_istore (L' := [some (.ref (177)), some (.int (nI f)), some (.int (nI key)), some (.int (v0)), some (.int (nI t)), some (.int (acted ((j.getD k (0, 0, 0)).2.1) v ((j.getD k (0, 0, 0)).2.2))), some (.int (nI k)), some (.ref (182 + 5 * k + 2)), some (.int ((j.getD k (0, 0, 0)).2.2)), some (.int (nI 1))]) f_56_235 (Nat.le_of_ble_eq_true rfl) rfl rfl ?_
              refine e_goto f_56_237 ?_
              refine e_iload f_56_339 rfl rfl ?_
              refine e_if_ne_t f_56_341 (by decide) ?_
              refine e_aload_n f_56_345 rfl rfl ?_
              refine e_getf f_56_346 g18 rfl rfl ?_
              refine e_iload f_56_349 rfl rfl ?_
              refine e_iconst (v := nI 5) f_56_351 (by decide) rfl ?_
              refine e_imul (z := nI (k * 5)) f_56_352 (pk_mul _ _) rfl ?_
              refine e_iconst (v := nI 1) f_56_353 (by decide) rfl ?_
              refine e_iadd (z := nI (k * 5 + 1)) f_56_354 (nI_add _ _) rfl ?_
              refine e_dup2 f_56_355 rfl rfl rfl ?_
              refine e_iaload_p (xs := tl.set (k * 5) ((tl.getD (k * 5) 0) + (nI 1))) f_56_356 g15 (d := 0) (by first | omega | (simp only [List.length_set]; omega)) rfl ?_
              show px_to 56 357 [some (.ref (177)), some (.int (nI f)), some (.int (nI key)), some (.int (v0)), some (.int (nI t)), some (.int (acted ((j.getD k (0, 0, 0)).2.1) v ((j.getD k (0, 0, 0)).2.2))), some (.int (nI k)), some (.ref (182 + 5 * k + 2)), some (.int ((j.getD k (0, 0, 0)).2.2)), some (.int (nI 1))] [.int ((tl.set (k * 5) ((tl.getD (k * 5) 0) + (nI 1))).getD (k * 5 + 1) 0), .int (nI (k * 5 + 1)), .ref (248)] h14 _
              refine e_iconst (v := nI 1) f_56_357 (by decide) rfl ?_
              refine e_iadd (z := ((tl.set (k * 5) ((tl.getD (k * 5) 0) + (nI 1))).getD (k * 5 + 1) 0) + (nI 1)) f_56_358 rfl rfl ?_
              refine e_iastore_p (xs := tl.set (k * 5) ((tl.getD (k * 5) 0) + (nI 1))) (x := ((tl.set (k * 5) ((tl.getD (k * 5) 0) + (nI 1))).getD (k * 5 + 1) 0) + (nI 1)) f_56_359 g15 (by omega) (by first | omega | (simp only [List.length_set]; omega)) (rfl) rfl (fun h93 g94 fx95 => ?_)
              have fr96 : px_fi 177 72 h0 h93 := fi_tr fr17 fx95 (by omega)
              refine e_iinc (y := nI (k + 1)) (L' := [some (.ref (177)), some (.int (nI f)), some (.int (nI key)), some (.int (v0)), some (.int (nI t)), some (.int (acted ((j.getD k (0, 0, 0)).2.1) v ((j.getD k (0, 0, 0)).2.2))), some (.int (nI (k + 1))), some (.ref (182 + 5 * k + 2)), some (.int ((j.getD k (0, 0, 0)).2.2)), some (.int (nI 1))]) f_56_360 rfl (by rw [show Int32.ofInt 1 = nI 1 by decide]; exact (nI_add _ _)) rfl rfl ?_
              refine e_goto f_56_363 ?_
              obtain ⟨d, rfl⟩ : ∃ y, d = y + 1 := ⟨d - 1, by omega⟩
              have hsd := sd_m (m := (sms.getD k sm0)) (key := key) (t := t) (v := v) c_103_109
              rw [pass_on (x := (S, sms, outs, tl, none)) hkl c_68 hsd] at q2
              dsimp only at q2
              rw [set_self hkm] at q2
              refine px_to_L (L := [some (.ref (177)), some (.int (nI f)), some (.int (nI key)), some (.int (v0)), some (.int (nI t)), some (.int ((acted (j.getD k (0, 0, 0)).2.1 v (j.getD k (0, 0, 0)).2.2))), some (.int (nI (k + 1))), none, none, none]) ⟨Or.inr rfl, Or.inr rfl, Or.inr rfl, Or.inr rfl, Or.inr rfl, Or.inr rfl, Or.inr rfl, Or.inl rfl, Or.inl rfl, Or.inl rfl, trivial⟩ ?_
              have g97 : h93.2.2 177 = some (6, [.ref (jb), .ref (182), .ref (214), .ref (246), .int (nI gv), .int (bI la), .int (bI lb), .int (oI none), .int (dn), .int (wo), .ref (248)]) := fi_at g18 fx95 (by omega)
              have g98 : h14.2.2 182 = some (2, [.int (A), .int (B), .int (W), .int (S), .ref (183)]) := fi_at G1 fx16 (by omega)
              have g99 : h93.2.2 182 = some (2, [.int (A), .int (B), .int (W), .int (S), .ref (183)]) := fi_at g98 fx95 (by omega)
              have g100 : px_rs h14 183 55 6 (fun k => 182 + 5 * k + 2) := rs_fi G2 fx16 (by omega)
              have g101 : px_rs h93 183 55 6 (fun k => 182 + 5 * k + 2) := rs_fi g100 fx95 (by omega)
              have g102 : pSt h14 182 sms := pSt_fi G3 fx16 (by omega)
              have g103 : pSt h93 182 sms := pSt_fi g102 fx95 (by omega)
              have g104 : pRows h14 246 96 outs := pRows_fi G4 fx16 (by omega)
              have g105 : pRows h93 246 96 outs := pRows_fi g104 fx95 (by omega)
              have g106 : pMm h14 214 A3 B3 W3 S3 sm3 := pMm_fi G6 fx16 (by omega)
              have g107 : pMm h93 214 A3 B3 W3 S3 sm3 := pMm_fi g106 fx95 (by omega)
              first | (exfalso; omega) | exact ih (d) (by omega) (k + 1) (acted (j.getD k (0, 0, 0)).2.1 v (j.getD k (0, 0, 0)).2.2) S sms outs (tinc (tinc tl (k * 5)) (k * 5 + 1)) h93 (by omega) (by omega) (q2) (q3) (by unfold tinc; rw [List.length_set, List.length_set]; exact q4) g97 g99 g101 g103 g105 g94 g107 fr96
            · skip
              by_cases c_103_113 : (j.getD k (0, 0, 0)).1 = 113
              · skip
                refine e_sw_t f_56_103 (t := 240) (by rw [c_103_113]; rfl) ?_
                refine e_bipush (v := nI 47) f_56_240 (by decide) rfl ?_
                refine e_iload f_56_242 rfl rfl ?_
                refine e_iload f_56_244 rfl rfl ?_
                refine e_callS (As := [.int (nI 47), .int ((j.getD k (0, 0, 0)).2.2), .int (v)]) (rest := []) f_56_246 rfl rfl rfl (Nat.le_of_ble_eq_true rfl) (Nat.le_of_ble_eq_true rfl) (cc_Run_acted (ac := 47) (v := (j.getD k (0, 0, 0)).2.2) (n := v)  (by omega)) rfl (fun h108 r109 q110 => ?_)
                obtain ⟨rfl, qe⟩ := q110
                have qe := qe.symm
                subst qe
                show px_to 56 249 [some (.ref (177)), some (.int (nI f)), some (.int (nI key)), some (.int (v0)), some (.int (nI t)), some (.int (v)), some (.int (nI k)), some (.ref (182 + 5 * k + 2)), some (.int ((j.getD k (0, 0, 0)).2.2)), some (.int (nI 1))] [.int (acted 47 ((j.getD k (0, 0, 0)).2.2) v)] h14 _
                refine e_istore (L' := [some (.ref (177)), some (.int (nI f)), some (.int (nI key)), some (.int (v0)), some (.int (nI t)), some (.int (acted 47 ((j.getD k (0, 0, 0)).2.2) v)), some (.int (nI k)), some (.ref (182 + 5 * k + 2)), some (.int ((j.getD k (0, 0, 0)).2.2)), some (.int (nI 1))]) f_56_249 (Nat.le_of_ble_eq_true rfl) rfl rfl ?_
                refine e_goto f_56_251 ?_
                refine e_iload f_56_339 rfl rfl ?_
                refine e_if_ne_t f_56_341 (by decide) ?_
                refine e_aload_n f_56_345 rfl rfl ?_
                refine e_getf f_56_346 g18 rfl rfl ?_
                refine e_iload f_56_349 rfl rfl ?_
                refine e_iconst (v := nI 5) f_56_351 (by decide) rfl ?_
                refine e_imul (z := nI (k * 5)) f_56_352 (pk_mul _ _) rfl ?_
                refine e_iconst (v := nI 1) f_56_353 (by decide) rfl ?_
                refine e_iadd (z := nI (k * 5 + 1)) f_56_354 (nI_add _ _) rfl ?_
                refine e_dup2 f_56_355 rfl rfl rfl ?_
                refine e_iaload_p (xs := tl.set (k * 5) ((tl.getD (k * 5) 0) + (nI 1))) f_56_356 g15 (d := 0) (by first | omega | (simp only [List.length_set]; omega)) rfl ?_
                show px_to 56 357 [some (.ref (177)), some (.int (nI f)), some (.int (nI key)), some (.int (v0)), some (.int (nI t)), some (.int (acted 47 ((j.getD k (0, 0, 0)).2.2) v)), some (.int (nI k)), some (.ref (182 + 5 * k + 2)), some (.int ((j.getD k (0, 0, 0)).2.2)), some (.int (nI 1))] [.int ((tl.set (k * 5) ((tl.getD (k * 5) 0) + (nI 1))).getD (k * 5 + 1) 0), .int (nI (k * 5 + 1)), .ref (248)] h14 _
                refine e_iconst (v := nI 1) f_56_357 (by decide) rfl ?_
                refine e_iadd (z := ((tl.set (k * 5) ((tl.getD (k * 5) 0) + (nI 1))).getD (k * 5 + 1) 0) + (nI 1)) f_56_358 rfl rfl ?_
                refine e_iastore_p (xs := tl.set (k * 5) ((tl.getD (k * 5) 0) + (nI 1))) (x := ((tl.set (k * 5) ((tl.getD (k * 5) 0) + (nI 1))).getD (k * 5 + 1) 0) + (nI 1)) f_56_359 g15 (by omega) (by first | omega | (simp only [List.length_set]; omega)) (rfl) rfl (fun h111 g112 fx113 => ?_)
                have fr114 : px_fi 177 72 h0 h111 := fi_tr fr17 fx113 (by omega)
                refine e_iinc (y := nI (k + 1)) (L' := [some (.ref (177)), some (.int (nI f)), some (.int (nI key)), some (.int (v0)), some (.int (nI t)), some (.int (acted 47 ((j.getD k (0, 0, 0)).2.2) v)), some (.int (nI (k + 1))), some (.ref (182 + 5 * k + 2)), some (.int ((j.getD k (0, 0, 0)).2.2)), some (.int (nI 1))]) f_56_360 rfl (by rw [show Int32.ofInt 1 = nI 1 by decide]; exact (nI_add _ _)) rfl rfl ?_
                refine e_goto f_56_363 ?_
                obtain ⟨d, rfl⟩ : ∃ y, d = y + 1 := ⟨d - 1, by omega⟩
                have hsd := sd_q (m := (sms.getD k sm0)) (key := key) (t := t) (v := v) c_103_113
                rw [pass_on (x := (S, sms, outs, tl, none)) hkl c_68 hsd] at q2
                dsimp only at q2
                rw [set_self hkm] at q2
                refine px_to_L (L := [some (.ref (177)), some (.int (nI f)), some (.int (nI key)), some (.int (v0)), some (.int (nI t)), some (.int ((acted 47 (j.getD k (0, 0, 0)).2.2 v))), some (.int (nI (k + 1))), none, none, none]) ⟨Or.inr rfl, Or.inr rfl, Or.inr rfl, Or.inr rfl, Or.inr rfl, Or.inr rfl, Or.inr rfl, Or.inl rfl, Or.inl rfl, Or.inl rfl, trivial⟩ ?_
                have g115 : h111.2.2 177 = some (6, [.ref (jb), .ref (182), .ref (214), .ref (246), .int (nI gv), .int (bI la), .int (bI lb), .int (oI none), .int (dn), .int (wo), .ref (248)]) := fi_at g18 fx113 (by omega)
                have g116 : h14.2.2 182 = some (2, [.int (A), .int (B), .int (W), .int (S), .ref (183)]) := fi_at G1 fx16 (by omega)
                have g117 : h111.2.2 182 = some (2, [.int (A), .int (B), .int (W), .int (S), .ref (183)]) := fi_at g116 fx113 (by omega)
                have g118 : px_rs h14 183 55 6 (fun k => 182 + 5 * k + 2) := rs_fi G2 fx16 (by omega)
                have g119 : px_rs h111 183 55 6 (fun k => 182 + 5 * k + 2) := rs_fi g118 fx113 (by omega)
                have g120 : pSt h14 182 sms := pSt_fi G3 fx16 (by omega)
                have g121 : pSt h111 182 sms := pSt_fi g120 fx113 (by omega)
                have g122 : pRows h14 246 96 outs := pRows_fi G4 fx16 (by omega)
                have g123 : pRows h111 246 96 outs := pRows_fi g122 fx113 (by omega)
                have g124 : pMm h14 214 A3 B3 W3 S3 sm3 := pMm_fi G6 fx16 (by omega)
                have g125 : pMm h111 214 A3 B3 W3 S3 sm3 := pMm_fi g124 fx113 (by omega)
                first | (exfalso; omega) | exact ih (d) (by omega) (k + 1) (acted 47 (j.getD k (0, 0, 0)).2.2 v) S sms outs (tinc (tinc tl (k * 5)) (k * 5 + 1)) h111 (by omega) (by omega) (q2) (q3) (by unfold tinc; rw [List.length_set, List.length_set]; exact q4) g115 g117 g119 g121 g123 g112 g125 fr114
              · skip
                by_cases c_103_115 : (j.getD k (0, 0, 0)).1 = 115
                · skip
                  refine e_sw_t f_56_103 (t := 267) (by rw [c_103_115]; rfl) ?_
                  refine e_aload f_56_267 rfl rfl ?_
                  refine e_iload_n f_56_269 rfl rfl ?_
                  refine e_iload f_56_270 rfl rfl ?_
                  have g126 : pSt h14 182 sms := pSt_fi G3 fx16 (by omega)
                  obtain ⟨g127, g128⟩ := pSt_get (k := k) g126 (by omega) (hkm)
                  refine e_callV (As := [.int (nI key), .int (v)]) (rest := []) f_56_272 rfl rfl rfl (Nat.le_of_ble_eq_true rfl) (Nat.le_of_ble_eq_true rfl) g127.1 rfl (Nat.le_of_ble_eq_true rfl) (cc_SM_addToSum (k := key) (v := v) (a := 182 + 5 * k + 2) (to := (sms.getD k sm0).1) (su := (sms.getD k sm0).2.1) (ti := (sms.getD k sm0).2.2.1) (ms := (sms.getD k sm0).2.2.2.1) (cs := (sms.getD k sm0).2.2.2.2) g127 (by omega) (by omega)) rfl (fun h129 r130 q131 => ?_)
                  obtain ⟨rfl, g132, fx133⟩ := q131
                  have fr134 : px_fi 177 72 h0 h129 := fi_tr fr17 fx133 (by omega)
                  show px_to 56 275 [some (.ref (177)), some (.int (nI f)), some (.int (nI key)), some (.int (v0)), some (.int (nI t)), some (.int (v)), some (.int (nI k)), some (.ref (182 + 5 * k + 2)), some (.int ((j.getD k (0, 0, 0)).2.2)), some (.int (nI 1))] [.int (((sms.getD k sm0).2.1).getD key 0 + v)] h129 _
                  refine e_istore (L' := [some (.ref (177)), some (.int (nI f)), some (.int (nI key)), some (.int (v0)), some (.int (nI t)), some (.int (((sms.getD k sm0).2.1).getD key 0 + v)), some (.int (nI k)), some (.ref (182 + 5 * k + 2)), some (.int ((j.getD k (0, 0, 0)).2.2)), some (.int (nI 1))]) f_56_275 (Nat.le_of_ble_eq_true rfl) rfl rfl ?_
                  refine e_goto f_56_277 ?_
                  refine e_iload f_56_339 rfl rfl ?_
                  refine e_if_ne_t f_56_341 (by decide) ?_
                  refine e_aload_n f_56_345 rfl rfl ?_
                  have g135 : h129.2.2 177 = some (6, [.ref (jb), .ref (182), .ref (214), .ref (246), .int (nI gv), .int (bI la), .int (bI lb), .int (oI none), .int (dn), .int (wo), .ref (248)]) := fi_at g18 fx133 (by omega)
                  refine e_getf f_56_346 g135 rfl rfl ?_
                  refine e_iload f_56_349 rfl rfl ?_
                  refine e_iconst (v := nI 5) f_56_351 (by decide) rfl ?_
                  refine e_imul (z := nI (k * 5)) f_56_352 (pk_mul _ _) rfl ?_
                  refine e_iconst (v := nI 1) f_56_353 (by decide) rfl ?_
                  refine e_iadd (z := nI (k * 5 + 1)) f_56_354 (nI_add _ _) rfl ?_
                  refine e_dup2 f_56_355 rfl rfl rfl ?_
                  have g136 : px_pa h129 248 50 30 Value.int (tl.set (k * 5) ((tl.getD (k * 5) 0) + (nI 1))) := pa_fi g15 fx133 (by omega)
                  refine e_iaload_p (xs := tl.set (k * 5) ((tl.getD (k * 5) 0) + (nI 1))) f_56_356 g136 (d := 0) (by first | omega | (simp only [List.length_set]; omega)) rfl ?_
                  show px_to 56 357 [some (.ref (177)), some (.int (nI f)), some (.int (nI key)), some (.int (v0)), some (.int (nI t)), some (.int (((sms.getD k sm0).2.1).getD key 0 + v)), some (.int (nI k)), some (.ref (182 + 5 * k + 2)), some (.int ((j.getD k (0, 0, 0)).2.2)), some (.int (nI 1))] [.int ((tl.set (k * 5) ((tl.getD (k * 5) 0) + (nI 1))).getD (k * 5 + 1) 0), .int (nI (k * 5 + 1)), .ref (248)] h129 _
                  refine e_iconst (v := nI 1) f_56_357 (by decide) rfl ?_
                  refine e_iadd (z := ((tl.set (k * 5) ((tl.getD (k * 5) 0) + (nI 1))).getD (k * 5 + 1) 0) + (nI 1)) f_56_358 rfl rfl ?_
                  refine e_iastore_p (xs := tl.set (k * 5) ((tl.getD (k * 5) 0) + (nI 1))) (x := ((tl.set (k * 5) ((tl.getD (k * 5) 0) + (nI 1))).getD (k * 5 + 1) 0) + (nI 1)) f_56_359 g136 (by omega) (by first | omega | (simp only [List.length_set]; omega)) (rfl) rfl (fun h137 g138 fx139 => ?_)
                  have fr140 : px_fi 177 72 h0 h137 := fi_tr fr134 fx139 (by omega)
                  refine e_iinc (y := nI (k + 1)) (L' := [some (.ref (177)), some (.int (nI f)), some (.int (nI key)), some (.int (v0)), some (.int (nI t)), some (.int (((sms.getD k sm0).2.1).getD key 0 + v)), some (.int (nI (k + 1))), some (.ref (182 + 5 * k + 2)), some (.int ((j.getD k (0, 0, 0)).2.2)), some (.int (nI 1))]) f_56_360 rfl (by rw [show Int32.ofInt 1 = nI 1 by decide]; exact (nI_add _ _)) rfl rfl ?_
                  refine e_goto f_56_363 ?_
                  obtain ⟨d, rfl⟩ : ∃ y, d = y + 1 := ⟨d - 1, by omega⟩
                  have hsd := sd_s (m := (sms.getD k sm0)) (key := key) (t := t) (v := v) c_103_115
                  rw [pass_on (x := (S, sms, outs, tl, none)) hkl c_68 hsd] at q2
                  dsimp only at q2
                  have g141 : pStx h129 182 sms k := pStx_fi g128 fx133 (by omega)
                  have g142 : pStx h137 182 sms k := pStx_fi g141 fx139 (by omega)
                  have g143 : pSM h137 (182 + 5 * k + 2) ((sms.getD k sm0).1, ((sms.getD k sm0).2.1).set key (((sms.getD k sm0).2.1).getD key 0 + v), (sms.getD k sm0).2.2.1, (sms.getD k sm0).2.2.2.1, (sms.getD k sm0).2.2.2.2) := pSM_fi g132 fx139 (by omega)
                  have g144 : pSt h137 182 (sms.set k ((sms.getD k sm0).1, (sms.getD k sm0).2.1.set key ((sms.getD k sm0).2.1.getD key 0 + v), (sms.getD k sm0).2.2.1, (sms.getD k sm0).2.2.2.1, (sms.getD k sm0).2.2.2.2)) := pSt_in g142 g143
                  have hok := okM_set q3 (stepDo_ok hst (q3.2 k hkl) p4 p5 (v := v))
                  rw [hsd] at hok
                  refine px_to_L (L := [some (.ref (177)), some (.int (nI f)), some (.int (nI key)), some (.int (v0)), some (.int (nI t)), some (.int (((sms.getD k sm0).2.1.getD key 0 + v))), some (.int (nI (k + 1))), none, none, none]) ⟨Or.inr rfl, Or.inr rfl, Or.inr rfl, Or.inr rfl, Or.inr rfl, Or.inr rfl, Or.inr rfl, Or.inl rfl, Or.inl rfl, Or.inl rfl, trivial⟩ ?_
                  have g145 : h137.2.2 177 = some (6, [.ref (jb), .ref (182), .ref (214), .ref (246), .int (nI gv), .int (bI la), .int (bI lb), .int (oI none), .int (dn), .int (wo), .ref (248)]) := fi_at g135 fx139 (by omega)
                  have g146 : h14.2.2 182 = some (2, [.int (A), .int (B), .int (W), .int (S), .ref (183)]) := fi_at G1 fx16 (by omega)
                  have g147 : h129.2.2 182 = some (2, [.int (A), .int (B), .int (W), .int (S), .ref (183)]) := fi_at g146 fx133 (by omega)
                  have g148 : h137.2.2 182 = some (2, [.int (A), .int (B), .int (W), .int (S), .ref (183)]) := fi_at g147 fx139 (by omega)
                  have g149 : px_rs h14 183 55 6 (fun k => 182 + 5 * k + 2) := rs_fi G2 fx16 (by omega)
                  have g150 : px_rs h129 183 55 6 (fun k => 182 + 5 * k + 2) := rs_fi g149 fx133 (by omega)
                  have g151 : px_rs h137 183 55 6 (fun k => 182 + 5 * k + 2) := rs_fi g150 fx139 (by omega)
                  have g152 : pRows h14 246 96 outs := pRows_fi G4 fx16 (by omega)
                  have g153 : pRows h129 246 96 outs := pRows_fi g152 fx133 (by omega)
                  have g154 : pRows h137 246 96 outs := pRows_fi g153 fx139 (by omega)
                  have g155 : pMm h14 214 A3 B3 W3 S3 sm3 := pMm_fi G6 fx16 (by omega)
                  have g156 : pMm h129 214 A3 B3 W3 S3 sm3 := pMm_fi g155 fx133 (by omega)
                  have g157 : pMm h137 214 A3 B3 W3 S3 sm3 := pMm_fi g156 fx139 (by omega)
                  first | (exfalso; omega) | exact ih (d) (by omega) (k + 1) ((sms.getD k sm0).2.1.getD key 0 + v) S (sms.set k ((sms.getD k sm0).1, (sms.getD k sm0).2.1.set key ((sms.getD k sm0).2.1.getD key 0 + v), (sms.getD k sm0).2.2.1, (sms.getD k sm0).2.2.2.1, (sms.getD k sm0).2.2.2.2)) outs (tinc (tinc tl (k * 5)) (k * 5 + 1)) h137 (by omega) (by omega) (q2) (hok) (by unfold tinc; rw [List.length_set, List.length_set]; exact q4) g145 g148 g151 g144 g154 g138 g157 fr140
                · skip
                  by_cases c_103_119 : (j.getD k (0, 0, 0)).1 = 119
                  · skip
                    refine e_sw_t f_56_103 (t := 280) (by rw [c_103_119]; rfl) ?_
                    refine e_iconst (v := nI 0) f_56_280 (by decide) rfl ?_
                    refine e_istore (L' := [some (.ref (177)), some (.int (nI f)), some (.int (nI key)), some (.int (v0)), some (.int (nI t)), some (.int (v)), some (.int (nI k)), some (.ref (182 + 5 * k + 2)), some (.int ((j.getD k (0, 0, 0)).2.2)), some (.int (nI 0))]) f_56_281 (Nat.le_of_ble_eq_true rfl) rfl rfl ?_
                    refine e_aload f_56_283 rfl rfl ?_
                    refine e_iload_n f_56_285 rfl rfl ?_
                    refine e_iload f_56_286 rfl rfl ?_
                    refine e_iload f_56_288 rfl rfl ?_
                    obtain ⟨wn, hw0, hw1, hw2⟩ := hst.2.2 (Or.inl c_103_119)
                    have hnN : nN (j.getD k (0, 0, 0)).2.2 = wn := by rw [hw2]; exact nN_nI (by omega)
                    have g158 : pSt h14 182 sms := pSt_fi G3 fx16 (by omega)
                    obtain ⟨g159, g160⟩ := pSt_get (k := k) g158 (by omega) (hkm)
                    rw [hw2]
                    refine e_callV (As := [.int (nI key), .int (nI t), .int (nI wn)]) (rest := []) f_56_290 rfl rfl rfl (Nat.le_of_ble_eq_true rfl) (Nat.le_of_ble_eq_true rfl) g159.1 rfl (Nat.le_of_ble_eq_true rfl) (cc_SM_count (k := key) (t := t) (n := wn) (e := (t / wn + 1) * wn) (a := 182 + 5 * k + 2) (to := (sms.getD k sm0).1) (su := (sms.getD k sm0).2.1) (ti := (sms.getD k sm0).2.2.1) (ms := (sms.getD k sm0).2.2.2.1) (cs := (sms.getD k sm0).2.2.2.2) g159 (by omega) (rfl) (by omega) (by omega) (by omega) (((q3.2 k hkl).2.2.1 c_103_119).1)) rfl (fun h161 r162 q163 => ?_)
                    obtain ⟨rfl, g164, fx165⟩ := q163
                    have fr166 : px_fi 177 72 h0 h161 := fi_tr fr17 fx165 (by omega)
                    show px_to 56 293 [some (.ref (177)), some (.int (nI f)), some (.int (nI key)), some (.int (v0)), some (.int (nI t)), some (.int (v)), some (.int (nI k)), some (.ref (182 + 5 * k + 2)), some (.int (nI wn)), some (.int (nI 0))] [.int (bI (!decide (nI ((t / wn + 1) * wn) ≤ ((sms.getD k sm0).1))))] h161 _
                    refine e_if_ne f_56_293 rfl (fun c_293 => ?_) (fun c_293 => ?_)
                    · skip
                      have c_293 : (!decide (nI ((t / wn + 1) * wn) ≤ ((sms.getD k sm0).1))) = true := bI_t c_293
                      refine e_iload f_56_339 rfl rfl ?_
                      refine e_if_ne_f f_56_341 (by decide) rfl ?_
                      refine e_vret f_56_344 rfl ?_
                      obtain ⟨d, rfl⟩ : ∃ y, d = y + 1 := ⟨d - 1, by omega⟩
                      have hsd := sd_w (m := (sms.getD k sm0)) (key := key) (t := t) (v := v) c_103_119 hnN
                      have hlt : decide (nI ((t / wn + 1) * wn) ≤ (sms.getD k sm0).1) = false := by cases hb : decide (nI ((t / wn + 1) * wn) ≤ (sms.getD k sm0).1) with
                        | true => rw [hb] at c_293; exact absurd c_293 (by decide)
                        | false => rfl
                      rw [hlt] at hsd
                      have g167 : pStx h161 182 sms k := pStx_fi g160 fx165 (by omega)
                      have g168 : pSt h161 182 (sms.set k ((sms.getD k sm0).1, (sms.getD k sm0).2.1, (sms.getD k sm0).2.2.1, if nI ((t / wn + 1) * wn) ≤ ((sms.getD k sm0).1) then (sms.getD k sm0).2.2.2.1 else (spAdd (mkM key (nI ((t / wn + 1) * wn))) ((sms.getD k sm0).2.2.2.1) ((sms.getD k sm0).2.2.2.2)).1, if nI ((t / wn + 1) * wn) ≤ ((sms.getD k sm0).1) then (sms.getD k sm0).2.2.2.2 else (spAdd (mkM key (nI ((t / wn + 1) * wn))) ((sms.getD k sm0).2.2.2.1) ((sms.getD k sm0).2.2.2.2)).2)) := pSt_in g167 g164
                      rw [pass_no (x := (S, sms, outs, tl, none)) hkl c_68 hsd] at q2
                      dsimp only at q2
                      have g169 : h161.2.2 177 = some (6, [.ref (jb), .ref (182), .ref (214), .ref (246), .int (nI gv), .int (bI la), .int (bI lb), .int (oI none), .int (dn), .int (wo), .ref (248)]) := fi_at g18 fx165 (by omega)
                      have g170 : h14.2.2 182 = some (2, [.int (A), .int (B), .int (W), .int (S), .ref (183)]) := fi_at G1 fx16 (by omega)
                      have g171 : h161.2.2 182 = some (2, [.int (A), .int (B), .int (W), .int (S), .ref (183)]) := fi_at g170 fx165 (by omega)
                      have g172 : px_rs h14 183 55 6 (fun k => 182 + 5 * k + 2) := rs_fi G2 fx16 (by omega)
                      have g173 : px_rs h161 183 55 6 (fun k => 182 + 5 * k + 2) := rs_fi g172 fx165 (by omega)
                      have g174 : pRows h14 246 96 outs := pRows_fi G4 fx16 (by omega)
                      have g175 : pRows h161 246 96 outs := pRows_fi g174 fx165 (by omega)
                      have g176 : px_pa h161 248 50 30 Value.int (tl.set (k * 5) ((tl.getD (k * 5) 0) + (nI 1))) := pa_fi g15 fx165 (by omega)
                      have g177 : pMm h14 214 A3 B3 W3 S3 sm3 := pMm_fi G6 fx16 (by omega)
                      have g178 : pMm h161 214 A3 B3 W3 S3 sm3 := pMm_fi g177 fx165 (by omega)
                      subst q2
                      exact ⟨rfl, g169, g171, g173, g168, g175, g176, g178, fr166⟩
                    · skip
                      have c_293 : (!decide (nI ((t / wn + 1) * wn) ≤ ((sms.getD k sm0).1))) = false := bI_f' c_293
                      refine e_aload_n f_56_296 rfl rfl ?_
                      have g179 : h161.2.2 177 = some (6, [.ref (jb), .ref (182), .ref (214), .ref (246), .int (nI gv), .int (bI la), .int (bI lb), .int (oI none), .int (dn), .int (wo), .ref (248)]) := fi_at g18 fx165 (by omega)
                      refine e_getf f_56_297 g179 rfl rfl ?_
                      refine e_dup f_56_300 rfl rfl ?_
                      have g180 : h14.2.2 182 = some (2, [.int (A), .int (B), .int (W), .int (S), .ref (183)]) := fi_at G1 fx16 (by omega)
                      have g181 : h161.2.2 182 = some (2, [.int (A), .int (B), .int (W), .int (S), .ref (183)]) := fi_at g180 fx165 (by omega)
                      refine e_getf f_56_301 g181 rfl rfl ?_
                      refine e_iconst (v := nI 1) f_56_304 (by decide) rfl ?_
                      refine e_iadd (z := S + (nI 1)) f_56_305 rfl rfl ?_
                      refine e_putp (vs' := [.int (A), .int (B), .int (W), .int (S + (nI 1)), .ref (183)]) f_56_306 g181 (Nat.le_of_ble_eq_true rfl) (rfl) (rfl) rfl rfl (fun h182 g183 fx184 => ?_)
                      have fr185 : px_fi 177 72 h0 h182 := fi_tr fr166 fx184 (by omega)
                      refine e_aload_n f_56_309 rfl rfl ?_
                      have g186 : h182.2.2 177 = some (6, [.ref (jb), .ref (182), .ref (214), .ref (246), .int (nI gv), .int (bI la), .int (bI lb), .int (oI none), .int (dn), .int (wo), .ref (248)]) := fi_at g179 fx184 (by omega)
                      refine e_getf f_56_310 g186 rfl rfl ?_
                      refine e_iload f_56_313 rfl rfl ?_
                      refine e_iconst (v := nI 5) f_56_315 (by decide) rfl ?_
                      refine e_imul (z := nI (k * 5)) f_56_316 (pk_mul _ _) rfl ?_
                      refine e_iconst (v := nI 3) f_56_317 (by decide) rfl ?_
                      refine e_iadd (z := nI (k * 5 + 3)) f_56_318 (nI_add _ _) rfl ?_
                      refine e_dup2 f_56_319 rfl rfl rfl ?_
                      have g187 : px_pa h161 248 50 30 Value.int (tl.set (k * 5) ((tl.getD (k * 5) 0) + (nI 1))) := pa_fi g15 fx165 (by omega)
                      have g188 : px_pa h182 248 50 30 Value.int (tl.set (k * 5) ((tl.getD (k * 5) 0) + (nI 1))) := pa_fi g187 fx184 (by omega)
                      refine e_iaload_p (xs := tl.set (k * 5) ((tl.getD (k * 5) 0) + (nI 1))) f_56_320 g188 (d := 0) (by first | omega | (simp only [List.length_set]; omega)) rfl ?_
                      show px_to 56 321 [some (.ref (177)), some (.int (nI f)), some (.int (nI key)), some (.int (v0)), some (.int (nI t)), some (.int (v)), some (.int (nI k)), some (.ref (182 + 5 * k + 2)), some (.int (nI wn)), some (.int (nI 0))] [.int ((tl.set (k * 5) ((tl.getD (k * 5) 0) + (nI 1))).getD (k * 5 + 3) 0), .int (nI (k * 5 + 3)), .ref (248)] h182 _
                      refine e_iconst (v := nI 1) f_56_321 (by decide) rfl ?_
                      refine e_iadd (z := ((tl.set (k * 5) ((tl.getD (k * 5) 0) + (nI 1))).getD (k * 5 + 3) 0) + (nI 1)) f_56_322 rfl rfl ?_
                      refine e_iastore_p (xs := tl.set (k * 5) ((tl.getD (k * 5) 0) + (nI 1))) (x := ((tl.set (k * 5) ((tl.getD (k * 5) 0) + (nI 1))).getD (k * 5 + 3) 0) + (nI 1)) f_56_323 g188 (by omega) (by first | omega | (simp only [List.length_set]; omega)) (rfl) rfl (fun h189 g190 fx191 => ?_)
                      have fr192 : px_fi 177 72 h0 h189 := fi_tr fr185 fx191 (by omega)
                      refine e_goto f_56_324 ?_
                      refine e_iload f_56_339 rfl rfl ?_
                      refine e_if_ne_f f_56_341 (by decide) rfl ?_
                      refine e_vret f_56_344 rfl ?_
                      obtain ⟨d, rfl⟩ : ∃ y, d = y + 1 := ⟨d - 1, by omega⟩
                      have hsd := sd_w (m := (sms.getD k sm0)) (key := key) (t := t) (v := v) c_103_119 hnN
                      have hlt : decide (nI ((t / wn + 1) * wn) ≤ (sms.getD k sm0).1) = true := by cases hb : decide (nI ((t / wn + 1) * wn) ≤ (sms.getD k sm0).1) with
                        | true => rfl
                        | false => rw [hb] at c_293; exact absurd c_293 (by decide)
                      rw [hlt] at hsd
                      have g193 : pStx h161 182 sms k := pStx_fi g160 fx165 (by omega)
                      have g194 : pStx h182 182 sms k := pStx_fi g193 fx184 (by omega)
                      have g195 : pStx h189 182 sms k := pStx_fi g194 fx191 (by omega)
                      have g196 : pSM h182 (182 + 5 * k + 2) ((sms.getD k sm0).1, (sms.getD k sm0).2.1, (sms.getD k sm0).2.2.1, if nI ((t / wn + 1) * wn) ≤ ((sms.getD k sm0).1) then (sms.getD k sm0).2.2.2.1 else (spAdd (mkM key (nI ((t / wn + 1) * wn))) ((sms.getD k sm0).2.2.2.1) ((sms.getD k sm0).2.2.2.2)).1, if nI ((t / wn + 1) * wn) ≤ ((sms.getD k sm0).1) then (sms.getD k sm0).2.2.2.2 else (spAdd (mkM key (nI ((t / wn + 1) * wn))) ((sms.getD k sm0).2.2.2.1) ((sms.getD k sm0).2.2.2.2)).2) := pSM_fi g164 fx184 (by omega)
                      have g197 : pSM h189 (182 + 5 * k + 2) ((sms.getD k sm0).1, (sms.getD k sm0).2.1, (sms.getD k sm0).2.2.1, if nI ((t / wn + 1) * wn) ≤ ((sms.getD k sm0).1) then (sms.getD k sm0).2.2.2.1 else (spAdd (mkM key (nI ((t / wn + 1) * wn))) ((sms.getD k sm0).2.2.2.1) ((sms.getD k sm0).2.2.2.2)).1, if nI ((t / wn + 1) * wn) ≤ ((sms.getD k sm0).1) then (sms.getD k sm0).2.2.2.2 else (spAdd (mkM key (nI ((t / wn + 1) * wn))) ((sms.getD k sm0).2.2.2.1) ((sms.getD k sm0).2.2.2.2)).2) := pSM_fi g196 fx191 (by omega)
                      have g198 : pSt h189 182 (sms.set k ((sms.getD k sm0).1, (sms.getD k sm0).2.1, (sms.getD k sm0).2.2.1, if nI ((t / wn + 1) * wn) ≤ ((sms.getD k sm0).1) then (sms.getD k sm0).2.2.2.1 else (spAdd (mkM key (nI ((t / wn + 1) * wn))) ((sms.getD k sm0).2.2.2.1) ((sms.getD k sm0).2.2.2.2)).1, if nI ((t / wn + 1) * wn) ≤ ((sms.getD k sm0).1) then (sms.getD k sm0).2.2.2.2 else (spAdd (mkM key (nI ((t / wn + 1) * wn))) ((sms.getD k sm0).2.2.2.1) ((sms.getD k sm0).2.2.2.2)).2)) := pSt_in g195 g197
                      rw [pass_no (x := (S, sms, outs, tl, none)) hkl c_68 hsd] at q2
                      dsimp only at q2
                      have g199 : h189.2.2 177 = some (6, [.ref (jb), .ref (182), .ref (214), .ref (246), .int (nI gv), .int (bI la), .int (bI lb), .int (oI none), .int (dn), .int (wo), .ref (248)]) := fi_at g186 fx191 (by omega)
                      have g200 : h189.2.2 182 = some (2, [.int (A), .int (B), .int (W), .int (S + (nI 1)), .ref (183)]) := fi_at g183 fx191 (by omega)
                      have g201 : px_rs h14 183 55 6 (fun k => 182 + 5 * k + 2) := rs_fi G2 fx16 (by omega)
                      have g202 : px_rs h161 183 55 6 (fun k => 182 + 5 * k + 2) := rs_fi g201 fx165 (by omega)
                      have g203 : px_rs h182 183 55 6 (fun k => 182 + 5 * k + 2) := rs_fi g202 fx184 (by omega)
                      have g204 : px_rs h189 183 55 6 (fun k => 182 + 5 * k + 2) := rs_fi g203 fx191 (by omega)
                      have g205 : pRows h14 246 96 outs := pRows_fi G4 fx16 (by omega)
                      have g206 : pRows h161 246 96 outs := pRows_fi g205 fx165 (by omega)
                      have g207 : pRows h182 246 96 outs := pRows_fi g206 fx184 (by omega)
                      have g208 : pRows h189 246 96 outs := pRows_fi g207 fx191 (by omega)
                      have g209 : pMm h14 214 A3 B3 W3 S3 sm3 := pMm_fi G6 fx16 (by omega)
                      have g210 : pMm h161 214 A3 B3 W3 S3 sm3 := pMm_fi g209 fx165 (by omega)
                      have g211 : pMm h182 214 A3 B3 W3 S3 sm3 := pMm_fi g210 fx184 (by omega)
                      have g212 : pMm h189 214 A3 B3 W3 S3 sm3 := pMm_fi g211 fx191 (by omega)
                      subst q2
                      exact ⟨rfl, g199, g200, g204, g198, g208, g190, g212, fr192⟩
                  · skip
                    refine e_sw_t f_56_103 (t := 327) (by rw [show (j.getD k (0, 0, 0)).1 = 116 by clear q3; omega]; rfl) ?_
                    have h116 : (j.getD k (0, 0, 0)).1 = 116 := by clear q3; omega
                    have g213 : pSt h14 182 sms := pSt_fi G3 fx16 (by omega)
                    obtain ⟨g214, g215⟩ := pSt_get (k := k) g213 (by omega) (hkm)
                    have l1 : (sms.getD k sm0).2.1.length = 4 := g214.2.2.2.2.2.1
                    have l2 : (sms.getD k sm0).2.2.1.length = 4 := g214.2.2.2.2.2.2
                    have g216 : h14.2.2 (182 + 5 * k + 2) = some (9, [.int ((sms.getD k sm0).1), .ref (182 + 5 * k + 3), .ref (182 + 5 * k + 4), .ref (182 + 5 * k + 5), .ref (182 + 5 * k + 6), .int (nI (((sms.getD k sm0).2.2.2.1).length))]) := g214.1
                    have g217 : px_pa h14 (182 + 5 * k + 3) 50 4 Value.int ((sms.getD k sm0).2.1) := g214.2.1
                    have g218 : px_pa h14 (182 + 5 * k + 4) 50 4 Value.int ((sms.getD k sm0).2.2.1) := g214.2.2.1
                    have g219 : px_pa h14 (182 + 5 * k + 5) 51 96 Value.long ((sms.getD k sm0).2.2.2.1) := g214.2.2.2.1
                    have g220 : px_pz h14 (182 + 5 * k + 6) 96 ((sms.getD k sm0).2.2.2.2) := g214.2.2.2.2.1
                    refine e_aload f_56_327 rfl rfl ?_
                    refine e_getf f_56_329 g216 rfl rfl ?_
                    refine e_iload_n f_56_332 rfl rfl ?_
                    refine e_iload f_56_333 rfl rfl ?_
                    refine e_iload f_56_335 rfl rfl ?_
                    refine e_iadd (z := (nI t) + ((j.getD k (0, 0, 0)).2.2)) f_56_337 rfl rfl ?_
                    refine e_iastore_p (xs := (sms.getD k sm0).2.2.1) (x := (nI t) + ((j.getD k (0, 0, 0)).2.2)) f_56_338 g218 (by omega) (by first | omega | (simp only [List.length_set]; omega)) (rfl) rfl (fun h221 g222 fx223 => ?_)
                    have fr224 : px_fi 177 72 h0 h221 := fi_tr fr17 fx223 (by omega)
                    refine e_iload f_56_339 rfl rfl ?_
                    refine e_if_ne_t f_56_341 (by decide) ?_
                    refine e_aload_n f_56_345 rfl rfl ?_
                    have g225 : h221.2.2 177 = some (6, [.ref (jb), .ref (182), .ref (214), .ref (246), .int (nI gv), .int (bI la), .int (bI lb), .int (oI none), .int (dn), .int (wo), .ref (248)]) := fi_at g18 fx223 (by omega)
                    refine e_getf f_56_346 g225 rfl rfl ?_
                    refine e_iload f_56_349 rfl rfl ?_
                    refine e_iconst (v := nI 5) f_56_351 (by decide) rfl ?_
                    refine e_imul (z := nI (k * 5)) f_56_352 (pk_mul _ _) rfl ?_
                    refine e_iconst (v := nI 1) f_56_353 (by decide) rfl ?_
                    refine e_iadd (z := nI (k * 5 + 1)) f_56_354 (nI_add _ _) rfl ?_
                    refine e_dup2 f_56_355 rfl rfl rfl ?_
                    have g226 : px_pa h221 248 50 30 Value.int (tl.set (k * 5) ((tl.getD (k * 5) 0) + (nI 1))) := pa_fi g15 fx223 (by omega)
                    refine e_iaload_p (xs := tl.set (k * 5) ((tl.getD (k * 5) 0) + (nI 1))) f_56_356 g226 (d := 0) (by first | omega | (simp only [List.length_set]; omega)) rfl ?_
                    show px_to 56 357 [some (.ref (177)), some (.int (nI f)), some (.int (nI key)), some (.int (v0)), some (.int (nI t)), some (.int (v)), some (.int (nI k)), some (.ref (182 + 5 * k + 2)), some (.int ((j.getD k (0, 0, 0)).2.2)), some (.int (nI 1))] [.int ((tl.set (k * 5) ((tl.getD (k * 5) 0) + (nI 1))).getD (k * 5 + 1) 0), .int (nI (k * 5 + 1)), .ref (248)] h221 _
                    refine e_iconst (v := nI 1) f_56_357 (by decide) rfl ?_
                    refine e_iadd (z := ((tl.set (k * 5) ((tl.getD (k * 5) 0) + (nI 1))).getD (k * 5 + 1) 0) + (nI 1)) f_56_358 rfl rfl ?_
                    refine e_iastore_p (xs := tl.set (k * 5) ((tl.getD (k * 5) 0) + (nI 1))) (x := ((tl.set (k * 5) ((tl.getD (k * 5) 0) + (nI 1))).getD (k * 5 + 1) 0) + (nI 1)) f_56_359 g226 (by omega) (by first | omega | (simp only [List.length_set]; omega)) (rfl) rfl (fun h227 g228 fx229 => ?_)
                    have fr230 : px_fi 177 72 h0 h227 := fi_tr fr224 fx229 (by omega)
                    refine e_iinc (y := nI (k + 1)) (L' := [some (.ref (177)), some (.int (nI f)), some (.int (nI key)), some (.int (v0)), some (.int (nI t)), some (.int (v)), some (.int (nI (k + 1))), some (.ref (182 + 5 * k + 2)), some (.int ((j.getD k (0, 0, 0)).2.2)), some (.int (nI 1))]) f_56_360 rfl (by rw [show Int32.ofInt 1 = nI 1 by decide]; exact (nI_add _ _)) rfl rfl ?_
                    refine e_goto f_56_363 ?_
                    obtain ⟨d, rfl⟩ : ∃ y, d = y + 1 := ⟨d - 1, by omega⟩
                    have hsd := sd_t (m := (sms.getD k sm0)) (key := key) (t := t) (v := v) h116
                    rw [pass_on (x := (S, sms, outs, tl, none)) hkl c_68 hsd] at q2
                    dsimp only at q2
                    have g231 : h221.2.2 (182 + 5 * k + 2) = some (9, [.int ((sms.getD k sm0).1), .ref (182 + 5 * k + 3), .ref (182 + 5 * k + 4), .ref (182 + 5 * k + 5), .ref (182 + 5 * k + 6), .int (nI (((sms.getD k sm0).2.2.2.1).length))]) := fi_at g216 fx223 (by omega)
                    have g232 : h227.2.2 (182 + 5 * k + 2) = some (9, [.int ((sms.getD k sm0).1), .ref (182 + 5 * k + 3), .ref (182 + 5 * k + 4), .ref (182 + 5 * k + 5), .ref (182 + 5 * k + 6), .int (nI (((sms.getD k sm0).2.2.2.1).length))]) := fi_at g231 fx229 (by omega)
                    have g233 : px_pa h221 (182 + 5 * k + 3) 50 4 Value.int ((sms.getD k sm0).2.1) := pa_fi g217 fx223 (by omega)
                    have g234 : px_pa h227 (182 + 5 * k + 3) 50 4 Value.int ((sms.getD k sm0).2.1) := pa_fi g233 fx229 (by omega)
                    have g235 : px_pa h227 (182 + 5 * k + 4) 50 4 Value.int (((sms.getD k sm0).2.2.1).set key ((nI t) + ((j.getD k (0, 0, 0)).2.2))) := pa_fi g222 fx229 (by omega)
                    have g236 : px_pa h221 (182 + 5 * k + 5) 51 96 Value.long ((sms.getD k sm0).2.2.2.1) := pa_fi g219 fx223 (by omega)
                    have g237 : px_pa h227 (182 + 5 * k + 5) 51 96 Value.long ((sms.getD k sm0).2.2.2.1) := pa_fi g236 fx229 (by omega)
                    have g238 : px_pz h221 (182 + 5 * k + 6) 96 ((sms.getD k sm0).2.2.2.2) := pz_fi g220 fx223 (by omega)
                    have g239 : px_pz h227 (182 + 5 * k + 6) 96 ((sms.getD k sm0).2.2.2.2) := pz_fi g238 fx229 (by omega)
                    have g240 : pSM h227 (182 + 5 * k + 2) ((sms.getD k sm0).1, (sms.getD k sm0).2.1, (sms.getD k sm0).2.2.1.set key (nI t + (j.getD k (0, 0, 0)).2.2), (sms.getD k sm0).2.2.2.1, (sms.getD k sm0).2.2.2.2) := ⟨g232, g234, g235, g237, g239, l1, by rw [List.length_set]; exact l2⟩
                    have g241 : pStx h221 182 sms k := pStx_fi g215 fx223 (by omega)
                    have g242 : pStx h227 182 sms k := pStx_fi g241 fx229 (by omega)
                    have g243 : pSt h227 182 (sms.set k ((sms.getD k sm0).1, (sms.getD k sm0).2.1, (sms.getD k sm0).2.2.1.set key (nI t + (j.getD k (0, 0, 0)).2.2), (sms.getD k sm0).2.2.2.1, (sms.getD k sm0).2.2.2.2)) := pSt_in g242 g240
                    have hok := okM_set q3 (stepDo_ok hst (q3.2 k hkl) p4 p5 (v := v))
                    rw [hsd] at hok
                    refine px_to_L (L := [some (.ref (177)), some (.int (nI f)), some (.int (nI key)), some (.int (v0)), some (.int (nI t)), some (.int (v)), some (.int (nI (k + 1))), none, none, none]) ⟨Or.inr rfl, Or.inr rfl, Or.inr rfl, Or.inr rfl, Or.inr rfl, Or.inr rfl, Or.inr rfl, Or.inl rfl, Or.inl rfl, Or.inl rfl, trivial⟩ ?_
                    have g244 : h227.2.2 177 = some (6, [.ref (jb), .ref (182), .ref (214), .ref (246), .int (nI gv), .int (bI la), .int (bI lb), .int (oI none), .int (dn), .int (wo), .ref (248)]) := fi_at g225 fx229 (by omega)
                    have g245 : h14.2.2 182 = some (2, [.int (A), .int (B), .int (W), .int (S), .ref (183)]) := fi_at G1 fx16 (by omega)
                    have g246 : h221.2.2 182 = some (2, [.int (A), .int (B), .int (W), .int (S), .ref (183)]) := fi_at g245 fx223 (by omega)
                    have g247 : h227.2.2 182 = some (2, [.int (A), .int (B), .int (W), .int (S), .ref (183)]) := fi_at g246 fx229 (by omega)
                    have g248 : px_rs h14 183 55 6 (fun k => 182 + 5 * k + 2) := rs_fi G2 fx16 (by omega)
                    have g249 : px_rs h221 183 55 6 (fun k => 182 + 5 * k + 2) := rs_fi g248 fx223 (by omega)
                    have g250 : px_rs h227 183 55 6 (fun k => 182 + 5 * k + 2) := rs_fi g249 fx229 (by omega)
                    have g251 : pRows h14 246 96 outs := pRows_fi G4 fx16 (by omega)
                    have g252 : pRows h221 246 96 outs := pRows_fi g251 fx223 (by omega)
                    have g253 : pRows h227 246 96 outs := pRows_fi g252 fx229 (by omega)
                    have g254 : pMm h14 214 A3 B3 W3 S3 sm3 := pMm_fi G6 fx16 (by omega)
                    have g255 : pMm h221 214 A3 B3 W3 S3 sm3 := pMm_fi g254 fx223 (by omega)
                    have g256 : pMm h227 214 A3 B3 W3 S3 sm3 := pMm_fi g255 fx229 (by omega)
                    first | (exfalso; omega) | exact ih (d) (by omega) (k + 1) v S (sms.set k ((sms.getD k sm0).1, (sms.getD k sm0).2.1, (sms.getD k sm0).2.2.1.set key (nI t + (j.getD k (0, 0, 0)).2.2), (sms.getD k sm0).2.2.2.1, (sms.getD k sm0).2.2.2.2)) outs (tinc (tinc tl (k * 5)) (k * 5 + 1)) h227 (by omega) (by omega) (q2) (hok) (by unfold tinc; rw [List.length_set, List.length_set]; exact q4) g244 g247 g250 g243 g253 g228 g256 fr230
      · skip
        have c_68 : (isZ (j.getD k (0, 0, 0)) v) = true := bI_t' c_68
        refine e_aload_n f_56_71 rfl rfl ?_
        refine e_iload f_56_72 rfl rfl ?_
        refine e_putp (vs' := [.ref (jb), .ref (182), .ref (214), .ref (246), .int (nI gv), .int (bI la), .int (bI lb), .int (nI k), .int (dn), .int (wo), .ref (248)]) f_56_74 g18 (Nat.le_of_ble_eq_true rfl) (rfl) (rfl) rfl rfl (fun h257 g258 fx259 => ?_)
        have fr260 : px_fi 177 72 h0 h257 := fi_tr fr17 fx259 (by omega)
        refine e_aload_n f_56_77 rfl rfl ?_
        refine e_getf f_56_78 g258 rfl rfl ?_
        refine e_iload f_56_81 rfl rfl ?_
        refine e_iconst (v := nI 5) f_56_83 (by decide) rfl ?_
        refine e_imul (z := nI (k * 5)) f_56_84 (pk_mul _ _) rfl ?_
        refine e_iconst (v := nI 4) f_56_85 (by decide) rfl ?_
        refine e_iadd (z := nI (k * 5 + 4)) f_56_86 (nI_add _ _) rfl ?_
        refine e_dup2 f_56_87 rfl rfl rfl ?_
        have g261 : px_pa h257 248 50 30 Value.int (tl.set (k * 5) ((tl.getD (k * 5) 0) + (nI 1))) := pa_fi g15 fx259 (by omega)
        refine e_iaload_p (xs := tl.set (k * 5) ((tl.getD (k * 5) 0) + (nI 1))) f_56_88 g261 (d := 0) (by first | omega | (simp only [List.length_set]; omega)) rfl ?_
        show px_to 56 89 [some (.ref (177)), some (.int (nI f)), some (.int (nI key)), some (.int (v0)), some (.int (nI t)), some (.int (v)), some (.int (nI k)), some (.ref (182 + 5 * k + 2)), some (.int ((j.getD k (0, 0, 0)).2.2)), some (.int (nI 1))] [.int ((tl.set (k * 5) ((tl.getD (k * 5) 0) + (nI 1))).getD (k * 5 + 4) 0), .int (nI (k * 5 + 4)), .ref (248)] h257 _
        refine e_iconst (v := nI 1) f_56_89 (by decide) rfl ?_
        refine e_iadd (z := ((tl.set (k * 5) ((tl.getD (k * 5) 0) + (nI 1))).getD (k * 5 + 4) 0) + (nI 1)) f_56_90 rfl rfl ?_
        refine e_iastore_p (xs := tl.set (k * 5) ((tl.getD (k * 5) 0) + (nI 1))) (x := ((tl.set (k * 5) ((tl.getD (k * 5) 0) + (nI 1))).getD (k * 5 + 4) 0) + (nI 1)) f_56_91 g261 (by omega) (by first | omega | (simp only [List.length_set]; omega)) (rfl) rfl (fun h262 g263 fx264 => ?_)
        have fr265 : px_fi 177 72 h0 h262 := fi_tr fr260 fx264 (by omega)
        refine e_vret f_56_92 rfl ?_
        obtain ⟨d, rfl⟩ : ∃ y, d = y + 1 := ⟨d - 1, by omega⟩
        rw [pass_z (x := (S, sms, outs, tl, none)) hkl c_68] at q2
        have g266 : h262.2.2 177 = some (6, [.ref (jb), .ref (182), .ref (214), .ref (246), .int (nI gv), .int (bI la), .int (bI lb), .int (nI k), .int (dn), .int (wo), .ref (248)]) := fi_at g258 fx264 (by omega)
        have g267 : h14.2.2 182 = some (2, [.int (A), .int (B), .int (W), .int (S), .ref (183)]) := fi_at G1 fx16 (by omega)
        have g268 : h257.2.2 182 = some (2, [.int (A), .int (B), .int (W), .int (S), .ref (183)]) := fi_at g267 fx259 (by omega)
        have g269 : h262.2.2 182 = some (2, [.int (A), .int (B), .int (W), .int (S), .ref (183)]) := fi_at g268 fx264 (by omega)
        have g270 : px_rs h14 183 55 6 (fun k => 182 + 5 * k + 2) := rs_fi G2 fx16 (by omega)
        have g271 : px_rs h257 183 55 6 (fun k => 182 + 5 * k + 2) := rs_fi g270 fx259 (by omega)
        have g272 : px_rs h262 183 55 6 (fun k => 182 + 5 * k + 2) := rs_fi g271 fx264 (by omega)
        have g273 : pSt h14 182 sms := pSt_fi G3 fx16 (by omega)
        have g274 : pSt h257 182 sms := pSt_fi g273 fx259 (by omega)
        have g275 : pSt h262 182 sms := pSt_fi g274 fx264 (by omega)
        have g276 : pRows h14 246 96 outs := pRows_fi G4 fx16 (by omega)
        have g277 : pRows h257 246 96 outs := pRows_fi g276 fx259 (by omega)
        have g278 : pRows h262 246 96 outs := pRows_fi g277 fx264 (by omega)
        have g279 : pMm h14 214 A3 B3 W3 S3 sm3 := pMm_fi G6 fx16 (by omega)
        have g280 : pMm h257 214 A3 B3 W3 S3 sm3 := pMm_fi g279 fx259 (by omega)
        have g281 : pMm h262 214 A3 B3 W3 S3 sm3 := pMm_fi g280 fx264 (by omega)
        subst q2
        exact ⟨rfl, g266, g269, g272, g275, g278, g263, g281, fr265⟩

set_option maxRecDepth 20000 in
set_option maxHeartbeats 4000000 in
theorem cc_Run_pass {h : px_H} {f key t : Nat} {v : Int32} {j : List St} {jb gv : Nat} {la lb : Bool} {dn wo : Int32} {A B W S : Int32} {sms : List SM} {outs : List Row} {tl : List Int32} {A3 B3 W3 S3 : Int32} {sm3 : List SM} (H0 : h.2.2 177 = some (6, [.ref (jb), .ref (182), .ref (214), .ref (246), .int (nI gv), .int (bI la), .int (bI lb), .int (oI none), .int (dn), .int (wo), .ref (248)])) (H1 : h.2.2 182 = some (2, [.int (A), .int (B), .int (W), .int (S), .ref (183)])) (H2 : px_rs h 183 55 6 (fun k => 182 + 5 * k + 2)) (H3 : pSt h 182 sms) (H4 : pRows h 246 96 outs) (H5 : px_pa h 248 50 30 Value.int tl) (H6 : pMm h 214 A3 B3 W3 S3 sm3) (H7 : pJob h jb j) (p0 : okJ j) (p1 : okM j sms) (p2 : tl.length = 30) (p3 : jb + 4 ≤ 177 ∨ 249 ≤ jb) (p4 : key < 4) (p5 : t ≤ 5000) (p6 : f ≤ j.length) : px_wp 56 [.ref (177), .int (nI f), .int (nI key), .int (v), .int (nI t)] h (fun h1 r => r = none ∧ h1.2.2 177 = some (6, [.ref (jb), .ref (182), .ref (214), .ref (246), .int (nI gv), .int (bI la), .int (bI lb), .int (oI ((pass j 7 f key v t (S, sms, outs, tl, none)).2.2.2.2)), .int (dn), .int (wo), .ref (248)]) ∧ h1.2.2 182 = some (2, [.int (A), .int (B), .int (W), .int ((pass j 7 f key v t (S, sms, outs, tl, none)).1), .ref (183)]) ∧ px_rs h1 183 55 6 (fun k => 182 + 5 * k + 2) ∧ pSt h1 182 ((pass j 7 f key v t (S, sms, outs, tl, none)).2.1) ∧ pRows h1 246 96 ((pass j 7 f key v t (S, sms, outs, tl, none)).2.2.1) ∧ px_pa h1 248 50 30 Value.int ((pass j 7 f key v t (S, sms, outs, tl, none)).2.2.2.1) ∧ pMm h1 214 A3 B3 W3 S3 sm3 ∧ px_fi 177 72 h h1) := by
  have fr0 : px_fi 177 72 h h := fi_rf _ _ _
  show px_to 56 0 [some (.ref (177)), some (.int (nI f)), some (.int (nI key)), some (.int (v)), some (.int (nI t)), none, none, none, none, none] [] h _
  refine e_iload_n f_56_0 rfl rfl ?_
  refine e_istore (L' := [some (.ref (177)), some (.int (nI f)), some (.int (nI key)), some (.int (v)), some (.int (nI t)), some (.int (v)), none, none, none, none]) f_56_1 (Nat.le_of_ble_eq_true rfl) rfl rfl ?_
  refine e_iload_n f_56_3 rfl rfl ?_
  refine e_istore (L' := [some (.ref (177)), some (.int (nI f)), some (.int (nI key)), some (.int (v)), some (.int (nI t)), some (.int (v)), some (.int (nI f)), none, none, none]) f_56_4 (Nat.le_of_ble_eq_true rfl) rfl rfl ?_
  exact ll_Run_pass (h0 := h) (f := f) (v0 := v) H7 p0 p3 p4 p5 7 f v S sms outs tl h (by have := p0.1; omega) p6 rfl p1 p2 H0 H1 H2 H3 H4 H5 H6 fr0
