def tri : Nat → Nat
  | 0 => 0
  | n + 1 => tri n + n
theorem tri_le : ∀ {n m : Nat}, n ≤ m → tri n ≤ tri m
  | n, 0, h => by rw [show n = 0 by omega]; exact Nat.le_refl _
  | n, m + 1, h => by
    rcases Nat.lt_or_ge n (m + 1) with z | z
    · have := tri_le (show n ≤ m by omega)
      show tri n ≤ tri m + m
      omega
    · rw [show n = m + 1 by omega]; exact Nat.le_refl _
theorem shr_s {j : List St} {x : CS3} {v f i : Nat} {ps : List Nat} (h : i < ps.length) : shr j x v (f + 1) i ps = if vdE j x (evs x.1 (ps.eraseIdx i)) = v then shr j x v f 0 (ps.eraseIdx i) else shr j x v f (i + 1) ps := by
  rw [shr, if_pos h]
theorem shr_e {j : List St} {x : CS3} {v f i : Nat} {ps : List Nat} (h : ¬ i < ps.length) : shr j x v f i ps = ps := by
  cases f with
  | zero => rfl
  | succ f => rw [shr, if_neg h]
def shS (ps : List Nat) (g q : Nat) : List Nat := (ps.eraseIdx g).take q ++ ps.drop q
theorem shS_0 {ps : List Nat} {g : Nat} : shS ps g g = ps := by
  unfold shS
  rw [List.eraseIdx_eq_take_drop_succ]
  by_cases h : g ≤ ps.length
  · rw [List.take_append_of_le_length (by rw [List.length_take]; omega), List.take_take, Nat.min_self, List.take_append_drop]
  · rw [List.take_of_length_le (show ps.length ≤ g by omega), List.drop_eq_nil_of_le (show ps.length ≤ g + 1 by omega), List.append_nil, List.take_of_length_le (by omega), List.drop_eq_nil_of_le (by omega), List.append_nil]
theorem ers_get {ps : List Nat} {g q : Nat} (h : g ≤ q) (hq : q + 1 < ps.length) : (ps.eraseIdx g).getD q 0 = ps.getD (q + 1) 0 := by
  rw [List.getD_eq_getElem?_getD, List.getElem?_eraseIdx, if_neg (by omega), List.getD_eq_getElem?_getD]
theorem ers_len {ps : List Nat} {g : Nat} (h : g < ps.length) : (ps.eraseIdx g).length = ps.length - 1 := List.length_eraseIdx_of_lt h
theorem shS_len {ps : List Nat} {g q : Nat} (h : g < ps.length) (hq : q < ps.length) : (shS ps g q).length = ps.length := by
  unfold shS
  rw [List.length_append, List.length_take, List.length_drop, ers_len h]
  omega
theorem shS_get {ps : List Nat} {g q : Nat} (h : g < ps.length) (hq : q + 1 < ps.length) : (shS ps g q).getD (q + 1) 0 = ps.getD (q + 1) 0 := by
  unfold shS
  rw [List.getD_eq_getElem?_getD, List.getElem?_append_right (by rw [List.length_take, ers_len h]; omega), List.length_take, ers_len h, Nat.min_eq_left (by omega), List.getElem?_drop, show q + (q + 1 - q) = q + 1 by omega, List.getD_eq_getElem?_getD]
theorem shS_s {ps : List Nat} {g q : Nat} (h : g ≤ q) (hq : q + 1 < ps.length) : (shS ps g q).set q (ps.getD (q + 1) 0) = shS ps g (q + 1) := by
  have hl : (ps.eraseIdx g).length = ps.length - 1 := ers_len (by omega)
  unfold shS
  rw [List.set_append_right _ _ (by rw [List.length_take]; omega), List.length_take, hl, Nat.min_eq_left (by omega), Nat.sub_self, drop_step 0 (show q < ps.length by omega), List.set_cons_zero, take_s 0 (show q < (ps.eraseIdx g).length by omega), ers_get h hq, List.append_assoc]
  rfl
theorem pa_pre {a kd L : Nat} {α : Type} {f : α → Value} {xs ys : List α} {h : px_H} (hc : px_pa h a kd L f (xs ++ ys)) : px_pa h a kd L f xs := by
  have z := pa_take hc xs.length
  rw [List.take_left] at z
  exact z
theorem shS_end {ps : List Nat} {g : Nat} (h : g < ps.length) : shS ps g (ps.length - 1) = ps.eraseIdx g ++ ps.drop (ps.length - 1) := by
  unfold shS
  rw [List.take_of_length_le (by rw [ers_len h]; omega)]

def relL (sl sl2 cv : List Int32) : Prop := sl.length = 3070 ∧ sl2.length = 3070 ∧ cv.length = 30
def pSH (h : px_H) (ga : gA) (gp : gP) (j : List St) (cb : Bool) (ps : List Nat) : Prop := ∃ (gq : gQ) (gh : gH) (gw : gW) (gu : gU) (gv : gV) (sl : List Int32) (sl2 : List Int32) (lh : List Row) (lg : List Row) (cv : List Int32) (pl : List Nat) (lo : List Row) (lt : List Row), h.2.2 269 = some (12, mB ga gp (nI j.length, gq.2.1, gq.2.2.1, gq.2.2.2.1, gq.2.2.2.2.1, gq.2.2.2.2.2.1, cb) gh gw gu (gv.1, gv.2.1, gv.2.2.1, gv.2.2.2.1, gv.2.2.2.2.1, gv.2.2.2.2.2.1, nI ps.length, gv.2.2.2.2.2.2.2.1, gv.2.2.2.2.2.2.2.2)) ∧ px_pa h 287 50 3070 Value.int sl ∧ px_pa h 288 50 3070 Value.int sl2 ∧ px_pa h 289 54 100 rK lh ∧ px_pa h 290 50 100 rV lh ∧ px_pa h 291 50 100 rT lh ∧ px_pa h 292 54 100 rK lg ∧ px_pa h 293 50 100 rV lg ∧ px_pa h 294 50 100 rT lg ∧ px_pa h 295 50 30 Value.int cv ∧ px_pa h 296 50 24 vN pl ∧ px_pa h 297 54 100 rK lo ∧ px_pa h 298 50 100 rV lo ∧ px_pa h 299 50 100 rT lo ∧ px_pa h 300 54 100 rK lt ∧ px_pa h 301 50 100 rV lt ∧ px_pa h 302 50 100 rT lt ∧ relL sl sl2 cv

set_option maxRecDepth 20000 in
set_option maxHeartbeats 4000000 in
theorem ll_Md_shft {P : px_H → Option Value → Prop} {h0 : px_H} {c v g0 : Nat} {ps : List Nat} {ga : gA} {gp : gP} {gq : gQ} {gh : gH} {gw : gW} {gu : gU} {gv : gV} (HM : h0.2.2 269 = some (12, mB ga gp gq gh gw gu (gv.1, gv.2.1, gv.2.2.1, gv.2.2.2.1, gv.2.2.2.2.1, gv.2.2.2.2.2.1, nI (ps.length - 1), gv.2.2.2.2.2.2.2.1, gv.2.2.2.2.2.2.2.2))) (hg : g0 < ps.length) (h24 : ps.length ≤ 24) (kx : ∀ g, px_pa g 303 50 24 vN (ps.eraseIdx g0) → px_fi 303 1 h0 g → px_to 190 124 [some (.ref (269)), some (.int (nI c)), some (.int (nI v)), some (.int (nI g0)), none] [] g P) : ∀ (d : Nat) (q : Nat) (g : px_H), (ps.length ≤ q + d + 1) → (g0 ≤ q ∧ q + 1 ≤ ps.length) → px_pa g 303 50 24 vN (shS ps g0 q) → px_fi 303 1 h0 g → px_to 190 93 [some (.ref (269)), some (.int (nI c)), some (.int (nI v)), some (.int (nI g0)), some (.int (nI q))] [] g P := by
  intro d
  induction d using Nat.strongRecOn with
  | ind d ih =>
    intro q g q0 q1 G0 frg
    have hsl := shS_len hg (show q < ps.length by omega)
    refine e_iload f_190_93 rfl rfl ?_
    refine e_aload_n f_190_95 rfl rfl ?_
    have g1 : g.2.2 269 = some (12, mB ga gp gq gh gw gu (gv.1, gv.2.1, gv.2.2.1, gv.2.2.2.1, gv.2.2.2.2.1, gv.2.2.2.2.2.1, nI (ps.length - 1), gv.2.2.2.2.2.2.2.1, gv.2.2.2.2.2.2.2.2)) := fi_at HM frg (by omega)
    refine e_getf f_190_96 g1 rfl rfl ?_
    show px_to 190 99 [some (.ref (269)), some (.int (nI c)), some (.int (nI v)), some (.int (nI g0)), some (.int (nI q))] [.int (nI (ps.length - 1)), .int (nI q)] g _
    refine e_icmp_ge f_190_99 rfl (fun c_99 => ?_) (fun c_99 => ?_)
    · skip
      have c_99 : ps.length - 1 ≤ q := cv_le (by omega) (by omega) c_99
      refine px_to_L (L := [some (.ref (269)), some (.int (nI c)), some (.int (nI v)), some (.int (nI g0)), none]) ⟨Or.inr rfl, Or.inr rfl, Or.inr rfl, Or.inr rfl, Or.inl rfl, trivial⟩ ?_
      have eq : q = ps.length - 1 := by omega
      rw [eq, shS_end hg] at G0
      exact kx g (pa_pre G0) frg
    · skip
      have c_99 : q < ps.length - 1 := cv_nle (by omega) (by omega) c_99
      refine e_aload_n f_190_102 rfl rfl ?_
      refine e_getf f_190_103 g1 rfl rfl ?_
      refine e_iload f_190_106 rfl rfl ?_
      refine e_aload_n f_190_108 rfl rfl ?_
      refine e_getf f_190_109 g1 rfl rfl ?_
      refine e_iload f_190_112 rfl rfl ?_
      refine e_iconst (v := nI 1) f_190_114 (by decide) rfl ?_
      refine e_iadd (z := nI (q + 1)) f_190_115 (nI_add _ _) rfl ?_
      refine e_iaload_p (xs := shS ps g0 q) f_190_116 G0 (d := 0) (by omega) rfl ?_
      show px_to 190 117 [some (.ref (269)), some (.int (nI c)), some (.int (nI v)), some (.int (nI g0)), some (.int (nI q))] [.int (nI ((shS ps g0 q).getD (q + 1) 0)), .int (nI q), .ref (303)] g _
      rw [shS_get hg (by omega)]
      refine e_iastore_p (xs := shS ps g0 q) (x := ps.getD (q + 1) 0) f_190_117 G0 (by omega) (by omega) (rfl) rfl (fun h2 g3 fx4 => ?_)
      have fr5 : px_fi 303 1 h0 h2 := fi_tr frg fx4 (by omega)
      refine e_iinc (y := nI (q + 1)) (L' := [some (.ref (269)), some (.int (nI c)), some (.int (nI v)), some (.int (nI g0)), some (.int (nI (q + 1)))]) f_190_118 rfl (by rw [show Int32.ofInt 1 = nI 1 by decide]; exact (nI_add _ _)) rfl rfl ?_
      refine e_goto f_190_121 ?_
      have g6 : px_pa h2 303 50 24 vN (shS ps g0 (q + 1)) := pa_eq g3 (shS_s q1.1 (by omega))
      first | (exfalso; omega) | exact ih (d - 1) (by omega) (q + 1) h2 (by omega) (by omega) g6 fr5

set_option maxRecDepth 20000 in
set_option maxHeartbeats 4000000 in
theorem ll_Md_shs {P : px_H → Option Value → Prop} {h0 : px_H} {y : List Nat} {c v : Nat} {x : CS3} {es : List Ev} {om : List Nat} {ro : List Row} {wn : List Nat} {ga : gA} {gp : gP} {j : List St} {cb : Bool}  (K0 : px_pa h0 275 52 192 evS es) (K1 : px_pa h0 276 54 192 evK es) (K2 : px_pa h0 277 53 192 evV es) (K3 : px_pa h0 278 53 192 evT es) (K4 : px_pa h0 284 52 6 stS j) (K5 : px_pa h0 285 52 6 stA j) (K6 : px_pa h0 286 50 6 stN j) (K7 : px_pa h0 279 50 8 vN om) (K8 : px_pa h0 280 54 128 rK ro) (K9 : px_pa h0 281 53 128 rV ro) (K10 : px_pa h0 282 53 128 rT ro) (K11 : px_pa h0 283 52 8 vN wn) (hj : okZ j) (hc : c < 8) (hx : okC3 x) (hes : es.length = 192) (hin : inE es c x.1) (hom : om.length = 8 ∧ ro.length = 128) (hom2 : om.getD c 0 = x.2.1.length) (hinr : inR ro c x.2.1) (hwn : wn.length = 8 ∧ wn.getD c 0 = x.2.2) (hvv : v < 2 ^ 31) (kx : ∀ g, pSH g ga gp j cb y → px_pa g 303 50 24 vN y → px_fj 269 1 287 17 h0 g → P g (some (.int (nI 1)))) : ∀ (d : Nat) (i : Nat) (ps : List Nat) (g : px_H), (ps.length - i + tri ps.length ≤ d) → (i ≤ ps.length) → (ps.length ≤ 24) → (∀ p ∈ ps, p < x.1.length) → (shr j x v d i ps = y) → pSH g ga gp j cb ps → px_pa g 303 50 24 vN ps → px_fj 269 1 287 17 h0 g → px_to 190 53 [some (.ref (269)), some (.int (nI c)), some (.int (nI v)), some (.int (nI i)), none] [] g P := by
  intro d
  induction d using Nat.strongRecOn with
  | ind d ih =>
    intro i ps g q0 q1 q2 q3 q4 G0 G1 frg
    have h6 := hj.1.1
    have hv31 : v < 2 ^ 31 := hvv
    have hvl : ∀ a b (cc : List Row) (dd : List Row), vdB a b cc dd ≤ 2 := fun a b cc dd => by unfold vdB; (repeat' split) <;> omega
    refine e_iload_n f_190_53 rfl rfl ?_
    refine e_aload_n f_190_54 rfl rfl ?_
    obtain ⟨gq1, gh2, gw3, gu4, gv5, sl6, sl27, lh8, lg9, cv10, pl11, lo12, lt13, g14, g15, g16, g17, g18, g19, g20, g21, g22, g23, g24, g25, g26, g27, g28, g29, g30, hL31⟩ := id G0
    refine e_getf f_190_55 g14 rfl rfl ?_
    show px_to 190 58 [some (.ref (269)), some (.int (nI c)), some (.int (nI v)), some (.int (nI i)), none] [.int (nI ps.length), .int (nI i)] g _
    refine e_icmp_ge f_190_58 rfl (fun c_58 => ?_) (fun c_58 => ?_)
    · skip
      have c_58 : ps.length ≤ i := cv_le (by omega) (by omega) c_58
      refine e_iconst (v := nI 1) f_190_135 (by decide) rfl ?_
      refine e_iret f_190_136 rfl (rfl) ?_
      have g32 : pSH g ga gp j cb ps := ⟨(nI j.length, gq1.2.1, gq1.2.2.1, gq1.2.2.2.1, gq1.2.2.2.2.1, gq1.2.2.2.2.2.1, cb), gh2, gw3, gu4, (gv5.1, gv5.2.1, gv5.2.2.1, gv5.2.2.2.1, gv5.2.2.2.2.1, gv5.2.2.2.2.2.1, nI ps.length, gv5.2.2.2.2.2.2.2.1, gv5.2.2.2.2.2.2.2.2), _, _, _, _, _, _, _, _, g14, g15, g16, g17, g18, g19, g20, g21, g22, g23, g24, g25, g26, g27, g28, g29, g30, hL31⟩
      have ey : y = ps := by rw [← q4]; exact shr_e (by omega)
      rw [ey] at kx
      exact kx g g32 G1 frg
    · skip
      have c_58 : i < ps.length := cv_nle (by omega) (by omega) c_58
      have hL := hL31
      have hpe : ∀ p ∈ (ps.eraseIdx i), p < x.1.length := fun p hp => q3 p (List.mem_of_mem_eraseIdx hp)
      have hrr := runO_ok (j := j) hj.1 (evs_ok hpe hx.2.1)
      have hvd : vdE j x (evs x.1 (ps.eraseIdx i)) = vdB x.2.2 (runO j (evs x.1 (ps.eraseIdx i))).2.2.1.isSome (runO j (evs x.1 (ps.eraseIdx i))).2.1 x.2.1 := by unfold vdE; rw [vdB_vd]
      refine e_aload_n f_190_61 rfl rfl ?_
      refine e_iload_n f_190_62 rfl rfl ?_
      refine e_callV (As := [.int (nI i)]) (rest := []) f_190_63 rfl rfl rfl (Nat.le_of_ble_eq_true rfl) (Nat.le_of_ble_eq_true rfl) g14 rfl (Nat.le_of_ble_eq_true rfl) (cc_Md_plW (gn := i) (pl := pl11) (ke := ps) (ga := ga) (gp := gp) (gq := (nI j.length, gq1.2.1, gq1.2.2.1, gq1.2.2.2.1, gq1.2.2.2.2.1, gq1.2.2.2.2.2.1, cb)) (gh := gh2) (gw := gw3) (gu := gu4) (gv := (gv5.1, gv5.2.1, gv5.2.2.1, gv5.2.2.2.1, gv5.2.2.2.2.1, gv5.2.2.2.2.2.1, nI ps.length, gv5.2.2.2.2.2.2.2.1, gv5.2.2.2.2.2.2.2.2)) g14 g24 G1 (by omega)) rfl (fun h33 r34 q35 => ?_)
      obtain ⟨rfl, g36, g37, fx38⟩ := q35
      obtain ⟨hm39, fa40, fb41⟩ := fj_mid fx38
      have fr42 : px_fj 269 1 287 17 h0 hm39 := fj_tr frg fa40 (by omega)
      have fr43 : px_fj 269 1 287 17 h0 h33 := fj_tr fr42 fb41 (by omega)
      show px_to 190 66 [some (.ref (269)), some (.int (nI c)), some (.int (nI v)), some (.int (nI i)), none] [] h33 _
      refine e_aload_n f_190_66 rfl rfl ?_
      refine e_iload_n f_190_67 rfl rfl ?_
      obtain ⟨hm45, fa46, fb47⟩ := fj_mid fr43
      have g44 : px_pa h33 284 52 6 stS j := pa_fi (pa_fi K4 fa46 (by omega)) fb47 (by omega)
      obtain ⟨hm49, fa50, fb51⟩ := fj_mid fr43
      have g48 : px_pa h33 285 52 6 stA j := pa_fi (pa_fi K5 fa50 (by omega)) fb51 (by omega)
      obtain ⟨hm53, fa54, fb55⟩ := fj_mid fr43
      have g52 : px_pa h33 286 50 6 stN j := pa_fi (pa_fi K6 fa54 (by omega)) fb55 (by omega)
      have g56 : px_pa hm39 287 50 3070 Value.int sl6 := pa_fi g15 fa40 (by omega)
      have g57 : px_pa h33 287 50 3070 Value.int sl6 := pa_fi g56 fb41 (by omega)
      have g58 : px_pa hm39 288 50 3070 Value.int sl27 := pa_fi g16 fa40 (by omega)
      have g59 : px_pa h33 288 50 3070 Value.int sl27 := pa_fi g58 fb41 (by omega)
      have g60 : px_pa hm39 289 54 100 rK lh8 := pa_fi g17 fa40 (by omega)
      have g61 : px_pa h33 289 54 100 rK lh8 := pa_fi g60 fb41 (by omega)
      have g62 : px_pa hm39 290 50 100 rV lh8 := pa_fi g18 fa40 (by omega)
      have g63 : px_pa h33 290 50 100 rV lh8 := pa_fi g62 fb41 (by omega)
      have g64 : px_pa hm39 291 50 100 rT lh8 := pa_fi g19 fa40 (by omega)
      have g65 : px_pa h33 291 50 100 rT lh8 := pa_fi g64 fb41 (by omega)
      have g66 : px_pa hm39 292 54 100 rK lg9 := pa_fi g20 fa40 (by omega)
      have g67 : px_pa h33 292 54 100 rK lg9 := pa_fi g66 fb41 (by omega)
      have g68 : px_pa hm39 293 50 100 rV lg9 := pa_fi g21 fa40 (by omega)
      have g69 : px_pa h33 293 50 100 rV lg9 := pa_fi g68 fb41 (by omega)
      have g70 : px_pa hm39 294 50 100 rT lg9 := pa_fi g22 fa40 (by omega)
      have g71 : px_pa h33 294 50 100 rT lg9 := pa_fi g70 fb41 (by omega)
      have g72 : px_pa hm39 295 50 30 Value.int cv10 := pa_fi g23 fa40 (by omega)
      have g73 : px_pa h33 295 50 30 Value.int cv10 := pa_fi g72 fb41 (by omega)
      obtain ⟨hm75, fa76, fb77⟩ := fj_mid fr43
      have g74 : px_pa h33 275 52 192 evS es := pa_fi (pa_fi K0 fa76 (by omega)) fb77 (by omega)
      obtain ⟨hm79, fa80, fb81⟩ := fj_mid fr43
      have g78 : px_pa h33 276 54 192 evK es := pa_fi (pa_fi K1 fa80 (by omega)) fb81 (by omega)
      obtain ⟨hm83, fa84, fb85⟩ := fj_mid fr43
      have g82 : px_pa h33 277 53 192 evV es := pa_fi (pa_fi K2 fa84 (by omega)) fb85 (by omega)
      obtain ⟨hm87, fa88, fb89⟩ := fj_mid fr43
      have g86 : px_pa h33 278 53 192 evT es := pa_fi (pa_fi K3 fa88 (by omega)) fb89 (by omega)
      refine e_callV (As := [.int (nI c)]) (rest := []) f_190_68 rfl rfl rfl (Nat.le_of_ble_eq_true rfl) (Nat.le_of_ble_eq_true rfl) g36 rfl (Nat.le_of_ble_eq_true rfl) (cc_Md_runs (c := c) (ev := x.1) (es := es) (pl := (ps.eraseIdx i)) (j := j) (cb := cb) (sl := sl6) (sl2 := sl27) (lh := lh8) (lg := lg9) (cv := cv10) (tl := cv10) (ga := ga) (gp := gp) (gq := (nI j.length, gq1.2.1, gq1.2.2.1, gq1.2.2.2.1, gq1.2.2.2.2.1, gq1.2.2.2.2.2.1, cb)) (gh := gh2) (gw := gw3) (gu := (nI ((ps.eraseIdx i).length), gu4.2.1, gu4.2.2)) (gv := (gv5.1, gv5.2.1, gv5.2.2.1, gv5.2.2.2.1, gv5.2.2.2.2.1, gv5.2.2.2.2.2.1, nI ps.length, gv5.2.2.2.2.2.2.2.1, gv5.2.2.2.2.2.2.2.2)) g36 g44 g48 g52 g57 g59 g61 g63 g65 g67 g69 g71 g73 g37 g74 g78 g82 g86 (hj) (hL) (hc) (hes) (hin) (hx.1) (hx.2.1) (hpe) (⟨hL.2.2, fun _ => rfl⟩)) rfl (fun h90 r91 q92 => ?_)
      obtain ⟨rfl, g93, fx94⟩ := q92
      obtain ⟨hm95, fa96, fb97⟩ := fj_mid fx94
      have fr98 : px_fj 269 1 287 17 h0 hm95 := fj_tr fr43 fa96 (by omega)
      have fr99 : px_fj 269 1 287 17 h0 h90 := fj_tr fr98 fb97 (by omega)
      show px_to 190 71 [some (.ref (269)), some (.int (nI c)), some (.int (nI v)), some (.int (nI i)), none] [] h90 _
      obtain ⟨la100, lb101, gw102, sl103, sl2104, lh105, cv106, g107, g108, g109, g110, g111, g112, g113, g114, g115, g116, hO117⟩ := id g93
      have hO := hO117
      refine e_aload_n f_190_71 rfl rfl ?_
      refine e_iload_n f_190_72 rfl rfl ?_
      have g118 : px_pa hm39 297 54 100 rK lo12 := pa_fi g25 fa40 (by omega)
      have g119 : px_pa h33 297 54 100 rK lo12 := pa_fi g118 fb41 (by omega)
      have g120 : px_pa hm95 297 54 100 rK lo12 := pa_fi g119 fa96 (by omega)
      have g121 : px_pa h90 297 54 100 rK lo12 := pa_fi g120 fb97 (by omega)
      have g122 : px_pa hm39 298 50 100 rV lo12 := pa_fi g26 fa40 (by omega)
      have g123 : px_pa h33 298 50 100 rV lo12 := pa_fi g122 fb41 (by omega)
      have g124 : px_pa hm95 298 50 100 rV lo12 := pa_fi g123 fa96 (by omega)
      have g125 : px_pa h90 298 50 100 rV lo12 := pa_fi g124 fb97 (by omega)
      have g126 : px_pa hm39 299 50 100 rT lo12 := pa_fi g27 fa40 (by omega)
      have g127 : px_pa h33 299 50 100 rT lo12 := pa_fi g126 fb41 (by omega)
      have g128 : px_pa hm95 299 50 100 rT lo12 := pa_fi g127 fa96 (by omega)
      have g129 : px_pa h90 299 50 100 rT lo12 := pa_fi g128 fb97 (by omega)
      obtain ⟨hm131, fa132, fb133⟩ := fj_mid fr99
      have g130 : px_pa h90 279 50 8 vN om := pa_fi (pa_fi K7 fa132 (by omega)) fb133 (by omega)
      obtain ⟨hm135, fa136, fb137⟩ := fj_mid fr99
      have g134 : px_pa h90 280 54 128 rK ro := pa_fi (pa_fi K8 fa136 (by omega)) fb137 (by omega)
      obtain ⟨hm139, fa140, fb141⟩ := fj_mid fr99
      have g138 : px_pa h90 281 53 128 rV ro := pa_fi (pa_fi K9 fa140 (by omega)) fb141 (by omega)
      obtain ⟨hm143, fa144, fb145⟩ := fj_mid fr99
      have g142 : px_pa h90 282 53 128 rT ro := pa_fi (pa_fi K10 fa144 (by omega)) fb145 (by omega)
      have g146 : px_pa hm39 300 54 100 rK lt13 := pa_fi g28 fa40 (by omega)
      have g147 : px_pa h33 300 54 100 rK lt13 := pa_fi g146 fb41 (by omega)
      have g148 : px_pa hm95 300 54 100 rK lt13 := pa_fi g147 fa96 (by omega)
      have g149 : px_pa h90 300 54 100 rK lt13 := pa_fi g148 fb97 (by omega)
      have g150 : px_pa hm39 301 50 100 rV lt13 := pa_fi g29 fa40 (by omega)
      have g151 : px_pa h33 301 50 100 rV lt13 := pa_fi g150 fb41 (by omega)
      have g152 : px_pa hm95 301 50 100 rV lt13 := pa_fi g151 fa96 (by omega)
      have g153 : px_pa h90 301 50 100 rV lt13 := pa_fi g152 fb97 (by omega)
      have g154 : px_pa hm39 302 50 100 rT lt13 := pa_fi g30 fa40 (by omega)
      have g155 : px_pa h33 302 50 100 rT lt13 := pa_fi g154 fb41 (by omega)
      have g156 : px_pa hm95 302 50 100 rT lt13 := pa_fi g155 fa96 (by omega)
      have g157 : px_pa h90 302 50 100 rT lt13 := pa_fi g156 fb97 (by omega)
      obtain ⟨hm159, fa160, fb161⟩ := fj_mid fr99
      have g158 : px_pa h90 283 52 8 vN wn := pa_fi (pa_fi K11 fa160 (by omega)) fb161 (by omega)
      refine e_callV (As := [.int (nI c)]) (rest := []) f_190_73 rfl rfl rfl (Nat.le_of_ble_eq_true rfl) (Nat.le_of_ble_eq_true rfl) g107 rfl (Nat.le_of_ble_eq_true rfl) (cc_Md_vd (zz := (runO j (evs x.1 (ps.eraseIdx i))).2.2.1.isSome) (c := c) (os := x.2.2) (lg := (runO j (evs x.1 (ps.eraseIdx i))).2.1) (td := x.2.1) (lo := lo12) (lt := lt13) (om := om) (ro := ro) (wn := wn) (ga := ga) (gp := gp) (gq := (nI j.length, (runO j (evs x.1 (ps.eraseIdx i))).2.2.1.isSome, oI (runO j (evs x.1 (ps.eraseIdx i))).2.2.1, (runO j (evs x.1 (ps.eraseIdx i))).2.2.2, la100, lb101, cb)) (gh := (nI 0, nI ((runO j (evs x.1 (ps.eraseIdx i))).2.1.length))) (gw := gw102) (gu := (nI (ps.eraseIdx i).length, gu4.2.1, gu4.2.2)) (gv := (gv5.1, gv5.2.1, gv5.2.2.1, gv5.2.2.2.1, gv5.2.2.2.2.1, gv5.2.2.2.2.2.1, nI ps.length, gv5.2.2.2.2.2.2.2.1, gv5.2.2.2.2.2.2.2.2)) g107 g113 g114 g115 g121 g125 g129 g130 g134 g138 g142 g149 g153 g157 g158 (hc) (hom) (hom2) (hinr) (hx.2.2.1) (hx.2.2.2.1) (hrr.1) (hwn) (by have := hx.2.2.2.2; omega)) rfl (fun h162 r163 q164 => ?_)
      obtain ⟨rfl, g165, g166, g167, g168, g169, g170, g171, fx172⟩ := q164
      obtain ⟨hm173, fa174, fb175⟩ := fj_mid fx172
      have fr176 : px_fj 269 1 287 17 h0 hm173 := fj_tr fr99 fa174 (by omega)
      have fr177 : px_fj 269 1 287 17 h0 h162 := fj_tr fr176 fb175 (by omega)
      show px_to 190 76 [some (.ref (269)), some (.int (nI c)), some (.int (nI v)), some (.int (nI i)), none] [.int (nI (vdB x.2.2 ((runO j (evs x.1 (ps.eraseIdx i))).2.2.1.isSome) ((runO j (evs x.1 (ps.eraseIdx i))).2.1) x.2.1))] h162 _
      have hvl2 := hvl x.2.2 (runO j (evs x.1 (ps.eraseIdx i))).2.2.1.isSome (runO j (evs x.1 (ps.eraseIdx i))).2.1 x.2.1
      refine e_iload_n f_190_76 rfl rfl ?_
      refine e_icmp_ne f_190_77 rfl (fun c_77 => ?_) (fun c_77 => ?_)
      · skip
        have c_77 : vdB x.2.2 ((runO j (evs x.1 (ps.eraseIdx i))).2.2.1.isSome) ((runO j (evs x.1 (ps.eraseIdx i))).2.1) x.2.1 ≠ v := cv_ne c_77
        have eS := q4
        rw [show d = (d - 1) + 1 by omega, shr_s (by omega), hvd, if_neg c_77] at eS
        have hel := ers_len (ps := ps) (g := i) (by omega)
        have htr : tri ((ps.length - 1) + 1) = tri (ps.length - 1) + (ps.length - 1) := rfl
        rw [show (ps.length - 1) + 1 = ps.length by omega] at htr
        refine e_iinc (y := nI (i + 1)) (L' := [some (.ref (269)), some (.int (nI c)), some (.int (nI v)), some (.int (nI (i + 1))), none]) f_190_129 rfl (by rw [show Int32.ofInt 1 = nI 1 by decide]; exact (nI_add _ _)) rfl rfl ?_
        refine e_goto f_190_132 ?_
        have g178 : px_pa hm173 287 50 3070 Value.int sl103 := pa_fi g108 fa174 (by omega)
        have g179 : px_pa h162 287 50 3070 Value.int sl103 := pa_fi g178 fb175 (by omega)
        have g180 : px_pa hm173 288 50 3070 Value.int sl2104 := pa_fi g109 fa174 (by omega)
        have g181 : px_pa h162 288 50 3070 Value.int sl2104 := pa_fi g180 fb175 (by omega)
        have g182 : px_pa hm173 289 54 100 rK lh105 := pa_fi g110 fa174 (by omega)
        have g183 : px_pa h162 289 54 100 rK lh105 := pa_fi g182 fb175 (by omega)
        have g184 : px_pa hm173 290 50 100 rV lh105 := pa_fi g111 fa174 (by omega)
        have g185 : px_pa h162 290 50 100 rV lh105 := pa_fi g184 fb175 (by omega)
        have g186 : px_pa hm173 291 50 100 rT lh105 := pa_fi g112 fa174 (by omega)
        have g187 : px_pa h162 291 50 100 rT lh105 := pa_fi g186 fb175 (by omega)
        have g188 : px_pa hm173 292 54 100 rK ((runO j (evs x.1 (ps.eraseIdx i))).2.1) := pa_fi g113 fa174 (by omega)
        have g189 : px_pa h162 292 54 100 rK ((runO j (evs x.1 (ps.eraseIdx i))).2.1) := pa_fi g188 fb175 (by omega)
        have g190 : px_pa hm173 293 50 100 rV ((runO j (evs x.1 (ps.eraseIdx i))).2.1) := pa_fi g114 fa174 (by omega)
        have g191 : px_pa h162 293 50 100 rV ((runO j (evs x.1 (ps.eraseIdx i))).2.1) := pa_fi g190 fb175 (by omega)
        have g192 : px_pa hm173 294 50 100 rT ((runO j (evs x.1 (ps.eraseIdx i))).2.1) := pa_fi g115 fa174 (by omega)
        have g193 : px_pa h162 294 50 100 rT ((runO j (evs x.1 (ps.eraseIdx i))).2.1) := pa_fi g192 fb175 (by omega)
        have g194 : px_pa hm173 295 50 30 Value.int cv106 := pa_fi g116 fa174 (by omega)
        have g195 : px_pa h162 295 50 30 Value.int cv106 := pa_fi g194 fb175 (by omega)
        have g196 : px_pa hm95 296 50 24 vN (ps.eraseIdx i) := pa_fi g37 fa96 (by omega)
        have g197 : px_pa h90 296 50 24 vN (ps.eraseIdx i) := pa_fi g196 fb97 (by omega)
        have g198 : px_pa hm173 296 50 24 vN (ps.eraseIdx i) := pa_fi g197 fa174 (by omega)
        have g199 : px_pa h162 296 50 24 vN (ps.eraseIdx i) := pa_fi g198 fb175 (by omega)
        have g200 : pSH h162 ga gp j cb ps := ⟨(nI j.length, (runO j (evs x.1 (ps.eraseIdx i))).2.2.1.isSome, oI (runO j (evs x.1 (ps.eraseIdx i))).2.2.1, (runO j (evs x.1 (ps.eraseIdx i))).2.2.2, la100, lb101, cb), (nI 0, nI (((runO j (evs x.1 (ps.eraseIdx i))).2.1).length)), gw102, (nI (ps.eraseIdx i).length, nI (((runO j (evs x.1 (ps.eraseIdx i))).2.1).length), nI x.2.1.length), (gv5.1, gv5.2.1, gv5.2.2.1, gv5.2.2.2.1, gv5.2.2.2.2.1, gv5.2.2.2.2.2.1, nI ps.length, gv5.2.2.2.2.2.2.2.1, gv5.2.2.2.2.2.2.2.2), _, _, _, _, _, _, _, _, g165, g179, g181, g183, g185, g187, g189, g191, g193, g195, g199, g166, g167, g168, g169, g170, g171, ⟨hO.1, hO.2.1, hO.2.2.1⟩⟩
        have g201 : px_pa hm39 303 50 24 vN ps := pa_fi G1 fa40 (by omega)
        have g202 : px_pa h33 303 50 24 vN ps := pa_fi g201 fb41 (by omega)
        have g203 : px_pa hm95 303 50 24 vN ps := pa_fi g202 fa96 (by omega)
        have g204 : px_pa h90 303 50 24 vN ps := pa_fi g203 fb97 (by omega)
        have g205 : px_pa hm173 303 50 24 vN ps := pa_fi g204 fa174 (by omega)
        have g206 : px_pa h162 303 50 24 vN ps := pa_fi g205 fb175 (by omega)
        first | (exfalso; omega) | exact ih (d - 1) (by omega) (i + 1) ps h162 (by omega) (by omega) (by omega) (q3) (eS) g200 g206 fr177
      · skip
        have c_77 : vdB x.2.2 ((runO j (evs x.1 (ps.eraseIdx i))).2.2.1.isSome) ((runO j (evs x.1 (ps.eraseIdx i))).2.1) x.2.1 = v := cv_nne (by omega) (by omega) c_77
        have eS := q4
        rw [show d = (d - 1) + 1 by omega, shr_s (by omega), hvd, if_pos c_77] at eS
        have hel := ers_len (ps := ps) (g := i) (by omega)
        have htr : tri ((ps.length - 1) + 1) = tri (ps.length - 1) + (ps.length - 1) := rfl
        rw [show (ps.length - 1) + 1 = ps.length by omega] at htr
        refine e_aload_n f_190_80 rfl rfl ?_
        refine e_dup f_190_81 rfl rfl ?_
        refine e_getf f_190_82 g165 rfl rfl ?_
        show px_to 190 85 [some (.ref (269)), some (.int (nI c)), some (.int (nI v)), some (.int (nI i)), none] [.int (nI ps.length), .ref (269)] h162 _
        refine e_iconst (v := nI 1) f_190_85 (by decide) rfl ?_
        refine e_isub (z := nI (ps.length - 1)) f_190_86 (pk_sub (by omega)) rfl ?_
        refine e_putp (vs' := mB ga gp (nI j.length, (runO j (evs x.1 (ps.eraseIdx i))).2.2.1.isSome, oI (runO j (evs x.1 (ps.eraseIdx i))).2.2.1, (runO j (evs x.1 (ps.eraseIdx i))).2.2.2, la100, lb101, cb) (nI 0, nI (((runO j (evs x.1 (ps.eraseIdx i))).2.1).length)) gw102 (nI (ps.eraseIdx i).length, nI (((runO j (evs x.1 (ps.eraseIdx i))).2.1).length), nI x.2.1.length) (gv5.1, gv5.2.1, gv5.2.2.1, gv5.2.2.2.1, gv5.2.2.2.2.1, gv5.2.2.2.2.2.1, nI (ps.length - 1), gv5.2.2.2.2.2.2.2.1, gv5.2.2.2.2.2.2.2.2)) f_190_87 g165 (Nat.le_of_ble_eq_true rfl) (rfl) (rfl) rfl rfl (fun h207 g208 fx209 => ?_)
        have fr210 : px_fj 269 1 287 17 h0 h207 := fj_tr fr177 fx209 (by omega)
        refine e_iload_n f_190_90 rfl rfl ?_
        refine e_istore (L' := [some (.ref (269)), some (.int (nI c)), some (.int (nI v)), some (.int (nI i)), some (.int (nI i))]) f_190_91 (Nat.le_of_ble_eq_true rfl) rfl rfl ?_
        have g211 : px_pa hm39 303 50 24 vN ps := pa_fi G1 fa40 (by omega)
        have g212 : px_pa h33 303 50 24 vN ps := pa_fi g211 fb41 (by omega)
        have g213 : px_pa hm95 303 50 24 vN ps := pa_fi g212 fa96 (by omega)
        have g214 : px_pa h90 303 50 24 vN ps := pa_fi g213 fb97 (by omega)
        have g215 : px_pa hm173 303 50 24 vN ps := pa_fi g214 fa174 (by omega)
        have g216 : px_pa h162 303 50 24 vN ps := pa_fi g215 fb175 (by omega)
        have g217 : px_pa h207 303 50 24 vN ps := pa_fi g216 fx209 (by omega)
        refine ll_Md_shft (h0 := h207) (g0 := i) (ps := ps) (gv := (gv5.1, gv5.2.1, gv5.2.2.1, gv5.2.2.2.1, gv5.2.2.2.2.1, gv5.2.2.2.2.2.1, nI (ps.length - 1), gv5.2.2.2.2.2.2.2.1, gv5.2.2.2.2.2.2.2.2)) g208 (by omega) (by omega) (fun hG1 z0 zf => ?_) ps.length i h207 (by omega) ⟨Nat.le_refl _, by omega⟩ (pa_eq g217 shS_0.symm) (fi_rf _ _ _)
        have fr218 : px_fj 269 1 287 17 h0 hG1 := fj_tr fr210 zf (by omega)
        refine e_iconst (v := nI 0) f_190_124 (by decide) rfl ?_
        refine e_istore_n (L' := [some (.ref (269)), some (.int (nI c)), some (.int (nI v)), some (.int (nI 0)), none]) f_190_125 (Nat.le_of_ble_eq_true rfl) rfl rfl ?_
        refine e_goto f_190_126 ?_
        have g219 : hG1.2.2 269 = some (12, mB ga gp (nI j.length, (runO j (evs x.1 (ps.eraseIdx i))).2.2.1.isSome, oI (runO j (evs x.1 (ps.eraseIdx i))).2.2.1, (runO j (evs x.1 (ps.eraseIdx i))).2.2.2, la100, lb101, cb) (nI 0, nI (((runO j (evs x.1 (ps.eraseIdx i))).2.1).length)) gw102 (nI (ps.eraseIdx i).length, nI (((runO j (evs x.1 (ps.eraseIdx i))).2.1).length), nI x.2.1.length) (gv5.1, gv5.2.1, gv5.2.2.1, gv5.2.2.2.1, gv5.2.2.2.2.1, gv5.2.2.2.2.2.1, nI (ps.length - 1), gv5.2.2.2.2.2.2.2.1, gv5.2.2.2.2.2.2.2.2)) := fi_at g208 zf (by omega)
        have g220 : hG1.2.2 269 = some (12, mB ga gp (nI j.length, (runO j (evs x.1 (ps.eraseIdx i))).2.2.1.isSome, oI (runO j (evs x.1 (ps.eraseIdx i))).2.2.1, (runO j (evs x.1 (ps.eraseIdx i))).2.2.2, la100, lb101, cb) (nI 0, nI (((runO j (evs x.1 (ps.eraseIdx i))).2.1).length)) gw102 (nI (ps.eraseIdx i).length, nI (((runO j (evs x.1 (ps.eraseIdx i))).2.1).length), nI x.2.1.length) (gv5.1, gv5.2.1, gv5.2.2.1, gv5.2.2.2.1, gv5.2.2.2.2.1, gv5.2.2.2.2.2.1, nI ((ps.eraseIdx i).length), gv5.2.2.2.2.2.2.2.1, gv5.2.2.2.2.2.2.2.2)) := by have z := g219; rw [← ers_len (show i < ps.length by omega)] at z; exact z
        have g221 : px_pa hm173 287 50 3070 Value.int sl103 := pa_fi g108 fa174 (by omega)
        have g222 : px_pa h162 287 50 3070 Value.int sl103 := pa_fi g221 fb175 (by omega)
        have g223 : px_pa h207 287 50 3070 Value.int sl103 := pa_fi g222 fx209 (by omega)
        have g224 : px_pa hG1 287 50 3070 Value.int sl103 := pa_fi g223 zf (by omega)
        have g225 : px_pa hm173 288 50 3070 Value.int sl2104 := pa_fi g109 fa174 (by omega)
        have g226 : px_pa h162 288 50 3070 Value.int sl2104 := pa_fi g225 fb175 (by omega)
        have g227 : px_pa h207 288 50 3070 Value.int sl2104 := pa_fi g226 fx209 (by omega)
        have g228 : px_pa hG1 288 50 3070 Value.int sl2104 := pa_fi g227 zf (by omega)
        have g229 : px_pa hm173 289 54 100 rK lh105 := pa_fi g110 fa174 (by omega)
        have g230 : px_pa h162 289 54 100 rK lh105 := pa_fi g229 fb175 (by omega)
        have g231 : px_pa h207 289 54 100 rK lh105 := pa_fi g230 fx209 (by omega)
        have g232 : px_pa hG1 289 54 100 rK lh105 := pa_fi g231 zf (by omega)
        have g233 : px_pa hm173 290 50 100 rV lh105 := pa_fi g111 fa174 (by omega)
        have g234 : px_pa h162 290 50 100 rV lh105 := pa_fi g233 fb175 (by omega)
        have g235 : px_pa h207 290 50 100 rV lh105 := pa_fi g234 fx209 (by omega)
        have g236 : px_pa hG1 290 50 100 rV lh105 := pa_fi g235 zf (by omega)
        have g237 : px_pa hm173 291 50 100 rT lh105 := pa_fi g112 fa174 (by omega)
        have g238 : px_pa h162 291 50 100 rT lh105 := pa_fi g237 fb175 (by omega)
        have g239 : px_pa h207 291 50 100 rT lh105 := pa_fi g238 fx209 (by omega)
        have g240 : px_pa hG1 291 50 100 rT lh105 := pa_fi g239 zf (by omega)
        have g241 : px_pa hm173 292 54 100 rK ((runO j (evs x.1 (ps.eraseIdx i))).2.1) := pa_fi g113 fa174 (by omega)
        have g242 : px_pa h162 292 54 100 rK ((runO j (evs x.1 (ps.eraseIdx i))).2.1) := pa_fi g241 fb175 (by omega)
        have g243 : px_pa h207 292 54 100 rK ((runO j (evs x.1 (ps.eraseIdx i))).2.1) := pa_fi g242 fx209 (by omega)
        have g244 : px_pa hG1 292 54 100 rK ((runO j (evs x.1 (ps.eraseIdx i))).2.1) := pa_fi g243 zf (by omega)
        have g245 : px_pa hm173 293 50 100 rV ((runO j (evs x.1 (ps.eraseIdx i))).2.1) := pa_fi g114 fa174 (by omega)
        have g246 : px_pa h162 293 50 100 rV ((runO j (evs x.1 (ps.eraseIdx i))).2.1) := pa_fi g245 fb175 (by omega)
        have g247 : px_pa h207 293 50 100 rV ((runO j (evs x.1 (ps.eraseIdx i))).2.1) := pa_fi g246 fx209 (by omega)
        have g248 : px_pa hG1 293 50 100 rV ((runO j (evs x.1 (ps.eraseIdx i))).2.1) := pa_fi g247 zf (by omega)
        have g249 : px_pa hm173 294 50 100 rT ((runO j (evs x.1 (ps.eraseIdx i))).2.1) := pa_fi g115 fa174 (by omega)
        have g250 : px_pa h162 294 50 100 rT ((runO j (evs x.1 (ps.eraseIdx i))).2.1) := pa_fi g249 fb175 (by omega)
        have g251 : px_pa h207 294 50 100 rT ((runO j (evs x.1 (ps.eraseIdx i))).2.1) := pa_fi g250 fx209 (by omega)
        have g252 : px_pa hG1 294 50 100 rT ((runO j (evs x.1 (ps.eraseIdx i))).2.1) := pa_fi g251 zf (by omega)
        have g253 : px_pa hm173 295 50 30 Value.int cv106 := pa_fi g116 fa174 (by omega)
        have g254 : px_pa h162 295 50 30 Value.int cv106 := pa_fi g253 fb175 (by omega)
        have g255 : px_pa h207 295 50 30 Value.int cv106 := pa_fi g254 fx209 (by omega)
        have g256 : px_pa hG1 295 50 30 Value.int cv106 := pa_fi g255 zf (by omega)
        have g257 : px_pa hm95 296 50 24 vN (ps.eraseIdx i) := pa_fi g37 fa96 (by omega)
        have g258 : px_pa h90 296 50 24 vN (ps.eraseIdx i) := pa_fi g257 fb97 (by omega)
        have g259 : px_pa hm173 296 50 24 vN (ps.eraseIdx i) := pa_fi g258 fa174 (by omega)
        have g260 : px_pa h162 296 50 24 vN (ps.eraseIdx i) := pa_fi g259 fb175 (by omega)
        have g261 : px_pa h207 296 50 24 vN (ps.eraseIdx i) := pa_fi g260 fx209 (by omega)
        have g262 : px_pa hG1 296 50 24 vN (ps.eraseIdx i) := pa_fi g261 zf (by omega)
        have g263 : px_pa h207 297 54 100 rK (srt x.2.2 ((runO j (evs x.1 (ps.eraseIdx i))).2.1)) := pa_fi g166 fx209 (by omega)
        have g264 : px_pa hG1 297 54 100 rK (srt x.2.2 ((runO j (evs x.1 (ps.eraseIdx i))).2.1)) := pa_fi g263 zf (by omega)
        have g265 : px_pa h207 298 50 100 rV (srt x.2.2 ((runO j (evs x.1 (ps.eraseIdx i))).2.1)) := pa_fi g167 fx209 (by omega)
        have g266 : px_pa hG1 298 50 100 rV (srt x.2.2 ((runO j (evs x.1 (ps.eraseIdx i))).2.1)) := pa_fi g265 zf (by omega)
        have g267 : px_pa h207 299 50 100 rT (srt x.2.2 ((runO j (evs x.1 (ps.eraseIdx i))).2.1)) := pa_fi g168 fx209 (by omega)
        have g268 : px_pa hG1 299 50 100 rT (srt x.2.2 ((runO j (evs x.1 (ps.eraseIdx i))).2.1)) := pa_fi g267 zf (by omega)
        have g269 : px_pa h207 300 54 100 rK (srt x.2.2 x.2.1) := pa_fi g169 fx209 (by omega)
        have g270 : px_pa hG1 300 54 100 rK (srt x.2.2 x.2.1) := pa_fi g269 zf (by omega)
        have g271 : px_pa h207 301 50 100 rV (srt x.2.2 x.2.1) := pa_fi g170 fx209 (by omega)
        have g272 : px_pa hG1 301 50 100 rV (srt x.2.2 x.2.1) := pa_fi g271 zf (by omega)
        have g273 : px_pa h207 302 50 100 rT (srt x.2.2 x.2.1) := pa_fi g171 fx209 (by omega)
        have g274 : px_pa hG1 302 50 100 rT (srt x.2.2 x.2.1) := pa_fi g273 zf (by omega)
        have g275 : pSH hG1 ga gp j cb (ps.eraseIdx i) := ⟨(nI j.length, (runO j (evs x.1 (ps.eraseIdx i))).2.2.1.isSome, oI (runO j (evs x.1 (ps.eraseIdx i))).2.2.1, (runO j (evs x.1 (ps.eraseIdx i))).2.2.2, la100, lb101, cb), (nI 0, nI (((runO j (evs x.1 (ps.eraseIdx i))).2.1).length)), gw102, (nI (ps.eraseIdx i).length, nI (((runO j (evs x.1 (ps.eraseIdx i))).2.1).length), nI x.2.1.length), (gv5.1, gv5.2.1, gv5.2.2.1, gv5.2.2.2.1, gv5.2.2.2.2.1, gv5.2.2.2.2.2.1, nI ((ps.eraseIdx i).length), gv5.2.2.2.2.2.2.2.1, gv5.2.2.2.2.2.2.2.2), _, _, _, _, _, _, _, _, g220, g224, g228, g232, g236, g240, g244, g248, g252, g256, g262, g264, g266, g268, g270, g272, g274, ⟨hO.1, hO.2.1, hO.2.2.1⟩⟩
        first | (exfalso; omega) | exact ih (d - 1) (by omega) 0 (ps.eraseIdx i) hG1 (by rw [hel]; omega) (Nat.zero_le _) (by rw [hel]; omega) (hpe) (eS) g275 z0 fr218

set_option maxRecDepth 20000 in
set_option maxHeartbeats 4000000 in
theorem ll_Md_shk {P : px_H → Option Value → Prop} {h0 : px_H} {c v n : Nat} {ga : gA} {gp : gP} {gq : gQ} {gh : gH} {gw : gW} {gu : gU} {gv : gV} (HM : h0.2.2 269 = some (12, mB ga gp gq gh gw gu (gv.1, gv.2.1, gv.2.2.1, gv.2.2.2.1, gv.2.2.2.2.1, gv.2.2.2.2.2.1, nI n, gv.2.2.2.2.2.2.2.1, gv.2.2.2.2.2.2.2.2))) (h24 : n ≤ 24) (kx : ∀ g, px_pa g 303 50 24 vN (List.range n) → px_fi 303 1 h0 g → px_to 190 51 [some (.ref (269)), some (.int (nI c)), some (.int (nI v)), none, none] [] g P) : ∀ (d : Nat) (i : Nat) (g : px_H), (n ≤ i + d) → (i ≤ n) → px_pa g 303 50 24 vN (List.range i) → px_fi 303 1 h0 g → px_to 190 30 [some (.ref (269)), some (.int (nI c)), some (.int (nI v)), some (.int (nI i)), none] [] g P := by
  intro d
  induction d using Nat.strongRecOn with
  | ind d ih =>
    intro i g q0 q1 G0 frg
    refine e_iload_n f_190_30 rfl rfl ?_
    refine e_aload_n f_190_31 rfl rfl ?_
    have g1 : g.2.2 269 = some (12, mB ga gp gq gh gw gu (gv.1, gv.2.1, gv.2.2.1, gv.2.2.2.1, gv.2.2.2.2.1, gv.2.2.2.2.2.1, nI n, gv.2.2.2.2.2.2.2.1, gv.2.2.2.2.2.2.2.2)) := fi_at HM frg (by omega)
    refine e_getf f_190_32 g1 rfl rfl ?_
    show px_to 190 35 [some (.ref (269)), some (.int (nI c)), some (.int (nI v)), some (.int (nI i)), none] [.int (nI n), .int (nI i)] g _
    refine e_icmp_ge f_190_35 rfl (fun c_35 => ?_) (fun c_35 => ?_)
    · skip
      have c_35 : n ≤ i := cv_le (by omega) (by omega) c_35
      refine px_to_L (L := [some (.ref (269)), some (.int (nI c)), some (.int (nI v)), none, none]) ⟨Or.inr rfl, Or.inr rfl, Or.inr rfl, Or.inl rfl, Or.inr rfl, trivial⟩ ?_
      have ei : i = n := by omega
      subst ei
      exact kx g G0 frg
    · skip
      have c_35 : i < n := cv_nle (by omega) (by omega) c_35
      refine e_aload_n f_190_38 rfl rfl ?_
      refine e_getf f_190_39 g1 rfl rfl ?_
      refine e_iload_n f_190_42 rfl rfl ?_
      refine e_iload_n f_190_43 rfl rfl ?_
      refine e_iastore_a (xs := List.range i) (x := i) f_190_44 G0 (by omega) (by rw [List.length_range]) (by omega) (rfl) rfl (fun h2 g3 fx4 => ?_)
      have fr5 : px_fi 303 1 h0 h2 := fi_tr frg fx4 (by omega)
      refine e_iinc (y := nI (i + 1)) (L' := [some (.ref (269)), some (.int (nI c)), some (.int (nI v)), some (.int (nI (i + 1))), none]) f_190_45 rfl (by rw [show Int32.ofInt 1 = nI 1 by decide]; exact (nI_add _ _)) rfl rfl ?_
      refine e_goto f_190_48 ?_
      have g6 : px_pa h2 303 50 24 vN (List.range (i + 1)) := pa_eq g3 (by rw [List.range_succ])
      first | (exfalso; omega) | exact ih (d - 1) (by omega) (i + 1) h2 (by omega) (by omega) g6 fr5

def relK (o : Option (List Nat)) (gv : gV) (ke : List Nat) : Prop := ∀ l, o = some l → gv.2.2.2.2.2.2.1 = nI l.length ∧ ke = l ∧ l.length ≤ 24
def pSR (h : px_H) (ga : gA) (gp : gP) (j : List St) (cb : Bool) (o : Option (List Nat)) : Prop := ∃ (gq : gQ) (gh : gH) (gw : gW) (gu : gU) (gv : gV) (sl : List Int32) (sl2 : List Int32) (lh : List Row) (lg : List Row) (cv : List Int32) (pl : List Nat) (lo : List Row) (lt : List Row) (ke : List Nat), h.2.2 269 = some (12, mB ga gp (gq.1, gq.2.1, gq.2.2.1, gq.2.2.2.1, gq.2.2.2.2.1, gq.2.2.2.2.2.1, cb) gh gw gu gv) ∧ px_pa h 287 50 3070 Value.int sl ∧ px_pa h 288 50 3070 Value.int sl2 ∧ px_pa h 289 54 100 rK lh ∧ px_pa h 290 50 100 rV lh ∧ px_pa h 291 50 100 rT lh ∧ px_pa h 292 54 100 rK lg ∧ px_pa h 293 50 100 rV lg ∧ px_pa h 294 50 100 rT lg ∧ px_pa h 295 50 30 Value.int cv ∧ px_pa h 296 50 24 vN pl ∧ px_pa h 297 54 100 rK lo ∧ px_pa h 298 50 100 rV lo ∧ px_pa h 299 50 100 rT lo ∧ px_pa h 300 54 100 rK lt ∧ px_pa h 301 50 100 rV lt ∧ px_pa h 302 50 100 rT lt ∧ px_pa h 303 50 24 vN ke ∧ relL sl sl2 cv ∧ relK o gv ke
theorem shr_len {j : List St} {x : CS3} {v : Nat} : ∀ (f i : Nat) (ps : List Nat), (shr j x v f i ps).length ≤ ps.length
  | 0, _, _ => Nat.le_refl _
  | f + 1, i, ps => by
    rw [shr]
    split
    · split
      · exact Nat.le_trans (shr_len f _ _) (by rw [List.length_eraseIdx]; split <;> omega)
      · exact shr_len f _ _
    · exact Nat.le_refl _

set_option maxRecDepth 20000 in
set_option maxHeartbeats 4000000 in
theorem cc_Md_shm {h : px_H} {c : Nat} {x : CS3} {em : List Nat} {es : List Ev} {om : List Nat} {ro : List Row} {wn pl ke : List Nat} {L cn : Int32} {j jn : List St} {cb : Bool} {sl sl2 : List Int32} {lh lg lo lt : List Row} {cv : List Int32} {gp : gP} {gq : gQ} {gh : gH} {gw : gW} {gu : gU} {gv : gV} (H0 : h.2.2 269 = some (12, mB (L, nI j.length, cn) gp (gq.1, gq.2.1, gq.2.2.1, gq.2.2.2.1, gq.2.2.2.2.1, gq.2.2.2.2.2.1, cb) gh gw gu gv)) (H1 : px_pa h 271 52 6 stS j) (H2 : px_pa h 272 52 6 stA j) (H3 : px_pa h 273 50 6 stN j) (H4 : px_pa h 284 52 6 stS jn) (H5 : px_pa h 285 52 6 stA jn) (H6 : px_pa h 286 50 6 stN jn) (H7 : px_pa h 287 50 3070 Value.int sl) (H8 : px_pa h 288 50 3070 Value.int sl2) (H9 : px_pa h 289 54 100 rK lh) (H10 : px_pa h 290 50 100 rV lh) (H11 : px_pa h 291 50 100 rT lh) (H12 : px_pa h 292 54 100 rK lg) (H13 : px_pa h 293 50 100 rV lg) (H14 : px_pa h 294 50 100 rT lg) (H15 : px_pa h 295 50 30 Value.int cv) (H16 : px_pa h 296 50 24 vN pl) (H17 : px_pa h 274 50 8 vN em) (H18 : px_pa h 275 52 192 evS es) (H19 : px_pa h 276 54 192 evK es) (H20 : px_pa h 277 53 192 evV es) (H21 : px_pa h 278 53 192 evT es) (H22 : px_pa h 279 50 8 vN om) (H23 : px_pa h 280 54 128 rK ro) (H24 : px_pa h 281 53 128 rV ro) (H25 : px_pa h 282 53 128 rT ro) (H26 : px_pa h 283 52 8 vN wn) (H27 : px_pa h 297 54 100 rK lo) (H28 : px_pa h 298 50 100 rV lo) (H29 : px_pa h 299 50 100 rT lo) (H30 : px_pa h 300 54 100 rK lt) (H31 : px_pa h 301 50 100 rV lt) (H32 : px_pa h 302 50 100 rT lt) (H33 : px_pa h 303 50 24 vN ke) (p0 : okZ j) (p1 : sl.length = 3070 ∧ sl2.length = 3070 ∧ cv.length = 30) (p2 : c < 8) (p3 : em.length = 8 ∧ es.length = 192) (p4 : inE es c x.1) (p5 : okC3 x) (p6 : em.getD c 0 = x.1.length) (p7 : om.length = 8 ∧ ro.length = 128) (p8 : om.getD c 0 = x.2.1.length) (p9 : inR ro c x.2.1) (p10 : wn.length = 8 ∧ wn.getD c 0 = x.2.2) : px_wp 190 [.ref (269), .int (nI c)] h (fun h1 r => r = some (.int (bI ((shL j x).isSome))) ∧ px_pa h1 284 52 6 stS j ∧ px_pa h1 285 52 6 stA j ∧ px_pa h1 286 50 6 stN j ∧ pSR h1 (L, nI j.length, cn) gp j cb (shL j x) ∧ px_fj 269 1 284 20 h h1) := by
  have fr0 : px_fj 269 1 284 20 h h := fj_rf _ _ _ _ _
  have h6 := p0.1.1
  have h24 := p5.1
  have hvl : ∀ a b (cc : List Row) (dd : List Row), vdB a b cc dd ≤ 2 := fun a b cc dd => by unfold vdB; (repeat' split) <;> omega
  show px_to 190 0 [some (.ref (269)), some (.int (nI c)), none, none, none] [] h _
  refine e_aload_n f_190_0 rfl rfl ?_
  refine e_iload_n f_190_1 rfl rfl ?_
  refine e_callV (As := [.int (nI c)]) (rest := []) f_190_2 rfl rfl rfl (Nat.le_of_ble_eq_true rfl) (Nat.le_of_ble_eq_true rfl) H0 rfl (Nat.le_of_ble_eq_true rfl) (cc_Md_pla (c := c) (ev := x.1) (em := em) (es := es) (pl := pl) (L := L) (cn := cn) (j := j) (jn := jn) (cb := cb) (sl := sl) (sl2 := sl2) (lh := lh) (lg := lg) (cv := cv) (tl := cv) (gp := gp) (gq := (gq.1, gq.2.1, gq.2.2.1, gq.2.2.2.1, gq.2.2.2.2.1, gq.2.2.2.2.2.1, cb)) (gh := gh) (gw := gw) (gu := gu) (gv := gv) H0 H1 H2 H3 H4 H5 H6 H7 H8 H9 H10 H11 H12 H13 H14 H15 H16 H17 H18 H19 H20 H21 (p0) (p1) (p2) (p3) (p4) (p5.1) (p5.2.1) (p6) (⟨p1.2.2, fun _ => rfl⟩)) rfl (fun h1 r2 q3 => ?_)
  obtain ⟨rfl, g4, g5, g6, g7, g8, fx9⟩ := q3
  obtain ⟨hm10, fa11, fb12⟩ := fj_mid fx9
  have fr13 : px_fj 269 1 284 20 h hm10 := fj_tr fr0 fa11 (by omega)
  have fr14 : px_fj 269 1 284 20 h h1 := fj_tr fr13 fb12 (by omega)
  show px_to 190 5 [some (.ref (269)), some (.int (nI c)), none, none, none] [] h1 _
  obtain ⟨la15, lb16, gw17, sl18, sl219, lh20, cv21, g22, g23, g24, g25, g26, g27, g28, g29, g30, g31, hO32⟩ := id g8
  have hO := hO32
  have hrr := runO_ok (j := j) p0.1 p5.2.1
  have hvd : vdE j x x.1 = vdB x.2.2 (runO j x.1).2.2.1.isSome (runO j x.1).2.1 x.2.1 := by unfold vdE; rw [vdB_vd]
  refine e_aload_n f_190_5 rfl rfl ?_
  refine e_iload_n f_190_6 rfl rfl ?_
  have g33 : px_pa hm10 297 54 100 rK lo := pa_fi H27 fa11 (by omega)
  have g34 : px_pa h1 297 54 100 rK lo := pa_fi g33 fb12 (by omega)
  have g35 : px_pa hm10 298 50 100 rV lo := pa_fi H28 fa11 (by omega)
  have g36 : px_pa h1 298 50 100 rV lo := pa_fi g35 fb12 (by omega)
  have g37 : px_pa hm10 299 50 100 rT lo := pa_fi H29 fa11 (by omega)
  have g38 : px_pa h1 299 50 100 rT lo := pa_fi g37 fb12 (by omega)
  have g39 : px_pa hm10 279 50 8 vN om := pa_fi H22 fa11 (by omega)
  have g40 : px_pa h1 279 50 8 vN om := pa_fi g39 fb12 (by omega)
  have g41 : px_pa hm10 280 54 128 rK ro := pa_fi H23 fa11 (by omega)
  have g42 : px_pa h1 280 54 128 rK ro := pa_fi g41 fb12 (by omega)
  have g43 : px_pa hm10 281 53 128 rV ro := pa_fi H24 fa11 (by omega)
  have g44 : px_pa h1 281 53 128 rV ro := pa_fi g43 fb12 (by omega)
  have g45 : px_pa hm10 282 53 128 rT ro := pa_fi H25 fa11 (by omega)
  have g46 : px_pa h1 282 53 128 rT ro := pa_fi g45 fb12 (by omega)
  have g47 : px_pa hm10 300 54 100 rK lt := pa_fi H30 fa11 (by omega)
  have g48 : px_pa h1 300 54 100 rK lt := pa_fi g47 fb12 (by omega)
  have g49 : px_pa hm10 301 50 100 rV lt := pa_fi H31 fa11 (by omega)
  have g50 : px_pa h1 301 50 100 rV lt := pa_fi g49 fb12 (by omega)
  have g51 : px_pa hm10 302 50 100 rT lt := pa_fi H32 fa11 (by omega)
  have g52 : px_pa h1 302 50 100 rT lt := pa_fi g51 fb12 (by omega)
  have g53 : px_pa hm10 283 52 8 vN wn := pa_fi H26 fa11 (by omega)
  have g54 : px_pa h1 283 52 8 vN wn := pa_fi g53 fb12 (by omega)
  refine e_callV (As := [.int (nI c)]) (rest := []) f_190_7 rfl rfl rfl (Nat.le_of_ble_eq_true rfl) (Nat.le_of_ble_eq_true rfl) g22 rfl (Nat.le_of_ble_eq_true rfl) (cc_Md_vd (zz := (runO j x.1).2.2.1.isSome) (c := c) (os := x.2.2) (lg := (runO j x.1).2.1) (td := x.2.1) (lo := lo) (lt := lt) (om := om) (ro := ro) (wn := wn) (ga := (L, nI j.length, cn)) (gp := gp) (gq := (nI j.length, (runO j x.1).2.2.1.isSome, oI (runO j x.1).2.2.1, (runO j x.1).2.2.2, la15, lb16, cb)) (gh := (nI 0, nI ((runO j x.1).2.1.length))) (gw := gw17) (gu := (nI x.1.length, gu.2.1, gu.2.2)) (gv := gv) g22 g28 g29 g30 g34 g36 g38 g40 g42 g44 g46 g48 g50 g52 g54 (p2) (p7) (p8) (p9) (p5.2.2.1) (p5.2.2.2.1) (hrr.1) (p10) (by have := p5.2.2.2.2; omega)) rfl (fun h55 r56 q57 => ?_)
  obtain ⟨rfl, g58, g59, g60, g61, g62, g63, g64, fx65⟩ := q57
  obtain ⟨hm66, fa67, fb68⟩ := fj_mid fx65
  have fr69 : px_fj 269 1 284 20 h hm66 := fj_tr fr14 fa67 (by omega)
  have fr70 : px_fj 269 1 284 20 h h55 := fj_tr fr69 fb68 (by omega)
  show px_to 190 10 [some (.ref (269)), some (.int (nI c)), none, none, none] [.int (nI (vdB x.2.2 ((runO j x.1).2.2.1.isSome) ((runO j x.1).2.1) x.2.1))] h55 _
  refine e_istore_n (L' := [some (.ref (269)), some (.int (nI c)), some (.int (nI (vdB x.2.2 ((runO j x.1).2.2.1.isSome) ((runO j x.1).2.1) x.2.1))), none, none]) f_190_10 (Nat.le_of_ble_eq_true rfl) rfl rfl ?_
  refine e_iload_n f_190_11 rfl rfl ?_
  refine e_iconst (v := nI 1) f_190_12 (by decide) rfl ?_
  have hvl2 := hvl x.2.2 (runO j x.1).2.2.1.isSome (runO j x.1).2.1 x.2.1
  refine e_icmp_ne f_190_13 rfl (fun c_13 => ?_) (fun c_13 => ?_)
  · skip
    have c_13 : vdB x.2.2 ((runO j x.1).2.2.1.isSome) ((runO j x.1).2.1) x.2.1 ≠ 1 := cv_ne c_13
    refine e_aload_n f_190_18 rfl rfl ?_
    refine e_aload_n f_190_19 rfl rfl ?_
    refine e_getf f_190_20 g58 rfl rfl ?_
    refine e_iload_n f_190_23 rfl rfl ?_
    have g71 : px_pa hm10 274 50 8 vN em := pa_fi H17 fa11 (by omega)
    have g72 : px_pa h1 274 50 8 vN em := pa_fi g71 fb12 (by omega)
    have g73 : px_pa hm66 274 50 8 vN em := pa_fi g72 fa67 (by omega)
    have g74 : px_pa h55 274 50 8 vN em := pa_fi g73 fb68 (by omega)
    refine e_iaload_p (xs := em) f_190_24 g74 (d := 0) (by first | omega | (simp only [List.length_set]; omega)) rfl ?_
    show px_to 190 25 [some (.ref (269)), some (.int (nI c)), some (.int (nI (vdB x.2.2 ((runO j x.1).2.2.1.isSome) ((runO j x.1).2.1) x.2.1))), none, none] [.int (nI (em.getD c 0)), .ref (269)] h55 _
    rw [p6]
    refine e_putp (vs' := mB (L, nI j.length, cn) gp (nI j.length, (runO j x.1).2.2.1.isSome, oI (runO j x.1).2.2.1, (runO j x.1).2.2.2, la15, lb16, cb) (nI 0, nI (((runO j x.1).2.1).length)) gw17 (nI x.1.length, nI (((runO j x.1).2.1).length), nI x.2.1.length) (gv.1, gv.2.1, gv.2.2.1, gv.2.2.2.1, gv.2.2.2.2.1, gv.2.2.2.2.2.1, nI x.1.length, gv.2.2.2.2.2.2.2.1, gv.2.2.2.2.2.2.2.2)) f_190_25 g58 (Nat.le_of_ble_eq_true rfl) (rfl) (rfl) rfl rfl (fun h75 g76 fx77 => ?_)
    have fr78 : px_fj 269 1 284 20 h h75 := fj_tr fr70 fx77 (by omega)
    refine e_iconst (v := nI 0) f_190_28 (by decide) rfl ?_
    refine e_istore_n (L' := [some (.ref (269)), some (.int (nI c)), some (.int (nI (vdB x.2.2 ((runO j x.1).2.2.1.isSome) ((runO j x.1).2.1) x.2.1))), some (.int (nI 0)), none]) f_190_29 (Nat.le_of_ble_eq_true rfl) rfl rfl ?_
    have g79 : px_pa hm10 303 50 24 vN ke := pa_fi H33 fa11 (by omega)
    have g80 : px_pa h1 303 50 24 vN ke := pa_fi g79 fb12 (by omega)
    have g81 : px_pa hm66 303 50 24 vN ke := pa_fi g80 fa67 (by omega)
    have g82 : px_pa h55 303 50 24 vN ke := pa_fi g81 fb68 (by omega)
    have g83 : px_pa h75 303 50 24 vN ke := pa_fi g82 fx77 (by omega)
    refine px_to_L (L := [some (.ref (269)), some (.int (nI c)), some (.int (nI (vdB x.2.2 (runO j x.1).2.2.1.isSome (runO j x.1).2.1 x.2.1))), some (.int (nI 0)), none]) ⟨Or.inr rfl, Or.inr rfl, Or.inr rfl, Or.inr rfl, Or.inr rfl, trivial⟩ ?_
    refine ll_Md_shk (h0 := h75) (n := x.1.length) (gv := (gv.1, gv.2.1, gv.2.2.1, gv.2.2.2.1, gv.2.2.2.2.1, gv.2.2.2.2.2.1, nI x.1.length, gv.2.2.2.2.2.2.2.1, gv.2.2.2.2.2.2.2.2)) g76 (by omega) (fun hG1 z0 zf => ?_) x.1.length 0 h75 (by omega) (Nat.zero_le _) (pa_nil g83) (fi_rf _ _ _)
    have fr84 : px_fj 269 1 284 20 h hG1 := fj_tr fr78 zf (by omega)
    refine e_iconst (v := nI 0) f_190_51 (by decide) rfl ?_
    refine e_istore_n (L' := [some (.ref (269)), some (.int (nI c)), some (.int (nI (vdB x.2.2 (runO j x.1).2.2.1.isSome (runO j x.1).2.1 x.2.1))), some (.int (nI 0)), none]) f_190_52 (Nat.le_of_ble_eq_true rfl) rfl rfl ?_
    have g85 : hG1.2.2 269 = some (12, mB (L, nI j.length, cn) gp (nI j.length, (runO j x.1).2.2.1.isSome, oI (runO j x.1).2.2.1, (runO j x.1).2.2.2, la15, lb16, cb) (nI 0, nI (((runO j x.1).2.1).length)) gw17 (nI x.1.length, nI (((runO j x.1).2.1).length), nI x.2.1.length) (gv.1, gv.2.1, gv.2.2.1, gv.2.2.2.1, gv.2.2.2.2.1, gv.2.2.2.2.2.1, nI x.1.length, gv.2.2.2.2.2.2.2.1, gv.2.2.2.2.2.2.2.2)) := fi_at g76 zf (by omega)
    have g86 : hG1.2.2 269 = some (12, mB (L, nI j.length, cn) gp (nI j.length, (runO j x.1).2.2.1.isSome, oI (runO j x.1).2.2.1, (runO j x.1).2.2.2, la15, lb16, cb) (nI 0, nI (((runO j x.1).2.1).length)) gw17 (nI x.1.length, nI (((runO j x.1).2.1).length), nI x.2.1.length) (gv.1, gv.2.1, gv.2.2.1, gv.2.2.2.1, gv.2.2.2.2.1, gv.2.2.2.2.2.1, nI ((List.range x.1.length).length), gv.2.2.2.2.2.2.2.1, gv.2.2.2.2.2.2.2.2)) := by rw [List.length_range]; exact g85
    have g87 : px_pa hm66 287 50 3070 Value.int sl18 := pa_fi g23 fa67 (by omega)
    have g88 : px_pa h55 287 50 3070 Value.int sl18 := pa_fi g87 fb68 (by omega)
    have g89 : px_pa h75 287 50 3070 Value.int sl18 := pa_fi g88 fx77 (by omega)
    have g90 : px_pa hG1 287 50 3070 Value.int sl18 := pa_fi g89 zf (by omega)
    have g91 : px_pa hm66 288 50 3070 Value.int sl219 := pa_fi g24 fa67 (by omega)
    have g92 : px_pa h55 288 50 3070 Value.int sl219 := pa_fi g91 fb68 (by omega)
    have g93 : px_pa h75 288 50 3070 Value.int sl219 := pa_fi g92 fx77 (by omega)
    have g94 : px_pa hG1 288 50 3070 Value.int sl219 := pa_fi g93 zf (by omega)
    have g95 : px_pa hm66 289 54 100 rK lh20 := pa_fi g25 fa67 (by omega)
    have g96 : px_pa h55 289 54 100 rK lh20 := pa_fi g95 fb68 (by omega)
    have g97 : px_pa h75 289 54 100 rK lh20 := pa_fi g96 fx77 (by omega)
    have g98 : px_pa hG1 289 54 100 rK lh20 := pa_fi g97 zf (by omega)
    have g99 : px_pa hm66 290 50 100 rV lh20 := pa_fi g26 fa67 (by omega)
    have g100 : px_pa h55 290 50 100 rV lh20 := pa_fi g99 fb68 (by omega)
    have g101 : px_pa h75 290 50 100 rV lh20 := pa_fi g100 fx77 (by omega)
    have g102 : px_pa hG1 290 50 100 rV lh20 := pa_fi g101 zf (by omega)
    have g103 : px_pa hm66 291 50 100 rT lh20 := pa_fi g27 fa67 (by omega)
    have g104 : px_pa h55 291 50 100 rT lh20 := pa_fi g103 fb68 (by omega)
    have g105 : px_pa h75 291 50 100 rT lh20 := pa_fi g104 fx77 (by omega)
    have g106 : px_pa hG1 291 50 100 rT lh20 := pa_fi g105 zf (by omega)
    have g107 : px_pa hm66 292 54 100 rK ((runO j x.1).2.1) := pa_fi g28 fa67 (by omega)
    have g108 : px_pa h55 292 54 100 rK ((runO j x.1).2.1) := pa_fi g107 fb68 (by omega)
    have g109 : px_pa h75 292 54 100 rK ((runO j x.1).2.1) := pa_fi g108 fx77 (by omega)
    have g110 : px_pa hG1 292 54 100 rK ((runO j x.1).2.1) := pa_fi g109 zf (by omega)
    have g111 : px_pa hm66 293 50 100 rV ((runO j x.1).2.1) := pa_fi g29 fa67 (by omega)
    have g112 : px_pa h55 293 50 100 rV ((runO j x.1).2.1) := pa_fi g111 fb68 (by omega)
    have g113 : px_pa h75 293 50 100 rV ((runO j x.1).2.1) := pa_fi g112 fx77 (by omega)
    have g114 : px_pa hG1 293 50 100 rV ((runO j x.1).2.1) := pa_fi g113 zf (by omega)
    have g115 : px_pa hm66 294 50 100 rT ((runO j x.1).2.1) := pa_fi g30 fa67 (by omega)
    have g116 : px_pa h55 294 50 100 rT ((runO j x.1).2.1) := pa_fi g115 fb68 (by omega)
    have g117 : px_pa h75 294 50 100 rT ((runO j x.1).2.1) := pa_fi g116 fx77 (by omega)
    have g118 : px_pa hG1 294 50 100 rT ((runO j x.1).2.1) := pa_fi g117 zf (by omega)
    have g119 : px_pa hm66 295 50 30 Value.int cv21 := pa_fi g31 fa67 (by omega)
    have g120 : px_pa h55 295 50 30 Value.int cv21 := pa_fi g119 fb68 (by omega)
    have g121 : px_pa h75 295 50 30 Value.int cv21 := pa_fi g120 fx77 (by omega)
    have g122 : px_pa hG1 295 50 30 Value.int cv21 := pa_fi g121 zf (by omega)
    have g123 : px_pa hm66 296 50 24 vN (List.range x.1.length) := pa_fi g7 fa67 (by omega)
    have g124 : px_pa h55 296 50 24 vN (List.range x.1.length) := pa_fi g123 fb68 (by omega)
    have g125 : px_pa h75 296 50 24 vN (List.range x.1.length) := pa_fi g124 fx77 (by omega)
    have g126 : px_pa hG1 296 50 24 vN (List.range x.1.length) := pa_fi g125 zf (by omega)
    have g127 : px_pa h75 297 54 100 rK (srt x.2.2 ((runO j x.1).2.1)) := pa_fi g59 fx77 (by omega)
    have g128 : px_pa hG1 297 54 100 rK (srt x.2.2 ((runO j x.1).2.1)) := pa_fi g127 zf (by omega)
    have g129 : px_pa h75 298 50 100 rV (srt x.2.2 ((runO j x.1).2.1)) := pa_fi g60 fx77 (by omega)
    have g130 : px_pa hG1 298 50 100 rV (srt x.2.2 ((runO j x.1).2.1)) := pa_fi g129 zf (by omega)
    have g131 : px_pa h75 299 50 100 rT (srt x.2.2 ((runO j x.1).2.1)) := pa_fi g61 fx77 (by omega)
    have g132 : px_pa hG1 299 50 100 rT (srt x.2.2 ((runO j x.1).2.1)) := pa_fi g131 zf (by omega)
    have g133 : px_pa h75 300 54 100 rK (srt x.2.2 x.2.1) := pa_fi g62 fx77 (by omega)
    have g134 : px_pa hG1 300 54 100 rK (srt x.2.2 x.2.1) := pa_fi g133 zf (by omega)
    have g135 : px_pa h75 301 50 100 rV (srt x.2.2 x.2.1) := pa_fi g63 fx77 (by omega)
    have g136 : px_pa hG1 301 50 100 rV (srt x.2.2 x.2.1) := pa_fi g135 zf (by omega)
    have g137 : px_pa h75 302 50 100 rT (srt x.2.2 x.2.1) := pa_fi g64 fx77 (by omega)
    have g138 : px_pa hG1 302 50 100 rT (srt x.2.2 x.2.1) := pa_fi g137 zf (by omega)
    have g139 : pSH hG1 (L, nI j.length, cn) gp j cb (List.range x.1.length) := ⟨(nI j.length, (runO j x.1).2.2.1.isSome, oI (runO j x.1).2.2.1, (runO j x.1).2.2.2, la15, lb16, cb), (nI 0, nI (((runO j x.1).2.1).length)), gw17, (nI x.1.length, nI (((runO j x.1).2.1).length), nI x.2.1.length), (gv.1, gv.2.1, gv.2.2.1, gv.2.2.2.1, gv.2.2.2.2.1, gv.2.2.2.2.2.1, nI ((List.range x.1.length).length), gv.2.2.2.2.2.2.2.1, gv.2.2.2.2.2.2.2.2), _, _, _, _, _, _, _, _, g86, g90, g94, g98, g102, g106, g110, g114, g118, g122, g126, g128, g130, g132, g134, g136, g138, ⟨hO.1, hO.2.1, hO.2.2.1⟩⟩
    have g140 : px_pa hm10 275 52 192 evS es := pa_fi H18 fa11 (by omega)
    have g141 : px_pa h1 275 52 192 evS es := pa_fi g140 fb12 (by omega)
    have g142 : px_pa hm66 275 52 192 evS es := pa_fi g141 fa67 (by omega)
    have g143 : px_pa h55 275 52 192 evS es := pa_fi g142 fb68 (by omega)
    have g144 : px_pa h75 275 52 192 evS es := pa_fi g143 fx77 (by omega)
    have g145 : px_pa hG1 275 52 192 evS es := pa_fi g144 zf (by omega)
    have g146 : px_pa hm10 276 54 192 evK es := pa_fi H19 fa11 (by omega)
    have g147 : px_pa h1 276 54 192 evK es := pa_fi g146 fb12 (by omega)
    have g148 : px_pa hm66 276 54 192 evK es := pa_fi g147 fa67 (by omega)
    have g149 : px_pa h55 276 54 192 evK es := pa_fi g148 fb68 (by omega)
    have g150 : px_pa h75 276 54 192 evK es := pa_fi g149 fx77 (by omega)
    have g151 : px_pa hG1 276 54 192 evK es := pa_fi g150 zf (by omega)
    have g152 : px_pa hm10 277 53 192 evV es := pa_fi H20 fa11 (by omega)
    have g153 : px_pa h1 277 53 192 evV es := pa_fi g152 fb12 (by omega)
    have g154 : px_pa hm66 277 53 192 evV es := pa_fi g153 fa67 (by omega)
    have g155 : px_pa h55 277 53 192 evV es := pa_fi g154 fb68 (by omega)
    have g156 : px_pa h75 277 53 192 evV es := pa_fi g155 fx77 (by omega)
    have g157 : px_pa hG1 277 53 192 evV es := pa_fi g156 zf (by omega)
    have g158 : px_pa hm10 278 53 192 evT es := pa_fi H21 fa11 (by omega)
    have g159 : px_pa h1 278 53 192 evT es := pa_fi g158 fb12 (by omega)
    have g160 : px_pa hm66 278 53 192 evT es := pa_fi g159 fa67 (by omega)
    have g161 : px_pa h55 278 53 192 evT es := pa_fi g160 fb68 (by omega)
    have g162 : px_pa h75 278 53 192 evT es := pa_fi g161 fx77 (by omega)
    have g163 : px_pa hG1 278 53 192 evT es := pa_fi g162 zf (by omega)
    have g164 : px_pa hm66 284 52 6 stS j := pa_fi g4 fa67 (by omega)
    have g165 : px_pa h55 284 52 6 stS j := pa_fi g164 fb68 (by omega)
    have g166 : px_pa h75 284 52 6 stS j := pa_fi g165 fx77 (by omega)
    have g167 : px_pa hG1 284 52 6 stS j := pa_fi g166 zf (by omega)
    have g168 : px_pa hm66 285 52 6 stA j := pa_fi g5 fa67 (by omega)
    have g169 : px_pa h55 285 52 6 stA j := pa_fi g168 fb68 (by omega)
    have g170 : px_pa h75 285 52 6 stA j := pa_fi g169 fx77 (by omega)
    have g171 : px_pa hG1 285 52 6 stA j := pa_fi g170 zf (by omega)
    have g172 : px_pa hm66 286 50 6 stN j := pa_fi g6 fa67 (by omega)
    have g173 : px_pa h55 286 50 6 stN j := pa_fi g172 fb68 (by omega)
    have g174 : px_pa h75 286 50 6 stN j := pa_fi g173 fx77 (by omega)
    have g175 : px_pa hG1 286 50 6 stN j := pa_fi g174 zf (by omega)
    have g176 : px_pa hm66 279 50 8 vN om := pa_fi g40 fa67 (by omega)
    have g177 : px_pa h55 279 50 8 vN om := pa_fi g176 fb68 (by omega)
    have g178 : px_pa h75 279 50 8 vN om := pa_fi g177 fx77 (by omega)
    have g179 : px_pa hG1 279 50 8 vN om := pa_fi g178 zf (by omega)
    have g180 : px_pa hm66 280 54 128 rK ro := pa_fi g42 fa67 (by omega)
    have g181 : px_pa h55 280 54 128 rK ro := pa_fi g180 fb68 (by omega)
    have g182 : px_pa h75 280 54 128 rK ro := pa_fi g181 fx77 (by omega)
    have g183 : px_pa hG1 280 54 128 rK ro := pa_fi g182 zf (by omega)
    have g184 : px_pa hm66 281 53 128 rV ro := pa_fi g44 fa67 (by omega)
    have g185 : px_pa h55 281 53 128 rV ro := pa_fi g184 fb68 (by omega)
    have g186 : px_pa h75 281 53 128 rV ro := pa_fi g185 fx77 (by omega)
    have g187 : px_pa hG1 281 53 128 rV ro := pa_fi g186 zf (by omega)
    have g188 : px_pa hm66 282 53 128 rT ro := pa_fi g46 fa67 (by omega)
    have g189 : px_pa h55 282 53 128 rT ro := pa_fi g188 fb68 (by omega)
    have g190 : px_pa h75 282 53 128 rT ro := pa_fi g189 fx77 (by omega)
    have g191 : px_pa hG1 282 53 128 rT ro := pa_fi g190 zf (by omega)
    have g192 : px_pa hm66 283 52 8 vN wn := pa_fi g54 fa67 (by omega)
    have g193 : px_pa h55 283 52 8 vN wn := pa_fi g192 fb68 (by omega)
    have g194 : px_pa h75 283 52 8 vN wn := pa_fi g193 fx77 (by omega)
    have g195 : px_pa hG1 283 52 8 vN wn := pa_fi g194 zf (by omega)
    have hs : shL j x = some (shr j x (vdB x.2.2 (runO j x.1).2.2.1.isSome (runO j x.1).2.1 x.2.1) 600 0 (List.range x.1.length)) := by unfold shL; rw [if_neg (by rw [hvd]; exact c_13), hvd]
    have htr : tri x.1.length ≤ 276 := tri_le (m := 24) (by omega)
    refine ll_Md_shs (h0 := hG1) (x := x) (y := shr j x (vdB x.2.2 (runO j x.1).2.2.1.isSome (runO j x.1).2.1 x.2.1) 600 0 (List.range x.1.length)) g145 g151 g157 g163 g167 g171 g175 g179 g183 g187 g191 g195 p0 p2 p5 p3.2 p4 p7 p8 p9 p10 (by have := hvl x.2.2 (runO j x.1).2.2.1.isSome (runO j x.1).2.1 x.2.1; omega) (fun hG2 y0 y1 yf => ?_) 600 0 (List.range x.1.length) hG1 (by rw [List.length_range]; omega) (Nat.zero_le _) (by rw [List.length_range]; omega) (fun p hp => List.mem_range.mp hp) rfl g139 z0 (fj_rf _ _ _ _ _)
    obtain ⟨hm2, fa2, fb2⟩ := fj_mid yf
    have fr196 : px_fj 269 1 284 20 h hm2 := fj_tr fr84 fa2 (by omega)
    have fr197 : px_fj 269 1 284 20 h hG2 := fj_tr fr196 fb2 (by omega)
    obtain ⟨gq198, gh199, gw200, gu201, gv202, sl203, sl2204, lh205, lg206, cv207, pl208, lo209, lt210, g211, g212, g213, g214, g215, g216, g217, g218, g219, g220, g221, g222, g223, g224, g225, g226, g227, hL228⟩ := id y0
    have g229 : pSR hG2 (L, nI j.length, cn) gp j cb (shL j x) := ⟨(nI j.length, gq198.2.1, gq198.2.2.1, gq198.2.2.2.1, gq198.2.2.2.2.1, gq198.2.2.2.2.2.1, cb), gh199, gw200, gu201, (gv202.1, gv202.2.1, gv202.2.2.1, gv202.2.2.2.1, gv202.2.2.2.2.1, gv202.2.2.2.2.2.1, nI ((shr j x (vdB x.2.2 (runO j x.1).2.2.1.isSome (runO j x.1).2.1 x.2.1) 600 0 (List.range x.1.length)).length), gv202.2.2.2.2.2.2.2.1, gv202.2.2.2.2.2.2.2.2), _, _, _, _, _, _, _, _, _, g211, g212, g213, g214, g215, g216, g217, g218, g219, g220, g221, g222, g223, g224, g225, g226, g227, y1, hL228, fun l hl => by rw [hs] at hl; injection hl with hl; subst hl; exact ⟨rfl, rfl, Nat.le_trans (shr_len 600 0 _) (by rw [List.length_range]; omega)⟩⟩
    have g230 : px_pa hm2 284 52 6 stS j := pa_fi g167 fa2 (by omega)
    have g231 : px_pa hG2 284 52 6 stS j := pa_fi g230 fb2 (by omega)
    have g232 : px_pa hm2 285 52 6 stA j := pa_fi g171 fa2 (by omega)
    have g233 : px_pa hG2 285 52 6 stA j := pa_fi g232 fb2 (by omega)
    have g234 : px_pa hm2 286 50 6 stN j := pa_fi g175 fa2 (by omega)
    have g235 : px_pa hG2 286 50 6 stN j := pa_fi g234 fb2 (by omega)
    first | (exfalso; omega) | exact ⟨by rw [hs]; rfl, g231, g233, g235, g229, fr197⟩
  · skip
    have c_13 : vdB x.2.2 ((runO j x.1).2.2.1.isSome) ((runO j x.1).2.1) x.2.1 = 1 := cv_nne (by omega) (by omega) c_13
    refine e_iconst (v := nI 0) f_190_16 (by decide) rfl ?_
    refine e_iret f_190_17 rfl (rfl) ?_
    have hs : shL j x = none := by unfold shL; rw [if_pos (by rw [hvd]; exact c_13)]
    have g236 : px_pa hm66 287 50 3070 Value.int sl18 := pa_fi g23 fa67 (by omega)
    have g237 : px_pa h55 287 50 3070 Value.int sl18 := pa_fi g236 fb68 (by omega)
    have g238 : px_pa hm66 288 50 3070 Value.int sl219 := pa_fi g24 fa67 (by omega)
    have g239 : px_pa h55 288 50 3070 Value.int sl219 := pa_fi g238 fb68 (by omega)
    have g240 : px_pa hm66 289 54 100 rK lh20 := pa_fi g25 fa67 (by omega)
    have g241 : px_pa h55 289 54 100 rK lh20 := pa_fi g240 fb68 (by omega)
    have g242 : px_pa hm66 290 50 100 rV lh20 := pa_fi g26 fa67 (by omega)
    have g243 : px_pa h55 290 50 100 rV lh20 := pa_fi g242 fb68 (by omega)
    have g244 : px_pa hm66 291 50 100 rT lh20 := pa_fi g27 fa67 (by omega)
    have g245 : px_pa h55 291 50 100 rT lh20 := pa_fi g244 fb68 (by omega)
    have g246 : px_pa hm66 292 54 100 rK ((runO j x.1).2.1) := pa_fi g28 fa67 (by omega)
    have g247 : px_pa h55 292 54 100 rK ((runO j x.1).2.1) := pa_fi g246 fb68 (by omega)
    have g248 : px_pa hm66 293 50 100 rV ((runO j x.1).2.1) := pa_fi g29 fa67 (by omega)
    have g249 : px_pa h55 293 50 100 rV ((runO j x.1).2.1) := pa_fi g248 fb68 (by omega)
    have g250 : px_pa hm66 294 50 100 rT ((runO j x.1).2.1) := pa_fi g30 fa67 (by omega)
    have g251 : px_pa h55 294 50 100 rT ((runO j x.1).2.1) := pa_fi g250 fb68 (by omega)
    have g252 : px_pa hm66 295 50 30 Value.int cv21 := pa_fi g31 fa67 (by omega)
    have g253 : px_pa h55 295 50 30 Value.int cv21 := pa_fi g252 fb68 (by omega)
    have g254 : px_pa hm66 296 50 24 vN (List.range x.1.length) := pa_fi g7 fa67 (by omega)
    have g255 : px_pa h55 296 50 24 vN (List.range x.1.length) := pa_fi g254 fb68 (by omega)
    have g256 : px_pa hm10 303 50 24 vN ke := pa_fi H33 fa11 (by omega)
    have g257 : px_pa h1 303 50 24 vN ke := pa_fi g256 fb12 (by omega)
    have g258 : px_pa hm66 303 50 24 vN ke := pa_fi g257 fa67 (by omega)
    have g259 : px_pa h55 303 50 24 vN ke := pa_fi g258 fb68 (by omega)
    have g260 : pSR h55 (L, nI j.length, cn) gp j cb (shL j x) := ⟨(nI j.length, (runO j x.1).2.2.1.isSome, oI (runO j x.1).2.2.1, (runO j x.1).2.2.2, la15, lb16, cb), (nI 0, nI (((runO j x.1).2.1).length)), gw17, (nI x.1.length, nI (((runO j x.1).2.1).length), nI x.2.1.length), gv, _, _, _, _, _, _, _, _, _, g58, g237, g239, g241, g243, g245, g247, g249, g251, g253, g255, g59, g60, g61, g62, g63, g64, g259, ⟨hO.1, hO.2.1, hO.2.2.1⟩, fun l hl => by rw [hs] at hl; exact nomatch hl⟩
    have g261 : px_pa hm66 284 52 6 stS j := pa_fi g4 fa67 (by omega)
    have g262 : px_pa h55 284 52 6 stS j := pa_fi g261 fb68 (by omega)
    have g263 : px_pa hm66 285 52 6 stA j := pa_fi g5 fa67 (by omega)
    have g264 : px_pa h55 285 52 6 stA j := pa_fi g263 fb68 (by omega)
    have g265 : px_pa hm66 286 50 6 stN j := pa_fi g6 fa67 (by omega)
    have g266 : px_pa h55 286 50 6 stN j := pa_fi g265 fb68 (by omega)
    first | (exfalso; omega) | exact ⟨by rw [hs]; rfl, g262, g264, g266, g260, fr70⟩

set_option maxRecDepth 20000 in
set_option maxHeartbeats 4000000 in
theorem cc_MD_shr {h : px_H} {tx : List Nat} {j : List St} {xs : List CS3} {c : Int32} (H0 : pMD h tx j xs) (p0 : tN j ≤ 2) : px_wp 191 [.ref (269), .int (c)] h (fun h1 r => r = some (.int (aShr j xs c)) ∧ pMD h1 tx j xs ∧ px_fi 269 35 h h1) := by
  have fr0 : px_fi 269 35 h h := fi_rf _ _ _
  show px_to 191 0 [some (.ref (269)), some (.int (c))] [] h _
  obtain ⟨gp, gq, gh, gw, gu, gv, jn, sl, sl2, lh, lg, lo, lt, cv, pl, ke, g1, g2, g3, g4, g5, g6, g7, g8, g9, g10, g11, g12, g13, g14, g15, g16, g17, g18, g19, g20, g21, g22, g23, g24, g25, g26, ok⟩ := id H0
  have h8 : xs.length ≤ 8 := ok.2.2.1.1
  have hj6 : j.length ≤ 6 := ok.2.1.1.1
  have htl : tx.length ≤ 500 := pa_len g2
  refine e_aload_n f_191_0 rfl rfl ?_
  refine e_iload_n f_191_1 rfl rfl ?_
  refine e_callV (As := [.int (c)]) (rest := []) f_191_2 rfl rfl rfl (Nat.le_of_ble_eq_true rfl) (Nat.le_of_ble_eq_true rfl) g1 rfl (Nat.le_of_ble_eq_true rfl) (cc_Md_isCase (c := c) (L := nI tx.length) (sn := nI j.length) (xs := xs) (gp := gp) (gq := gq) (gh := gh) (gw := gw) (gu := gu) (gv := gv) g1 (by omega)) rfl (fun h27 r28 q29 => ?_)
  obtain ⟨rfl, qe⟩ := q29
  have qe := qe.symm
  subst qe
  show px_to 191 5 [some (.ref (269)), some (.int (c))] [.int (bI (hasC c xs.length))] h _
  refine e_if_ne f_191_5 rfl (fun c_5 => ?_) (fun c_5 => ?_)
  · skip
    have c_5 : (hasC c xs.length) = true := bI_t c_5
    obtain ⟨k, hk, hkc⟩ := hasC_t (by omega) c_5
    subst hkc
    have hcx : okC3 (xs.getD k c30) := ok.2.2.1.2 _ (getD_mem _ hk)
    obtain ⟨em30, es31, om32, ro33, wn34, g35, g36, g37, g38, g39, g40, g41, g42, g43, g44, hA45⟩ := id g6
    obtain ⟨hA1, hA2, hA3, hA4, hA5⟩ := hA45.2 k hk
    have hAl := hA45.1
    have hel := hcx.1
    have hoe : ∀ e ∈ (xs.getD k c30).1, e.1 < 65536 := fun e he => by have := (hcx.2.1 e he).1; omega
    refine e_aload_n f_191_12 rfl rfl ?_
    refine e_iload_n f_191_13 rfl rfl ?_
    refine e_callV (As := [.int (nI k)]) (rest := []) f_191_14 rfl rfl rfl (Nat.le_of_ble_eq_true rfl) (Nat.le_of_ble_eq_true rfl) g1 rfl (Nat.le_of_ble_eq_true rfl) (cc_Md_shm (c := k) (x := (xs.getD k c30)) (em := em30) (es := es31) (om := om32) (ro := ro33) (wn := wn34) (pl := pl) (ke := ke) (L := nI tx.length) (cn := nI xs.length) (j := j) (jn := jn) (cb := gq.2.2.2.2.2.2) (sl := sl) (sl2 := sl2) (lh := lh) (lg := lg) (lo := lo) (lt := lt) (cv := cv) (gp := gp) (gq := gq) (gh := gh) (gw := gw) (gu := gu) (gv := gv) g1 g3 g4 g5 g7 g8 g9 g10 g11 g12 g13 g14 g15 g16 g17 g18 g19 g35 g36 g37 g38 g39 g40 g41 g42 g43 g44 g20 g21 g22 g23 g24 g25 g26 (okB_okZ ok.2.1 p0) (ok.2.2.2.1) (by omega) (⟨hAl.1, hAl.2.1⟩) (hA2) (hcx) (hA1) (⟨hAl.2.2.1, hAl.2.2.2.1⟩) (hA3) (hA4) (⟨hAl.2.2.2.2, hA5⟩)) rfl (fun h46 r47 q48 => ?_)
    obtain ⟨rfl, g49, g50, g51, g52, fx53⟩ := q48
    obtain ⟨hm54, fa55, fb56⟩ := fj_mid fx53
    have fr57 : px_fi 269 35 h hm54 := fi_tr fr0 fa55 (by omega)
    have fr58 : px_fi 269 35 h h46 := fi_tr fr57 fb56 (by omega)
    show px_to 191 17 [some (.ref (269)), some (.int (nI k))] [.int (bI ((shL j (xs.getD k c30)).isSome))] h46 _
    obtain ⟨gq59, gh60, gw61, gu62, gv63, sl64, sl265, lh66, lg67, cv68, pl69, lo70, lt71, ke72, g73, g74, g75, g76, g77, g78, g79, g80, g81, g82, g83, g84, g85, g86, g87, g88, g89, g90, hL91, hK92⟩ := id g52
    have hL := hL91
    have hK := hK92
    refine e_if_eq f_191_17 rfl (fun c_17 => ?_) (fun c_17 => ?_)
    · skip
      have c_17 : ((shL j (xs.getD k c30)).isSome) = false := bI_f c_17
      have hl : shL j (xs.getD k c30) = none := by cases hh : shL j (xs.getD k c30) with
        | none => rfl
        | some l => rw [hh] at c_17; exact nomatch c_17
      refine e_bipush (v := (-2)) f_191_27 (by decide) rfl ?_
      refine e_iret f_191_29 rfl (rfl) ?_
      have g93 : px_pa hm54 274 50 8 vN em30 := pa_fi g35 fa55 (by omega)
      have g94 : px_pa h46 274 50 8 vN em30 := pa_fi g93 fb56 (by omega)
      have g95 : px_pa hm54 275 52 192 evS es31 := pa_fi g36 fa55 (by omega)
      have g96 : px_pa h46 275 52 192 evS es31 := pa_fi g95 fb56 (by omega)
      have g97 : px_pa hm54 276 54 192 evK es31 := pa_fi g37 fa55 (by omega)
      have g98 : px_pa h46 276 54 192 evK es31 := pa_fi g97 fb56 (by omega)
      have g99 : px_pa hm54 277 53 192 evV es31 := pa_fi g38 fa55 (by omega)
      have g100 : px_pa h46 277 53 192 evV es31 := pa_fi g99 fb56 (by omega)
      have g101 : px_pa hm54 278 53 192 evT es31 := pa_fi g39 fa55 (by omega)
      have g102 : px_pa h46 278 53 192 evT es31 := pa_fi g101 fb56 (by omega)
      have g103 : px_pa hm54 279 50 8 vN om32 := pa_fi g40 fa55 (by omega)
      have g104 : px_pa h46 279 50 8 vN om32 := pa_fi g103 fb56 (by omega)
      have g105 : px_pa hm54 280 54 128 rK ro33 := pa_fi g41 fa55 (by omega)
      have g106 : px_pa h46 280 54 128 rK ro33 := pa_fi g105 fb56 (by omega)
      have g107 : px_pa hm54 281 53 128 rV ro33 := pa_fi g42 fa55 (by omega)
      have g108 : px_pa h46 281 53 128 rV ro33 := pa_fi g107 fb56 (by omega)
      have g109 : px_pa hm54 282 53 128 rT ro33 := pa_fi g43 fa55 (by omega)
      have g110 : px_pa h46 282 53 128 rT ro33 := pa_fi g109 fb56 (by omega)
      have g111 : px_pa hm54 283 52 8 vN wn34 := pa_fi g44 fa55 (by omega)
      have g112 : px_pa h46 283 52 8 vN wn34 := pa_fi g111 fb56 (by omega)
      have g113 : pMA h46 xs := ⟨_, _, _, _, _, g94, g96, g98, g100, g102, g104, g106, g108, g110, g112, hA45⟩
      have g114 : px_pa hm54 270 52 500 vN tx := pa_fi g2 fa55 (by omega)
      have g115 : px_pa h46 270 52 500 vN tx := pa_fi g114 fb56 (by omega)
      have g116 : px_pa hm54 271 52 6 stS j := pa_fi g3 fa55 (by omega)
      have g117 : px_pa h46 271 52 6 stS j := pa_fi g116 fb56 (by omega)
      have g118 : px_pa hm54 272 52 6 stA j := pa_fi g4 fa55 (by omega)
      have g119 : px_pa h46 272 52 6 stA j := pa_fi g118 fb56 (by omega)
      have g120 : px_pa hm54 273 50 6 stN j := pa_fi g5 fa55 (by omega)
      have g121 : px_pa h46 273 50 6 stN j := pa_fi g120 fb56 (by omega)
      have g122 : pMD h46 tx j xs := ⟨gp, (gq59.1, gq59.2.1, gq59.2.2.1, gq59.2.2.2.1, gq59.2.2.2.2.1, gq59.2.2.2.2.2.1, gq.2.2.2.2.2.2), gh60, gw61, gu62, gv63, j, sl64, sl265, lh66, lg67, lo70, lt71, cv68, pl69, ke72, g73, g115, g117, g119, g121, g113, g49, g50, g51, g74, g75, g76, g77, g78, g79, g80, g81, g82, g83, g84, g85, g86, g87, g88, g89, g90, ⟨ok.1, ok.2.1, ok.2.2.1, hL, ok.2.2.2.2⟩⟩
      exact ⟨congrArg (fun z => some (Value.int z)) (show (-2) = _ from by unfold aShr; rw [onC_k h8 hk]; unfold shK; rw [hl]), g122, fr58⟩
    · skip
      have c_17 : ((shL j (xs.getD k c30)).isSome) = true := bI_t' c_17
      obtain ⟨l, hl⟩ := Option.isSome_iff_exists.mp c_17
      obtain ⟨hk1, hk2, hk3⟩ := hK l hl
      refine e_aload_n f_191_20 rfl rfl ?_
      refine e_getf f_191_21 g73 rfl rfl ?_
      show px_to 191 24 [some (.ref (269)), some (.int (nI k))] [.int (gv63.2.2.2.2.2.2.1)] h46 _
      rw [hk1]
      refine e_goto f_191_24 ?_
      refine e_iret f_191_29 rfl (rfl) ?_
      have g123 : px_pa hm54 274 50 8 vN em30 := pa_fi g35 fa55 (by omega)
      have g124 : px_pa h46 274 50 8 vN em30 := pa_fi g123 fb56 (by omega)
      have g125 : px_pa hm54 275 52 192 evS es31 := pa_fi g36 fa55 (by omega)
      have g126 : px_pa h46 275 52 192 evS es31 := pa_fi g125 fb56 (by omega)
      have g127 : px_pa hm54 276 54 192 evK es31 := pa_fi g37 fa55 (by omega)
      have g128 : px_pa h46 276 54 192 evK es31 := pa_fi g127 fb56 (by omega)
      have g129 : px_pa hm54 277 53 192 evV es31 := pa_fi g38 fa55 (by omega)
      have g130 : px_pa h46 277 53 192 evV es31 := pa_fi g129 fb56 (by omega)
      have g131 : px_pa hm54 278 53 192 evT es31 := pa_fi g39 fa55 (by omega)
      have g132 : px_pa h46 278 53 192 evT es31 := pa_fi g131 fb56 (by omega)
      have g133 : px_pa hm54 279 50 8 vN om32 := pa_fi g40 fa55 (by omega)
      have g134 : px_pa h46 279 50 8 vN om32 := pa_fi g133 fb56 (by omega)
      have g135 : px_pa hm54 280 54 128 rK ro33 := pa_fi g41 fa55 (by omega)
      have g136 : px_pa h46 280 54 128 rK ro33 := pa_fi g135 fb56 (by omega)
      have g137 : px_pa hm54 281 53 128 rV ro33 := pa_fi g42 fa55 (by omega)
      have g138 : px_pa h46 281 53 128 rV ro33 := pa_fi g137 fb56 (by omega)
      have g139 : px_pa hm54 282 53 128 rT ro33 := pa_fi g43 fa55 (by omega)
      have g140 : px_pa h46 282 53 128 rT ro33 := pa_fi g139 fb56 (by omega)
      have g141 : px_pa hm54 283 52 8 vN wn34 := pa_fi g44 fa55 (by omega)
      have g142 : px_pa h46 283 52 8 vN wn34 := pa_fi g141 fb56 (by omega)
      have g143 : pMA h46 xs := ⟨_, _, _, _, _, g124, g126, g128, g130, g132, g134, g136, g138, g140, g142, hA45⟩
      have g144 : px_pa hm54 270 52 500 vN tx := pa_fi g2 fa55 (by omega)
      have g145 : px_pa h46 270 52 500 vN tx := pa_fi g144 fb56 (by omega)
      have g146 : px_pa hm54 271 52 6 stS j := pa_fi g3 fa55 (by omega)
      have g147 : px_pa h46 271 52 6 stS j := pa_fi g146 fb56 (by omega)
      have g148 : px_pa hm54 272 52 6 stA j := pa_fi g4 fa55 (by omega)
      have g149 : px_pa h46 272 52 6 stA j := pa_fi g148 fb56 (by omega)
      have g150 : px_pa hm54 273 50 6 stN j := pa_fi g5 fa55 (by omega)
      have g151 : px_pa h46 273 50 6 stN j := pa_fi g150 fb56 (by omega)
      have g152 : pMD h46 tx j xs := ⟨gp, (gq59.1, gq59.2.1, gq59.2.2.1, gq59.2.2.2.1, gq59.2.2.2.2.1, gq59.2.2.2.2.2.1, gq.2.2.2.2.2.2), gh60, gw61, gu62, gv63, j, sl64, sl265, lh66, lg67, lo70, lt71, cv68, pl69, ke72, g73, g145, g147, g149, g151, g143, g49, g50, g51, g74, g75, g76, g77, g78, g79, g80, g81, g82, g83, g84, g85, g86, g87, g88, g89, g90, ⟨ok.1, ok.2.1, ok.2.2.1, hL, ok.2.2.2.2⟩⟩
      exact ⟨congrArg (fun z => some (Value.int z)) (show nI l.length = _ from by unfold aShr; rw [onC_k h8 hk]; unfold shK; rw [hl]), g152, fr58⟩
  · skip
    have c_5 : (hasC c xs.length) = false := bI_f' c_5
    refine e_iconst (v := (-1)) f_191_8 (by decide) rfl ?_
    refine e_goto f_191_9 ?_
    refine e_iret f_191_29 rfl (rfl) ?_
    have g153 : pMD h tx j xs := ⟨gp, gq, gh, gw, gu, gv, jn, sl, sl2, lh, lg, lo, lt, cv, pl, ke, g1, g2, g3, g4, g5, g6, g7, g8, g9, g10, g11, g12, g13, g14, g15, g16, g17, g18, g19, g20, g21, g22, g23, g24, g25, g26, ok⟩
    exact ⟨congrArg (fun z => some (Value.int z)) (show (-1) = _ from (onC_no c_5).symm), g153, fr0⟩

set_option maxRecDepth 20000 in
set_option maxHeartbeats 4000000 in
theorem cc_MD_left {h : px_H} {tx : List Nat} {j : List St} {xs : List CS3} {c : Int32} {i : Int32} (H0 : pMD h tx j xs) (p0 : tN j ≤ 2) : px_wp 192 [.ref (269), .int (c), .int (i)] h (fun h1 r => r = some (.int (aLeft j xs c i)) ∧ pMD h1 tx j xs ∧ px_fi 269 35 h h1) := by
  have fr0 : px_fi 269 35 h h := fi_rf _ _ _
  show px_to 192 0 [some (.ref (269)), some (.int (c)), some (.int (i))] [] h _
  obtain ⟨gp, gq, gh, gw, gu, gv, jn, sl, sl2, lh, lg, lo, lt, cv, pl, ke, g1, g2, g3, g4, g5, g6, g7, g8, g9, g10, g11, g12, g13, g14, g15, g16, g17, g18, g19, g20, g21, g22, g23, g24, g25, g26, ok⟩ := id H0
  have h8 : xs.length ≤ 8 := ok.2.2.1.1
  have hj6 : j.length ≤ 6 := ok.2.1.1.1
  have htl : tx.length ≤ 500 := pa_len g2
  refine e_aload_n f_192_0 rfl rfl ?_
  refine e_iload_n f_192_1 rfl rfl ?_
  refine e_callV (As := [.int (c)]) (rest := []) f_192_2 rfl rfl rfl (Nat.le_of_ble_eq_true rfl) (Nat.le_of_ble_eq_true rfl) g1 rfl (Nat.le_of_ble_eq_true rfl) (cc_Md_isCase (c := c) (L := nI tx.length) (sn := nI j.length) (xs := xs) (gp := gp) (gq := gq) (gh := gh) (gw := gw) (gu := gu) (gv := gv) g1 (by omega)) rfl (fun h27 r28 q29 => ?_)
  obtain ⟨rfl, qe⟩ := q29
  have qe := qe.symm
  subst qe
  show px_to 192 5 [some (.ref (269)), some (.int (c)), some (.int (i))] [.int (bI (hasC c xs.length))] h _
  refine e_if_ne f_192_5 rfl (fun c_5 => ?_) (fun c_5 => ?_)
  · skip
    have c_5 : (hasC c xs.length) = true := bI_t c_5
    obtain ⟨k, hk, hkc⟩ := hasC_t (by omega) c_5
    subst hkc
    have hcx : okC3 (xs.getD k c30) := ok.2.2.1.2 _ (getD_mem _ hk)
    obtain ⟨em30, es31, om32, ro33, wn34, g35, g36, g37, g38, g39, g40, g41, g42, g43, g44, hA45⟩ := id g6
    obtain ⟨hA1, hA2, hA3, hA4, hA5⟩ := hA45.2 k hk
    have hAl := hA45.1
    have hel := hcx.1
    have hoe : ∀ e ∈ (xs.getD k c30).1, e.1 < 65536 := fun e he => by have := (hcx.2.1 e he).1; omega
    refine e_aload_n f_192_10 rfl rfl ?_
    refine e_iload_n f_192_11 rfl rfl ?_
    refine e_callV (As := [.int (nI k)]) (rest := []) f_192_12 rfl rfl rfl (Nat.le_of_ble_eq_true rfl) (Nat.le_of_ble_eq_true rfl) g1 rfl (Nat.le_of_ble_eq_true rfl) (cc_Md_shm (c := k) (x := (xs.getD k c30)) (em := em30) (es := es31) (om := om32) (ro := ro33) (wn := wn34) (pl := pl) (ke := ke) (L := nI tx.length) (cn := nI xs.length) (j := j) (jn := jn) (cb := gq.2.2.2.2.2.2) (sl := sl) (sl2 := sl2) (lh := lh) (lg := lg) (lo := lo) (lt := lt) (cv := cv) (gp := gp) (gq := gq) (gh := gh) (gw := gw) (gu := gu) (gv := gv) g1 g3 g4 g5 g7 g8 g9 g10 g11 g12 g13 g14 g15 g16 g17 g18 g19 g35 g36 g37 g38 g39 g40 g41 g42 g43 g44 g20 g21 g22 g23 g24 g25 g26 (okB_okZ ok.2.1 p0) (ok.2.2.2.1) (by omega) (⟨hAl.1, hAl.2.1⟩) (hA2) (hcx) (hA1) (⟨hAl.2.2.1, hAl.2.2.2.1⟩) (hA3) (hA4) (⟨hAl.2.2.2.2, hA5⟩)) rfl (fun h46 r47 q48 => ?_)
    obtain ⟨rfl, g49, g50, g51, g52, fx53⟩ := q48
    obtain ⟨hm54, fa55, fb56⟩ := fj_mid fx53
    have fr57 : px_fi 269 35 h hm54 := fi_tr fr0 fa55 (by omega)
    have fr58 : px_fi 269 35 h h46 := fi_tr fr57 fb56 (by omega)
    show px_to 192 15 [some (.ref (269)), some (.int (nI k)), some (.int (i))] [.int (bI ((shL j (xs.getD k c30)).isSome))] h46 _
    obtain ⟨gq59, gh60, gw61, gu62, gv63, sl64, sl265, lh66, lg67, cv68, pl69, lo70, lt71, ke72, g73, g74, g75, g76, g77, g78, g79, g80, g81, g82, g83, g84, g85, g86, g87, g88, g89, g90, hL91, hK92⟩ := id g52
    have hL := hL91
    have hK := hK92
    refine e_if_ne f_192_15 rfl (fun c_15 => ?_) (fun c_15 => ?_)
    · skip
      have c_15 : ((shL j (xs.getD k c30)).isSome) = true := bI_t c_15
      obtain ⟨l, hl⟩ := Option.isSome_iff_exists.mp c_15
      obtain ⟨hk1, hk2, hk3⟩ := hK l hl
      refine e_iload_n f_192_23 rfl rfl ?_
      refine e_iconst (v := nI 0) f_192_24 (by decide) rfl ?_
      refine e_aload_n f_192_25 rfl rfl ?_
      refine e_getf f_192_26 g73 rfl rfl ?_
      show px_to 192 29 [some (.ref (269)), some (.int (nI k)), some (.int (i))] [.int (gv63.2.2.2.2.2.2.1), .int (nI 0), .int (i)] h46 _
      rw [hk1]
      refine e_iconst (v := nI 1) f_192_29 (by decide) rfl ?_
      refine e_isub (z := (nI l.length) - (nI 1)) f_192_30 rfl rfl ?_
      refine e_callS (As := [.int (i), .int (nI 0), .int ((nI l.length) - (nI 1))]) (rest := []) f_192_31 rfl rfl rfl (Nat.le_of_ble_eq_true rfl) (Nat.le_of_ble_eq_true rfl) (cc_Md_in (v := i) (lo := nI 0) (hi := (nI l.length) - (nI 1))  ) rfl (fun h93 r94 q95 => ?_)
      obtain ⟨rfl, qe⟩ := q95
      have qe := qe.symm
      subst qe
      show px_to 192 34 [some (.ref (269)), some (.int (nI k)), some (.int (i))] [.int (bI (decide (nI 0 ≤ i ∧ i ≤ (nI l.length) - (nI 1))))] h46 _
      refine e_if_eq f_192_34 rfl (fun c_34 => ?_) (fun c_34 => ?_)
      · skip
        have c_34 : (decide (nI 0 ≤ i ∧ i ≤ (nI l.length) - (nI 1))) = false := bI_f c_34
        have ci : hasC i l.length = false := by rw [← in_hasC (by omega)]; exact c_34
        refine e_bipush (v := (-3)) f_192_46 (by decide) rfl ?_
        refine e_iret f_192_48 rfl (rfl) ?_
        have g96 : px_pa hm54 274 50 8 vN em30 := pa_fi g35 fa55 (by omega)
        have g97 : px_pa h46 274 50 8 vN em30 := pa_fi g96 fb56 (by omega)
        have g98 : px_pa hm54 275 52 192 evS es31 := pa_fi g36 fa55 (by omega)
        have g99 : px_pa h46 275 52 192 evS es31 := pa_fi g98 fb56 (by omega)
        have g100 : px_pa hm54 276 54 192 evK es31 := pa_fi g37 fa55 (by omega)
        have g101 : px_pa h46 276 54 192 evK es31 := pa_fi g100 fb56 (by omega)
        have g102 : px_pa hm54 277 53 192 evV es31 := pa_fi g38 fa55 (by omega)
        have g103 : px_pa h46 277 53 192 evV es31 := pa_fi g102 fb56 (by omega)
        have g104 : px_pa hm54 278 53 192 evT es31 := pa_fi g39 fa55 (by omega)
        have g105 : px_pa h46 278 53 192 evT es31 := pa_fi g104 fb56 (by omega)
        have g106 : px_pa hm54 279 50 8 vN om32 := pa_fi g40 fa55 (by omega)
        have g107 : px_pa h46 279 50 8 vN om32 := pa_fi g106 fb56 (by omega)
        have g108 : px_pa hm54 280 54 128 rK ro33 := pa_fi g41 fa55 (by omega)
        have g109 : px_pa h46 280 54 128 rK ro33 := pa_fi g108 fb56 (by omega)
        have g110 : px_pa hm54 281 53 128 rV ro33 := pa_fi g42 fa55 (by omega)
        have g111 : px_pa h46 281 53 128 rV ro33 := pa_fi g110 fb56 (by omega)
        have g112 : px_pa hm54 282 53 128 rT ro33 := pa_fi g43 fa55 (by omega)
        have g113 : px_pa h46 282 53 128 rT ro33 := pa_fi g112 fb56 (by omega)
        have g114 : px_pa hm54 283 52 8 vN wn34 := pa_fi g44 fa55 (by omega)
        have g115 : px_pa h46 283 52 8 vN wn34 := pa_fi g114 fb56 (by omega)
        have g116 : pMA h46 xs := ⟨_, _, _, _, _, g97, g99, g101, g103, g105, g107, g109, g111, g113, g115, hA45⟩
        have g117 : px_pa hm54 270 52 500 vN tx := pa_fi g2 fa55 (by omega)
        have g118 : px_pa h46 270 52 500 vN tx := pa_fi g117 fb56 (by omega)
        have g119 : px_pa hm54 271 52 6 stS j := pa_fi g3 fa55 (by omega)
        have g120 : px_pa h46 271 52 6 stS j := pa_fi g119 fb56 (by omega)
        have g121 : px_pa hm54 272 52 6 stA j := pa_fi g4 fa55 (by omega)
        have g122 : px_pa h46 272 52 6 stA j := pa_fi g121 fb56 (by omega)
        have g123 : px_pa hm54 273 50 6 stN j := pa_fi g5 fa55 (by omega)
        have g124 : px_pa h46 273 50 6 stN j := pa_fi g123 fb56 (by omega)
        have g125 : pMD h46 tx j xs := ⟨gp, (gq59.1, gq59.2.1, gq59.2.2.1, gq59.2.2.2.1, gq59.2.2.2.2.1, gq59.2.2.2.2.2.1, gq.2.2.2.2.2.2), gh60, gw61, gu62, gv63, j, sl64, sl265, lh66, lg67, lo70, lt71, cv68, pl69, ke72, g73, g118, g120, g122, g124, g116, g49, g50, g51, g74, g75, g76, g77, g78, g79, g80, g81, g82, g83, g84, g85, g86, g87, g88, g89, g90, ⟨ok.1, ok.2.1, ok.2.2.1, hL, ok.2.2.2.2⟩⟩
        exact ⟨congrArg (fun z => some (Value.int z)) (show (-3) = _ from by unfold aLeft; rw [onC_k h8 hk, hl]; show _ = atL l i; unfold atL; rw [if_neg (by rw [ci]; decide)]), g125, fr58⟩
      · skip
        have c_34 : (decide (nI 0 ≤ i ∧ i ≤ (nI l.length) - (nI 1))) = true := bI_t' c_34
        have ci : hasC i l.length = true := by rw [← in_hasC (by omega)]; exact c_34
        obtain ⟨ki, hki, hkic⟩ := hasC_t (by omega) ci
        subst hkic
        have g126 : px_pa h46 303 50 24 vN l := by rw [← hk2]; exact g90
        refine e_aload_n f_192_37 rfl rfl ?_
        refine e_getf f_192_38 g73 rfl rfl ?_
        refine e_iload_n f_192_41 rfl rfl ?_
        refine e_iaload_p (xs := l) f_192_42 g126 (d := 0) (by first | omega | (simp only [List.length_set]; omega)) rfl ?_
        show px_to 192 43 [some (.ref (269)), some (.int (nI k)), some (.int (nI ki))] [.int (nI (l.getD ki 0))] h46 _
        refine e_goto f_192_43 ?_
        refine e_iret f_192_48 rfl (rfl) ?_
        have g127 : px_pa hm54 274 50 8 vN em30 := pa_fi g35 fa55 (by omega)
        have g128 : px_pa h46 274 50 8 vN em30 := pa_fi g127 fb56 (by omega)
        have g129 : px_pa hm54 275 52 192 evS es31 := pa_fi g36 fa55 (by omega)
        have g130 : px_pa h46 275 52 192 evS es31 := pa_fi g129 fb56 (by omega)
        have g131 : px_pa hm54 276 54 192 evK es31 := pa_fi g37 fa55 (by omega)
        have g132 : px_pa h46 276 54 192 evK es31 := pa_fi g131 fb56 (by omega)
        have g133 : px_pa hm54 277 53 192 evV es31 := pa_fi g38 fa55 (by omega)
        have g134 : px_pa h46 277 53 192 evV es31 := pa_fi g133 fb56 (by omega)
        have g135 : px_pa hm54 278 53 192 evT es31 := pa_fi g39 fa55 (by omega)
        have g136 : px_pa h46 278 53 192 evT es31 := pa_fi g135 fb56 (by omega)
        have g137 : px_pa hm54 279 50 8 vN om32 := pa_fi g40 fa55 (by omega)
        have g138 : px_pa h46 279 50 8 vN om32 := pa_fi g137 fb56 (by omega)
        have g139 : px_pa hm54 280 54 128 rK ro33 := pa_fi g41 fa55 (by omega)
        have g140 : px_pa h46 280 54 128 rK ro33 := pa_fi g139 fb56 (by omega)
        have g141 : px_pa hm54 281 53 128 rV ro33 := pa_fi g42 fa55 (by omega)
        have g142 : px_pa h46 281 53 128 rV ro33 := pa_fi g141 fb56 (by omega)
        have g143 : px_pa hm54 282 53 128 rT ro33 := pa_fi g43 fa55 (by omega)
        have g144 : px_pa h46 282 53 128 rT ro33 := pa_fi g143 fb56 (by omega)
        have g145 : px_pa hm54 283 52 8 vN wn34 := pa_fi g44 fa55 (by omega)
        have g146 : px_pa h46 283 52 8 vN wn34 := pa_fi g145 fb56 (by omega)
        have g147 : pMA h46 xs := ⟨_, _, _, _, _, g128, g130, g132, g134, g136, g138, g140, g142, g144, g146, hA45⟩
        have g148 : px_pa hm54 270 52 500 vN tx := pa_fi g2 fa55 (by omega)
        have g149 : px_pa h46 270 52 500 vN tx := pa_fi g148 fb56 (by omega)
        have g150 : px_pa hm54 271 52 6 stS j := pa_fi g3 fa55 (by omega)
        have g151 : px_pa h46 271 52 6 stS j := pa_fi g150 fb56 (by omega)
        have g152 : px_pa hm54 272 52 6 stA j := pa_fi g4 fa55 (by omega)
        have g153 : px_pa h46 272 52 6 stA j := pa_fi g152 fb56 (by omega)
        have g154 : px_pa hm54 273 50 6 stN j := pa_fi g5 fa55 (by omega)
        have g155 : px_pa h46 273 50 6 stN j := pa_fi g154 fb56 (by omega)
        have g156 : pMD h46 tx j xs := ⟨gp, (gq59.1, gq59.2.1, gq59.2.2.1, gq59.2.2.2.1, gq59.2.2.2.2.1, gq59.2.2.2.2.2.1, gq.2.2.2.2.2.2), gh60, gw61, gu62, gv63, j, sl64, sl265, lh66, lg67, lo70, lt71, cv68, pl69, l, g73, g149, g151, g153, g155, g147, g49, g50, g51, g74, g75, g76, g77, g78, g79, g80, g81, g82, g83, g84, g85, g86, g87, g88, g89, g126, ⟨ok.1, ok.2.1, ok.2.2.1, hL, ok.2.2.2.2⟩⟩
        exact ⟨congrArg (fun z => some (Value.int z)) (show nI (l.getD ki 0) = _ from by unfold aLeft; rw [onC_k h8 hk, hl]; show _ = atL l (nI ki); unfold atL; rw [if_pos (hasC_nI (by omega) hki), nN_nI (by omega)]), g156, fr58⟩
    · skip
      have c_15 : ((shL j (xs.getD k c30)).isSome) = false := bI_f' c_15
      have hl : shL j (xs.getD k c30) = none := by cases hh : shL j (xs.getD k c30) with
        | none => rfl
        | some l => rw [hh] at c_15; exact nomatch c_15
      refine e_bipush (v := (-2)) f_192_18 (by decide) rfl ?_
      refine e_goto f_192_20 ?_
      refine e_iret f_192_48 rfl (rfl) ?_
      have g157 : px_pa hm54 274 50 8 vN em30 := pa_fi g35 fa55 (by omega)
      have g158 : px_pa h46 274 50 8 vN em30 := pa_fi g157 fb56 (by omega)
      have g159 : px_pa hm54 275 52 192 evS es31 := pa_fi g36 fa55 (by omega)
      have g160 : px_pa h46 275 52 192 evS es31 := pa_fi g159 fb56 (by omega)
      have g161 : px_pa hm54 276 54 192 evK es31 := pa_fi g37 fa55 (by omega)
      have g162 : px_pa h46 276 54 192 evK es31 := pa_fi g161 fb56 (by omega)
      have g163 : px_pa hm54 277 53 192 evV es31 := pa_fi g38 fa55 (by omega)
      have g164 : px_pa h46 277 53 192 evV es31 := pa_fi g163 fb56 (by omega)
      have g165 : px_pa hm54 278 53 192 evT es31 := pa_fi g39 fa55 (by omega)
      have g166 : px_pa h46 278 53 192 evT es31 := pa_fi g165 fb56 (by omega)
      have g167 : px_pa hm54 279 50 8 vN om32 := pa_fi g40 fa55 (by omega)
      have g168 : px_pa h46 279 50 8 vN om32 := pa_fi g167 fb56 (by omega)
      have g169 : px_pa hm54 280 54 128 rK ro33 := pa_fi g41 fa55 (by omega)
      have g170 : px_pa h46 280 54 128 rK ro33 := pa_fi g169 fb56 (by omega)
      have g171 : px_pa hm54 281 53 128 rV ro33 := pa_fi g42 fa55 (by omega)
      have g172 : px_pa h46 281 53 128 rV ro33 := pa_fi g171 fb56 (by omega)
      have g173 : px_pa hm54 282 53 128 rT ro33 := pa_fi g43 fa55 (by omega)
      have g174 : px_pa h46 282 53 128 rT ro33 := pa_fi g173 fb56 (by omega)
      have g175 : px_pa hm54 283 52 8 vN wn34 := pa_fi g44 fa55 (by omega)
      have g176 : px_pa h46 283 52 8 vN wn34 := pa_fi g175 fb56 (by omega)
      have g177 : pMA h46 xs := ⟨_, _, _, _, _, g158, g160, g162, g164, g166, g168, g170, g172, g174, g176, hA45⟩
      have g178 : px_pa hm54 270 52 500 vN tx := pa_fi g2 fa55 (by omega)
      have g179 : px_pa h46 270 52 500 vN tx := pa_fi g178 fb56 (by omega)
      have g180 : px_pa hm54 271 52 6 stS j := pa_fi g3 fa55 (by omega)
      have g181 : px_pa h46 271 52 6 stS j := pa_fi g180 fb56 (by omega)
      have g182 : px_pa hm54 272 52 6 stA j := pa_fi g4 fa55 (by omega)
      have g183 : px_pa h46 272 52 6 stA j := pa_fi g182 fb56 (by omega)
      have g184 : px_pa hm54 273 50 6 stN j := pa_fi g5 fa55 (by omega)
      have g185 : px_pa h46 273 50 6 stN j := pa_fi g184 fb56 (by omega)
      have g186 : pMD h46 tx j xs := ⟨gp, (gq59.1, gq59.2.1, gq59.2.2.1, gq59.2.2.2.1, gq59.2.2.2.2.1, gq59.2.2.2.2.2.1, gq.2.2.2.2.2.2), gh60, gw61, gu62, gv63, j, sl64, sl265, lh66, lg67, lo70, lt71, cv68, pl69, ke72, g73, g179, g181, g183, g185, g177, g49, g50, g51, g74, g75, g76, g77, g78, g79, g80, g81, g82, g83, g84, g85, g86, g87, g88, g89, g90, ⟨ok.1, ok.2.1, ok.2.2.1, hL, ok.2.2.2.2⟩⟩
      exact ⟨congrArg (fun z => some (Value.int z)) (show (-2) = _ from by unfold aLeft; rw [onC_k h8 hk, hl]; rfl), g186, fr58⟩
  · skip
    have c_5 : (hasC c xs.length) = false := bI_f' c_5
    refine e_iconst (v := (-1)) f_192_8 (by decide) rfl ?_
    refine e_iret f_192_9 rfl (rfl) ?_
    have g187 : pMD h tx j xs := ⟨gp, gq, gh, gw, gu, gv, jn, sl, sl2, lh, lg, lo, lt, cv, pl, ke, g1, g2, g3, g4, g5, g6, g7, g8, g9, g10, g11, g12, g13, g14, g15, g16, g17, g18, g19, g20, g21, g22, g23, g24, g25, g26, ok⟩
    exact ⟨congrArg (fun z => some (Value.int z)) (show (-1) = _ from (onC_no c_5).symm), g187, fr0⟩
