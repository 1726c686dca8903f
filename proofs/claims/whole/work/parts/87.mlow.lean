def tI (cb : Bool) (cv : List Int32) (i : Nat) : List Int32 := if cb = true then tinc cv i else cv
theorem tI_len {cb : Bool} {cv : List Int32} {i : Nat} : (tI cb cv i).length = cv.length := by
  unfold tI
  split
  · exact tinc_len _ _
  · rfl
/-- the job as it is told is made the one that runs -/
theorem take_all' {α : Type} {l : List α} {n : Nat} (h : l.length ≤ n) : l.take n = l := List.take_of_length_le h

set_option maxRecDepth 20000 in
set_option maxHeartbeats 4000000 in
theorem ll_Md_asT {h0 : px_H} {L cn : Int32} {j : List St} {gp : gP} {gq : gQ} {gh : gH} {gw : gW} {gu : gU} {gv : gV} (HM : h0.2.2 269 = some (12, mB (L, nI j.length, cn) gp (nI j.length, gq.2.1, gq.2.2.1, gq.2.2.2.1, gq.2.2.2.2.1, gq.2.2.2.2.2.1, gq.2.2.2.2.2.2) gh gw gu gv)) (K0 : px_pa h0 271 52 6 stS j) (K1 : px_pa h0 272 52 6 stA j) (K2 : px_pa h0 273 50 6 stN j) (p0 : ∀ s ∈ j, s.1 < 65536 ∧ s.2.1 < 65536) : ∀ (d : Nat) (i : Nat) (g : px_H), (j.length ≤ i + d) → (i ≤ j.length) → px_pa g 284 52 6 stS (j.take i) → px_pa g 285 52 6 stA (j.take i) → px_pa g 286 50 6 stN (j.take i) → px_fi 284 3 h0 g → px_to 140 10 [some (.ref (269)), some (.int (nI i))] [] g (fun h1 r => r = none ∧ px_pa h1 284 52 6 stS j ∧ px_pa h1 285 52 6 stA j ∧ px_pa h1 286 50 6 stN j ∧ px_fi 284 3 h0 h1) := by
  intro d
  induction d using Nat.strongRecOn with
  | ind d ih =>
    intro i g q0 q1 G0 G1 G2 frg
    have l1 := pa_len K0
    refine e_iload_n f_140_10 rfl rfl ?_
    refine e_aload_n f_140_11 rfl rfl ?_
    have g1 : g.2.2 269 = some (12, mB (L, nI j.length, cn) gp (nI j.length, gq.2.1, gq.2.2.1, gq.2.2.2.1, gq.2.2.2.2.1, gq.2.2.2.2.2.1, gq.2.2.2.2.2.2) gh gw gu gv) := fi_at HM frg (by omega)
    refine e_getf f_140_12 g1 rfl rfl ?_
    show px_to 140 15 [some (.ref (269)), some (.int (nI i))] [.int (nI j.length), .int (nI i)] g _
    refine e_icmp_ge f_140_15 rfl (fun c_15 => ?_) (fun c_15 => ?_)
    · skip
      have c_15 : j.length ≤ i := cv_le (by omega) (by omega) c_15
      refine e_vret f_140_60 rfl ?_
      rw [List.take_of_length_le (by omega)] at G0 G1 G2
      exact ⟨rfl, G0, G1, G2, frg⟩
    · skip
      have c_15 : i < j.length := cv_nle (by omega) (by omega) c_15
      have hst := p0 _ (getD_mem (0, 0, 0) (show i < j.length by omega))
      have hti : (j.take i).length = i := by rw [List.length_take]; omega
      refine e_aload_n f_140_18 rfl rfl ?_
      refine e_getf f_140_19 g1 rfl rfl ?_
      refine e_iload_n f_140_22 rfl rfl ?_
      refine e_aload_n f_140_23 rfl rfl ?_
      refine e_getf f_140_24 g1 rfl rfl ?_
      refine e_iload_n f_140_27 rfl rfl ?_
      have g2 : px_pa g 271 52 6 stS j := pa_fi K0 frg (by omega)
      refine e_caload_p (xs := j) f_140_28 g2 (d := (0, 0, 0)) (by first | omega | (simp only [List.length_set]; omega)) rfl ?_
      show px_to 140 29 [some (.ref (269)), some (.int (nI i))] [.int (nI ((j.getD i (0, 0, 0)).1)), .int (nI i), .ref (284)] g _
      refine e_castore_a (xs := j.take i) (x := j.getD i (0, 0, 0)) f_140_29 G0 (by omega) (by omega) (by omega) (nw_ch (by omega)) rfl (fun h3 g4 fx5 => ?_)
      have fr6 : px_fi 284 3 h0 h3 := fi_tr frg fx5 (by omega)
      refine e_aload_n f_140_30 rfl rfl ?_
      have g7 : h3.2.2 269 = some (12, mB (L, nI j.length, cn) gp (nI j.length, gq.2.1, gq.2.2.1, gq.2.2.2.1, gq.2.2.2.2.1, gq.2.2.2.2.2.1, gq.2.2.2.2.2.2) gh gw gu gv) := fi_at HM fr6 (by omega)
      refine e_getf f_140_31 g7 rfl rfl ?_
      refine e_iload_n f_140_34 rfl rfl ?_
      refine e_aload_n f_140_35 rfl rfl ?_
      refine e_getf f_140_36 g7 rfl rfl ?_
      refine e_iload_n f_140_39 rfl rfl ?_
      have g8 : px_pa h3 272 52 6 stA j := pa_fi K1 fr6 (by omega)
      refine e_caload_p (xs := j) f_140_40 g8 (d := (0, 0, 0)) (by first | omega | (simp only [List.length_set]; omega)) rfl ?_
      show px_to 140 41 [some (.ref (269)), some (.int (nI i))] [.int (nI ((j.getD i (0, 0, 0)).2.1)), .int (nI i), .ref (285)] h3 _
      have g9 : px_pa h3 285 52 6 stA (j.take i) := pa_fi G1 fx5 (by omega)
      refine e_castore_a (xs := j.take i) (x := j.getD i (0, 0, 0)) f_140_41 g9 (by omega) (by omega) (by omega) (nw_ch (by omega)) rfl (fun h10 g11 fx12 => ?_)
      have fr13 : px_fi 284 3 h0 h10 := fi_tr fr6 fx12 (by omega)
      refine e_aload_n f_140_42 rfl rfl ?_
      have g14 : h10.2.2 269 = some (12, mB (L, nI j.length, cn) gp (nI j.length, gq.2.1, gq.2.2.1, gq.2.2.2.1, gq.2.2.2.2.1, gq.2.2.2.2.2.1, gq.2.2.2.2.2.2) gh gw gu gv) := fi_at HM fr13 (by omega)
      refine e_getf f_140_43 g14 rfl rfl ?_
      refine e_iload_n f_140_46 rfl rfl ?_
      refine e_aload_n f_140_47 rfl rfl ?_
      refine e_getf f_140_48 g14 rfl rfl ?_
      refine e_iload_n f_140_51 rfl rfl ?_
      have g15 : px_pa h10 273 50 6 stN j := pa_fi K2 fr13 (by omega)
      refine e_iaload_p (xs := j) f_140_52 g15 (d := (0, 0, 0)) (by first | omega | (simp only [List.length_set]; omega)) rfl ?_
      show px_to 140 53 [some (.ref (269)), some (.int (nI i))] [.int ((j.getD i (0, 0, 0)).2.2), .int (nI i), .ref (286)] h10 _
      have g16 : px_pa h3 286 50 6 stN (j.take i) := pa_fi G2 fx5 (by omega)
      have g17 : px_pa h10 286 50 6 stN (j.take i) := pa_fi g16 fx12 (by omega)
      refine e_iastore_a (xs := j.take i) (x := j.getD i (0, 0, 0)) f_140_53 g17 (by omega) (by omega) (by omega) (rfl) rfl (fun h18 g19 fx20 => ?_)
      have fr21 : px_fi 284 3 h0 h18 := fi_tr fr13 fx20 (by omega)
      refine e_iinc (y := nI (i + 1)) (L' := [some (.ref (269)), some (.int (nI (i + 1)))]) f_140_54 rfl (by rw [show Int32.ofInt 1 = nI 1 by decide]; exact (nI_add _ _)) rfl rfl ?_
      refine e_goto f_140_57 ?_
      have g22 : px_pa h10 284 52 6 stS ((j.take i) ++ [j.getD i (0, 0, 0)]) := pa_fi g4 fx12 (by omega)
      have g23 : px_pa h18 284 52 6 stS ((j.take i) ++ [j.getD i (0, 0, 0)]) := pa_fi g22 fx20 (by omega)
      have g24 : px_pa h18 284 52 6 stS (j.take (i + 1)) := pa_eq g23 ((take_s (0, 0, 0) (by omega)).symm)
      have g25 : px_pa h18 285 52 6 stA ((j.take i) ++ [j.getD i (0, 0, 0)]) := pa_fi g11 fx20 (by omega)
      have g26 : px_pa h18 285 52 6 stA (j.take (i + 1)) := pa_eq g25 ((take_s (0, 0, 0) (by omega)).symm)
      have g27 : px_pa h18 286 50 6 stN (j.take (i + 1)) := pa_eq g19 ((take_s (0, 0, 0) (by omega)).symm)
      first | (exfalso; omega) | exact ih (d - 1) (by omega) (i + 1) h18 (by omega) (by omega) g24 g26 g27 fr21

set_option maxRecDepth 20000 in
set_option maxHeartbeats 4000000 in
theorem cc_Md_asT {h : px_H} {L cn : Int32} {j jn : List St} {gp : gP} {gq : gQ} {gh : gH} {gw : gW} {gu : gU} {gv : gV} (H0 : h.2.2 269 = some (12, mB (L, nI j.length, cn) gp gq gh gw gu gv)) (H1 : px_pa h 271 52 6 stS j) (H2 : px_pa h 272 52 6 stA j) (H3 : px_pa h 273 50 6 stN j) (H4 : px_pa h 284 52 6 stS jn) (H5 : px_pa h 285 52 6 stA jn) (H6 : px_pa h 286 50 6 stN jn) (p0 : ∀ s ∈ j, s.1 < 65536 ∧ s.2.1 < 65536) : px_wp 140 [.ref (269)] h (fun h1 r => r = none ∧ h1.2.2 269 = some (12, mB (L, nI j.length, cn) gp (nI j.length, gq.2.1, gq.2.2.1, gq.2.2.2.1, gq.2.2.2.2.1, gq.2.2.2.2.2.1, gq.2.2.2.2.2.2) gh gw gu gv) ∧ px_pa h1 284 52 6 stS j ∧ px_pa h1 285 52 6 stA j ∧ px_pa h1 286 50 6 stN j ∧ px_fj 269 1 284 3 h h1) := by
  have fr0 : px_fj 269 1 284 3 h h := fj_rf _ _ _ _ _
  show px_to 140 0 [some (.ref (269)), none] [] h _
  refine e_aload_n f_140_0 rfl rfl ?_
  refine e_aload_n f_140_1 rfl rfl ?_
  refine e_getf f_140_2 H0 rfl rfl ?_
  show px_to 140 5 [some (.ref (269)), none] [.int (nI j.length), .ref (269)] h _
  refine e_putp (vs' := mB (L, nI j.length, cn) gp (nI j.length, gq.2.1, gq.2.2.1, gq.2.2.2.1, gq.2.2.2.2.1, gq.2.2.2.2.2.1, gq.2.2.2.2.2.2) gh gw gu gv) f_140_5 H0 (Nat.le_of_ble_eq_true rfl) (rfl) (rfl) rfl rfl (fun h1 g2 fx3 => ?_)
  have fr4 : px_fj 269 1 284 3 h h1 := fj_tr fr0 fx3 (by omega)
  refine e_iconst (v := nI 0) f_140_8 (by decide) rfl ?_
  refine e_istore_n (L' := [some (.ref (269)), some (.int (nI 0))]) f_140_9 (Nat.le_of_ble_eq_true rfl) rfl rfl ?_
  have g5 : px_pa h1 271 52 6 stS j := pa_fi H1 fx3 (by omega)
  have g6 : px_pa h1 272 52 6 stA j := pa_fi H2 fx3 (by omega)
  have g7 : px_pa h1 273 50 6 stN j := pa_fi H3 fx3 (by omega)
  have g8 : px_pa h1 284 52 6 stS jn := pa_fi H4 fx3 (by omega)
  have g9 : px_pa h1 285 52 6 stA jn := pa_fi H5 fx3 (by omega)
  have g10 : px_pa h1 286 50 6 stN jn := pa_fi H6 fx3 (by omega)
  refine px_to_mono (ll_Md_asT (h0 := h1) g2 g5 g6 g7 p0 j.length 0 h1 (by omega) (by omega) (pa_nil g8) (pa_nil g9) (pa_nil g10) (fi_rf _ _ _)) (fun h1 r hr => ?_)
  obtain ⟨e1, e2, e3, e4, e5⟩ := hr
  exact ⟨e1, fi_at g2 e5 (by omega), e2, e3, e4, fj_tr fr4 e5 (by omega)⟩

set_option maxRecDepth 20000 in
set_option maxHeartbeats 4000000 in
theorem cc_Md_cnt {h : px_H} {k q : Nat} {cb : Bool} {cv : List Int32} {ga : gA} {gp : gP} {gq : gQ} {gh : gH} {gw : gW} {gu : gU} {gv : gV} (H0 : h.2.2 269 = some (12, mB ga gp (gq.1, gq.2.1, gq.2.2.1, gq.2.2.2.1, gq.2.2.2.2.1, gq.2.2.2.2.2.1, cb) gh gw gu gv)) (H1 : px_pa h 295 50 30 Value.int cv) (p0 : k < 6) (p1 : q < 5) (p2 : cv.length = 30) : px_wp 141 [.ref (269), .int (nI k), .int (nI q)] h (fun h1 r => r = none ∧ px_pa h1 295 50 30 Value.int (tI cb cv (5 * k + q)) ∧ px_fi 295 1 h h1) := by
  have fr0 : px_fi 295 1 h h := fi_rf _ _ _
  show px_to 141 0 [some (.ref (269)), some (.int (nI k)), some (.int (nI q))] [] h _
  refine e_aload_n f_141_0 rfl rfl ?_
  refine e_getf f_141_1 H0 rfl rfl ?_
  show px_to 141 4 [some (.ref (269)), some (.int (nI k)), some (.int (nI q))] [.int (bI cb)] h _
  refine e_if_eq f_141_4 rfl (fun c_4 => ?_) (fun c_4 => ?_)
  · skip
    have c_4 : cb = false := bI_f c_4
    refine e_vret f_141_21 rfl ?_
    exact ⟨rfl, by rw [show tI cb cv (5 * k + q) = cv from by unfold tI; rw [if_neg (by rw [c_4]; decide)]]; exact H1, fr0⟩
  · skip
    have c_4 : cb = true := bI_t' c_4
    refine e_aload_n f_141_7 rfl rfl ?_
    refine e_getf f_141_8 H0 rfl rfl ?_
    refine e_iconst (v := nI 5) f_141_11 (by decide) rfl ?_
    refine e_iload_n f_141_12 rfl rfl ?_
    refine e_imul (z := nI (5 * k)) f_141_13 (pk_mul _ _) rfl ?_
    refine e_iload_n f_141_14 rfl rfl ?_
    refine e_iadd (z := nI (5 * k + q)) f_141_15 (nI_add _ _) rfl ?_
    refine e_dup2 f_141_16 rfl rfl rfl ?_
    refine e_iaload_p (xs := cv) f_141_17 H1 (d := 0) (by first | omega | (simp only [List.length_set]; omega)) rfl ?_
    show px_to 141 18 [some (.ref (269)), some (.int (nI k)), some (.int (nI q))] [.int (cv.getD (5 * k + q) 0), .int (nI (5 * k + q)), .ref (295)] h _
    refine e_iconst (v := nI 1) f_141_18 (by decide) rfl ?_
    refine e_iadd (z := (cv.getD (5 * k + q) 0) + (nI 1)) f_141_19 rfl rfl ?_
    refine e_iastore_p (xs := cv) (x := (cv.getD (5 * k + q) 0) + (nI 1)) f_141_20 H1 (by omega) (by first | omega | (simp only [List.length_set]; omega)) (rfl) rfl (fun h1 g2 fx3 => ?_)
    have fr4 : px_fi 295 1 h h1 := fi_tr fr0 fx3 (by omega)
    refine e_vret f_141_21 rfl ?_
    exact ⟨rfl, by rw [show tI cb cv (5 * k + q) = tinc cv (5 * k + q) from by unfold tI; rw [if_pos c_4]]; exact g2, fr4⟩

set_option maxRecDepth 20000 in
set_option maxHeartbeats 4000000 in
theorem cc_Md_fz {h : px_H} {k : Nat} {cb : Bool} {cv : List Int32} {ga : gA} {gp : gP} {gq : gQ} {gh : gH} {gw : gW} {gu : gU} {gv : gV} (H0 : h.2.2 269 = some (12, mB ga gp (gq.1, gq.2.1, gq.2.2.1, gq.2.2.2.1, gq.2.2.2.2.1, gq.2.2.2.2.2.1, cb) gh gw gu gv)) (H1 : px_pa h 295 50 30 Value.int cv) (p0 : k < 6) (p1 : cv.length = 30) : px_wp 142 [.ref (269), .int (nI k)] h (fun h1 r => r = none ∧ h1.2.2 269 = some (12, mB ga gp (gq.1, true, nI k, gq.2.2.2.1, gq.2.2.2.2.1, gq.2.2.2.2.2.1, cb) gh gw gu gv) ∧ px_pa h1 295 50 30 Value.int (tI cb cv (5 * k + 4)) ∧ px_fj 269 1 295 1 h h1) := by
  have fr0 : px_fj 269 1 295 1 h h := fj_rf _ _ _ _ _
  show px_to 142 0 [some (.ref (269)), some (.int (nI k))] [] h _
  refine e_aload_n f_142_0 rfl rfl ?_
  refine e_iconst (v := nI 1) f_142_1 (by decide) rfl ?_
  refine e_putp (vs' := mB ga gp (gq.1, true, gq.2.2.1, gq.2.2.2.1, gq.2.2.2.2.1, gq.2.2.2.2.2.1, cb) gh gw gu gv) f_142_2 H0 (Nat.le_of_ble_eq_true rfl) (rfl) (rfl) rfl rfl (fun h1 g2 fx3 => ?_)
  have fr4 : px_fj 269 1 295 1 h h1 := fj_tr fr0 fx3 (by omega)
  refine e_aload_n f_142_5 rfl rfl ?_
  refine e_iload_n f_142_6 rfl rfl ?_
  refine e_putp (vs' := mB ga gp (gq.1, true, nI k, gq.2.2.2.1, gq.2.2.2.2.1, gq.2.2.2.2.2.1, cb) gh gw gu gv) f_142_7 g2 (Nat.le_of_ble_eq_true rfl) (rfl) (rfl) rfl rfl (fun h5 g6 fx7 => ?_)
  have fr8 : px_fj 269 1 295 1 h h5 := fj_tr fr4 fx7 (by omega)
  refine e_aload_n f_142_10 rfl rfl ?_
  refine e_iload_n f_142_11 rfl rfl ?_
  refine e_iconst (v := nI 4) f_142_12 (by decide) rfl ?_
  have g9 : px_pa h1 295 50 30 Value.int cv := pa_fi H1 fx3 (by omega)
  have g10 : px_pa h5 295 50 30 Value.int cv := pa_fi g9 fx7 (by omega)
  refine e_callV (As := [.int (nI k), .int (nI 4)]) (rest := []) f_142_13 rfl rfl rfl (Nat.le_of_ble_eq_true rfl) (Nat.le_of_ble_eq_true rfl) g6 rfl (Nat.le_of_ble_eq_true rfl) (cc_Md_cnt (k := k) (q := 4) (cb := cb) (cv := cv) (ga := ga) (gp := gp) (gq := (gq.1, true, nI k, gq.2.2.2.1, gq.2.2.2.2.1, gq.2.2.2.2.2.1, cb)) (gh := gh) (gw := gw) (gu := gu) (gv := gv) g6 g10 (by omega) (by omega) (by omega)) rfl (fun h11 r12 q13 => ?_)
  obtain ⟨rfl, g14, fx15⟩ := q13
  have fr16 : px_fj 269 1 295 1 h h11 := fj_tr fr8 fx15 (by omega)
  show px_to 142 16 [some (.ref (269)), some (.int (nI k))] [] h11 _
  refine e_vret f_142_16 rfl ?_
  have g17 : h11.2.2 269 = some (12, mB ga gp (gq.1, true, nI k, gq.2.2.2.1, gq.2.2.2.2.1, gq.2.2.2.2.2.1, cb) gh gw gu gv) := fi_at g6 fx15 (by omega)
  first | (exfalso; omega) | exact ⟨rfl, g17, g14, fr16⟩

def isNS (sl : List Int32) (b : Nat) (ps : List (Nat × Int32)) (key : Nat) (v : Int32) : List Int32 := if (key, v) ∈ ps then sl else dSet sl b ps.length key v

set_option maxRecDepth 20000 in
set_option maxHeartbeats 4000000 in
theorem ll_Md_isNew {P : px_H → Option Value → Prop} {h : px_H} {k key : Nat} {v : Int32} {sl : List Int32} {ps : List (Nat × Int32)} {ga : gA} {gp : gP} {gq : gQ} {gh : gH} {gw : gW} {gu : gU} {gv : gV} (H0 : h.2.2 269 = some (12, mB ga gp gq gh (nI key, v, gw.2.2) gu gv)) (H1 : px_pa h 287 50 3070 Value.int sl) (hd : dR sl (4 + 511 * k) ps) (hl : ps.length < 100) (hky : key < 4) (h6 : k < 6) (hsl : sl.length = 3070) (kf : (key, v) ∈ ps → P h (some (.int (nI 0)))) (kx : (key, v) ∉ ps → px_to 143 74 [some (.ref (269)), some (.int (nI k)), some (.int (nI (4 + 511 * k))), some (.int (nI ps.length)), none] [] h P) : ∀ (d : Nat) (i : Nat), (ps.length ≤ i + d) → (i ≤ ps.length) → (∀ q, q < i → ps.getD q (0, 0) ≠ (key, v)) → px_to 143 20 [some (.ref (269)), some (.int (nI k)), some (.int (nI (4 + 511 * k))), some (.int (nI ps.length)), some (.int (nI i))] [] h P := by
  intro d
  induction d using Nat.strongRecOn with
  | ind d ih =>
    intro i q0 q1 q2
    refine e_iload f_143_20 rfl rfl ?_
    refine e_iload_n f_143_22 rfl rfl ?_
    refine e_icmp_ge f_143_23 rfl (fun c_23 => ?_) (fun c_23 => ?_)
    · skip
      have c_23 : ps.length ≤ i := cv_le (by omega) (by omega) c_23
      refine px_to_L (L := [some (.ref (269)), some (.int (nI k)), some (.int (nI (4 + 511 * k))), some (.int (nI ps.length)), none]) ⟨Or.inr rfl, Or.inr rfl, Or.inr rfl, Or.inr rfl, Or.inl rfl, trivial⟩ ?_
      refine kx (fun z => ?_)
      obtain ⟨q, hq, e⟩ := List.mem_iff_getElem.mp z
      exact q2 q (by omega) (by rw [getD_lt (0, 0) hq]; exact e)
    · skip
      have c_23 : i < ps.length := cv_nle (by omega) (by omega) c_23
      refine e_aload_n f_143_26 rfl rfl ?_
      refine e_getf f_143_27 H0 rfl rfl ?_
      refine e_iload_n f_143_30 rfl rfl ?_
      refine e_iconst (v := nI 1) f_143_31 (by decide) rfl ?_
      refine e_iadd (z := nI (4 + 511 * k + 1)) f_143_32 (nI_add _ _) rfl ?_
      refine e_iconst (v := nI 2) f_143_33 (by decide) rfl ?_
      refine e_iload f_143_34 rfl rfl ?_
      refine e_imul (z := nI (2 * i)) f_143_36 (pk_mul _ _) rfl ?_
      refine e_iadd (z := nI (4 + 511 * k + 1 + 2 * i)) f_143_37 (nI_add _ _) rfl ?_
      refine e_iaload_p (xs := sl) f_143_38 H1 (d := 0) (by first | omega | (simp only [List.length_set]; omega)) rfl ?_
      show px_to 143 39 [some (.ref (269)), some (.int (nI k)), some (.int (nI (4 + 511 * k))), some (.int (nI ps.length)), some (.int (nI i))] [.int (sl.getD (4 + 511 * k + 1 + 2 * i) 0)] h _
      have hdi := hd.2.2 i (by omega)
      rw [hdi.2.1]
      refine e_aload_n f_143_39 rfl rfl ?_
      refine e_getf f_143_40 H0 rfl rfl ?_
      show px_to 143 43 [some (.ref (269)), some (.int (nI k)), some (.int (nI (4 + 511 * k))), some (.int (nI ps.length)), some (.int (nI i))] [.int (nI key), .int (nI ((ps.getD i (0, 0)).1))] h _
      refine e_icmp_ne f_143_43 rfl (fun c_43 => ?_) (fun c_43 => ?_)
      · skip
        have c_43 : (ps.getD i (0, 0)).1 ≠ key := cv_ne c_43
        refine e_iinc (y := nI (i + 1)) (L' := [some (.ref (269)), some (.int (nI k)), some (.int (nI (4 + 511 * k))), some (.int (nI ps.length)), some (.int (nI (i + 1)))]) f_143_68 rfl (by rw [show Int32.ofInt 1 = nI 1 by decide]; exact (nI_add _ _)) rfl rfl ?_
        refine e_goto f_143_71 ?_
        first | (exfalso; omega) | exact ih (d - 1) (by omega) (i + 1)  (by omega) (by omega) (fun q hq => by
          rcases Nat.lt_or_ge q i with z | z
          · exact q2 q z
          · rw [show q = i by omega]; exact fun z => c_43 (congrArg Prod.fst z))  
      · skip
        have c_43 : (ps.getD i (0, 0)).1 = key := cv_nne (by omega) (by omega) c_43
        refine e_aload_n f_143_46 rfl rfl ?_
        refine e_getf f_143_47 H0 rfl rfl ?_
        refine e_iload_n f_143_50 rfl rfl ?_
        refine e_iconst (v := nI 2) f_143_51 (by decide) rfl ?_
        refine e_iadd (z := nI (4 + 511 * k + 2)) f_143_52 (nI_add _ _) rfl ?_
        refine e_iconst (v := nI 2) f_143_53 (by decide) rfl ?_
        refine e_iload f_143_54 rfl rfl ?_
        refine e_imul (z := nI (2 * i)) f_143_56 (pk_mul _ _) rfl ?_
        refine e_iadd (z := nI (4 + 511 * k + 2 + 2 * i)) f_143_57 (nI_add _ _) rfl ?_
        refine e_iaload_p (xs := sl) f_143_58 H1 (d := 0) (by first | omega | (simp only [List.length_set]; omega)) rfl ?_
        show px_to 143 59 [some (.ref (269)), some (.int (nI k)), some (.int (nI (4 + 511 * k))), some (.int (nI ps.length)), some (.int (nI i))] [.int (sl.getD (4 + 511 * k + 2 + 2 * i) 0)] h _
        rw [hdi.2.2]
        refine e_aload_n f_143_59 rfl rfl ?_
        refine e_getf f_143_60 H0 rfl rfl ?_
        show px_to 143 63 [some (.ref (269)), some (.int (nI k)), some (.int (nI (4 + 511 * k))), some (.int (nI ps.length)), some (.int (nI i))] [.int (v), .int ((ps.getD i (0, 0)).2)] h _
        refine e_icmp_ne f_143_63 rfl (fun c_63 => ?_) (fun c_63 => ?_)
        · skip
          refine e_iinc (y := nI (i + 1)) (L' := [some (.ref (269)), some (.int (nI k)), some (.int (nI (4 + 511 * k))), some (.int (nI ps.length)), some (.int (nI (i + 1)))]) f_143_68 rfl (by rw [show Int32.ofInt 1 = nI 1 by decide]; exact (nI_add _ _)) rfl rfl ?_
          refine e_goto f_143_71 ?_
          first | (exfalso; omega) | exact ih (d - 1) (by omega) (i + 1)  (by omega) (by omega) (fun q hq => by
            rcases Nat.lt_or_ge q i with z | z
            · exact q2 q z
            · rw [show q = i by omega]; exact fun z => c_63 (congrArg Prod.snd z))  
        · skip
          refine e_iconst (v := nI 0) f_143_66 (by decide) rfl ?_
          refine e_iret f_143_67 rfl (rfl) ?_
          have e : ps.getD i (0, 0) = (key, v) := Prod.ext c_43 (Classical.not_not.mp c_63)
          exact kf (e ▸ getD_mem (0, 0) (by omega))

set_option maxRecDepth 20000 in
set_option maxHeartbeats 4000000 in
theorem cc_Md_isNew {h : px_H} {k key : Nat} {v : Int32} {sl : List Int32} {ps : List (Nat × Int32)} {ga : gA} {gp : gP} {gq : gQ} {gh : gH} {gw : gW} {gu : gU} {gv : gV} (H0 : h.2.2 269 = some (12, mB ga gp gq gh (nI key, v, gw.2.2) gu gv)) (H1 : px_pa h 287 50 3070 Value.int sl) (p0 : dR sl (4 + 511 * k) ps) (p1 : ps.length < 100) (p2 : key < 4) (p3 : k < 6) (p4 : sl.length = 3070) : px_wp 143 [.ref (269), .int (nI k)] h (fun h1 r => r = some (.int (bI (!decide ((key, v) ∈ ps)))) ∧ px_pa h1 287 50 3070 Value.int (isNS sl (4 + 511 * k) ps key v) ∧ px_fi 287 1 h h1) := by
  have fr0 : px_fi 287 1 h h := fi_rf _ _ _
  show px_to 143 0 [some (.ref (269)), some (.int (nI k)), none, none, none] [] h _
  refine e_iconst (v := nI 4) f_143_0 (by decide) rfl ?_
  refine e_sipush (v := nI 511) f_143_1 (by decide) rfl ?_
  refine e_iload_n f_143_4 rfl rfl ?_
  refine e_imul (z := nI (511 * k)) f_143_5 (pk_mul _ _) rfl ?_
  refine e_iadd (z := nI (4 + 511 * k)) f_143_6 (nI_add _ _) rfl ?_
  refine e_iconst (v := nI 0) f_143_7 (by decide) rfl ?_
  refine e_iadd (z := nI (4 + 511 * k)) f_143_8 ((nI_add _ _).trans (congrArg nI (by omega))) rfl ?_
  refine e_istore_n (L' := [some (.ref (269)), some (.int (nI k)), some (.int (nI (4 + 511 * k))), none, none]) f_143_9 (Nat.le_of_ble_eq_true rfl) rfl rfl ?_
  refine e_aload_n f_143_10 rfl rfl ?_
  refine e_getf f_143_11 H0 rfl rfl ?_
  refine e_iload_n f_143_14 rfl rfl ?_
  refine e_iaload_p (xs := sl) f_143_15 H1 (d := 0) (by first | omega | (simp only [List.length_set]; omega)) rfl ?_
  show px_to 143 16 [some (.ref (269)), some (.int (nI k)), some (.int (nI (4 + 511 * k))), none, none] [.int (sl.getD (4 + 511 * k) 0)] h _
  rw [p0.2.1]
  refine e_istore_n (L' := [some (.ref (269)), some (.int (nI k)), some (.int (nI (4 + 511 * k))), some (.int (nI ps.length)), none]) f_143_16 (Nat.le_of_ble_eq_true rfl) rfl rfl ?_
  refine e_iconst (v := nI 0) f_143_17 (by decide) rfl ?_
  refine e_istore (L' := [some (.ref (269)), some (.int (nI k)), some (.int (nI (4 + 511 * k))), some (.int (nI ps.length)), some (.int (nI 0))]) f_143_18 (Nat.le_of_ble_eq_true rfl) rfl rfl ?_
  refine ll_Md_isNew H0 H1 p0 p1 p2 p3 p4 (fun hin => ?_) (fun hno => ?_) ps.length 0 (by omega) (by omega) (fun q hq => absurd hq (by omega))
  · exact ⟨congrArg (fun z => some (Value.int z)) (b0 (by simp [hin])), by unfold isNS; rw [if_pos hin]; exact H1, fr0⟩
  refine e_aload_n f_143_74 rfl rfl ?_
  refine e_getf f_143_75 H0 rfl rfl ?_
  refine e_iload_n f_143_78 rfl rfl ?_
  refine e_iconst (v := nI 1) f_143_79 (by decide) rfl ?_
  refine e_iadd (z := nI (4 + 511 * k + 1)) f_143_80 (nI_add _ _) rfl ?_
  refine e_iconst (v := nI 2) f_143_81 (by decide) rfl ?_
  refine e_iload_n f_143_82 rfl rfl ?_
  refine e_imul (z := nI (2 * ps.length)) f_143_83 (pk_mul _ _) rfl ?_
  refine e_iadd (z := nI (4 + 511 * k + 1 + 2 * ps.length)) f_143_84 (nI_add _ _) rfl ?_
  refine e_aload_n f_143_85 rfl rfl ?_
  refine e_getf f_143_86 H0 rfl rfl ?_
  show px_to 143 89 [some (.ref (269)), some (.int (nI k)), some (.int (nI (4 + 511 * k))), some (.int (nI ps.length)), none] [.int (nI key), .int (nI (4 + 511 * k + 1 + 2 * ps.length)), .ref (287)] h _
  refine e_iastore_p (xs := sl) (x := nI key) f_143_89 H1 (by omega) (by first | omega | (simp only [List.length_set]; omega)) (rfl) rfl (fun h1 g2 fx3 => ?_)
  have fr4 : px_fi 287 1 h h1 := fi_tr fr0 fx3 (by omega)
  refine e_aload_n f_143_90 rfl rfl ?_
  have g5 : h1.2.2 269 = some (12, mB ga gp gq gh (nI key, v, gw.2.2) gu gv) := fi_at H0 fx3 (by omega)
  refine e_getf f_143_91 g5 rfl rfl ?_
  refine e_iload_n f_143_94 rfl rfl ?_
  refine e_iconst (v := nI 2) f_143_95 (by decide) rfl ?_
  refine e_iadd (z := nI (4 + 511 * k + 2)) f_143_96 (nI_add _ _) rfl ?_
  refine e_iconst (v := nI 2) f_143_97 (by decide) rfl ?_
  refine e_iload_n f_143_98 rfl rfl ?_
  refine e_imul (z := nI (2 * ps.length)) f_143_99 (pk_mul _ _) rfl ?_
  refine e_iadd (z := nI (4 + 511 * k + 2 + 2 * ps.length)) f_143_100 (nI_add _ _) rfl ?_
  refine e_aload_n f_143_101 rfl rfl ?_
  refine e_getf f_143_102 g5 rfl rfl ?_
  show px_to 143 105 [some (.ref (269)), some (.int (nI k)), some (.int (nI (4 + 511 * k))), some (.int (nI ps.length)), none] [.int (v), .int (nI (4 + 511 * k + 2 + 2 * ps.length)), .ref (287)] h1 _
  refine e_iastore_p (xs := sl.set (4 + 511 * k + 1 + 2 * ps.length) (nI key)) (x := v) f_143_105 g2 (by omega) (by first | omega | (simp only [List.length_set]; omega)) (rfl) rfl (fun h6 g7 fx8 => ?_)
  have fr9 : px_fi 287 1 h h6 := fi_tr fr4 fx8 (by omega)
  refine e_aload_n f_143_106 rfl rfl ?_
  have g10 : h6.2.2 269 = some (12, mB ga gp gq gh (nI key, v, gw.2.2) gu gv) := fi_at g5 fx8 (by omega)
  refine e_getf f_143_107 g10 rfl rfl ?_
  refine e_iload_n f_143_110 rfl rfl ?_
  refine e_dup2 f_143_111 rfl rfl rfl ?_
  refine e_iaload_p (xs := (sl.set (4 + 511 * k + 1 + 2 * ps.length) (nI key)).set (4 + 511 * k + 2 + 2 * ps.length) v) f_143_112 g7 (d := 0) (by first | omega | (simp only [List.length_set]; omega)) rfl ?_
  show px_to 143 113 [some (.ref (269)), some (.int (nI k)), some (.int (nI (4 + 511 * k))), some (.int (nI ps.length)), none] [.int (((sl.set (4 + 511 * k + 1 + 2 * ps.length) (nI key)).set (4 + 511 * k + 2 + 2 * ps.length) v).getD (4 + 511 * k) 0), .int (nI (4 + 511 * k)), .ref (287)] h6 _
  refine e_iconst (v := nI 1) f_143_113 (by decide) rfl ?_
  refine e_iadd (z := nI (ps.length + 1)) f_143_114 (by rw [getD_set_ne (by omega), getD_set_ne (by omega), p0.2.1]; exact nI_add _ _) rfl ?_
  refine e_iastore_p (xs := (sl.set (4 + 511 * k + 1 + 2 * ps.length) (nI key)).set (4 + 511 * k + 2 + 2 * ps.length) v) (x := nI (ps.length + 1)) f_143_115 g7 (by omega) (by first | omega | (simp only [List.length_set]; omega)) (rfl) rfl (fun h11 g12 fx13 => ?_)
  have fr14 : px_fi 287 1 h h11 := fi_tr fr9 fx13 (by omega)
  refine e_iconst (v := nI 1) f_143_116 (by decide) rfl ?_
  refine e_iret f_143_117 rfl (rfl) ?_
  exact ⟨congrArg (fun z => some (Value.int z)) (b1 (by simp [hno])), by unfold isNS; rw [if_neg hno]; exact g12, fr14⟩

def mtT (ts : List TS) (key e i : Nat) : Prop := (ts.getD i (0, 0, 0)).1 = key ∧ (ts.getD i (0, 0, 0)).2.1 = e
def fndT (ts : List TS) (key e : Nat) : Nat → Option Nat
  | 0 => none
  | i + 1 => if (ts.getD i (0, 0, 0)).1 = key ∧ (ts.getD i (0, 0, 0)).2.1 = e then some i else fndT ts key e i
theorem fndT_some {ts : List TS} {key e : Nat} : ∀ {i q : Nat}, fndT ts key e i = some q → q < i ∧ mtT ts key e q
  | 0, q, h => nomatch h
  | i + 1, q, h => by
    rw [fndT] at h
    split at h
    · rename_i c
      injection h with h
      subst h
      exact ⟨Nat.lt_succ_self _, c⟩
    · have := fndT_some h
      exact ⟨by omega, this.2⟩
theorem fndT_none {ts : List TS} {key e : Nat} : ∀ {i : Nat}, fndT ts key e i = none → ∀ q, q < i → ¬ mtT ts key e q
  | 0, _, q, hq => absurd hq (by omega)
  | i + 1, h, q, hq => by
    rw [fndT] at h
    split at h
    · exact nomatch h
    · rename_i c
      rcases Nat.lt_or_ge q i with z | z
      · exact fndT_none h q z
      · rw [show q = i by omega]; exact c
def atT (o : Option Nat) (n : Nat) : Nat := match o with
  | none => n
  | some i => i
def spnS (sl : List Int32) (b : Nat) (ts : List TS) (key e : Nat) : List Int32 := match fndT ts key e ts.length with
  | some i => sl.set (b + 209 + 3 * i) ((ts.getD i (0, 0, 0)).2.2 + nI 1)
  | none => tNew sl b ts.length key e
def spnX (sl : List Int32) (b : Nat) (ts : List TS) (key e : Nat) : List Int32 := if nI e ≤ sl.getD (b + 205) 0 then sl.set 3 (sl.getD 3 0 + nI 1) else spnS sl b ts key e

set_option maxRecDepth 20000 in
set_option maxHeartbeats 4000000 in
theorem ll_Md_spn {P : px_H → Option Value → Prop} {h : px_H} {k key t n e : Nat} {cb : Bool} {sl : List Int32} {ts : List TS} {ga : gA} {gp : gP} {gq : gQ} {gh : gH} {gw : gW} {gu : gU} {gv : gV} (H0 : h.2.2 269 = some (12, mB ga gp (gq.1, gq.2.1, gq.2.2.1, gq.2.2.2.1, gq.2.2.2.2.1, gq.2.2.2.2.2.1, cb) gh (nI key, gw.2.1, nI t) gu gv)) (H1 : px_pa h 287 50 3070 Value.int sl) (ht : tR sl (4 + 511 * k) ts) (hl : ts.length < 100) (hok : ∀ t ∈ ts, t.1 < 4 ∧ 1 ≤ t.2.1 ∧ t.2.1 ≤ 6000) (hky : key < 4) (he : e ≤ 6000) (h6 : k < 6) (hsl : sl.length = 3070) (kx : px_to 144 145 [some (.ref (269)), some (.int (nI k)), some (.int (nI n)), some (.int (nI e)), some (.int (nI (4 + 511 * k))), some (.int (nI (4 + 511 * k + 206))), some (.int (nI (atT (fndT ts key e ts.length) ts.length))), none] [] h P) : ∀ (d : Nat) (i : Nat) (a : Nat), (ts.length ≤ i + d) → (i ≤ ts.length) → (a = atT (fndT ts key e i) ts.length) → px_to 144 79 [some (.ref (269)), some (.int (nI k)), some (.int (nI n)), some (.int (nI e)), some (.int (nI (4 + 511 * k))), some (.int (nI (4 + 511 * k + 206))), some (.int (nI a)), some (.int (nI i))] [] h P := by
  intro d
  induction d using Nat.strongRecOn with
  | ind d ih =>
    intro i a q0 q1 q2
    refine e_iload f_144_79 rfl rfl ?_
    refine e_aload_n f_144_81 rfl rfl ?_
    refine e_getf f_144_82 H0 rfl rfl ?_
    refine e_iload f_144_85 rfl rfl ?_
    refine e_iaload_p (xs := sl) f_144_87 H1 (d := 0) (by first | omega | (simp only [List.length_set]; omega)) rfl ?_
    show px_to 144 88 [some (.ref (269)), some (.int (nI k)), some (.int (nI n)), some (.int (nI e)), some (.int (nI (4 + 511 * k))), some (.int (nI (4 + 511 * k + 206))), some (.int (nI a)), some (.int (nI i))] [.int (sl.getD (4 + 511 * k + 206) 0), .int (nI i)] h _
    rw [ht.2.1]
    refine e_icmp_ge f_144_88 rfl (fun c_88 => ?_) (fun c_88 => ?_)
    · skip
      have c_88 : ts.length ≤ i := cv_le (by omega) (by omega) c_88
      have ei : i = ts.length := by omega
      subst ei
      subst q2
      refine px_to_L (L := [some (.ref (269)), some (.int (nI k)), some (.int (nI n)), some (.int (nI e)), some (.int (nI (4 + 511 * k))), some (.int (nI (4 + 511 * k + 206))), some (.int (nI (atT (fndT ts key e ts.length) ts.length))), none]) ⟨Or.inr rfl, Or.inr rfl, Or.inr rfl, Or.inr rfl, Or.inr rfl, Or.inr rfl, Or.inr rfl, Or.inl rfl, trivial⟩ ?_
      exact kx
    · skip
      have c_88 : i < ts.length := cv_nle (by omega) (by omega) c_88
      refine e_aload_n f_144_91 rfl rfl ?_
      refine e_getf f_144_92 H0 rfl rfl ?_
      refine e_iload f_144_95 rfl rfl ?_
      refine e_iconst (v := nI 1) f_144_97 (by decide) rfl ?_
      refine e_iadd (z := nI (4 + 511 * k + 207)) f_144_98 ((nI_add _ _).trans (congrArg nI (by omega))) rfl ?_
      refine e_iconst (v := nI 3) f_144_99 (by decide) rfl ?_
      refine e_iload f_144_100 rfl rfl ?_
      refine e_imul (z := nI (3 * i)) f_144_102 (pk_mul _ _) rfl ?_
      refine e_iadd (z := nI (4 + 511 * k + 207 + 3 * i)) f_144_103 (nI_add _ _) rfl ?_
      refine e_iaload_p (xs := sl) f_144_104 H1 (d := 0) (by first | omega | (simp only [List.length_set]; omega)) rfl ?_
      show px_to 144 105 [some (.ref (269)), some (.int (nI k)), some (.int (nI n)), some (.int (nI e)), some (.int (nI (4 + 511 * k))), some (.int (nI (4 + 511 * k + 206))), some (.int (nI a)), some (.int (nI i))] [.int (sl.getD (4 + 511 * k + 207 + 3 * i) 0)] h _
      have hti := ht.2.2 i (by omega)
      have hko := hok _ (getD_mem (0, 0, 0) (show i < ts.length by omega))
      rw [hti.1]
      refine e_aload_n f_144_105 rfl rfl ?_
      refine e_getf f_144_106 H0 rfl rfl ?_
      show px_to 144 109 [some (.ref (269)), some (.int (nI k)), some (.int (nI n)), some (.int (nI e)), some (.int (nI (4 + 511 * k))), some (.int (nI (4 + 511 * k + 206))), some (.int (nI a)), some (.int (nI i))] [.int (nI key), .int (nI ((ts.getD i (0, 0, 0)).1))] h _
      refine e_icmp_ne f_144_109 rfl (fun c_109 => ?_) (fun c_109 => ?_)
      · skip
        have c_109 : (ts.getD i (0, 0, 0)).1 ≠ key := cv_ne c_109
        refine e_iload f_144_135 rfl rfl ?_
        have ea : atT (fndT ts key e (i + 1)) ts.length = atT (fndT ts key e i) ts.length := by rw [fndT, if_neg (fun z => c_109 z.1)]
        refine e_istore (L' := [some (.ref (269)), some (.int (nI k)), some (.int (nI n)), some (.int (nI e)), some (.int (nI (4 + 511 * k))), some (.int (nI (4 + 511 * k + 206))), some (.int (nI a)), some (.int (nI i))]) f_144_137 (Nat.le_of_ble_eq_true rfl) rfl rfl ?_
        refine e_iinc (y := nI (i + 1)) (L' := [some (.ref (269)), some (.int (nI k)), some (.int (nI n)), some (.int (nI e)), some (.int (nI (4 + 511 * k))), some (.int (nI (4 + 511 * k + 206))), some (.int (nI a)), some (.int (nI (i + 1)))]) f_144_139 rfl (by rw [show Int32.ofInt 1 = nI 1 by decide]; exact (nI_add _ _)) rfl rfl ?_
        refine e_goto f_144_142 ?_
        first | (exfalso; omega) | exact ih (d - 1) (by omega) (i + 1) a  (by omega) (by omega) (by first | exact ea.symm | exact q2.trans ea.symm)  
      · skip
        have c_109 : (ts.getD i (0, 0, 0)).1 = key := cv_nne (by omega) (by omega) c_109
        refine e_aload_n f_144_112 rfl rfl ?_
        refine e_getf f_144_113 H0 rfl rfl ?_
        refine e_iload f_144_116 rfl rfl ?_
        refine e_iconst (v := nI 2) f_144_118 (by decide) rfl ?_
        refine e_iadd (z := nI (4 + 511 * k + 208)) f_144_119 ((nI_add _ _).trans (congrArg nI (by omega))) rfl ?_
        refine e_iconst (v := nI 3) f_144_120 (by decide) rfl ?_
        refine e_iload f_144_121 rfl rfl ?_
        refine e_imul (z := nI (3 * i)) f_144_123 (pk_mul _ _) rfl ?_
        refine e_iadd (z := nI (4 + 511 * k + 208 + 3 * i)) f_144_124 (nI_add _ _) rfl ?_
        refine e_iaload_p (xs := sl) f_144_125 H1 (d := 0) (by first | omega | (simp only [List.length_set]; omega)) rfl ?_
        show px_to 144 126 [some (.ref (269)), some (.int (nI k)), some (.int (nI n)), some (.int (nI e)), some (.int (nI (4 + 511 * k))), some (.int (nI (4 + 511 * k + 206))), some (.int (nI a)), some (.int (nI i))] [.int (sl.getD (4 + 511 * k + 208 + 3 * i) 0)] h _
        rw [hti.2.1]
        refine e_iload_n f_144_126 rfl rfl ?_
        refine e_icmp_ne f_144_127 rfl (fun c_127 => ?_) (fun c_127 => ?_)
        · skip
          have c_127 : (ts.getD i (0, 0, 0)).2.1 ≠ e := cv_ne c_127
          refine e_iload f_144_135 rfl rfl ?_
          have ea : atT (fndT ts key e (i + 1)) ts.length = atT (fndT ts key e i) ts.length := by rw [fndT, if_neg (fun z => c_127 z.2)]
          refine e_istore (L' := [some (.ref (269)), some (.int (nI k)), some (.int (nI n)), some (.int (nI e)), some (.int (nI (4 + 511 * k))), some (.int (nI (4 + 511 * k + 206))), some (.int (nI a)), some (.int (nI i))]) f_144_137 (Nat.le_of_ble_eq_true rfl) rfl rfl ?_
          refine e_iinc (y := nI (i + 1)) (L' := [some (.ref (269)), some (.int (nI k)), some (.int (nI n)), some (.int (nI e)), some (.int (nI (4 + 511 * k))), some (.int (nI (4 + 511 * k + 206))), some (.int (nI a)), some (.int (nI (i + 1)))]) f_144_139 rfl (by rw [show Int32.ofInt 1 = nI 1 by decide]; exact (nI_add _ _)) rfl rfl ?_
          refine e_goto f_144_142 ?_
          first | (exfalso; omega) | exact ih (d - 1) (by omega) (i + 1) a  (by omega) (by omega) (by first | exact ea.symm | exact q2.trans ea.symm)  
        · skip
          have c_127 : (ts.getD i (0, 0, 0)).2.1 = e := cv_nne (by omega) (by omega) c_127
          refine e_iload f_144_130 rfl rfl ?_
          refine e_goto f_144_132 ?_
          have ea : atT (fndT ts key e (i + 1)) ts.length = i := by rw [fndT, if_pos ⟨c_109, c_127⟩]; rfl
          refine e_istore (L' := [some (.ref (269)), some (.int (nI k)), some (.int (nI n)), some (.int (nI e)), some (.int (nI (4 + 511 * k))), some (.int (nI (4 + 511 * k + 206))), some (.int (nI i)), some (.int (nI i))]) f_144_137 (Nat.le_of_ble_eq_true rfl) rfl rfl ?_
          refine e_iinc (y := nI (i + 1)) (L' := [some (.ref (269)), some (.int (nI k)), some (.int (nI n)), some (.int (nI e)), some (.int (nI (4 + 511 * k))), some (.int (nI (4 + 511 * k + 206))), some (.int (nI i)), some (.int (nI (i + 1)))]) f_144_139 rfl (by rw [show Int32.ofInt 1 = nI 1 by decide]; exact (nI_add _ _)) rfl rfl ?_
          refine e_goto f_144_142 ?_
          first | (exfalso; omega) | exact ih (d - 1) (by omega) (i + 1) i  (by omega) (by omega) (by first | exact ea.symm | exact q2.trans ea.symm)  

set_option maxRecDepth 20000 in
set_option maxHeartbeats 4000000 in
theorem cc_Md_spn {h : px_H} {k key t n e : Nat} {cb : Bool} {sl : List Int32} {ts : List TS} {cv : List Int32} {j : List St} {ga : gA} {gp : gP} {gq : gQ} {gh : gH} {gw : gW} {gu : gU} {gv : gV} (H0 : h.2.2 269 = some (12, mB ga gp (gq.1, gq.2.1, gq.2.2.1, gq.2.2.2.1, gq.2.2.2.2.1, gq.2.2.2.2.2.1, cb) gh (nI key, gw.2.1, nI t) gu gv)) (H1 : px_pa h 286 50 6 stN j) (H2 : px_pa h 287 50 3070 Value.int sl) (H3 : px_pa h 295 50 30 Value.int cv) (p0 : k < j.length) (p1 : j.length ≤ 6) (p2 : (j.getD k (0, 0, 0)).2.2 = nI n) (p3 : 0 < n ∧ n ≤ 1000) (p4 : t ≤ 5000) (p5 : key < 4) (p6 : sl.length = 3070) (p7 : cv.length = 30) (p8 : tR sl (4 + 511 * k) ts) (p9 : ts.length < 100) (p10 : ∀ t ∈ ts, t.1 < 4 ∧ 1 ≤ t.2.1 ∧ t.2.1 ≤ 6000) (p11 : (t / n + 1) * n = e) : px_wp 144 [.ref (269), .int (nI k)] h (fun h1 r => r = none ∧ px_pa h1 287 50 3070 Value.int (spnX sl (4 + 511 * k) ts key e) ∧ px_pa h1 295 50 30 Value.int (if nI e ≤ sl.getD ((4 + 511 * k) + 205) 0 then tI cb cv (5 * k + 3) else cv) ∧ px_fj 287 1 295 1 h h1) := by
  have fr0 : px_fj 287 1 295 1 h h := fj_rf _ _ _ _ _
  have hdn : t / n ≤ t := Nat.div_le_self _ _
  have he6 : e ≤ 6000 := by
    have := Nat.div_mul_le_self t n
    rw [Nat.add_mul, Nat.one_mul] at p11
    omega
  have lj := pa_len H1
  show px_to 144 0 [some (.ref (269)), some (.int (nI k)), none, none, none, none, none, none] [] h _
  refine e_aload_n f_144_0 rfl rfl ?_
  refine e_getf f_144_1 H0 rfl rfl ?_
  refine e_iload_n f_144_4 rfl rfl ?_
  refine e_iaload_p (xs := j) f_144_5 H1 (d := (0, 0, 0)) (by first | omega | (simp only [List.length_set]; omega)) rfl ?_
  show px_to 144 6 [some (.ref (269)), some (.int (nI k)), none, none, none, none, none, none] [.int ((j.getD k (0, 0, 0)).2.2)] h _
  rw [p2]
  refine e_istore_n (L' := [some (.ref (269)), some (.int (nI k)), some (.int (nI n)), none, none, none, none, none]) f_144_6 (Nat.le_of_ble_eq_true rfl) rfl rfl ?_
  refine e_aload_n f_144_7 rfl rfl ?_
  refine e_getf f_144_8 H0 rfl rfl ?_
  show px_to 144 11 [some (.ref (269)), some (.int (nI k)), some (.int (nI n)), none, none, none, none, none] [.int (nI t)] h _
  refine e_iload_n f_144_11 rfl rfl ?_
  refine e_idiv (z := nI (t / n)) f_144_12 (nI_ne0 (by omega) (by omega)) (pk_div (by omega) (by omega) (by omega)) rfl ?_
  refine e_iconst (v := nI 1) f_144_13 (by decide) rfl ?_
  refine e_iadd (z := nI (t / n + 1)) f_144_14 (nI_add _ _) rfl ?_
  refine e_iload_n f_144_15 rfl rfl ?_
  refine e_imul (z := nI e) f_144_16 ((pk_mul _ _).trans (congrArg nI p11)) rfl ?_
  refine e_istore_n (L' := [some (.ref (269)), some (.int (nI k)), some (.int (nI n)), some (.int (nI e)), none, none, none, none]) f_144_17 (Nat.le_of_ble_eq_true rfl) rfl rfl ?_
  refine e_iconst (v := nI 4) f_144_18 (by decide) rfl ?_
  refine e_sipush (v := nI 511) f_144_19 (by decide) rfl ?_
  refine e_iload_n f_144_22 rfl rfl ?_
  refine e_imul (z := nI (511 * k)) f_144_23 (pk_mul _ _) rfl ?_
  refine e_iadd (z := nI (4 + 511 * k)) f_144_24 (nI_add _ _) rfl ?_
  refine e_istore (L' := [some (.ref (269)), some (.int (nI k)), some (.int (nI n)), some (.int (nI e)), some (.int (nI (4 + 511 * k))), none, none, none]) f_144_25 (Nat.le_of_ble_eq_true rfl) rfl rfl ?_
  refine e_iload_n f_144_27 rfl rfl ?_
  refine e_aload_n f_144_28 rfl rfl ?_
  refine e_getf f_144_29 H0 rfl rfl ?_
  refine e_iload f_144_32 rfl rfl ?_
  refine e_sipush (v := nI 205) f_144_34 (by decide) rfl ?_
  refine e_iadd (z := nI (4 + 511 * k + 205)) f_144_37 (nI_add _ _) rfl ?_
  refine e_iaload_p (xs := sl) f_144_38 H2 (d := 0) (by first | omega | (simp only [List.length_set]; omega)) rfl ?_
  show px_to 144 39 [some (.ref (269)), some (.int (nI k)), some (.int (nI n)), some (.int (nI e)), some (.int (nI (4 + 511 * k))), none, none, none] [.int (sl.getD (4 + 511 * k + 205) 0), .int (nI e)] h _
  refine e_icmp_gt f_144_39 rfl (fun c_39 => ?_) (fun c_39 => ?_)
  · skip
    have c_39 := c_39
    refine e_iload f_144_59 rfl rfl ?_
    refine e_sipush (v := nI 206) f_144_61 (by decide) rfl ?_
    refine e_iadd (z := nI (4 + 511 * k + 206)) f_144_64 (nI_add _ _) rfl ?_
    refine e_istore (L' := [some (.ref (269)), some (.int (nI k)), some (.int (nI n)), some (.int (nI e)), some (.int (nI (4 + 511 * k))), some (.int (nI (4 + 511 * k + 206))), none, none]) f_144_65 (Nat.le_of_ble_eq_true rfl) rfl rfl ?_
    refine e_aload_n f_144_67 rfl rfl ?_
    refine e_getf f_144_68 H0 rfl rfl ?_
    refine e_iload f_144_71 rfl rfl ?_
    refine e_iaload_p (xs := sl) f_144_73 H2 (d := 0) (by first | omega | (simp only [List.length_set]; omega)) rfl ?_
    show px_to 144 74 [some (.ref (269)), some (.int (nI k)), some (.int (nI n)), some (.int (nI e)), some (.int (nI (4 + 511 * k))), some (.int (nI (4 + 511 * k + 206))), none, none] [.int (sl.getD (4 + 511 * k + 206) 0)] h _
    rw [p8.2.1]
    refine e_istore (L' := [some (.ref (269)), some (.int (nI k)), some (.int (nI n)), some (.int (nI e)), some (.int (nI (4 + 511 * k))), some (.int (nI (4 + 511 * k + 206))), some (.int (nI ts.length)), none]) f_144_74 (Nat.le_of_ble_eq_true rfl) rfl rfl ?_
    refine e_iconst (v := nI 0) f_144_76 (by decide) rfl ?_
    refine e_istore (L' := [some (.ref (269)), some (.int (nI k)), some (.int (nI n)), some (.int (nI e)), some (.int (nI (4 + 511 * k))), some (.int (nI (4 + 511 * k + 206))), some (.int (nI ts.length)), some (.int (nI 0))]) f_144_77 (Nat.le_of_ble_eq_true rfl) rfl rfl ?_
    refine ll_Md_spn H0 H2 p8 p9 p10 p5 he6 (by omega) p6 ?_ ts.length 0 ts.length (by omega) (by omega) rfl
    rcases hf : fndT ts key e ts.length with _ | i
    · skip
      show px_to 144 145 [some (.ref (269)), some (.int (nI k)), some (.int (nI n)), some (.int (nI e)), some (.int (nI (4 + 511 * k))), some (.int (nI (4 + 511 * k + 206))), some (.int (nI ts.length)), none] [] h _
      refine e_iload f_144_145 rfl rfl ?_
      refine e_aload_n f_144_147 rfl rfl ?_
      refine e_getf f_144_148 H0 rfl rfl ?_
      refine e_iload f_144_151 rfl rfl ?_
      refine e_iaload_p (xs := sl) f_144_153 H2 (d := 0) (by first | omega | (simp only [List.length_set]; omega)) rfl ?_
      show px_to 144 154 [some (.ref (269)), some (.int (nI k)), some (.int (nI n)), some (.int (nI e)), some (.int (nI (4 + 511 * k))), some (.int (nI (4 + 511 * k + 206))), some (.int (nI ts.length)), none] [.int (sl.getD (4 + 511 * k + 206) 0), .int (nI ts.length)] h _
      rw [p8.2.1]
      refine e_icmp_ne f_144_154 rfl (fun c_154 => ?_) (fun c_154 => ?_)
      · skip
        have c_154 : ts.length ≠ ts.length := cv_ne c_154
        omega
      · skip
        have c_154 : ts.length = ts.length := cv_nne (by omega) (by omega) c_154
        refine e_aload_n f_144_157 rfl rfl ?_
        refine e_getf f_144_158 H0 rfl rfl ?_
        refine e_iload f_144_161 rfl rfl ?_
        refine e_iconst (v := nI 1) f_144_163 (by decide) rfl ?_
        refine e_iadd (z := nI (4 + 511 * k + 207)) f_144_164 ((nI_add _ _).trans (congrArg nI (by omega))) rfl ?_
        refine e_iconst (v := nI 3) f_144_165 (by decide) rfl ?_
        refine e_iload f_144_166 rfl rfl ?_
        refine e_imul (z := nI (3 * ts.length)) f_144_168 (pk_mul _ _) rfl ?_
        refine e_iadd (z := nI (4 + 511 * k + 207 + 3 * ts.length)) f_144_169 (nI_add _ _) rfl ?_
        refine e_aload_n f_144_170 rfl rfl ?_
        refine e_getf f_144_171 H0 rfl rfl ?_
        show px_to 144 174 [some (.ref (269)), some (.int (nI k)), some (.int (nI n)), some (.int (nI e)), some (.int (nI (4 + 511 * k))), some (.int (nI (4 + 511 * k + 206))), some (.int (nI ts.length)), none] [.int (nI key), .int (nI (4 + 511 * k + 207 + 3 * ts.length)), .ref (287)] h _
        refine e_iastore_p (xs := sl) (x := nI key) f_144_174 H2 (by omega) (by first | omega | (simp only [List.length_set]; omega)) (rfl) rfl (fun h1 g2 fx3 => ?_)
        have fr4 : px_fj 287 1 295 1 h h1 := fj_tr fr0 fx3 (by omega)
        refine e_aload_n f_144_175 rfl rfl ?_
        have g5 : h1.2.2 269 = some (12, mB ga gp (gq.1, gq.2.1, gq.2.2.1, gq.2.2.2.1, gq.2.2.2.2.1, gq.2.2.2.2.2.1, cb) gh (nI key, gw.2.1, nI t) gu gv) := fi_at H0 fx3 (by omega)
        refine e_getf f_144_176 g5 rfl rfl ?_
        refine e_iload f_144_179 rfl rfl ?_
        refine e_iconst (v := nI 2) f_144_181 (by decide) rfl ?_
        refine e_iadd (z := nI (4 + 511 * k + 208)) f_144_182 ((nI_add _ _).trans (congrArg nI (by omega))) rfl ?_
        refine e_iconst (v := nI 3) f_144_183 (by decide) rfl ?_
        refine e_iload f_144_184 rfl rfl ?_
        refine e_imul (z := nI (3 * ts.length)) f_144_186 (pk_mul _ _) rfl ?_
        refine e_iadd (z := nI (4 + 511 * k + 208 + 3 * ts.length)) f_144_187 (nI_add _ _) rfl ?_
        refine e_iload_n f_144_188 rfl rfl ?_
        refine e_iastore_p (xs := sl.set (4 + 511 * k + 207 + 3 * ts.length) (nI key)) (x := nI e) f_144_189 g2 (by omega) (by first | omega | (simp only [List.length_set]; omega)) (rfl) rfl (fun h6 g7 fx8 => ?_)
        have fr9 : px_fj 287 1 295 1 h h6 := fj_tr fr4 fx8 (by omega)
        refine e_aload_n f_144_190 rfl rfl ?_
        have g10 : h6.2.2 269 = some (12, mB ga gp (gq.1, gq.2.1, gq.2.2.1, gq.2.2.2.1, gq.2.2.2.2.1, gq.2.2.2.2.2.1, cb) gh (nI key, gw.2.1, nI t) gu gv) := fi_at g5 fx8 (by omega)
        refine e_getf f_144_191 g10 rfl rfl ?_
        refine e_iload f_144_194 rfl rfl ?_
        refine e_iconst (v := nI 3) f_144_196 (by decide) rfl ?_
        refine e_iadd (z := nI (4 + 511 * k + 209)) f_144_197 ((nI_add _ _).trans (congrArg nI (by omega))) rfl ?_
        refine e_iconst (v := nI 3) f_144_198 (by decide) rfl ?_
        refine e_iload f_144_199 rfl rfl ?_
        refine e_imul (z := nI (3 * ts.length)) f_144_201 (pk_mul _ _) rfl ?_
        refine e_iadd (z := nI (4 + 511 * k + 209 + 3 * ts.length)) f_144_202 (nI_add _ _) rfl ?_
        refine e_iconst (v := nI 0) f_144_203 (by decide) rfl ?_
        refine e_iastore_p (xs := (sl.set (4 + 511 * k + 207 + 3 * ts.length) (nI key)).set (4 + 511 * k + 208 + 3 * ts.length) (nI e)) (x := nI 0) f_144_204 g7 (by omega) (by first | omega | (simp only [List.length_set]; omega)) (rfl) rfl (fun h11 g12 fx13 => ?_)
        have fr14 : px_fj 287 1 295 1 h h11 := fj_tr fr9 fx13 (by omega)
        refine e_aload_n f_144_205 rfl rfl ?_
        have g15 : h11.2.2 269 = some (12, mB ga gp (gq.1, gq.2.1, gq.2.2.1, gq.2.2.2.1, gq.2.2.2.2.1, gq.2.2.2.2.2.1, cb) gh (nI key, gw.2.1, nI t) gu gv) := fi_at g10 fx13 (by omega)
        refine e_getf f_144_206 g15 rfl rfl ?_
        refine e_iload f_144_209 rfl rfl ?_
        refine e_dup2 f_144_211 rfl rfl rfl ?_
        refine e_iaload_p (xs := ((sl.set (4 + 511 * k + 207 + 3 * ts.length) (nI key)).set (4 + 511 * k + 208 + 3 * ts.length) (nI e)).set (4 + 511 * k + 209 + 3 * ts.length) (nI 0)) f_144_212 g12 (d := 0) (by first | omega | (simp only [List.length_set]; omega)) rfl ?_
        show px_to 144 213 [some (.ref (269)), some (.int (nI k)), some (.int (nI n)), some (.int (nI e)), some (.int (nI (4 + 511 * k))), some (.int (nI (4 + 511 * k + 206))), some (.int (nI ts.length)), none] [.int ((((sl.set (4 + 511 * k + 207 + 3 * ts.length) (nI key)).set (4 + 511 * k + 208 + 3 * ts.length) (nI e)).set (4 + 511 * k + 209 + 3 * ts.length) (nI 0)).getD (4 + 511 * k + 206) 0), .int (nI (4 + 511 * k + 206)), .ref (287)] h11 _
        refine e_iconst (v := nI 1) f_144_213 (by decide) rfl ?_
        refine e_iadd (z := nI (ts.length + 1)) f_144_214 (by rw [getD_set_ne (by omega), getD_set_ne (by omega), getD_set_ne (by omega), p8.2.1]; exact nI_add _ _) rfl ?_
        refine e_iastore_p (xs := ((sl.set (4 + 511 * k + 207 + 3 * ts.length) (nI key)).set (4 + 511 * k + 208 + 3 * ts.length) (nI e)).set (4 + 511 * k + 209 + 3 * ts.length) (nI 0)) (x := nI (ts.length + 1)) f_144_215 g12 (by omega) (by first | omega | (simp only [List.length_set]; omega)) (rfl) rfl (fun h16 g17 fx18 => ?_)
        have fr19 : px_fj 287 1 295 1 h h16 := fj_tr fr14 fx18 (by omega)
        refine e_aload_n f_144_216 rfl rfl ?_
        have g20 : h16.2.2 269 = some (12, mB ga gp (gq.1, gq.2.1, gq.2.2.1, gq.2.2.2.1, gq.2.2.2.2.1, gq.2.2.2.2.2.1, cb) gh (nI key, gw.2.1, nI t) gu gv) := fi_at g15 fx18 (by omega)
        refine e_getf f_144_217 g20 rfl rfl ?_
        refine e_iload f_144_220 rfl rfl ?_
        refine e_iconst (v := nI 3) f_144_222 (by decide) rfl ?_
        refine e_iadd (z := nI (4 + 511 * k + 209)) f_144_223 ((nI_add _ _).trans (congrArg nI (by omega))) rfl ?_
        refine e_iconst (v := nI 3) f_144_224 (by decide) rfl ?_
        refine e_iload f_144_225 rfl rfl ?_
        refine e_imul (z := nI (3 * ts.length)) f_144_227 (pk_mul _ _) rfl ?_
        refine e_iadd (z := nI (4 + 511 * k + 209 + 3 * ts.length)) f_144_228 (nI_add _ _) rfl ?_
        refine e_dup2 f_144_229 rfl rfl rfl ?_
        refine e_iaload_p (xs := (((sl.set (4 + 511 * k + 207 + 3 * ts.length) (nI key)).set (4 + 511 * k + 208 + 3 * ts.length) (nI e)).set (4 + 511 * k + 209 + 3 * ts.length) (nI 0)).set (4 + 511 * k + 206) (nI (ts.length + 1))) f_144_230 g17 (d := 0) (by first | omega | (simp only [List.length_set]; omega)) rfl ?_
        show px_to 144 231 [some (.ref (269)), some (.int (nI k)), some (.int (nI n)), some (.int (nI e)), some (.int (nI (4 + 511 * k))), some (.int (nI (4 + 511 * k + 206))), some (.int (nI ts.length)), none] [.int (((((sl.set (4 + 511 * k + 207 + 3 * ts.length) (nI key)).set (4 + 511 * k + 208 + 3 * ts.length) (nI e)).set (4 + 511 * k + 209 + 3 * ts.length) (nI 0)).set (4 + 511 * k + 206) (nI (ts.length + 1))).getD (4 + 511 * k + 209 + 3 * ts.length) 0), .int (nI (4 + 511 * k + 209 + 3 * ts.length)), .ref (287)] h16 _
        rw [getD_set_ne (i := 4 + 511 * k + 209 + 3 * ts.length) (by omega), getD_set_same (by simp only [List.length_set]; omega)]
        refine e_iconst (v := nI 1) f_144_231 (by decide) rfl ?_
        refine e_iadd (z := nI 1) f_144_232 ((nI_add _ _).trans (congrArg nI (by omega))) rfl ?_
        refine e_iastore_p (xs := (((sl.set (4 + 511 * k + 207 + 3 * ts.length) (nI key)).set (4 + 511 * k + 208 + 3 * ts.length) (nI e)).set (4 + 511 * k + 209 + 3 * ts.length) (nI 0)).set (4 + 511 * k + 206) (nI (ts.length + 1))) (x := nI 1) f_144_233 g17 (by omega) (by first | omega | (simp only [List.length_set]; omega)) (rfl) rfl (fun h21 g22 fx23 => ?_)
        have fr24 : px_fj 287 1 295 1 h h21 := fj_tr fr19 fx23 (by omega)
        refine e_vret f_144_234 rfl ?_
        have g25 : px_pa h1 295 50 30 Value.int cv := pa_fi H3 fx3 (by omega)
        have g26 : px_pa h6 295 50 30 Value.int cv := pa_fi g25 fx8 (by omega)
        have g27 : px_pa h11 295 50 30 Value.int cv := pa_fi g26 fx13 (by omega)
        have g28 : px_pa h16 295 50 30 Value.int cv := pa_fi g27 fx18 (by omega)
        have g29 : px_pa h21 295 50 30 Value.int cv := pa_fi g28 fx23 (by omega)
        have c39 := Int32.not_le.mpr c_39
        exact ⟨rfl, by unfold spnX spnS; rw [if_neg c39, hf]; exact g22, by rw [if_neg c39]; exact g29, fr24⟩
    · skip
      obtain ⟨hi, hm⟩ := fndT_some hf
      have hti := p8.2.2 i hi
      show px_to 144 145 [some (.ref (269)), some (.int (nI k)), some (.int (nI n)), some (.int (nI e)), some (.int (nI (4 + 511 * k))), some (.int (nI (4 + 511 * k + 206))), some (.int (nI i)), none] [] h _
      refine e_iload f_144_145 rfl rfl ?_
      refine e_aload_n f_144_147 rfl rfl ?_
      refine e_getf f_144_148 H0 rfl rfl ?_
      refine e_iload f_144_151 rfl rfl ?_
      refine e_iaload_p (xs := sl) f_144_153 H2 (d := 0) (by first | omega | (simp only [List.length_set]; omega)) rfl ?_
      show px_to 144 154 [some (.ref (269)), some (.int (nI k)), some (.int (nI n)), some (.int (nI e)), some (.int (nI (4 + 511 * k))), some (.int (nI (4 + 511 * k + 206))), some (.int (nI i)), none] [.int (sl.getD (4 + 511 * k + 206) 0), .int (nI i)] h _
      rw [p8.2.1]
      refine e_icmp_ne f_144_154 rfl (fun c_154 => ?_) (fun c_154 => ?_)
      · skip
        have c_154 : i ≠ ts.length := cv_ne c_154
        refine e_aload_n f_144_216 rfl rfl ?_
        refine e_getf f_144_217 H0 rfl rfl ?_
        refine e_iload f_144_220 rfl rfl ?_
        refine e_iconst (v := nI 3) f_144_222 (by decide) rfl ?_
        refine e_iadd (z := nI (4 + 511 * k + 209)) f_144_223 ((nI_add _ _).trans (congrArg nI (by omega))) rfl ?_
        refine e_iconst (v := nI 3) f_144_224 (by decide) rfl ?_
        refine e_iload f_144_225 rfl rfl ?_
        refine e_imul (z := nI (3 * i)) f_144_227 (pk_mul _ _) rfl ?_
        refine e_iadd (z := nI (4 + 511 * k + 209 + 3 * i)) f_144_228 (nI_add _ _) rfl ?_
        refine e_dup2 f_144_229 rfl rfl rfl ?_
        refine e_iaload_p (xs := sl) f_144_230 H2 (d := 0) (by first | omega | (simp only [List.length_set]; omega)) rfl ?_
        show px_to 144 231 [some (.ref (269)), some (.int (nI k)), some (.int (nI n)), some (.int (nI e)), some (.int (nI (4 + 511 * k))), some (.int (nI (4 + 511 * k + 206))), some (.int (nI i)), none] [.int (sl.getD (4 + 511 * k + 209 + 3 * i) 0), .int (nI (4 + 511 * k + 209 + 3 * i)), .ref (287)] h _
        rw [hti.2.2]
        refine e_iconst (v := nI 1) f_144_231 (by decide) rfl ?_
        refine e_iadd (z := ((ts.getD i (0, 0, 0)).2.2) + (nI 1)) f_144_232 rfl rfl ?_
        refine e_iastore_p (xs := sl) (x := ((ts.getD i (0, 0, 0)).2.2) + (nI 1)) f_144_233 H2 (by omega) (by first | omega | (simp only [List.length_set]; omega)) (rfl) rfl (fun h30 g31 fx32 => ?_)
        have fr33 : px_fj 287 1 295 1 h h30 := fj_tr fr0 fx32 (by omega)
        refine e_vret f_144_234 rfl ?_
        have g34 : px_pa h30 295 50 30 Value.int cv := pa_fi H3 fx32 (by omega)
        have c39 := Int32.not_le.mpr c_39
        exact ⟨rfl, by unfold spnX spnS; rw [if_neg c39, hf]; exact g31, by rw [if_neg c39]; exact g34, fr33⟩
      · skip
        have c_154 : i = ts.length := cv_nne (by omega) (by omega) c_154
        omega
  · skip
    have c_39 := Int32.not_lt.mp c_39
    refine e_aload_n f_144_42 rfl rfl ?_
    refine e_getf f_144_43 H0 rfl rfl ?_
    refine e_iconst (v := nI 3) f_144_46 (by decide) rfl ?_
    refine e_dup2 f_144_47 rfl rfl rfl ?_
    refine e_iaload_p (xs := sl) f_144_48 H2 (d := 0) (by first | omega | (simp only [List.length_set]; omega)) rfl ?_
    show px_to 144 49 [some (.ref (269)), some (.int (nI k)), some (.int (nI n)), some (.int (nI e)), some (.int (nI (4 + 511 * k))), none, none, none] [.int (sl.getD 3 0), .int (nI 3), .ref (287)] h _
    refine e_iconst (v := nI 1) f_144_49 (by decide) rfl ?_
    refine e_iadd (z := (sl.getD 3 0) + (nI 1)) f_144_50 rfl rfl ?_
    refine e_iastore_p (xs := sl) (x := (sl.getD 3 0) + (nI 1)) f_144_51 H2 (by omega) (by first | omega | (simp only [List.length_set]; omega)) (rfl) rfl (fun h35 g36 fx37 => ?_)
    have fr38 : px_fj 287 1 295 1 h h35 := fj_tr fr0 fx37 (by omega)
    refine e_aload_n f_144_52 rfl rfl ?_
    refine e_iload_n f_144_53 rfl rfl ?_
    refine e_iconst (v := nI 3) f_144_54 (by decide) rfl ?_
    have g39 : h35.2.2 269 = some (12, mB ga gp (gq.1, gq.2.1, gq.2.2.1, gq.2.2.2.1, gq.2.2.2.2.1, gq.2.2.2.2.2.1, cb) gh (nI key, gw.2.1, nI t) gu gv) := fi_at H0 fx37 (by omega)
    have g40 : px_pa h35 295 50 30 Value.int cv := pa_fi H3 fx37 (by omega)
    refine e_callV (As := [.int (nI k), .int (nI 3)]) (rest := []) f_144_55 rfl rfl rfl (Nat.le_of_ble_eq_true rfl) (Nat.le_of_ble_eq_true rfl) g39 rfl (Nat.le_of_ble_eq_true rfl) (cc_Md_cnt (k := k) (q := 3) (cb := cb) (cv := cv) (ga := ga) (gp := gp) (gq := (gq.1, gq.2.1, gq.2.2.1, gq.2.2.2.1, gq.2.2.2.2.1, gq.2.2.2.2.2.1, cb)) (gh := gh) (gw := (nI key, gw.2.1, nI t)) (gu := gu) (gv := gv) g39 g40 (by omega) (by omega) (by omega)) rfl (fun h41 r42 q43 => ?_)
    obtain ⟨rfl, g44, fx45⟩ := q43
    have fr46 : px_fj 287 1 295 1 h h41 := fj_tr fr38 fx45 (by omega)
    show px_to 144 58 [some (.ref (269)), some (.int (nI k)), some (.int (nI n)), some (.int (nI e)), some (.int (nI (4 + 511 * k))), none, none, none] [] h41 _
    refine e_vret f_144_58 rfl ?_
    have g47 : px_pa h41 287 50 3070 Value.int (sl.set 3 ((sl.getD 3 0) + (nI 1))) := pa_fi g36 fx45 (by omega)
    exact ⟨rfl, by unfold spnX; rw [if_pos c_39]; exact g47, by rw [if_pos c_39]; exact g44, fr46⟩
