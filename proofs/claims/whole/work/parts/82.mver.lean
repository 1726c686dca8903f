set_option maxRecDepth 20000 in
set_option maxHeartbeats 4000000 in
theorem ll_Md_tkG {h0 : px_H} {lg : List Row} {ga : gA} {gp : gP} {gq : gQ} {gh : gH} {gw : gW} {gu : gU} {gv : gV} (HM : h0.2.2 269 = some (12, mB ga gp gq (gh.1, nI lg.length) gw (gu.1, nI lg.length, gu.2.2) gv)) (K0 : px_pa h0 292 54 100 rK lg) (K1 : px_pa h0 293 50 100 rV lg) (K2 : px_pa h0 294 50 100 rT lg) (p0 : ∀ x ∈ lg, rwOk x) : ∀ (d : Nat) (i : Nat) (g : px_H), (lg.length ≤ i + d) → (i ≤ lg.length) → px_pa g 297 54 100 rK (lg.take i) → px_pa g 298 50 100 rV (lg.take i) → px_pa g 299 50 100 rT (lg.take i) → px_fi 297 3 h0 g → px_to 159 10 [some (.ref (269)), some (.int (nI i))] [] g (fun h1 r => r = none ∧ px_pa h1 297 54 100 rK lg ∧ px_pa h1 298 50 100 rV lg ∧ px_pa h1 299 50 100 rT lg ∧ px_fi 297 3 h0 h1) := by
  intro d
  induction d using Nat.strongRecOn with
  | ind d ih =>
    intro i g q0 q1 G0 G1 G2 frg
    have l1 := pa_len K0
    refine e_iload_n f_159_10 rfl rfl ?_
    refine e_aload_n f_159_11 rfl rfl ?_
    have g1 : g.2.2 269 = some (12, mB ga gp gq (gh.1, nI lg.length) gw (gu.1, nI lg.length, gu.2.2) gv) := fi_at HM frg (by omega)
    refine e_getf f_159_12 g1 rfl rfl ?_
    show px_to 159 15 [some (.ref (269)), some (.int (nI i))] [.int (nI lg.length), .int (nI i)] g _
    refine e_icmp_ge f_159_15 rfl (fun c_15 => ?_) (fun c_15 => ?_)
    · skip
      have c_15 : lg.length ≤ i := cv_le (by omega) (by omega) c_15
      refine e_vret f_159_60 rfl ?_
      rw [List.take_of_length_le (by omega)] at G0 G1 G2
      exact ⟨rfl, G0, G1, G2, frg⟩
    · skip
      have c_15 : i < lg.length := cv_nle (by omega) (by omega) c_15
      have hro := p0 _ (getD_mem (0, 0, 0) (show i < lg.length by omega))
      unfold rwOk at hro
      have hti : (lg.take i).length = i := by rw [List.length_take]; omega
      refine e_aload_n f_159_18 rfl rfl ?_
      refine e_getf f_159_19 g1 rfl rfl ?_
      refine e_iload_n f_159_22 rfl rfl ?_
      refine e_aload_n f_159_23 rfl rfl ?_
      refine e_getf f_159_24 g1 rfl rfl ?_
      refine e_iload_n f_159_27 rfl rfl ?_
      have g2 : px_pa g 292 54 100 rK lg := pa_fi K0 frg (by omega)
      refine e_baload_p (xs := lg) f_159_28 g2 (d := (0, 0, 0)) (by first | omega | (simp only [List.length_set]; omega)) rfl ?_
      show px_to 159 29 [some (.ref (269)), some (.int (nI i))] [.int (nI ((lg.getD i (0, 0, 0)).1)), .int (nI i), .ref (297)] g _
      refine e_bastore_a (xs := lg.take i) (x := lg.getD i (0, 0, 0)) f_159_29 G0 (by omega) (by omega) (by omega) (nw_y (i2b_id _ (by omega))) rfl (fun h3 g4 fx5 => ?_)
      have fr6 : px_fi 297 3 h0 h3 := fi_tr frg fx5 (by omega)
      refine e_aload_n f_159_30 rfl rfl ?_
      have g7 : h3.2.2 269 = some (12, mB ga gp gq (gh.1, nI lg.length) gw (gu.1, nI lg.length, gu.2.2) gv) := fi_at HM fr6 (by omega)
      refine e_getf f_159_31 g7 rfl rfl ?_
      refine e_iload_n f_159_34 rfl rfl ?_
      refine e_aload_n f_159_35 rfl rfl ?_
      refine e_getf f_159_36 g7 rfl rfl ?_
      refine e_iload_n f_159_39 rfl rfl ?_
      have g8 : px_pa h3 293 50 100 rV lg := pa_fi K1 fr6 (by omega)
      refine e_iaload_p (xs := lg) f_159_40 g8 (d := (0, 0, 0)) (by first | omega | (simp only [List.length_set]; omega)) rfl ?_
      show px_to 159 41 [some (.ref (269)), some (.int (nI i))] [.int ((lg.getD i (0, 0, 0)).2.1), .int (nI i), .ref (298)] h3 _
      have g9 : px_pa h3 298 50 100 rV (lg.take i) := pa_fi G1 fx5 (by omega)
      refine e_iastore_a (xs := lg.take i) (x := lg.getD i (0, 0, 0)) f_159_41 g9 (by omega) (by omega) (by omega) (rfl) rfl (fun h10 g11 fx12 => ?_)
      have fr13 : px_fi 297 3 h0 h10 := fi_tr fr6 fx12 (by omega)
      refine e_aload_n f_159_42 rfl rfl ?_
      have g14 : h10.2.2 269 = some (12, mB ga gp gq (gh.1, nI lg.length) gw (gu.1, nI lg.length, gu.2.2) gv) := fi_at HM fr13 (by omega)
      refine e_getf f_159_43 g14 rfl rfl ?_
      refine e_iload_n f_159_46 rfl rfl ?_
      refine e_aload_n f_159_47 rfl rfl ?_
      refine e_getf f_159_48 g14 rfl rfl ?_
      refine e_iload_n f_159_51 rfl rfl ?_
      have g15 : px_pa h10 294 50 100 rT lg := pa_fi K2 fr13 (by omega)
      refine e_iaload_p (xs := lg) f_159_52 g15 (d := (0, 0, 0)) (by first | omega | (simp only [List.length_set]; omega)) rfl ?_
      show px_to 159 53 [some (.ref (269)), some (.int (nI i))] [.int (nI ((lg.getD i (0, 0, 0)).2.2)), .int (nI i), .ref (299)] h10 _
      have g16 : px_pa h3 299 50 100 rT (lg.take i) := pa_fi G2 fx5 (by omega)
      have g17 : px_pa h10 299 50 100 rT (lg.take i) := pa_fi g16 fx12 (by omega)
      refine e_iastore_a (xs := lg.take i) (x := lg.getD i (0, 0, 0)) f_159_53 g17 (by omega) (by omega) (by omega) (rfl) rfl (fun h18 g19 fx20 => ?_)
      have fr21 : px_fi 297 3 h0 h18 := fi_tr fr13 fx20 (by omega)
      refine e_iinc (y := nI (i + 1)) (L' := [some (.ref (269)), some (.int (nI (i + 1)))]) f_159_54 rfl (by rw [show Int32.ofInt 1 = nI 1 by decide]; exact (nI_add _ _)) rfl rfl ?_
      refine e_goto f_159_57 ?_
      have g22 : px_pa h10 297 54 100 rK ((lg.take i) ++ [lg.getD i (0, 0, 0)]) := pa_fi g4 fx12 (by omega)
      have g23 : px_pa h18 297 54 100 rK ((lg.take i) ++ [lg.getD i (0, 0, 0)]) := pa_fi g22 fx20 (by omega)
      have g24 : px_pa h18 297 54 100 rK (lg.take (i + 1)) := pa_eq g23 ((take_s (0, 0, 0) (by omega)).symm)
      have g25 : px_pa h18 298 50 100 rV ((lg.take i) ++ [lg.getD i (0, 0, 0)]) := pa_fi g11 fx20 (by omega)
      have g26 : px_pa h18 298 50 100 rV (lg.take (i + 1)) := pa_eq g25 ((take_s (0, 0, 0) (by omega)).symm)
      have g27 : px_pa h18 299 50 100 rT (lg.take (i + 1)) := pa_eq g19 ((take_s (0, 0, 0) (by omega)).symm)
      first | (exfalso; omega) | exact ih (d - 1) (by omega) (i + 1) h18 (by omega) (by omega) g24 g26 g27 fr21

set_option maxRecDepth 20000 in
set_option maxHeartbeats 4000000 in
theorem cc_Md_tkG {h : px_H} {lg lo : List Row} {ga : gA} {gp : gP} {gq : gQ} {gh : gH} {gw : gW} {gu : gU} {gv : gV} (H0 : h.2.2 269 = some (12, mB ga gp gq (gh.1, nI lg.length) gw gu gv)) (H1 : px_pa h 292 54 100 rK lg) (H2 : px_pa h 293 50 100 rV lg) (H3 : px_pa h 294 50 100 rT lg) (H4 : px_pa h 297 54 100 rK lo) (H5 : px_pa h 298 50 100 rV lo) (H6 : px_pa h 299 50 100 rT lo) (p0 : ∀ x ∈ lg, rwOk x) : px_wp 159 [.ref (269)] h (fun h1 r => r = none ∧ h1.2.2 269 = some (12, mB ga gp gq (gh.1, nI lg.length) gw (gu.1, nI lg.length, gu.2.2) gv) ∧ px_pa h1 297 54 100 rK lg ∧ px_pa h1 298 50 100 rV lg ∧ px_pa h1 299 50 100 rT lg ∧ px_fj 269 1 297 3 h h1) := by
  have fr0 : px_fj 269 1 297 3 h h := fj_rf _ _ _ _ _
  show px_to 159 0 [some (.ref (269)), none] [] h _
  refine e_aload_n f_159_0 rfl rfl ?_
  refine e_aload_n f_159_1 rfl rfl ?_
  refine e_getf f_159_2 H0 rfl rfl ?_
  show px_to 159 5 [some (.ref (269)), none] [.int (nI lg.length), .ref (269)] h _
  refine e_putp (vs' := mB ga gp gq (gh.1, nI lg.length) gw (gu.1, nI lg.length, gu.2.2) gv) f_159_5 H0 (Nat.le_of_ble_eq_true rfl) (rfl) (rfl) rfl rfl (fun h1 g2 fx3 => ?_)
  have fr4 : px_fj 269 1 297 3 h h1 := fj_tr fr0 fx3 (by omega)
  refine e_iconst (v := nI 0) f_159_8 (by decide) rfl ?_
  refine e_istore_n (L' := [some (.ref (269)), some (.int (nI 0))]) f_159_9 (Nat.le_of_ble_eq_true rfl) rfl rfl ?_
  have g5 : px_pa h1 292 54 100 rK lg := pa_fi H1 fx3 (by omega)
  have g6 : px_pa h1 293 50 100 rV lg := pa_fi H2 fx3 (by omega)
  have g7 : px_pa h1 294 50 100 rT lg := pa_fi H3 fx3 (by omega)
  have g8 : px_pa h1 297 54 100 rK lo := pa_fi H4 fx3 (by omega)
  have g9 : px_pa h1 298 50 100 rV lo := pa_fi H5 fx3 (by omega)
  have g10 : px_pa h1 299 50 100 rT lo := pa_fi H6 fx3 (by omega)
  refine px_to_mono (ll_Md_tkG (h0 := h1) g2 g5 g6 g7 p0 lg.length 0 h1 (by omega) (by omega) (pa_nil g8) (pa_nil g9) (pa_nil g10) (fi_rf _ _ _)) (fun h1 r hr => ?_)
  obtain ⟨e1, e2, e3, e4, e5⟩ := hr
  exact ⟨e1, fi_at g2 e5 (by omega), e2, e3, e4, fj_tr fr4 e5 (by omega)⟩

set_option maxRecDepth 20000 in
set_option maxHeartbeats 4000000 in
theorem ll_Md_tkT {h0 : px_H} {c : Nat} {td : List Row} {om : List Nat} {ro : List Row} {ga : gA} {gp : gP} {gq : gQ} {gh : gH} {gw : gW} {gu : gU} {gv : gV} (HM : h0.2.2 269 = some (12, mB ga gp gq gh gw (gu.1, gu.2.1, nI td.length) gv)) (K0 : px_pa h0 279 50 8 vN om) (K1 : px_pa h0 280 54 128 rK ro) (K2 : px_pa h0 281 53 128 rV ro) (K3 : px_pa h0 282 53 128 rT ro) (p0 : c < 8) (p1 : ro.length = 128) (p3 : inR ro c td) (p4 : td.length ≤ 16) (p5 : ∀ x ∈ td, rwOk x) : ∀ (d : Nat) (i : Nat) (g : px_H), (td.length ≤ i + d) → (i ≤ td.length) → px_pa g 300 54 100 rK (td.take i) → px_pa g 301 50 100 rV (td.take i) → px_pa g 302 50 100 rT (td.take i) → px_fi 300 3 h0 g → px_to 160 12 [some (.ref (269)), some (.int (nI c)), some (.int (nI i))] [] g (fun h1 r => r = none ∧ px_pa h1 300 54 100 rK td ∧ px_pa h1 301 50 100 rV td ∧ px_pa h1 302 50 100 rT td ∧ px_fi 300 3 h0 h1) := by
  intro d
  induction d using Nat.strongRecOn with
  | ind d ih =>
    intro i g q0 q1 G0 G1 G2 frg
    refine e_iload_n f_160_12 rfl rfl ?_
    refine e_aload_n f_160_13 rfl rfl ?_
    have g1 : g.2.2 269 = some (12, mB ga gp gq gh gw (gu.1, gu.2.1, nI td.length) gv) := fi_at HM frg (by omega)
    refine e_getf f_160_14 g1 rfl rfl ?_
    show px_to 160 17 [some (.ref (269)), some (.int (nI c)), some (.int (nI i))] [.int (nI td.length), .int (nI i)] g _
    refine e_icmp_ge f_160_17 rfl (fun c_17 => ?_) (fun c_17 => ?_)
    · skip
      have c_17 : td.length ≤ i := cv_le (by omega) (by omega) c_17
      refine e_vret f_160_77 rfl ?_
      rw [List.take_of_length_le (by omega)] at G0 G1 G2
      exact ⟨rfl, G0, G1, G2, frg⟩
    · skip
      have c_17 : i < td.length := cv_nle (by omega) (by omega) c_17
      have hro := p5 _ (getD_mem (0, 0, 0) (show i < td.length by omega))
      unfold rwOk at hro
      have hti : (td.take i).length = i := by rw [List.length_take]; omega
      refine e_aload_n f_160_20 rfl rfl ?_
      refine e_getf f_160_21 g1 rfl rfl ?_
      refine e_iload_n f_160_24 rfl rfl ?_
      refine e_aload_n f_160_25 rfl rfl ?_
      refine e_getf f_160_26 g1 rfl rfl ?_
      refine e_bipush (v := nI 16) f_160_29 (by decide) rfl ?_
      refine e_iload_n f_160_31 rfl rfl ?_
      refine e_imul (z := nI (16 * c)) f_160_32 (pk_mul _ _) rfl ?_
      refine e_iload_n f_160_33 rfl rfl ?_
      refine e_iadd (z := nI (16 * c + i)) f_160_34 (nI_add _ _) rfl ?_
      have g2 : px_pa g 280 54 128 rK ro := pa_fi K1 frg (by omega)
      refine e_baload_p (xs := ro) f_160_35 g2 (d := (0, 0, 0)) (by first | omega | (simp only [List.length_set]; omega)) rfl ?_
      show px_to 160 36 [some (.ref (269)), some (.int (nI c)), some (.int (nI i))] [.int (nI ((ro.getD (16 * c + i) (0, 0, 0)).1)), .int (nI i), .ref (300)] g _
      rw [p3 i (by omega)]
      refine e_bastore_a (xs := td.take i) (x := td.getD i (0, 0, 0)) f_160_36 G0 (by omega) (by omega) (by omega) (nw_y (i2b_id _ (by omega))) rfl (fun h3 g4 fx5 => ?_)
      have fr6 : px_fi 300 3 h0 h3 := fi_tr frg fx5 (by omega)
      refine e_aload_n f_160_37 rfl rfl ?_
      have g7 : h3.2.2 269 = some (12, mB ga gp gq gh gw (gu.1, gu.2.1, nI td.length) gv) := fi_at HM fr6 (by omega)
      refine e_getf f_160_38 g7 rfl rfl ?_
      refine e_iload_n f_160_41 rfl rfl ?_
      refine e_aload_n f_160_42 rfl rfl ?_
      refine e_getf f_160_43 g7 rfl rfl ?_
      refine e_bipush (v := nI 16) f_160_46 (by decide) rfl ?_
      refine e_iload_n f_160_48 rfl rfl ?_
      refine e_imul (z := nI (16 * c)) f_160_49 (pk_mul _ _) rfl ?_
      refine e_iload_n f_160_50 rfl rfl ?_
      refine e_iadd (z := nI (16 * c + i)) f_160_51 (nI_add _ _) rfl ?_
      have g8 : px_pa h3 281 53 128 rV ro := pa_fi K2 fr6 (by omega)
      refine e_saload_p (xs := ro) f_160_52 g8 (d := (0, 0, 0)) (by first | omega | (simp only [List.length_set]; omega)) rfl ?_
      show px_to 160 53 [some (.ref (269)), some (.int (nI c)), some (.int (nI i))] [.int ((ro.getD (16 * c + i) (0, 0, 0)).2.1), .int (nI i), .ref (301)] h3 _
      rw [p3 i (by omega)]
      have g9 : px_pa h3 301 50 100 rV (td.take i) := pa_fi G1 fx5 (by omega)
      refine e_iastore_a (xs := td.take i) (x := td.getD i (0, 0, 0)) f_160_53 g9 (by omega) (by omega) (by omega) (rfl) rfl (fun h10 g11 fx12 => ?_)
      have fr13 : px_fi 300 3 h0 h10 := fi_tr fr6 fx12 (by omega)
      refine e_aload_n f_160_54 rfl rfl ?_
      have g14 : h10.2.2 269 = some (12, mB ga gp gq gh gw (gu.1, gu.2.1, nI td.length) gv) := fi_at HM fr13 (by omega)
      refine e_getf f_160_55 g14 rfl rfl ?_
      refine e_iload_n f_160_58 rfl rfl ?_
      refine e_aload_n f_160_59 rfl rfl ?_
      refine e_getf f_160_60 g14 rfl rfl ?_
      refine e_bipush (v := nI 16) f_160_63 (by decide) rfl ?_
      refine e_iload_n f_160_65 rfl rfl ?_
      refine e_imul (z := nI (16 * c)) f_160_66 (pk_mul _ _) rfl ?_
      refine e_iload_n f_160_67 rfl rfl ?_
      refine e_iadd (z := nI (16 * c + i)) f_160_68 (nI_add _ _) rfl ?_
      have g15 : px_pa h10 282 53 128 rT ro := pa_fi K3 fr13 (by omega)
      refine e_saload_p (xs := ro) f_160_69 g15 (d := (0, 0, 0)) (by first | omega | (simp only [List.length_set]; omega)) rfl ?_
      show px_to 160 70 [some (.ref (269)), some (.int (nI c)), some (.int (nI i))] [.int (nI ((ro.getD (16 * c + i) (0, 0, 0)).2.2)), .int (nI i), .ref (302)] h10 _
      rw [p3 i (by omega)]
      have g16 : px_pa h3 302 50 100 rT (td.take i) := pa_fi G2 fx5 (by omega)
      have g17 : px_pa h10 302 50 100 rT (td.take i) := pa_fi g16 fx12 (by omega)
      refine e_iastore_a (xs := td.take i) (x := td.getD i (0, 0, 0)) f_160_70 g17 (by omega) (by omega) (by omega) (rfl) rfl (fun h18 g19 fx20 => ?_)
      have fr21 : px_fi 300 3 h0 h18 := fi_tr fr13 fx20 (by omega)
      refine e_iinc (y := nI (i + 1)) (L' := [some (.ref (269)), some (.int (nI c)), some (.int (nI (i + 1)))]) f_160_71 rfl (by rw [show Int32.ofInt 1 = nI 1 by decide]; exact (nI_add _ _)) rfl rfl ?_
      refine e_goto f_160_74 ?_
      have g22 : px_pa h10 300 54 100 rK ((td.take i) ++ [td.getD i (0, 0, 0)]) := pa_fi g4 fx12 (by omega)
      have g23 : px_pa h18 300 54 100 rK ((td.take i) ++ [td.getD i (0, 0, 0)]) := pa_fi g22 fx20 (by omega)
      have g24 : px_pa h18 300 54 100 rK (td.take (i + 1)) := pa_eq g23 ((take_s (0, 0, 0) (by omega)).symm)
      have g25 : px_pa h18 301 50 100 rV ((td.take i) ++ [td.getD i (0, 0, 0)]) := pa_fi g11 fx20 (by omega)
      have g26 : px_pa h18 301 50 100 rV (td.take (i + 1)) := pa_eq g25 ((take_s (0, 0, 0) (by omega)).symm)
      have g27 : px_pa h18 302 50 100 rT (td.take (i + 1)) := pa_eq g19 ((take_s (0, 0, 0) (by omega)).symm)
      first | (exfalso; omega) | exact ih (d - 1) (by omega) (i + 1) h18 (by omega) (by omega) g24 g26 g27 fr21

set_option maxRecDepth 20000 in
set_option maxHeartbeats 4000000 in
theorem cc_Md_tkT {h : px_H} {c : Nat} {td lt : List Row} {om : List Nat} {ro : List Row} {ga : gA} {gp : gP} {gq : gQ} {gh : gH} {gw : gW} {gu : gU} {gv : gV} (H0 : h.2.2 269 = some (12, mB ga gp gq gh gw gu gv)) (H1 : px_pa h 279 50 8 vN om) (H2 : px_pa h 280 54 128 rK ro) (H3 : px_pa h 281 53 128 rV ro) (H4 : px_pa h 282 53 128 rT ro) (H5 : px_pa h 300 54 100 rK lt) (H6 : px_pa h 301 50 100 rV lt) (H7 : px_pa h 302 50 100 rT lt) (p0 : c < 8) (p1 : om.length = 8 ∧ ro.length = 128) (p2 : om.getD c 0 = td.length) (p3 : inR ro c td) (p4 : td.length ≤ 16) (p5 : ∀ x ∈ td, rwOk x) : px_wp 160 [.ref (269), .int (nI c)] h (fun h1 r => r = none ∧ h1.2.2 269 = some (12, mB ga gp gq gh gw (gu.1, gu.2.1, nI td.length) gv) ∧ px_pa h1 300 54 100 rK td ∧ px_pa h1 301 50 100 rV td ∧ px_pa h1 302 50 100 rT td ∧ px_fj 269 1 300 3 h h1) := by
  have fr0 : px_fj 269 1 300 3 h h := fj_rf _ _ _ _ _
  show px_to 160 0 [some (.ref (269)), some (.int (nI c)), none] [] h _
  refine e_aload_n f_160_0 rfl rfl ?_
  refine e_aload_n f_160_1 rfl rfl ?_
  refine e_getf f_160_2 H0 rfl rfl ?_
  refine e_iload_n f_160_5 rfl rfl ?_
  refine e_iaload_p (xs := om) f_160_6 H1 (d := 0) (by first | omega | (simp only [List.length_set]; omega)) rfl ?_
  show px_to 160 7 [some (.ref (269)), some (.int (nI c)), none] [.int (nI (om.getD c 0)), .ref (269)] h _
  rw [p2]
  refine e_putp (vs' := mB ga gp gq gh gw (gu.1, gu.2.1, nI td.length) gv) f_160_7 H0 (Nat.le_of_ble_eq_true rfl) (rfl) (rfl) rfl rfl (fun h1 g2 fx3 => ?_)
  have fr4 : px_fj 269 1 300 3 h h1 := fj_tr fr0 fx3 (by omega)
  refine e_iconst (v := nI 0) f_160_10 (by decide) rfl ?_
  refine e_istore_n (L' := [some (.ref (269)), some (.int (nI c)), some (.int (nI 0))]) f_160_11 (Nat.le_of_ble_eq_true rfl) rfl rfl ?_
  have g5 : px_pa h1 279 50 8 vN om := pa_fi H1 fx3 (by omega)
  have g6 : px_pa h1 280 54 128 rK ro := pa_fi H2 fx3 (by omega)
  have g7 : px_pa h1 281 53 128 rV ro := pa_fi H3 fx3 (by omega)
  have g8 : px_pa h1 282 53 128 rT ro := pa_fi H4 fx3 (by omega)
  have g9 : px_pa h1 300 54 100 rK lt := pa_fi H5 fx3 (by omega)
  have g10 : px_pa h1 301 50 100 rV lt := pa_fi H6 fx3 (by omega)
  have g11 : px_pa h1 302 50 100 rT lt := pa_fi H7 fx3 (by omega)
  refine px_to_mono (ll_Md_tkT (h0 := h1) (om := om) g2 g5 g6 g7 g8 p0 p1.2 p3 p4 p5 td.length 0 h1 (by omega) (by omega) (pa_nil g9) (pa_nil g10) (pa_nil g11) (fi_rf _ _ _)) (fun h1 r hr => ?_)
  obtain ⟨e1, e2, e3, e4, e5⟩ := hr
  exact ⟨e1, fi_at g2 e5 (by omega), e2, e3, e4, fj_tr fr4 e5 (by omega)⟩

def srt (os : Nat) (l : List Row) : List Row := if os = 126 then rsort l else l
theorem fdiff_srt (os : Nat) (a b : List Row) : fdiff os a b = rfd (srt os a) (srt os b) 0 := by
  unfold fdiff srt
  split <;> rfl
theorem srt_len (os : Nat) (l : List Row) : (srt os l).length = l.length := by
  unfold srt
  split
  · exact rsort_len l
  · rfl
def vdB (os : Nat) (z : Bool) (outs told : List Row) : Nat := if os = 33 then (if z = true ∧ fdiff os outs told = -3 then 1 else 0) else if z = true then 2 else if fdiff os outs told = -3 then 1 else 0
theorem vdB_vd (os : Nat) (z : Option Nat) (a b : List Row) : vdB os z.isSome a b = vd os z a b := by
  unfold vdB vd
  cases z <;> simp

set_option maxRecDepth 20000 in
set_option maxHeartbeats 4000000 in
theorem cc_Md_dif {h : px_H} {c os : Nat} {lg td lo lt : List Row} {om : List Nat} {ro : List Row} {wn : List Nat} {ga : gA} {gp : gP} {gq : gQ} {gh : gH} {gw : gW} {gu : gU} {gv : gV} (H0 : h.2.2 269 = some (12, mB ga gp gq (gh.1, nI lg.length) gw gu gv)) (H1 : px_pa h 292 54 100 rK lg) (H2 : px_pa h 293 50 100 rV lg) (H3 : px_pa h 294 50 100 rT lg) (H4 : px_pa h 297 54 100 rK lo) (H5 : px_pa h 298 50 100 rV lo) (H6 : px_pa h 299 50 100 rT lo) (H7 : px_pa h 279 50 8 vN om) (H8 : px_pa h 280 54 128 rK ro) (H9 : px_pa h 281 53 128 rV ro) (H10 : px_pa h 282 53 128 rT ro) (H11 : px_pa h 300 54 100 rK lt) (H12 : px_pa h 301 50 100 rV lt) (H13 : px_pa h 302 50 100 rT lt) (H14 : px_pa h 283 52 8 vN wn) (p0 : c < 8) (p1 : om.length = 8 ∧ ro.length = 128) (p2 : om.getD c 0 = td.length) (p3 : inR ro c td) (p4 : td.length ≤ 16) (p5 : ∀ x ∈ td, rwOk x) (p6 : ∀ x ∈ lg, rwOk x) (p7 : wn.length = 8 ∧ wn.getD c 0 = os) (p8 : os < 65536) : px_wp 165 [.ref (269), .int (nI c)] h (fun h1 r => r = some (.int (fdiff os lg td)) ∧ h1.2.2 269 = some (12, mB ga gp gq (gh.1, nI lg.length) gw (gu.1, nI lg.length, nI td.length) gv) ∧ px_pa h1 297 54 100 rK (srt os lg) ∧ px_pa h1 298 50 100 rV (srt os lg) ∧ px_pa h1 299 50 100 rT (srt os lg) ∧ px_pa h1 300 54 100 rK (srt os td) ∧ px_pa h1 301 50 100 rV (srt os td) ∧ px_pa h1 302 50 100 rT (srt os td) ∧ px_fj 269 1 297 6 h h1) := by
  have fr0 : px_fj 269 1 297 6 h h := fj_rf _ _ _ _ _
  show px_to 165 0 [some (.ref (269)), some (.int (nI c))] [] h _
  refine e_aload_n f_165_0 rfl rfl ?_
  refine e_callV (As := []) (rest := []) f_165_1 rfl rfl rfl (Nat.le_of_ble_eq_true rfl) (Nat.le_of_ble_eq_true rfl) H0 rfl (Nat.le_of_ble_eq_true rfl) (cc_Md_tkG (lg := lg) (lo := lo) (ga := ga) (gp := gp) (gq := gq) (gh := (gh.1, nI lg.length)) (gw := gw) (gu := gu) (gv := gv) H0 H1 H2 H3 H4 H5 H6 (p6)) rfl (fun h1 r2 q3 => ?_)
  obtain ⟨rfl, g4, g5, g6, g7, fx8⟩ := q3
  obtain ⟨hm9, fa10, fb11⟩ := fj_mid fx8
  have fr12 : px_fj 269 1 297 6 h hm9 := fj_tr fr0 fa10 (by omega)
  have fr13 : px_fj 269 1 297 6 h h1 := fj_tr fr12 fb11 (by omega)
  show px_to 165 4 [some (.ref (269)), some (.int (nI c))] [] h1 _
  refine e_aload_n f_165_4 rfl rfl ?_
  refine e_iload_n f_165_5 rfl rfl ?_
  have g14 : px_pa hm9 279 50 8 vN om := pa_fi H7 fa10 (by omega)
  have g15 : px_pa h1 279 50 8 vN om := pa_fi g14 fb11 (by omega)
  have g16 : px_pa hm9 280 54 128 rK ro := pa_fi H8 fa10 (by omega)
  have g17 : px_pa h1 280 54 128 rK ro := pa_fi g16 fb11 (by omega)
  have g18 : px_pa hm9 281 53 128 rV ro := pa_fi H9 fa10 (by omega)
  have g19 : px_pa h1 281 53 128 rV ro := pa_fi g18 fb11 (by omega)
  have g20 : px_pa hm9 282 53 128 rT ro := pa_fi H10 fa10 (by omega)
  have g21 : px_pa h1 282 53 128 rT ro := pa_fi g20 fb11 (by omega)
  have g22 : px_pa hm9 300 54 100 rK lt := pa_fi H11 fa10 (by omega)
  have g23 : px_pa h1 300 54 100 rK lt := pa_fi g22 fb11 (by omega)
  have g24 : px_pa hm9 301 50 100 rV lt := pa_fi H12 fa10 (by omega)
  have g25 : px_pa h1 301 50 100 rV lt := pa_fi g24 fb11 (by omega)
  have g26 : px_pa hm9 302 50 100 rT lt := pa_fi H13 fa10 (by omega)
  have g27 : px_pa h1 302 50 100 rT lt := pa_fi g26 fb11 (by omega)
  refine e_callV (As := [.int (nI c)]) (rest := []) f_165_6 rfl rfl rfl (Nat.le_of_ble_eq_true rfl) (Nat.le_of_ble_eq_true rfl) g4 rfl (Nat.le_of_ble_eq_true rfl) (cc_Md_tkT (c := c) (td := td) (lt := lt) (om := om) (ro := ro) (ga := ga) (gp := gp) (gq := gq) (gh := (gh.1, nI lg.length)) (gw := gw) (gu := (gu.1, nI lg.length, gu.2.2)) (gv := gv) g4 g15 g17 g19 g21 g23 g25 g27 (p0) (p1) (p2) (p3) (p4) (p5)) rfl (fun h28 r29 q30 => ?_)
  obtain ⟨rfl, g31, g32, g33, g34, fx35⟩ := q30
  obtain ⟨hm36, fa37, fb38⟩ := fj_mid fx35
  have fr39 : px_fj 269 1 297 6 h hm36 := fj_tr fr13 fa37 (by omega)
  have fr40 : px_fj 269 1 297 6 h h28 := fj_tr fr39 fb38 (by omega)
  show px_to 165 9 [some (.ref (269)), some (.int (nI c))] [] h28 _
  refine e_aload_n f_165_9 rfl rfl ?_
  refine e_getf f_165_10 g31 rfl rfl ?_
  refine e_iload_n f_165_13 rfl rfl ?_
  have g41 : px_pa hm9 283 52 8 vN wn := pa_fi H14 fa10 (by omega)
  have g42 : px_pa h1 283 52 8 vN wn := pa_fi g41 fb11 (by omega)
  have g43 : px_pa hm36 283 52 8 vN wn := pa_fi g42 fa37 (by omega)
  have g44 : px_pa h28 283 52 8 vN wn := pa_fi g43 fb38 (by omega)
  refine e_caload_p (xs := wn) f_165_14 g44 (d := 0) (by first | omega | (simp only [List.length_set]; omega)) rfl ?_
  show px_to 165 15 [some (.ref (269)), some (.int (nI c))] [.int (nI (wn.getD c 0))] h28 _
  rw [p7.2]
  refine e_bipush (v := nI 126) f_165_15 (by decide) rfl ?_
  refine e_icmp_ne f_165_17 rfl (fun c_17 => ?_) (fun c_17 => ?_)
  · skip
    have c_17 : os ≠ 126 := cv_ne c_17
    have es : ∀ l, srt os l = l := fun l => if_neg c_17
    have g45 : px_pa hm36 297 54 100 rK lg := pa_fi g5 fa37 (by omega)
    have g46 : px_pa h28 297 54 100 rK lg := pa_fi g45 fb38 (by omega)
    have g47 : px_pa h28 297 54 100 rK (srt os lg) := pa_eq g46 ((es lg).symm)
    have g48 : px_pa hm36 298 50 100 rV lg := pa_fi g6 fa37 (by omega)
    have g49 : px_pa h28 298 50 100 rV lg := pa_fi g48 fb38 (by omega)
    have g50 : px_pa h28 298 50 100 rV (srt os lg) := pa_eq g49 ((es lg).symm)
    have g51 : px_pa hm36 299 50 100 rT lg := pa_fi g7 fa37 (by omega)
    have g52 : px_pa h28 299 50 100 rT lg := pa_fi g51 fb38 (by omega)
    have g53 : px_pa h28 299 50 100 rT (srt os lg) := pa_eq g52 ((es lg).symm)
    have g54 : px_pa h28 300 54 100 rK (srt os td) := pa_eq g32 ((es td).symm)
    have g55 : px_pa h28 301 50 100 rV (srt os td) := pa_eq g33 ((es td).symm)
    have g56 : px_pa h28 302 50 100 rT (srt os td) := pa_eq g34 ((es td).symm)
    have g57 : h28.2.2 269 = some (12, mB ga gp gq (gh.1, nI lg.length) gw (gu.1, nI ((srt os lg).length), nI ((srt os td).length)) gv) := by rw [srt_len, srt_len]; exact g31
    have oks : (∀ x ∈ srt os lg, rwOk x) ∧ ∀ x ∈ srt os td, rwOk x := by rw [es, es]; exact ⟨p6, p5⟩
    refine e_aload_n f_165_24 rfl rfl ?_
    refine e_callV (As := []) (rest := []) f_165_25 rfl rfl rfl (Nat.le_of_ble_eq_true rfl) (Nat.le_of_ble_eq_true rfl) g57 rfl (Nat.le_of_ble_eq_true rfl) (cc_Md_unl (lo := (srt os lg)) (lt := (srt os td)) (ga := ga) (gp := gp) (gq := gq) (gh := (gh.1, nI lg.length)) (gw := gw) (gu := (gu.1, nI ((srt os lg).length), nI ((srt os td).length))) (gv := gv) g57 g47 g50 g53 g54 g55 g56 (oks)) rfl (fun h58 r59 q60 => ?_)
    obtain ⟨rfl, qe⟩ := q60
    have qe := qe.symm
    subst qe
    show px_to 165 28 [some (.ref (269)), some (.int (nI c))] [.int (rfd (srt os lg) (srt os td) 0)] h28 _
    refine e_iret f_165_28 rfl (rfl) ?_
    have g61 : h28.2.2 269 = some (12, mB ga gp gq (gh.1, nI lg.length) gw (gu.1, nI lg.length, nI td.length) gv) := by have z := g57; rw [srt_len, srt_len] at z; exact z
    first | (exfalso; omega) | exact ⟨congrArg (fun z => some (Value.int z)) (fdiff_srt _ _ _).symm, g61, g47, g50, g53, g54, g55, g56, fr40⟩
  · skip
    have c_17 : os = 126 := cv_nne (by omega) (by omega) c_17
    refine e_aload_n f_165_20 rfl rfl ?_
    have g62 : px_pa hm36 297 54 100 rK lg := pa_fi g5 fa37 (by omega)
    have g63 : px_pa h28 297 54 100 rK lg := pa_fi g62 fb38 (by omega)
    have g64 : px_pa hm36 298 50 100 rV lg := pa_fi g6 fa37 (by omega)
    have g65 : px_pa h28 298 50 100 rV lg := pa_fi g64 fb38 (by omega)
    have g66 : px_pa hm36 299 50 100 rT lg := pa_fi g7 fa37 (by omega)
    have g67 : px_pa h28 299 50 100 rT lg := pa_fi g66 fb38 (by omega)
    refine e_callV (As := []) (rest := []) f_165_21 rfl rfl rfl (Nat.le_of_ble_eq_true rfl) (Nat.le_of_ble_eq_true rfl) g31 rfl (Nat.le_of_ble_eq_true rfl) (cc_Md_sortB (lo := lg) (lt := td) (ga := ga) (gp := gp) (gq := gq) (gh := (gh.1, nI lg.length)) (gw := gw) (gu := (gu.1, nI lg.length, nI td.length)) (gv := gv) g31 g63 g65 g67 g32 g33 g34 (p6) (p5)) rfl (fun h68 r69 q70 => ?_)
    obtain ⟨rfl, g71, g72, g73, g74, g75, g76, fx77⟩ := q70
    have fr78 : px_fj 269 1 297 6 h h68 := fj_tr fr40 fx77 (by omega)
    show px_to 165 24 [some (.ref (269)), some (.int (nI c))] [] h68 _
    have es : ∀ l, srt os l = rsort l := fun l => if_pos c_17
    have g79 : h68.2.2 269 = some (12, mB ga gp gq (gh.1, nI lg.length) gw (gu.1, nI lg.length, nI td.length) gv) := fi_at g31 fx77 (by omega)
    have g80 : px_pa h68 297 54 100 rK (srt os lg) := pa_eq g71 ((es lg).symm)
    have g81 : px_pa h68 298 50 100 rV (srt os lg) := pa_eq g72 ((es lg).symm)
    have g82 : px_pa h68 299 50 100 rT (srt os lg) := pa_eq g73 ((es lg).symm)
    have g83 : px_pa h68 300 54 100 rK (srt os td) := pa_eq g74 ((es td).symm)
    have g84 : px_pa h68 301 50 100 rV (srt os td) := pa_eq g75 ((es td).symm)
    have g85 : px_pa h68 302 50 100 rT (srt os td) := pa_eq g76 ((es td).symm)
    have g86 : h68.2.2 269 = some (12, mB ga gp gq (gh.1, nI lg.length) gw (gu.1, nI ((srt os lg).length), nI ((srt os td).length)) gv) := by rw [srt_len, srt_len]; exact g79
    have oks : (∀ x ∈ srt os lg, rwOk x) ∧ ∀ x ∈ srt os td, rwOk x := by rw [es, es]; exact ⟨rsort_ok p6, rsort_ok p5⟩
    refine e_aload_n f_165_24 rfl rfl ?_
    refine e_callV (As := []) (rest := []) f_165_25 rfl rfl rfl (Nat.le_of_ble_eq_true rfl) (Nat.le_of_ble_eq_true rfl) g86 rfl (Nat.le_of_ble_eq_true rfl) (cc_Md_unl (lo := (srt os lg)) (lt := (srt os td)) (ga := ga) (gp := gp) (gq := gq) (gh := (gh.1, nI lg.length)) (gw := gw) (gu := (gu.1, nI ((srt os lg).length), nI ((srt os td).length))) (gv := gv) g86 g80 g81 g82 g83 g84 g85 (oks)) rfl (fun h87 r88 q89 => ?_)
    obtain ⟨rfl, qe⟩ := q89
    have qe := qe.symm
    subst qe
    show px_to 165 28 [some (.ref (269)), some (.int (nI c))] [.int (rfd (srt os lg) (srt os td) 0)] h68 _
    refine e_iret f_165_28 rfl (rfl) ?_
    have g90 : h68.2.2 269 = some (12, mB ga gp gq (gh.1, nI lg.length) gw (gu.1, nI lg.length, nI td.length) gv) := by have z := g86; rw [srt_len, srt_len] at z; exact z
    first | (exfalso; omega) | exact ⟨congrArg (fun z => some (Value.int z)) (fdiff_srt _ _ _).symm, g90, g80, g81, g82, g83, g84, g85, fr78⟩

set_option maxRecDepth 20000 in
set_option maxHeartbeats 4000000 in
theorem cc_Md_vd {h : px_H} {zz : Bool} {c os : Nat} {lg td lo lt : List Row} {om : List Nat} {ro : List Row} {wn : List Nat} {ga : gA} {gp : gP} {gq : gQ} {gh : gH} {gw : gW} {gu : gU} {gv : gV} (H0 : h.2.2 269 = some (12, mB ga gp (gq.1, zz, gq.2.2.1, gq.2.2.2.1, gq.2.2.2.2.1, gq.2.2.2.2.2.1, gq.2.2.2.2.2.2) (gh.1, nI lg.length) gw gu gv)) (H1 : px_pa h 292 54 100 rK lg) (H2 : px_pa h 293 50 100 rV lg) (H3 : px_pa h 294 50 100 rT lg) (H4 : px_pa h 297 54 100 rK lo) (H5 : px_pa h 298 50 100 rV lo) (H6 : px_pa h 299 50 100 rT lo) (H7 : px_pa h 279 50 8 vN om) (H8 : px_pa h 280 54 128 rK ro) (H9 : px_pa h 281 53 128 rV ro) (H10 : px_pa h 282 53 128 rT ro) (H11 : px_pa h 300 54 100 rK lt) (H12 : px_pa h 301 50 100 rV lt) (H13 : px_pa h 302 50 100 rT lt) (H14 : px_pa h 283 52 8 vN wn) (p0 : c < 8) (p1 : om.length = 8 ∧ ro.length = 128) (p2 : om.getD c 0 = td.length) (p3 : inR ro c td) (p4 : td.length ≤ 16) (p5 : ∀ x ∈ td, rwOk x) (p6 : ∀ x ∈ lg, rwOk x) (p7 : wn.length = 8 ∧ wn.getD c 0 = os) (p8 : os < 65536) : px_wp 166 [.ref (269), .int (nI c)] h (fun h1 r => r = some (.int (nI (vdB os zz lg td))) ∧ h1.2.2 269 = some (12, mB ga gp (gq.1, zz, gq.2.2.1, gq.2.2.2.1, gq.2.2.2.2.1, gq.2.2.2.2.2.1, gq.2.2.2.2.2.2) (gh.1, nI lg.length) gw (gu.1, nI lg.length, nI td.length) gv) ∧ px_pa h1 297 54 100 rK (srt os lg) ∧ px_pa h1 298 50 100 rV (srt os lg) ∧ px_pa h1 299 50 100 rT (srt os lg) ∧ px_pa h1 300 54 100 rK (srt os td) ∧ px_pa h1 301 50 100 rV (srt os td) ∧ px_pa h1 302 50 100 rT (srt os td) ∧ px_fj 269 1 297 6 h h1) := by
  have fr0 : px_fj 269 1 297 6 h h := fj_rf _ _ _ _ _
  show px_to 166 0 [some (.ref (269)), some (.int (nI c)), none] [] h _
  refine e_aload_n f_166_0 rfl rfl ?_
  refine e_iload_n f_166_1 rfl rfl ?_
  refine e_callV (As := [.int (nI c)]) (rest := []) f_166_2 rfl rfl rfl (Nat.le_of_ble_eq_true rfl) (Nat.le_of_ble_eq_true rfl) H0 rfl (Nat.le_of_ble_eq_true rfl) (cc_Md_dif (c := c) (os := os) (lg := lg) (td := td) (lo := lo) (lt := lt) (om := om) (ro := ro) (wn := wn) (ga := ga) (gp := gp) (gq := (gq.1, zz, gq.2.2.1, gq.2.2.2.1, gq.2.2.2.2.1, gq.2.2.2.2.2.1, gq.2.2.2.2.2.2)) (gh := (gh.1, nI lg.length)) (gw := gw) (gu := gu) (gv := gv) H0 H1 H2 H3 H4 H5 H6 H7 H8 H9 H10 H11 H12 H13 H14 (p0) (p1) (p2) (p3) (p4) (p5) (p6) (p7) (p8)) rfl (fun h1 r2 q3 => ?_)
  obtain ⟨rfl, g4, g5, g6, g7, g8, g9, g10, fx11⟩ := q3
  obtain ⟨hm12, fa13, fb14⟩ := fj_mid fx11
  have fr15 : px_fj 269 1 297 6 h hm12 := fj_tr fr0 fa13 (by omega)
  have fr16 : px_fj 269 1 297 6 h h1 := fj_tr fr15 fb14 (by omega)
  show px_to 166 5 [some (.ref (269)), some (.int (nI c)), none] [.int (fdiff os lg td)] h1 _
  refine e_bipush (v := (-3)) f_166_5 (by decide) rfl ?_
  refine e_icmp_ne f_166_7 rfl (fun c_7 => ?_) (fun c_7 => ?_)
  · skip
    refine e_iconst (v := nI 0) f_166_14 (by decide) rfl ?_
    refine e_istore_n (L' := [some (.ref (269)), some (.int (nI c)), some (.int (nI 0))]) f_166_15 (Nat.le_of_ble_eq_true rfl) rfl rfl ?_
    refine e_aload_n f_166_16 rfl rfl ?_
    refine e_getf f_166_17 g4 rfl rfl ?_
    refine e_iload_n f_166_20 rfl rfl ?_
    have g17 : px_pa hm12 283 52 8 vN wn := pa_fi H14 fa13 (by omega)
    have g18 : px_pa h1 283 52 8 vN wn := pa_fi g17 fb14 (by omega)
    refine e_caload_p (xs := wn) f_166_21 g18 (d := 0) (by first | omega | (simp only [List.length_set]; omega)) rfl ?_
    show px_to 166 22 [some (.ref (269)), some (.int (nI c)), some (.int (nI 0))] [.int (nI (wn.getD c 0))] h1 _
    rw [p7.2]
    refine e_bipush (v := nI 33) f_166_22 (by decide) rfl ?_
    refine e_icmp_ne f_166_24 rfl (fun c_24 => ?_) (fun c_24 => ?_)
    · skip
      have c_24 : os ≠ 33 := cv_ne c_24
      refine e_aload_n f_166_46 rfl rfl ?_
      refine e_getf f_166_47 g4 rfl rfl ?_
      show px_to 166 50 [some (.ref (269)), some (.int (nI c)), some (.int (nI 0))] [.int (bI zz)] h1 _
      refine e_if_eq f_166_50 rfl (fun c_50 => ?_) (fun c_50 => ?_)
      · skip
        have c_50 : zz = false := bI_f c_50
        refine e_iload_n f_166_57 rfl rfl ?_
        refine e_if_eq_t f_166_58 (by decide) ?_
        refine e_iconst (v := nI 0) f_166_65 (by decide) rfl ?_
        refine e_iret f_166_66 rfl (rfl) ?_
        first | (exfalso; omega) | exact ⟨congrArg (fun z => some (Value.int (nI z))) (show 0 = vdB os zz lg td by unfold vdB; rw [if_neg c_24, if_neg (by rw [c_50]; decide), if_neg c_7]), g4, g5, g6, g7, g8, g9, g10, fr16⟩
      · skip
        have c_50 : zz = true := bI_t' c_50
        refine e_iconst (v := nI 2) f_166_53 (by decide) rfl ?_
        refine e_goto f_166_54 ?_
        refine e_iret f_166_66 rfl (rfl) ?_
        first | (exfalso; omega) | exact ⟨congrArg (fun z => some (Value.int (nI z))) (show 2 = vdB os zz lg td by unfold vdB; rw [if_neg c_24, if_pos c_50]), g4, g5, g6, g7, g8, g9, g10, fr16⟩
    · skip
      have c_24 : os = 33 := cv_nne (by omega) (by omega) c_24
      refine e_aload_n f_166_27 rfl rfl ?_
      refine e_getf f_166_28 g4 rfl rfl ?_
      show px_to 166 31 [some (.ref (269)), some (.int (nI c)), some (.int (nI 0))] [.int (bI zz)] h1 _
      refine e_if_eq f_166_31 rfl (fun c_31 => ?_) (fun c_31 => ?_)
      · skip
        have c_31 : zz = false := bI_f c_31
        refine e_iconst (v := nI 0) f_166_42 (by decide) rfl ?_
        refine e_goto f_166_43 ?_
        refine e_iret f_166_66 rfl (rfl) ?_
        first | (exfalso; omega) | exact ⟨congrArg (fun z => some (Value.int (nI z))) (show 0 = vdB os zz lg td by unfold vdB; rw [if_pos c_24, if_neg (fun z => absurd z.1 (by rw [c_31]; decide))]), g4, g5, g6, g7, g8, g9, g10, fr16⟩
      · skip
        have c_31 : zz = true := bI_t' c_31
        refine e_iload_n f_166_34 rfl rfl ?_
        refine e_if_eq_t f_166_35 (by decide) ?_
        refine e_iconst (v := nI 0) f_166_42 (by decide) rfl ?_
        refine e_goto f_166_43 ?_
        refine e_iret f_166_66 rfl (rfl) ?_
        first | (exfalso; omega) | exact ⟨congrArg (fun z => some (Value.int (nI z))) (show 0 = vdB os zz lg td by unfold vdB; rw [if_pos c_24, if_neg (fun z => absurd z.2 (by exact c_7))]), g4, g5, g6, g7, g8, g9, g10, fr16⟩
  · skip
    refine e_iconst (v := nI 1) f_166_10 (by decide) rfl ?_
    refine e_goto f_166_11 ?_
    refine e_istore_n (L' := [some (.ref (269)), some (.int (nI c)), some (.int (nI 1))]) f_166_15 (Nat.le_of_ble_eq_true rfl) rfl rfl ?_
    refine e_aload_n f_166_16 rfl rfl ?_
    refine e_getf f_166_17 g4 rfl rfl ?_
    refine e_iload_n f_166_20 rfl rfl ?_
    have g19 : px_pa hm12 283 52 8 vN wn := pa_fi H14 fa13 (by omega)
    have g20 : px_pa h1 283 52 8 vN wn := pa_fi g19 fb14 (by omega)
    refine e_caload_p (xs := wn) f_166_21 g20 (d := 0) (by first | omega | (simp only [List.length_set]; omega)) rfl ?_
    show px_to 166 22 [some (.ref (269)), some (.int (nI c)), some (.int (nI 1))] [.int (nI (wn.getD c 0))] h1 _
    rw [p7.2]
    refine e_bipush (v := nI 33) f_166_22 (by decide) rfl ?_
    refine e_icmp_ne f_166_24 rfl (fun c_24 => ?_) (fun c_24 => ?_)
    · skip
      have c_24 : os ≠ 33 := cv_ne c_24
      refine e_aload_n f_166_46 rfl rfl ?_
      refine e_getf f_166_47 g4 rfl rfl ?_
      show px_to 166 50 [some (.ref (269)), some (.int (nI c)), some (.int (nI 1))] [.int (bI zz)] h1 _
      refine e_if_eq f_166_50 rfl (fun c_50 => ?_) (fun c_50 => ?_)
      · skip
        have c_50 : zz = false := bI_f c_50
        refine e_iload_n f_166_57 rfl rfl ?_
        refine e_if_eq_f f_166_58 (by decide) rfl ?_
        refine e_iconst (v := nI 1) f_166_61 (by decide) rfl ?_
        refine e_goto f_166_62 ?_
        refine e_iret f_166_66 rfl (rfl) ?_
        first | (exfalso; omega) | exact ⟨congrArg (fun z => some (Value.int (nI z))) (show 1 = vdB os zz lg td by unfold vdB; rw [if_neg c_24, if_neg (by rw [c_50]; decide), if_pos (Classical.not_not.mp c_7)]), g4, g5, g6, g7, g8, g9, g10, fr16⟩
      · skip
        have c_50 : zz = true := bI_t' c_50
        refine e_iconst (v := nI 2) f_166_53 (by decide) rfl ?_
        refine e_goto f_166_54 ?_
        refine e_iret f_166_66 rfl (rfl) ?_
        first | (exfalso; omega) | exact ⟨congrArg (fun z => some (Value.int (nI z))) (show 2 = vdB os zz lg td by unfold vdB; rw [if_neg c_24, if_pos c_50]), g4, g5, g6, g7, g8, g9, g10, fr16⟩
    · skip
      have c_24 : os = 33 := cv_nne (by omega) (by omega) c_24
      refine e_aload_n f_166_27 rfl rfl ?_
      refine e_getf f_166_28 g4 rfl rfl ?_
      show px_to 166 31 [some (.ref (269)), some (.int (nI c)), some (.int (nI 1))] [.int (bI zz)] h1 _
      refine e_if_eq f_166_31 rfl (fun c_31 => ?_) (fun c_31 => ?_)
      · skip
        have c_31 : zz = false := bI_f c_31
        refine e_iconst (v := nI 0) f_166_42 (by decide) rfl ?_
        refine e_goto f_166_43 ?_
        refine e_iret f_166_66 rfl (rfl) ?_
        first | (exfalso; omega) | exact ⟨congrArg (fun z => some (Value.int (nI z))) (show 0 = vdB os zz lg td by unfold vdB; rw [if_pos c_24, if_neg (fun z => absurd z.1 (by rw [c_31]; decide))]), g4, g5, g6, g7, g8, g9, g10, fr16⟩
      · skip
        have c_31 : zz = true := bI_t' c_31
        refine e_iload_n f_166_34 rfl rfl ?_
        refine e_if_eq_f f_166_35 (by decide) rfl ?_
        refine e_iconst (v := nI 1) f_166_38 (by decide) rfl ?_
        refine e_goto f_166_39 ?_
        refine e_iret f_166_66 rfl (rfl) ?_
        first | (exfalso; omega) | exact ⟨congrArg (fun z => some (Value.int (nI z))) (show 1 = vdB os zz lg td by unfold vdB; rw [if_pos c_24, if_pos ⟨c_31, (Classical.not_not.mp c_7)⟩]), g4, g5, g6, g7, g8, g9, g10, fr16⟩
