theorem take_left2 {α : Type} {a b : List α} {n : Nat} (h : a.length = n) : (a ++ b).take n = a := by rw [← h]; exact List.take_left
theorem fin_z {j : List St} {E : List Ev} {tl : List Int32} {lg lh : List Row} {y : RS} (hy : perfL j (lks false E) (lks true E) E [] (s0 j tl) = y) (hz : y.1.2.2.2.2 ≠ none) (ho : y.1.2.2.1 = lg ++ lh) (hg : lg.length = y.2.2.1) : runO j E = (y.1.1, lg, y.1.2.2.2.2, y.2.2.2.2) ∧ (runS j E tl).1.2.2.2.1 = y.1.2.2.2.1 := by
  have e : runS j E tl = cutS y := by unfold runS; rw [hy]; unfold lastS; rw [if_neg hz]
  rw [← runO_eq j E tl, e]
  unfold cutS outOf gvS
  rw [if_neg hz]
  dsimp only
  rw [ho, take_left2 hg]
  exact ⟨rfl, rfl⟩
theorem fin_n {j : List St} {E : List Ev} {tl : List Int32} {lg lh : List Row} {y : RS} {x : RX} (hy : perfL j (lks false E) (lks true E) E [] (s0 j tl) = y) (hz : y.1.2.2.2.2 = none) (hx : tellGo j 5000 7 0 y.1 = x) (ho : x.2.2.1 = lg ++ lh) (hg : lg.length = y.2.2.1) : runO j E = (x.1, if x.2.2.2.2 = none then lg ++ lh else lg, x.2.2.2.2, y.2.2.2.2) ∧ (runS j E tl).1.2.2.2.1 = x.2.2.2.1 := by
  have e : runS j E tl = cutS (x, (y.2.1.1, y.2.1.2.1, nI 5000), y.2.2.1, y.2.2.2.1, y.2.2.2.2) := by unfold runS; rw [hy]; unfold lastS; rw [if_pos hz, hx]
  rw [← runO_eq j E tl, e]
  unfold cutS outOf gvS
  dsimp only
  by_cases c : x.2.2.2.2 = none
  · rw [if_pos c, if_pos c, List.take_length, ho]
    exact ⟨rfl, rfl⟩
  · rw [if_neg c, if_neg c, ho, take_left2 hg]
    exact ⟨rfl, rfl⟩

set_option maxRecDepth 20000 in
set_option maxHeartbeats 4000000 in
theorem ll_Md_runM {P : px_H → Option Value → Prop} {h0 : px_H} {y : RS} {ga : gA} {gp : gP} {gu : gU} {gv : gV} {j : List St} {la lb cb : Bool} {ev es : List Ev} {pl : List Nat} {c : Nat}  (K0 : px_pa h0 275 52 192 evS es) (K1 : px_pa h0 276 54 192 evK es) (K2 : px_pa h0 277 53 192 evV es) (K3 : px_pa h0 278 53 192 evT es) (K4 : px_pa h0 284 52 6 stS j) (K5 : px_pa h0 285 52 6 stA j) (K6 : px_pa h0 286 50 6 stN j) (K7 : px_pa h0 296 50 24 vN pl) (hc : c < 8) (hes : es.length = 192) (hin : inE es c ev) (h24 : ev.length ≤ 24) (hok : ∀ e ∈ ev, okEv e) (hpl : ∀ p ∈ pl, p < ev.length) (hj : okZ j) (hLA : ∀ e ∈ (evs ev pl), e.1 = 104 → la = true) (hLB : ∀ e ∈ (evs ev pl), e.1 = 72 → lb = true) (kx : ∀ g lg asv, pRZ g ga gp (nI pl.length, gu.2.1, gu.2.2) gv j y.2.2.2.2 la lb cb lg y.2.1.1 y.2.1.2.1 y.2.1.2.2 y.1 → px_pa g 288 50 3070 Value.int asv → px_pa g 292 54 100 rK lg → px_pa g 293 50 100 rV lg → px_pa g 294 50 100 rT lg → asv.length = 3070 → lg.length = y.2.2.1 → okR j y → okS9 y → (y.1.2.2.2.2 = none → PB j y.1 96) → px_fj 269 1 287 9 h0 g → px_to 156 294 [some (.ref (269)), some (.int (nI c)), none, none, none, none] [] g P) : ∀ (d : Nat) (k : Nat) (fr : Nat) (s : RS) (lg : List Row) (asv : List Int32) (g : px_H), (pl.length ≤ k + d) → (fr ≤ k ∧ k ≤ pl.length) → (perfL j la lb ((evs ev pl).drop k) (((evs ev pl).take k).drop fr) s = y) → (inv j s lg.length asv k fr) → (∀ q, fr ≤ q → q < k → ((evs ev pl).getD q (0, 0, 0, 0)).1 ≠ 107) → pRZ g ga gp (nI pl.length, gu.2.1, gu.2.2) gv j s.2.2.2.2 la lb cb lg s.2.1.1 s.2.1.2.1 s.2.1.2.2 s.1 → px_pa g 288 50 3070 Value.int asv → px_pa g 292 54 100 rK lg → px_pa g 293 50 100 rV lg → px_pa g 294 50 100 rT lg → px_fj 269 1 287 9 h0 g → px_to 156 107 [some (.ref (269)), some (.int (nI c)), some (.int (nI fr)), some (.int (nI k)), none, none] [] g P := by
  intro d
  induction d using Nat.strongRecOn with
  | ind d ih =>
    intro k fr s lg asv g q0 q1 q2 q3 q4 G0 G1 G2 G3 G4 frg
    have lp := pa_len K7
    have h6 := hj.1.1
    refine e_iload_n f_156_107 rfl rfl ?_
    refine e_aload_n f_156_108 rfl rfl ?_
    obtain ⟨gw1, sl2, lh3, cv4, g5, g6, g7, g8, g9, g10, hR11⟩ := id G0
    refine e_getf f_156_109 g5 rfl rfl ?_
    show px_to 156 112 [some (.ref (269)), some (.int (nI c)), some (.int (nI fr)), some (.int (nI k)), none, none] [.int (nI pl.length), .int (nI k)] g _
    refine e_icmp_ge f_156_112 rfl (fun c_112 => ?_) (fun c_112 => ?_)
    · skip
      have c_112 : pl.length ≤ k := cv_le (by omega) (by omega) c_112
      have g12 : pRZ g ga gp (nI pl.length, gu.2.1, gu.2.2) gv j s.2.2.2.2 la lb cb lg s.2.1.1 s.2.1.2.1 s.2.1.2.2 s.1 := by exact ⟨_, _, _, _, g5, g6, g7, g8, g9, g10, hR11⟩
      refine px_to_L (L := [some (.ref (269)), some (.int (nI c)), none, none, none, none]) ⟨Or.inr rfl, Or.inr rfl, Or.inl rfl, Or.inl rfl, Or.inr rfl, Or.inr rfl, trivial⟩ ?_
      have ey : y = s := by rw [← q2, List.drop_eq_nil_of_le (by rw [evs_len]; omega)]; rfl
      rw [ey] at kx
      exact kx g lg asv g12 G1 G2 G3 G4 q3.2.2.2.1.1 q3.2.2.2.2.1 q3.1 q3.2.1 (fun z => PB_le (q3.2.2.2.2.2.1 z) (by omega)) frg
    · skip
      have c_112 : k < pl.length := cv_nle (by omega) (by omega) c_112
      refine e_aload_n f_156_115 rfl rfl ?_
      refine e_getf f_156_116 g5 rfl rfl ?_
      show px_to 156 119 [some (.ref (269)), some (.int (nI c)), some (.int (nI fr)), some (.int (nI k)), none, none] [.int (bI s.1.2.2.2.2.isSome)] g _
      refine e_if_ne f_156_119 rfl (fun c_119 => ?_) (fun c_119 => ?_)
      · skip
        have c_119 : s.1.2.2.2.2.isSome = true := bI_t c_119
        have g13 : pRZ g ga gp (nI pl.length, gu.2.1, gu.2.2) gv j s.2.2.2.2 la lb cb lg s.2.1.1 s.2.1.2.1 s.2.1.2.2 s.1 := by exact ⟨_, _, _, _, g5, g6, g7, g8, g9, g10, hR11⟩
        refine px_to_L (L := [some (.ref (269)), some (.int (nI c)), none, none, none, none]) ⟨Or.inr rfl, Or.inr rfl, Or.inl rfl, Or.inl rfl, Or.inr rfl, Or.inr rfl, trivial⟩ ?_
        have ey : y = s := by rw [← q2]; exact perfL_z (some_t c_119)
        rw [ey] at kx
        exact kx g lg asv g13 G1 G2 G3 G4 q3.2.2.2.1.1 q3.2.2.2.2.1 q3.1 q3.2.1 (fun z => PB_le (q3.2.2.2.2.2.1 z) (by omega)) frg
      · skip
        have c_119 : s.1.2.2.2.2.isSome = false := bI_f' c_119
        have g14 : pRZ g ga gp (nI pl.length, gu.2.1, gu.2.2) gv j s.2.2.2.2 la lb cb lg s.2.1.1 s.2.1.2.1 s.2.1.2.2 s.1 := by exact ⟨_, _, _, _, g5, g6, g7, g8, g9, g10, hR11⟩
        have hz := some_f c_119
        have hpi : pl.getD k 0 < ev.length := hpl _ (getD_mem 0 (show k < pl.length by omega))
        have hEk : es.getD (24 * c + pl.getD k 0) (0, 0, 0, 0) = ((evs ev pl).getD k (0, 0, 0, 0)) := by rw [hin _ hpi, evs_get (show k < pl.length by omega)]
        have hoek : okEv ((evs ev pl).getD k (0, 0, 0, 0)) := by rw [evs_get (show k < pl.length by omega)]; exact hok _ (getD_mem _ hpi)
        have hs9k := hoek.1
        refine e_bipush (v := nI 24) f_156_122 (by decide) rfl ?_
        refine e_iload_n f_156_124 rfl rfl ?_
        refine e_imul (z := nI (24 * c)) f_156_125 (pk_mul _ _) rfl ?_
        refine e_aload_n f_156_126 rfl rfl ?_
        obtain ⟨gw15, sl16, lh17, cv18, g19, g20, g21, g22, g23, g24, hR25⟩ := id g14
        refine e_getf f_156_127 g19 rfl rfl ?_
        refine e_iload_n f_156_130 rfl rfl ?_
        obtain ⟨hm27, fa28, fb29⟩ := fj_mid frg
        have g26 : px_pa g 296 50 24 vN pl := pa_fi (pa_fi K7 fa28 (by omega)) fb29 (by omega)
        refine e_iaload_p (xs := pl) f_156_131 g26 (d := 0) (by first | omega | (simp only [List.length_set]; omega)) rfl ?_
        show px_to 156 132 [some (.ref (269)), some (.int (nI c)), some (.int (nI fr)), some (.int (nI k)), none, none] [.int (nI (pl.getD k 0)), .int (nI (24 * c))] g _
        refine e_iadd (z := nI (24 * c + pl.getD k 0)) f_156_132 (nI_add _ _) rfl ?_
        refine e_istore (L' := [some (.ref (269)), some (.int (nI c)), some (.int (nI fr)), some (.int (nI k)), some (.int (nI (24 * c + pl.getD k 0))), none]) f_156_133 (Nat.le_of_ble_eq_true rfl) rfl rfl ?_
        refine e_aload_n f_156_135 rfl rfl ?_
        refine e_getf f_156_136 g19 rfl rfl ?_
        refine e_iload f_156_139 rfl rfl ?_
        obtain ⟨hm31, fa32, fb33⟩ := fj_mid frg
        have g30 : px_pa g 275 52 192 evS es := pa_fi (pa_fi K0 fa32 (by omega)) fb33 (by omega)
        refine e_caload_p (xs := es) f_156_141 g30 (d := (0, 0, 0, 0)) (by first | omega | (simp only [List.length_set]; omega)) rfl ?_
        show px_to 156 142 [some (.ref (269)), some (.int (nI c)), some (.int (nI fr)), some (.int (nI k)), some (.int (nI (24 * c + pl.getD k 0))), none] [.int (nI ((es.getD (24 * c + pl.getD k 0) (0, 0, 0, 0)).1))] g _
        rw [hEk]
        refine e_bipush (v := nI 107) f_156_142 (by decide) rfl ?_
        refine e_icmp_ne f_156_144 rfl (fun c_144 => ?_) (fun c_144 => ?_)
        · skip
          have c_144 : ((evs ev pl).getD k (0, 0, 0, 0)).1 ≠ 107 := cv_ne c_144
          refine e_aload_n f_156_180 rfl rfl ?_
          refine e_getf f_156_181 g19 rfl rfl ?_
          refine e_iload f_156_184 rfl rfl ?_
          refine e_caload_p (xs := es) f_156_186 g30 (d := (0, 0, 0, 0)) (by first | omega | (simp only [List.length_set]; omega)) rfl ?_
          show px_to 156 187 [some (.ref (269)), some (.int (nI c)), some (.int (nI fr)), some (.int (nI k)), some (.int (nI (24 * c + pl.getD k 0))), none] [.int (nI ((es.getD (24 * c + pl.getD k 0) (0, 0, 0, 0)).1))] g _
          rw [hEk]
          refine e_bipush (v := nI 120) f_156_187 (by decide) rfl ?_
          refine e_icmp_ne f_156_189 rfl (fun c_189 => ?_) (fun c_189 => ?_)
          · skip
            have c_189 : ((evs ev pl).getD k (0, 0, 0, 0)).1 ≠ 120 := cv_ne c_189
            have g34 : pRZ g ga gp (nI pl.length, gu.2.1, gu.2.2) gv j s.2.2.2.2 la lb cb lg s.2.1.1 s.2.1.2.1 s.2.1.2.2 s.1 := by exact ⟨_, _, _, _, g19, g20, g21, g22, g23, g24, hR25⟩
            refine e_aload_n f_156_282 rfl rfl ?_
            refine e_iload f_156_283 rfl rfl ?_
            obtain ⟨gw35, sl36, lh37, cv38, g39, g40, g41, g42, g43, g44, hR45⟩ := id g34
            have g46 : pRZ g ga gp (nI pl.length, gu.2.1, gu.2.2) gv j s.2.2.2.2 la lb cb lg s.2.1.1 s.2.1.2.1 s.2.1.2.2 s.1 := ⟨_, _, _, _, g39, g40, g41, g42, g43, g44, hR45⟩
            obtain ⟨hm48, fa49, fb50⟩ := fj_mid frg
            have g47 : px_pa g 284 52 6 stS j := pa_fi (pa_fi K4 fa49 (by omega)) fb50 (by omega)
            obtain ⟨hm52, fa53, fb54⟩ := fj_mid frg
            have g51 : px_pa g 285 52 6 stA j := pa_fi (pa_fi K5 fa53 (by omega)) fb54 (by omega)
            obtain ⟨hm56, fa57, fb58⟩ := fj_mid frg
            have g55 : px_pa g 286 50 6 stN j := pa_fi (pa_fi K6 fa57 (by omega)) fb58 (by omega)
            obtain ⟨hm60, fa61, fb62⟩ := fj_mid frg
            have g59 : px_pa g 276 54 192 evK es := pa_fi (pa_fi K1 fa61 (by omega)) fb62 (by omega)
            obtain ⟨hm64, fa65, fb66⟩ := fj_mid frg
            have g63 : px_pa g 277 53 192 evV es := pa_fi (pa_fi K2 fa65 (by omega)) fb66 (by omega)
            obtain ⟨hm68, fa69, fb70⟩ := fj_mid frg
            have g67 : px_pa g 278 53 192 evT es := pa_fi (pa_fi K3 fa69 (by omega)) fb70 (by omega)
            refine e_callV (As := [.int (nI (24 * c + pl.getD k 0))]) (rest := []) f_156_285 rfl rfl rfl (Nat.le_of_ble_eq_true rfl) (Nat.le_of_ble_eq_true rfl) g39 rfl (Nat.le_of_ble_eq_true rfl) (cc_Md_doe (e := 24 * c + pl.getD k 0) (n := 4 * k) (s := s) (es := es) (ga := ga) (gp := gp) (gu := (nI pl.length, gu.2.1, gu.2.2)) (gv := gv) (j := j) (la := la) (lb := lb) (cb := cb) (lg := lg) g46 g47 g51 g55 g30 g59 g63 g67 (hj) (hes) (by omega) (by rw [hEk]; exact hoek) (by rw [hEk]; omega) (q3.1.1) (hz) (q3.2.2.2.2.2.1 hz) (by omega) (q3.2.1) (by rw [hEk]; exact ⟨hLA _ (getD_mem (0, 0, 0, 0) (show k < (evs ev pl).length by rw [evs_len]; omega)), hLB _ (getD_mem (0, 0, 0, 0) (show k < (evs ev pl).length by rw [evs_len]; omega))⟩)) rfl (fun h71 r72 q73 => ?_)
            obtain ⟨rfl, g74, fx75⟩ := q73
            obtain ⟨hm76, fa77, fb78⟩ := fl_mid fx75
            have fr79 : px_fj 269 1 287 9 h0 hm76 := fj_tr frg fa77 (by omega)
            obtain ⟨hm80, fa81, fb82⟩ := fl_mid fb78
            have fr83 : px_fj 269 1 287 9 h0 hm80 := fj_tr fr79 fa81 (by omega)
            obtain ⟨hm84, fa85, fb86⟩ := fl_mid fb82
            have fr87 : px_fj 269 1 287 9 h0 hm84 := fj_tr fr83 fa85 (by omega)
            have fb88 := fl_one fb86
            have fr89 : px_fj 269 1 287 9 h0 h71 := fj_tr fr87 fb88 (by omega)
            show px_to 156 288 [some (.ref (269)), some (.int (nI c)), some (.int (nI fr)), some (.int (nI k)), some (.int (nI (24 * c + pl.getD k 0))), none] [] h71 _
            have g90 : pRZ h71 ga gp (nI pl.length, gu.2.1, gu.2.2) gv j ((doEv j la lb ((evs ev pl).getD k (0, 0, 0, 0)) s).2.2.2.2) la lb cb lg ((doEv j la lb ((evs ev pl).getD k (0, 0, 0, 0)) s).2.1.1) ((doEv j la lb ((evs ev pl).getD k (0, 0, 0, 0)) s).2.1.2.1) ((doEv j la lb ((evs ev pl).getD k (0, 0, 0, 0)) s).2.1.2.2) ((doEv j la lb ((evs ev pl).getD k (0, 0, 0, 0)) s).1) := by rw [← hEk]; exact g74
            refine e_iinc (y := nI (k + 1)) (L' := [some (.ref (269)), some (.int (nI c)), some (.int (nI fr)), some (.int (nI (k + 1))), some (.int (nI (24 * c + pl.getD k 0))), none]) f_156_288 rfl (by rw [show Int32.ofInt 1 = nI 1 by decide]; exact (nI_add _ _)) rfl rfl ?_
            refine e_goto f_156_291 ?_
            have eP := q2
            rw [perfL_s (by rw [evs_len]; omega) hz] at eP
            rw [if_neg c_189, if_neg c_144, take_drop_app (by rw [evs_len]; omega) q1.1] at eP
            refine px_to_L (L := [some (.ref (269)), some (.int (nI c)), some (.int (nI fr)), some (.int (nI (k + 1))), none, none]) ⟨Or.inr rfl, Or.inr rfl, Or.inr rfl, Or.inr rfl, Or.inl rfl, Or.inr rfl, trivial⟩ ?_
            have g91 : px_pa hm76 288 50 3070 Value.int asv := pa_fi G1 fa77 (by omega)
            have g92 : px_pa hm80 288 50 3070 Value.int asv := pa_fi g91 fa81 (by omega)
            have g93 : px_pa hm84 288 50 3070 Value.int asv := pa_fi g92 fa85 (by omega)
            have g94 : px_pa h71 288 50 3070 Value.int asv := pa_fi g93 fb88 (by omega)
            have g95 : px_pa hm76 292 54 100 rK lg := pa_fi G2 fa77 (by omega)
            have g96 : px_pa hm80 292 54 100 rK lg := pa_fi g95 fa81 (by omega)
            have g97 : px_pa hm84 292 54 100 rK lg := pa_fi g96 fa85 (by omega)
            have g98 : px_pa h71 292 54 100 rK lg := pa_fi g97 fb88 (by omega)
            have g99 : px_pa hm76 293 50 100 rV lg := pa_fi G3 fa77 (by omega)
            have g100 : px_pa hm80 293 50 100 rV lg := pa_fi g99 fa81 (by omega)
            have g101 : px_pa hm84 293 50 100 rV lg := pa_fi g100 fa85 (by omega)
            have g102 : px_pa h71 293 50 100 rV lg := pa_fi g101 fb88 (by omega)
            have g103 : px_pa hm76 294 50 100 rT lg := pa_fi G4 fa77 (by omega)
            have g104 : px_pa hm80 294 50 100 rT lg := pa_fi g103 fa81 (by omega)
            have g105 : px_pa hm84 294 50 100 rT lg := pa_fi g104 fa85 (by omega)
            have g106 : px_pa h71 294 50 100 rT lg := pa_fi g105 fb88 (by omega)
            first | (exfalso; omega) | exact ih (d - 1) (by omega) (k + 1) fr (doEv j la lb ((evs ev pl).getD k (0, 0, 0, 0)) s) lg asv h71 (by omega) (by omega) (eP) (inv_do hj hoek c_144 (by omega) q3 hz) (fun q h1 h2 => by
              rcases Nat.lt_or_ge q k with z | z
              · exact q4 q h1 z
              · rw [show q = k by omega]; exact c_144) g90 g94 g98 g102 g106 fr89
          · skip
            have c_189 : ((evs ev pl).getD k (0, 0, 0, 0)).1 = 120 := cv_nne (by omega) (by omega) c_189
            have hR0 := hR25
            have hRx := relX_of hR0 hz
            have hB0 : relB j s.2.1.1 s.2.1.2.1 s.2.1.2.2 s.1.1 s.1.2.1 sl16 := ⟨hRx.1, hRx.2.1, hRx.2.2.1⟩
            have hol : lg.length + lh17.length ≤ 96 := by have z := q3.1.1.2.2.2.2; rw [hR0.2.2.2.1, List.length_append] at z; exact z
            have hrw : ∀ x ∈ lh17, rwOk x := fun x hx => q3.1.1.2.2.1 x (by rw [hR0.2.2.2.1]; exact List.mem_append_right _ hx)
            refine e_aload_n f_156_192 rfl rfl ?_
            refine e_dup f_156_193 rfl rfl ?_
            refine e_getf f_156_194 g19 rfl rfl ?_
            show px_to 156 197 [some (.ref (269)), some (.int (nI c)), some (.int (nI fr)), some (.int (nI k)), some (.int (nI (24 * c + pl.getD k 0))), none] [.int (s.2.2.2.2), .ref (269)] g _
            refine e_iconst (v := nI 1) f_156_197 (by decide) rfl ?_
            refine e_iadd (z := s.2.2.2.2 + (nI 1)) f_156_198 rfl rfl ?_
            refine e_putp (vs' := mB ga gp (nI j.length, s.1.2.2.2.2.isSome, oI s.1.2.2.2.2, s.2.2.2.2 + (nI 1), la, lb, cb) (nI lh17.length, nI lg.length) gw15 (nI pl.length, gu.2.1, gu.2.2) gv) f_156_199 g19 (Nat.le_of_ble_eq_true rfl) (rfl) (rfl) rfl rfl (fun h107 g108 fx109 => ?_)
            have fr110 : px_fj 269 1 287 9 h0 h107 := fj_tr frg fx109 (by omega)
            refine e_aload_n f_156_202 rfl rfl ?_
            refine e_aload_n f_156_203 rfl rfl ?_
            refine e_getf f_156_204 g108 rfl rfl ?_
            refine e_aload_n f_156_207 rfl rfl ?_
            refine e_getf f_156_208 g108 rfl rfl ?_
            have g111 : px_pa h107 288 50 3070 Value.int asv := pa_fi G1 fx109 (by omega)
            have g112 : px_pa h107 287 50 3070 Value.int sl16 := pa_fi g20 fx109 (by omega)
            refine e_callV (As := [.ref (288), .ref (287)]) (rest := []) f_156_211 rfl rfl rfl (Nat.le_of_ble_eq_true rfl) (Nat.le_of_ble_eq_true rfl) g108 rfl (Nat.le_of_ble_eq_true rfl) (cc_Md_cpy (a := 288) (b := 287) (s := asv) (d := sl16) (j := j) (ga := ga) (gp := gp) (gq := (nI j.length, s.1.2.2.2.2.isSome, oI s.1.2.2.2.2, s.2.2.2.2 + (nI 1), la, lb, cb)) (gh := (nI lh17.length, nI lg.length)) (gw := gw15) (gu := (nI pl.length, gu.2.1, gu.2.2)) (gv := gv) g108 g111 g112 (by omega) (by omega) (q3.2.2.2.1.1) (hR0.1) (h6)) rfl (fun h113 r114 q115 => ?_)
            obtain ⟨rfl, g116, fx117⟩ := q115
            have fr118 : px_fj 269 1 287 9 h0 h113 := fj_tr fr110 fx117 (by omega)
            show px_to 156 214 [some (.ref (269)), some (.int (nI c)), some (.int (nI fr)), some (.int (nI k)), some (.int (nI (24 * c + pl.getD k 0))), none] [] h113 _
            refine e_aload_n f_156_214 rfl rfl ?_
            refine e_iconst (v := nI 0) f_156_215 (by decide) rfl ?_
            have g119 : h113.2.2 269 = some (12, mB ga gp (nI j.length, s.1.2.2.2.2.isSome, oI s.1.2.2.2.2, s.2.2.2.2 + (nI 1), la, lb, cb) (nI lh17.length, nI lg.length) gw15 (nI pl.length, gu.2.1, gu.2.2) gv) := fi_at g108 fx117 (by omega)
            refine e_putp (vs' := mB ga gp (nI j.length, s.1.2.2.2.2.isSome, oI s.1.2.2.2.2, s.2.2.2.2 + (nI 1), la, lb, cb) (nI 0, nI lg.length) gw15 (nI pl.length, gu.2.1, gu.2.2) gv) f_156_216 g119 (Nat.le_of_ble_eq_true rfl) (rfl) (rfl) rfl rfl (fun h120 g121 fx122 => ?_)
            have fr123 : px_fj 269 1 287 9 h0 h120 := fj_tr fr118 fx122 (by omega)
            refine e_iload_n f_156_219 rfl rfl ?_
            refine e_istore (L' := [some (.ref (269)), some (.int (nI c)), some (.int (nI fr)), some (.int (nI k)), some (.int (nI (24 * c + pl.getD k 0))), some (.int (nI fr))]) f_156_220 (Nat.le_of_ble_eq_true rfl) rfl rfl ?_
            have g124 : px_pa h107 289 54 100 rK lh17 := pa_fi g22 fx109 (by omega)
            have g125 : px_pa h113 289 54 100 rK lh17 := pa_fi g124 fx117 (by omega)
            have g126 : px_pa h120 289 54 100 rK lh17 := pa_fi g125 fx122 (by omega)
            have g127 : px_pa h120 289 54 100 rK ([] : List Row) := pa_nil g126
            have g128 : px_pa h107 290 50 100 rV lh17 := pa_fi g23 fx109 (by omega)
            have g129 : px_pa h113 290 50 100 rV lh17 := pa_fi g128 fx117 (by omega)
            have g130 : px_pa h120 290 50 100 rV lh17 := pa_fi g129 fx122 (by omega)
            have g131 : px_pa h120 290 50 100 rV ([] : List Row) := pa_nil g130
            have g132 : px_pa h107 291 50 100 rT lh17 := pa_fi g24 fx109 (by omega)
            have g133 : px_pa h113 291 50 100 rT lh17 := pa_fi g132 fx117 (by omega)
            have g134 : px_pa h120 291 50 100 rT lh17 := pa_fi g133 fx122 (by omega)
            have g135 : px_pa h120 291 50 100 rT ([] : List Row) := pa_nil g134
            have hBb := relB_cpy (d := sl16) q3.2.2.2.1 hR0.1 h6
            have g136 : px_pa h120 287 50 3070 Value.int (cpy asv sl16 (4 + 511 * j.length)) := pa_fi g116 fx122 (by omega)
            have g137 : px_pa h107 295 50 30 Value.int cv18 := pa_fi g21 fx109 (by omega)
            have g138 : px_pa h113 295 50 30 Value.int cv18 := pa_fi g137 fx117 (by omega)
            have g139 : px_pa h120 295 50 30 Value.int cv18 := pa_fi g138 fx122 (by omega)
            have g140 : pRZ h120 ga gp (nI pl.length, gu.2.1, gu.2.2) gv j ((backS (doneS s)).2.2.2.2) la lb cb lg ((backS (doneS s)).2.1.1) ((backS (doneS s)).2.1.2.1) ((backS (doneS s)).2.1.2.2) ((backS (doneS s)).1) := by exact ⟨_, _, ([] : List Row), _, g121, g136, g139, g127, g131, g135, ⟨hBb.1, hBb.2.1, fun _ => hBb.2.2, by show s.1.2.2.1.take s.2.2.1 = _; rw [hR0.2.2.2.1, take_left2 q3.2.2.2.2.1, List.append_nil], hR0.2.2.2.2⟩⟩
            obtain ⟨hm142, fa143, fb144⟩ := fj_mid fr123
            have g141 : px_pa h120 275 52 192 evS es := pa_fi (pa_fi K0 fa143 (by omega)) fb144 (by omega)
            obtain ⟨hm146, fa147, fb148⟩ := fj_mid fr123
            have g145 : px_pa h120 276 54 192 evK es := pa_fi (pa_fi K1 fa147 (by omega)) fb148 (by omega)
            obtain ⟨hm150, fa151, fb152⟩ := fj_mid fr123
            have g149 : px_pa h120 277 53 192 evV es := pa_fi (pa_fi K2 fa151 (by omega)) fb152 (by omega)
            obtain ⟨hm154, fa155, fb156⟩ := fj_mid fr123
            have g153 : px_pa h120 278 53 192 evT es := pa_fi (pa_fi K3 fa155 (by omega)) fb156 (by omega)
            obtain ⟨hm158, fa159, fb160⟩ := fj_mid fr123
            have g157 : px_pa h120 284 52 6 stS j := pa_fi (pa_fi K4 fa159 (by omega)) fb160 (by omega)
            obtain ⟨hm162, fa163, fb164⟩ := fj_mid fr123
            have g161 : px_pa h120 285 52 6 stA j := pa_fi (pa_fi K5 fa163 (by omega)) fb164 (by omega)
            obtain ⟨hm166, fa167, fb168⟩ := fj_mid fr123
            have g165 : px_pa h120 286 50 6 stN j := pa_fi (pa_fi K6 fa167 (by omega)) fb168 (by omega)
            obtain ⟨hm170, fa171, fb172⟩ := fj_mid fr123
            have g169 : px_pa h120 296 50 24 vN pl := pa_fi (pa_fi K7 fa171 (by omega)) fb172 (by omega)
            refine ll_Md_redo (h0 := h120) (k := k) (fr := fr) (gu := (nI pl.length, gu.2.1, gu.2.2)) g141 g145 g149 g153 g157 g161 g165 g169 hc hes hin h24 hok hpl hj hLA hLB (by omega) q4 (fun g1 hS hI hf => ?_) k fr (backS (doneS s)) h120 (by omega) ⟨Nat.le_refl _, q1.1⟩ rfl (inv_back q3 hz hR0.2.2.2.1 rfl) g140 (fl_rf _ _)
            obtain ⟨hm173, fa174, fb175⟩ := fl_mid hf
            have fr176 : px_fj 269 1 287 9 h0 hm173 := fj_tr fr123 fa174 (by omega)
            obtain ⟨hm177, fa178, fb179⟩ := fl_mid fb175
            have fr180 : px_fj 269 1 287 9 h0 hm177 := fj_tr fr176 fa178 (by omega)
            obtain ⟨hm181, fa182, fb183⟩ := fl_mid fb179
            have fr184 : px_fj 269 1 287 9 h0 hm181 := fj_tr fr180 fa182 (by omega)
            have fb185 := fl_one fb183
            have fr186 : px_fj 269 1 287 9 h0 g1 := fj_tr fr184 fb185 (by omega)
            refine e_goto f_156_279 ?_
            refine e_iinc (y := nI (k + 1)) (L' := [some (.ref (269)), some (.int (nI c)), some (.int (nI fr)), some (.int (nI (k + 1))), some (.int (nI (24 * c + pl.getD k 0))), none]) f_156_288 rfl (by rw [show Int32.ofInt 1 = nI 1 by decide]; exact (nI_add _ _)) rfl rfl ?_
            refine e_goto f_156_291 ?_
            have eP := q2
            rw [perfL_s (by rw [evs_len]; omega) hz] at eP
            rw [if_pos c_189, take_drop_app (by rw [evs_len]; omega) q1.1] at eP
            refine px_to_L (L := [some (.ref (269)), some (.int (nI c)), some (.int (nI fr)), some (.int (nI (k + 1))), none, none]) ⟨Or.inr rfl, Or.inr rfl, Or.inr rfl, Or.inr rfl, Or.inl rfl, Or.inr rfl, trivial⟩ ?_
            have g187 : px_pa h113 288 50 3070 Value.int asv := pa_fi g111 fx117 (by omega)
            have g188 : px_pa h120 288 50 3070 Value.int asv := pa_fi g187 fx122 (by omega)
            have g189 : px_pa hm173 288 50 3070 Value.int asv := pa_fi g188 fa174 (by omega)
            have g190 : px_pa hm177 288 50 3070 Value.int asv := pa_fi g189 fa178 (by omega)
            have g191 : px_pa hm181 288 50 3070 Value.int asv := pa_fi g190 fa182 (by omega)
            have g192 : px_pa g1 288 50 3070 Value.int asv := pa_fi g191 fb185 (by omega)
            have g193 : px_pa h107 292 54 100 rK lg := pa_fi G2 fx109 (by omega)
            have g194 : px_pa h113 292 54 100 rK lg := pa_fi g193 fx117 (by omega)
            have g195 : px_pa h120 292 54 100 rK lg := pa_fi g194 fx122 (by omega)
            have g196 : px_pa hm173 292 54 100 rK lg := pa_fi g195 fa174 (by omega)
            have g197 : px_pa hm177 292 54 100 rK lg := pa_fi g196 fa178 (by omega)
            have g198 : px_pa hm181 292 54 100 rK lg := pa_fi g197 fa182 (by omega)
            have g199 : px_pa g1 292 54 100 rK lg := pa_fi g198 fb185 (by omega)
            have g200 : px_pa h107 293 50 100 rV lg := pa_fi G3 fx109 (by omega)
            have g201 : px_pa h113 293 50 100 rV lg := pa_fi g200 fx117 (by omega)
            have g202 : px_pa h120 293 50 100 rV lg := pa_fi g201 fx122 (by omega)
            have g203 : px_pa hm173 293 50 100 rV lg := pa_fi g202 fa174 (by omega)
            have g204 : px_pa hm177 293 50 100 rV lg := pa_fi g203 fa178 (by omega)
            have g205 : px_pa hm181 293 50 100 rV lg := pa_fi g204 fa182 (by omega)
            have g206 : px_pa g1 293 50 100 rV lg := pa_fi g205 fb185 (by omega)
            have g207 : px_pa h107 294 50 100 rT lg := pa_fi G4 fx109 (by omega)
            have g208 : px_pa h113 294 50 100 rT lg := pa_fi g207 fx117 (by omega)
            have g209 : px_pa h120 294 50 100 rT lg := pa_fi g208 fx122 (by omega)
            have g210 : px_pa hm173 294 50 100 rT lg := pa_fi g209 fa174 (by omega)
            have g211 : px_pa hm177 294 50 100 rT lg := pa_fi g210 fa178 (by omega)
            have g212 : px_pa hm181 294 50 100 rT lg := pa_fi g211 fa182 (by omega)
            have g213 : px_pa g1 294 50 100 rT lg := pa_fi g212 fb185 (by omega)
            first | (exfalso; omega) | exact ih (d - 1) (by omega) (k + 1) fr (redoL j la lb (((evs ev pl).take k).drop fr) (backS (doneS s))) lg asv g1 (by omega) (by omega) (eP) (inv_mono (by omega) hI) (fun q h1 h2 => by
              rcases Nat.lt_or_ge q k with z | z
              · exact q4 q h1 z
              · rw [show q = k by omega]; omega) hS g192 g199 g206 g213 fr186
        · skip
          have c_144 : ((evs ev pl).getD k (0, 0, 0, 0)).1 = 107 := cv_nne (by omega) (by omega) c_144
          have hR0 := hR25
          have hRx := relX_of hR0 hz
          have hB0 : relB j s.2.1.1 s.2.1.2.1 s.2.1.2.2 s.1.1 s.1.2.1 sl16 := ⟨hRx.1, hRx.2.1, hRx.2.2.1⟩
          have hol : lg.length + lh17.length ≤ 96 := by have z := q3.1.1.2.2.2.2; rw [hR0.2.2.2.1, List.length_append] at z; exact z
          have hrw : ∀ x ∈ lh17, rwOk x := fun x hx => q3.1.1.2.2.1 x (by rw [hR0.2.2.2.1]; exact List.mem_append_right _ hx)
          refine e_aload_n f_156_147 rfl rfl ?_
          refine e_dup f_156_148 rfl rfl ?_
          refine e_getf f_156_149 g19 rfl rfl ?_
          show px_to 156 152 [some (.ref (269)), some (.int (nI c)), some (.int (nI fr)), some (.int (nI k)), some (.int (nI (24 * c + pl.getD k 0))), none] [.int (s.2.2.2.2), .ref (269)] g _
          refine e_iconst (v := nI 1) f_156_152 (by decide) rfl ?_
          refine e_iadd (z := s.2.2.2.2 + (nI 1)) f_156_153 rfl rfl ?_
          refine e_putp (vs' := mB ga gp (nI j.length, s.1.2.2.2.2.isSome, oI s.1.2.2.2.2, s.2.2.2.2 + (nI 1), la, lb, cb) (nI lh17.length, nI lg.length) gw15 (nI pl.length, gu.2.1, gu.2.2) gv) f_156_154 g19 (Nat.le_of_ble_eq_true rfl) (rfl) (rfl) rfl rfl (fun h214 g215 fx216 => ?_)
          have fr217 : px_fj 269 1 287 9 h0 h214 := fj_tr frg fx216 (by omega)
          refine e_aload_n f_156_157 rfl rfl ?_
          have g218 : px_pa h214 289 54 100 rK lh17 := pa_fi g22 fx216 (by omega)
          have g219 : px_pa h214 290 50 100 rV lh17 := pa_fi g23 fx216 (by omega)
          have g220 : px_pa h214 291 50 100 rT lh17 := pa_fi g24 fx216 (by omega)
          have g221 : px_pa h214 292 54 100 rK lg := pa_fi G2 fx216 (by omega)
          have g222 : px_pa h214 293 50 100 rV lg := pa_fi G3 fx216 (by omega)
          have g223 : px_pa h214 294 50 100 rT lg := pa_fi G4 fx216 (by omega)
          refine e_callV (As := []) (rest := []) f_156_158 rfl rfl rfl (Nat.le_of_ble_eq_true rfl) (Nat.le_of_ble_eq_true rfl) g215 rfl (Nat.le_of_ble_eq_true rfl) (cc_Md_giv (lh := lh17) (lg := lg) (ga := ga) (gp := gp) (gq := (nI j.length, s.1.2.2.2.2.isSome, oI s.1.2.2.2.2, s.2.2.2.2 + (nI 1), la, lb, cb)) (gh := (0, 0)) (gw := gw15) (gu := (nI pl.length, gu.2.1, gu.2.2)) (gv := gv) g215 g218 g219 g220 g221 g222 g223 (hol) (hrw)) rfl (fun h224 r225 q226 => ?_)
          obtain ⟨rfl, g227, g228, g229, g230, fx231⟩ := q226
          obtain ⟨hm232, fa233, fb234⟩ := fj_mid fx231
          have fr235 : px_fj 269 1 287 9 h0 hm232 := fj_tr fr217 fa233 (by omega)
          have fr236 : px_fj 269 1 287 9 h0 h224 := fj_tr fr235 fb234 (by omega)
          show px_to 156 161 [some (.ref (269)), some (.int (nI c)), some (.int (nI fr)), some (.int (nI k)), some (.int (nI (24 * c + pl.getD k 0))), none] [] h224 _
          refine e_aload_n f_156_161 rfl rfl ?_
          refine e_aload_n f_156_162 rfl rfl ?_
          refine e_getf f_156_163 g227 rfl rfl ?_
          refine e_aload_n f_156_166 rfl rfl ?_
          refine e_getf f_156_167 g227 rfl rfl ?_
          have g237 : px_pa h214 287 50 3070 Value.int sl16 := pa_fi g20 fx216 (by omega)
          have g238 : px_pa hm232 287 50 3070 Value.int sl16 := pa_fi g237 fa233 (by omega)
          have g239 : px_pa h224 287 50 3070 Value.int sl16 := pa_fi g238 fb234 (by omega)
          have g240 : px_pa h214 288 50 3070 Value.int asv := pa_fi G1 fx216 (by omega)
          have g241 : px_pa hm232 288 50 3070 Value.int asv := pa_fi g240 fa233 (by omega)
          have g242 : px_pa h224 288 50 3070 Value.int asv := pa_fi g241 fb234 (by omega)
          refine e_callV (As := [.ref (287), .ref (288)]) (rest := []) f_156_170 rfl rfl rfl (Nat.le_of_ble_eq_true rfl) (Nat.le_of_ble_eq_true rfl) g227 rfl (Nat.le_of_ble_eq_true rfl) (cc_Md_cpy (a := 287) (b := 288) (s := sl16) (d := asv) (j := j) (ga := ga) (gp := gp) (gq := (nI j.length, s.1.2.2.2.2.isSome, oI s.1.2.2.2.2, s.2.2.2.2 + (nI 1), la, lb, cb)) (gh := (nI 0, nI ((lg ++ lh17).length))) (gw := gw15) (gu := (nI pl.length, gu.2.1, gu.2.2)) (gv := gv) g227 g239 g242 (by omega) (by omega) (hR0.1) (q3.2.2.2.1.1) (h6)) rfl (fun h243 r244 q245 => ?_)
          obtain ⟨rfl, g246, fx247⟩ := q245
          have fr248 : px_fj 269 1 287 9 h0 h243 := fj_tr fr236 fx247 (by omega)
          show px_to 156 173 [some (.ref (269)), some (.int (nI c)), some (.int (nI fr)), some (.int (nI k)), some (.int (nI (24 * c + pl.getD k 0))), none] [] h243 _
          refine e_iload_n f_156_173 rfl rfl ?_
          refine e_iconst (v := nI 1) f_156_174 (by decide) rfl ?_
          refine e_iadd (z := nI (k + 1)) f_156_175 (nI_add _ _) rfl ?_
          refine e_istore_n (L' := [some (.ref (269)), some (.int (nI c)), some (.int (nI (k + 1))), some (.int (nI k)), some (.int (nI (24 * c + pl.getD k 0))), none]) f_156_176 (Nat.le_of_ble_eq_true rfl) rfl rfl ?_
          refine e_goto f_156_177 ?_
          refine e_iinc (y := nI (k + 1)) (L' := [some (.ref (269)), some (.int (nI c)), some (.int (nI (k + 1))), some (.int (nI (k + 1))), some (.int (nI (24 * c + pl.getD k 0))), none]) f_156_288 rfl (by rw [show Int32.ofInt 1 = nI 1 by decide]; exact (nI_add _ _)) rfl rfl ?_
          refine e_goto f_156_291 ?_
          have eP := q2
          rw [perfL_s (by rw [evs_len]; omega) hz] at eP
          have g249 : px_pa hm232 289 54 100 rK lh17 := pa_fi g218 fa233 (by omega)
          have g250 : px_pa h224 289 54 100 rK lh17 := pa_fi g249 fb234 (by omega)
          have g251 : px_pa h243 289 54 100 rK lh17 := pa_fi g250 fx247 (by omega)
          have g252 : px_pa h243 289 54 100 rK ([] : List Row) := pa_nil g251
          have g253 : px_pa hm232 290 50 100 rV lh17 := pa_fi g219 fa233 (by omega)
          have g254 : px_pa h224 290 50 100 rV lh17 := pa_fi g253 fb234 (by omega)
          have g255 : px_pa h243 290 50 100 rV lh17 := pa_fi g254 fx247 (by omega)
          have g256 : px_pa h243 290 50 100 rV ([] : List Row) := pa_nil g255
          have g257 : px_pa hm232 291 50 100 rT lh17 := pa_fi g220 fa233 (by omega)
          have g258 : px_pa h224 291 50 100 rT lh17 := pa_fi g257 fb234 (by omega)
          have g259 : px_pa h243 291 50 100 rT lh17 := pa_fi g258 fx247 (by omega)
          have g260 : px_pa h243 291 50 100 rT ([] : List Row) := pa_nil g259
          have ed := doEv_k (j := j) (la := la) (lb := lb) (s := s) c_144
          have g261 : h243.2.2 269 = some (12, mB ga gp (nI j.length, s.1.2.2.2.2.isSome, oI s.1.2.2.2.2, s.2.2.2.2 + (nI 1), la, lb, cb) (nI 0, nI ((lg ++ lh17).length)) gw15 (nI pl.length, gu.2.1, gu.2.2) gv) := fi_at g227 fx247 (by omega)
          have g262 : px_pa h243 287 50 3070 Value.int sl16 := pa_fi g239 fx247 (by omega)
          have g263 : px_pa h214 295 50 30 Value.int cv18 := pa_fi g21 fx216 (by omega)
          have g264 : px_pa hm232 295 50 30 Value.int cv18 := pa_fi g263 fa233 (by omega)
          have g265 : px_pa h224 295 50 30 Value.int cv18 := pa_fi g264 fb234 (by omega)
          have g266 : px_pa h243 295 50 30 Value.int cv18 := pa_fi g265 fx247 (by omega)
          have g267 : pRZ h243 ga gp (nI pl.length, gu.2.1, gu.2.2) gv j ((doEv j la lb ((evs ev pl).getD k (0, 0, 0, 0)) s).2.2.2.2) la lb cb (lg ++ lh17) ((doEv j la lb ((evs ev pl).getD k (0, 0, 0, 0)) s).2.1.1) ((doEv j la lb ((evs ev pl).getD k (0, 0, 0, 0)) s).2.1.2.1) ((doEv j la lb ((evs ev pl).getD k (0, 0, 0, 0)) s).2.1.2.2) ((doEv j la lb ((evs ev pl).getD k (0, 0, 0, 0)) s).1) := by rw [ed]; exact ⟨_, _, ([] : List Row), _, g261, g262, g266, g252, g256, g260, ⟨hR0.1, hR0.2.1, hR0.2.2.1, by rw [List.append_nil]; exact hR0.2.2.2.1, hR0.2.2.2.2⟩⟩
          rw [if_neg (by omega), if_pos c_144] at eP
          refine px_to_L (L := [some (.ref (269)), some (.int (nI c)), some (.int (nI (k + 1))), some (.int (nI (k + 1))), none, none]) ⟨Or.inr rfl, Or.inr rfl, Or.inr rfl, Or.inr rfl, Or.inl rfl, Or.inr rfl, trivial⟩ ?_
          have g268 : px_pa h243 292 54 100 rK (lg ++ lh17) := pa_fi g228 fx247 (by omega)
          have g269 : px_pa h243 293 50 100 rV (lg ++ lh17) := pa_fi g229 fx247 (by omega)
          have g270 : px_pa h243 294 50 100 rT (lg ++ lh17) := pa_fi g230 fx247 (by omega)
          first | (exfalso; omega) | exact ih (d - 1) (by omega) (k + 1) (k + 1) (doEv j la lb ((evs ev pl).getD k (0, 0, 0, 0)) s) (lg ++ lh17) (cpy sl16 asv (4 + 511 * j.length)) h243 (by omega) (by omega) (by rw [show ((evs ev pl).take (k + 1)).drop (k + 1) = [] from List.drop_eq_nil_of_le (by rw [List.length_take]; omega)]; exact eP) (by rw [← hR0.2.2.2.1]; exact inv_mark hoek hj q3 hz c_144 (relB_cpy hB0 q3.2.2.2.1.1 h6)) (fun q h1 h2 => absurd h1 (by omega)) g267 g246 g268 g269 g270 fr248
