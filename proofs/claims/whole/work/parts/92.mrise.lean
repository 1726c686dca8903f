def relZ (j : List St) (cb : Bool) (lg : List Row) (A B W : Int32) (x : RX) (sl : List Int32) (lh : List Row) (cv : List Int32) : Prop := sl.length = 3070 ∧ (sl.getD 0 0 = A ∧ sl.getD 1 0 = B ∧ sl.getD 2 0 = W ∧ sl.getD 3 0 = x.1) ∧ (x.2.2.2.2 = none → MSt sl j x.2.1) ∧ x.2.2.1 = lg ++ lh ∧ cv.length = 30 ∧ (cb = true → cv = x.2.2.2.1)
theorem relZ_of {j : List St} {cb : Bool} {lg lh : List Row} {A B W : Int32} {x : RX} {sl cv : List Int32} (h : relX j cb lg A B W x sl lh cv) : relZ j cb lg A B W x sl lh cv := ⟨h.1, h.2.1, fun _ => h.2.2.1, h.2.2.2⟩
theorem relX_of {j : List St} {cb : Bool} {lg lh : List Row} {A B W : Int32} {x : RX} {sl cv : List Int32} (h : relZ j cb lg A B W x sl lh cv) (hz : x.2.2.2.2 = none) : relX j cb lg A B W x sl lh cv := ⟨h.1, h.2.1, h.2.2.1 hz, h.2.2.2⟩
theorem relZ_eqZ {j : List St} {cb : Bool} {lg lh : List Row} {A B W : Int32} {x y : RX} {sl cv : List Int32} (e : eqZ x y) (h : relX j cb lg A B W x sl lh cv) : relZ j cb lg A B W y sl lh cv := ⟨h.1, ⟨h.2.1.1, h.2.1.2.1, h.2.1.2.2.1, h.2.1.2.2.2.trans e.1⟩, fun hz => by
  have hz2 : x.2.2.2.2 = none := by rw [e.2.1]; exact hz
  rw [← e.2.2 hz2]
  exact h.2.2.1, by rw [← e.2.1]; exact h.2.2.2.1, h.2.2.2.2.1, fun z => by rw [← e.2.1]; exact h.2.2.2.2.2 z⟩
def tellT (j : List St) (k w : Nat) (x : RX) : RX := setS (tellOne j k w x) k (smTold w (getS (tellOne j k w x) k))
theorem tellT_eqZ {j : List St} {k w : Nat} {x : RX} (hk : k < j.length) (hl : x.2.1.length = j.length) (p : PB j x 96) : eqZ (tellM j k w x) (tellT j k w x) := tellM_eqZ hk hl (Nat.le_refl _) p
theorem tellT_ok {j : List St} {k w : Nat} {x : RX} (hj : okJ j) (hk : k < j.length) (hw : w ≤ 5000) (hx : okX j x) : okX j (tellT j k w x) := setS_ok (tellOne_ok hj hk hw hx) (smTold_ok ((tellOne_ok hj hk hw hx).1.2 k hk))
theorem tellT_PB {j : List St} {k w : Nat} {x : RX} (hj : okJ j) (hk : k < j.length) (hw : w ≤ 5000) (hx : okX j x) (p : PB j x 96) (hz : (tellT j k w x).2.2.2.2 = none) : PB j (tellT j k w x) 96 := by
  have he := tellT_eqZ (w := w) hk hx.1.1 p
  exact PB_eqZ he (by rw [he.2.1]; exact hz) (PB_tellM hj hk hw hx p)
theorem relX_told {j : List St} {cb : Bool} {lg lh : List Row} {A B W : Int32} {x : RX} {sl cv : List Int32} {k w : Nat} (h : relX j cb lg A B W x sl lh cv) (hk : k < j.length) (h6 : j.length ≤ 6) (hl : x.2.1.length = j.length) : relX j cb lg A B W (toldX k w x) (sl.set (4 + 511 * k + 205) (nI w)) lh cv := by
  have ha : ags sl (sl.set (4 + 511 * k + 205) (nI w)) (4 + 511 * k) := ags_set ags_rf (by omega)
  refine ⟨ha.1.trans h.1, ⟨(ha.2 0 (by omega)).trans h.2.1.1, (ha.2 1 (by omega)).trans h.2.1.2.1, (ha.2 2 (by omega)).trans h.2.1.2.2.1, (ha.2 3 (by omega)).trans h.2.1.2.2.2⟩, ?_, h.2.2.2⟩
  refine MSt_set h.2.2.1 hk hl ha ?_
  have hl3 := h.1
  obtain ⟨h1, h2, h3, h4, h5⟩ := h.2.2.1 k hk
  have e : ∀ i, i ≠ 4 + 511 * k + 205 → (sl.set (4 + 511 * k + 205) (nI w)).getD i 0 = sl.getD i 0 := fun i hi => getD_set_ne (fun z => hi z.symm)
  refine ⟨getD_set_same (by omega), fun z => ?_, fun z q hq => by rw [e _ (by omega)]; exact h3 z q hq, fun z => ?_, fun z q hq => by rw [e _ (by omega)]; exact h5 z q hq⟩
  · obtain ⟨ps, ⟨a1, a2, a3⟩, a4⟩ := h2 z
    refine ⟨ps, ⟨a1, by rw [e _ (by omega)]; exact a2, fun i hi => ?_⟩, a4⟩
    rw [e _ (by omega), e _ (by omega)]
    exact a3 i hi
  · obtain ⟨ts, ⟨a1, a2, a3⟩, a4⟩ := h4 z
    refine ⟨ts, ⟨a1, by rw [e _ (by omega)]; exact a2, fun i hi => ?_⟩, a4⟩
    rw [e _ (by omega), e _ (by omega), e _ (by omega)]
    exact a3 i hi

def pRZ (h : px_H) (ga : gA) (gp : gP) (gu : gU) (gv : gV) (j : List St) (dn : Int32) (la lb cb : Bool) (lg : List Row) (A B W : Int32) (x : RX) : Prop := ∃ (gw : gW) (sl : List Int32) (lh : List Row) (cv : List Int32), h.2.2 269 = some (12, mB ga gp (nI j.length, x.2.2.2.2.isSome, oI x.2.2.2.2, dn, la, lb, cb) (nI lh.length, nI lg.length) gw gu gv) ∧ px_pa h 287 50 3070 Value.int sl ∧ px_pa h 295 50 30 Value.int cv ∧ px_pa h 289 54 100 rK lh ∧ px_pa h 290 50 100 rV lh ∧ px_pa h 291 50 100 rT lh ∧ relZ j cb lg A B W x sl lh cv
theorem pRZ_fi {h h1 : px_H} {ga : gA} {gp : gP} {gu : gU} {gv : gV} {j : List St} {dn : Int32} {la lb cb : Bool} {lg : List Row} {A B W : Int32} {x : RX} {lo n : Nat} (q : pRZ h ga gp gu gv j dn la lb cb lg A B W x) (f : px_fi lo n h h1) (d : (296 ≤ lo ∨ lo + n ≤ 269 ∨ (270 ≤ lo ∧ lo + n ≤ 287) ∨ (288 ≤ lo ∧ lo + n ≤ 289) ∨ (292 ≤ lo ∧ lo + n ≤ 295))) : pRZ h1 ga gp gu gv j dn la lb cb lg A B W x := by
  obtain ⟨gw, sl, lh, cv, z1, z2, z3, z4, z5, z6, y⟩ := q
  exact ⟨gw, sl, lh, cv, fi_at z1 f (by omega), pa_fi z2 f (by omega), pa_fi z3 f (by omega), pa_fi z4 f (by omega), pa_fi z5 f (by omega), pa_fi z6 f (by omega), y⟩

set_option maxRecDepth 20000 in
set_option maxHeartbeats 4000000 in
theorem cc_Md_ri0 {h : px_H} {w : Int32} {x : RX} {sl : List Int32} {ga : gA} {gp : gP} {gq : gQ} {gh : gH} {gw : gW} {gu : gU} {gv : gV} (H0 : h.2.2 269 = some (12, mB ga gp gq gh gw gu gv)) (H1 : px_pa h 287 50 3070 Value.int sl) (p0 : w ≤ sl.getD 2 0) (p1 : sl.length = 3070) : px_wp 151 [.ref (269), .int (w)] h (fun h1 r => r = none ∧ h1 = h) := by
  show px_to 151 0 [some (.ref (269)), some (.int (w)), none] [] h _
  refine e_iload_n f_151_0 rfl rfl ?_
  refine e_aload_n f_151_1 rfl rfl ?_
  refine e_getf f_151_2 H0 rfl rfl ?_
  refine e_iconst (v := nI 2) f_151_5 (by decide) rfl ?_
  refine e_iaload_p (xs := sl) f_151_6 H1 (d := 0) (by first | omega | (simp only [List.length_set]; omega)) rfl ?_
  show px_to 151 7 [some (.ref (269)), some (.int (w)), none] [.int (sl.getD 2 0), .int (w)] h _
  refine e_icmp_gt_f f_151_7 (Int32.not_lt.mpr p0) rfl ?_
  refine e_vret f_151_10 rfl ?_
  first | (exfalso; omega) | exact ⟨rfl, rfl⟩

set_option maxRecDepth 20000 in
set_option maxHeartbeats 4000000 in
theorem ll_Md_ri1 {h0 : px_H} {n : Nat} {A B : Int32} {res : RX} {ga : gA} {gp : gP} {gu : gU} {gv : gV} {j : List St} {dn : Int32} {la lb cb : Bool} {lg : List Row}  (K0 : px_pa h0 284 52 6 stS j) (K1 : px_pa h0 285 52 6 stA j) (K2 : px_pa h0 286 50 6 stN j) (hj : okZ j) (hn : n ≤ 5000) : ∀ (d : Nat) (k : Nat) (x : RX) (gw : gW) (sl : List Int32) (lh : List Row) (cv : List Int32) (g : px_H), (j.length < k + d) → (k ≤ j.length) → (tellGo j n d k x = res) → (okX j x) → (relZ j cb lg A B (nI n) x sl lh cv) → (x.2.2.2.2 = none → PB j x 96) → g.2.2 269 = some (12, mB ga gp (nI j.length, x.2.2.2.2.isSome, oI x.2.2.2.2, dn, la, lb, cb) (nI lh.length, nI lg.length) gw gu gv) → px_pa g 287 50 3070 Value.int sl → px_pa g 295 50 30 Value.int cv → px_pa g 289 54 100 rK lh → px_pa g 290 50 100 rV lh → px_pa g 291 50 100 rT lh → px_fl [(269, 1), (287, 1), (289, 3), (295, 1)] h0 g → px_to 151 20 [some (.ref (269)), some (.int (nI n)), some (.int (nI k))] [] g (fun h1 r => r = none ∧ pRZ h1 ga gp gu gv j dn la lb cb lg A B (nI n) res ∧ px_fl [(269, 1), (287, 1), (289, 3), (295, 1)] h0 h1) := by
  intro d
  induction d using Nat.strongRecOn with
  | ind d ih =>
    intro k x gw sl lh cv g q0 q1 q2 q3 q4 q5 G0 G1 G2 G3 G4 G5 frg
    have h6 := hj.1.1
    have hsl := q4.1
    refine e_iload_n f_151_20 rfl rfl ?_
    refine e_aload_n f_151_21 rfl rfl ?_
    refine e_getf f_151_22 G0 rfl rfl ?_
    show px_to 151 25 [some (.ref (269)), some (.int (nI n)), some (.int (nI k))] [.int (nI j.length), .int (nI k)] g _
    refine e_icmp_ge f_151_25 rfl (fun c_25 => ?_) (fun c_25 => ?_)
    · skip
      have c_25 : j.length ≤ k := cv_le (by omega) (by omega) c_25
      refine e_vret f_151_95 rfl ?_
      have er : res = x := by rw [← q2]; exact tellGo_e (fun z => absurd z.1 (by omega))
      rw [er]
      exact ⟨rfl, ⟨gw, sl, lh, cv, G0, G1, G2, G3, G4, G5, q4⟩, frg⟩
    · skip
      have c_25 : k < j.length := cv_nle (by omega) (by omega) c_25
      refine e_aload_n f_151_28 rfl rfl ?_
      refine e_getf f_151_29 G0 rfl rfl ?_
      show px_to 151 32 [some (.ref (269)), some (.int (nI n)), some (.int (nI k))] [.int (bI x.2.2.2.2.isSome)] g _
      refine e_if_ne f_151_32 rfl (fun c_32 => ?_) (fun c_32 => ?_)
      · skip
        have c_32 : x.2.2.2.2.isSome = true := bI_t c_32
        refine e_vret f_151_95 rfl ?_
        have er : res = x := by rw [← q2]; exact tellGo_e (fun z => some_t c_32 z.2)
        rw [er]
        exact ⟨rfl, ⟨gw, sl, lh, cv, G0, G1, G2, G3, G4, G5, q4⟩, frg⟩
      · skip
        have c_32 : x.2.2.2.2.isSome = false := bI_f' c_32
        refine e_aload_n f_151_35 rfl rfl ?_
        refine e_getf f_151_36 G0 rfl rfl ?_
        refine e_iconst (v := nI 4) f_151_39 (by decide) rfl ?_
        refine e_sipush (v := nI 511) f_151_40 (by decide) rfl ?_
        refine e_iload_n f_151_43 rfl rfl ?_
        refine e_imul (z := nI (511 * k)) f_151_44 (pk_mul _ _) rfl ?_
        refine e_iadd (z := nI (4 + 511 * k)) f_151_45 (nI_add _ _) rfl ?_
        refine e_sipush (v := nI 205) f_151_46 (by decide) rfl ?_
        refine e_iadd (z := nI (4 + 511 * k + 205)) f_151_49 (nI_add _ _) rfl ?_
        refine e_iload_n f_151_50 rfl rfl ?_
        refine e_iastore_p (xs := sl) (x := nI n) f_151_51 G1 (by omega) (by first | omega | (simp only [List.length_set]; omega)) (rfl) rfl (fun h1 g2 fx3 => ?_)
        have fr4 : px_fl [(269, 1), (287, 1), (289, 3), (295, 1)] h0 h1 := fl_tr frg fx3 (by first | exact ⟨_, List.mem_cons_self, by omega, by omega⟩ | exact ⟨_, List.mem_cons_of_mem _ (List.mem_cons_self), by omega, by omega⟩ | exact ⟨_, List.mem_cons_of_mem _ (List.mem_cons_of_mem _ (List.mem_cons_self)), by omega, by omega⟩ | exact ⟨_, List.mem_cons_of_mem _ (List.mem_cons_of_mem _ (List.mem_cons_of_mem _ (List.mem_cons_self))), by omega, by omega⟩)
        have hz := some_f c_32
        have hRx := relX_of q4 hz
        have hPB := q5 hz
        have hRt := relX_told (w := n) hRx c_25 h6 q3.1.1
        have hto := toldX_ok (w := n) q3 c_25
        have htp := PB_told (w := n) c_25 q3.1.1 hPB
        have he := tellT_eqZ (w := n) c_25 q3.1.1 hPB
        have hsgn := (hj.1.2 _ (getD_mem (0, 0, 0) c_25)).1
        refine e_aload_n f_151_52 rfl rfl ?_
        have g5 : h1.2.2 269 = some (12, mB ga gp (nI j.length, x.2.2.2.2.isSome, oI x.2.2.2.2, dn, la, lb, cb) (nI lh.length, nI lg.length) gw gu gv) := fi_at G0 fx3 (by omega)
        refine e_getf f_151_53 g5 rfl rfl ?_
        refine e_iload_n f_151_56 rfl rfl ?_
        obtain ⟨hm7, fa8, fb9⟩ := fl_mid fr4
        obtain ⟨hm10, fa11, fb12⟩ := fl_mid fb9
        obtain ⟨hm13, fa14, fb15⟩ := fl_mid fb12
        have g6 : px_pa h1 284 52 6 stS j := pa_fi (pa_fi (pa_fi (pa_fi K0 fa8 (by omega)) fa11 (by omega)) fa14 (by omega)) (fl_one fb15) (by omega)
        refine e_caload_p (xs := j) f_151_57 g6 (d := (0, 0, 0)) (by first | omega | (simp only [List.length_set]; omega)) rfl ?_
        show px_to 151 58 [some (.ref (269)), some (.int (nI n)), some (.int (nI k))] [.int (nI ((j.getD k (0, 0, 0)).1))] h1 _
        refine e_bipush (v := nI 119) f_151_58 (by decide) rfl ?_
        refine e_icmp_ne f_151_60 rfl (fun c_60 => ?_) (fun c_60 => ?_)
        · skip
          have c_60 : (j.getD k (0, 0, 0)).1 ≠ 119 := cv_ne c_60
          refine e_aload_n f_151_72 rfl rfl ?_
          refine e_getf f_151_73 g5 rfl rfl ?_
          refine e_iload_n f_151_76 rfl rfl ?_
          refine e_caload_p (xs := j) f_151_77 g6 (d := (0, 0, 0)) (by first | omega | (simp only [List.length_set]; omega)) rfl ?_
          show px_to 151 78 [some (.ref (269)), some (.int (nI n)), some (.int (nI k))] [.int (nI ((j.getD k (0, 0, 0)).1))] h1 _
          refine e_bipush (v := nI 116) f_151_78 (by decide) rfl ?_
          refine e_icmp_ne f_151_80 rfl (fun c_80 => ?_) (fun c_80 => ?_)
          · skip
            have c_80 : (j.getD k (0, 0, 0)).1 ≠ 116 := cv_ne c_80
            refine e_iinc (y := nI (k + 1)) (L' := [some (.ref (269)), some (.int (nI n)), some (.int (nI (k + 1)))]) f_151_89 rfl (by rw [show Int32.ofInt 1 = nI 1 by decide]; exact (nI_add _ _)) rfl rfl ?_
            refine e_goto f_151_92 ?_
            have em : tellM j k n x = toldX k n x := by unfold tellM; rw [if_neg c_60, if_neg c_80]
            rw [em] at he
            have g16 : h1.2.2 269 = some (12, mB ga gp (nI j.length, ((tellT j k n x).2.2.2.2).isSome, oI ((tellT j k n x).2.2.2.2), dn, la, lb, cb) (nI lh.length, nI lg.length) gw gu gv) := by rw [← he.2.1]; exact g5
            have hT := tellT_ok hj.1 c_25 hn q3
            have eG : tellGo j n (d - 1) (k + 1) (tellT j k n x) = res := by rw [← q2, show tellGo j n d k x = tellGo j n ((d - 1) + 1) k x from by rw [show (d - 1) + 1 = d by omega], tellGo_s c_25 hz]; rfl
            have g17 : px_pa h1 295 50 30 Value.int cv := pa_fi G2 fx3 (by omega)
            have g18 : px_pa h1 289 54 100 rK lh := pa_fi G3 fx3 (by omega)
            have g19 : px_pa h1 290 50 100 rV lh := pa_fi G4 fx3 (by omega)
            have g20 : px_pa h1 291 50 100 rT lh := pa_fi G5 fx3 (by omega)
            first | (exfalso; omega) | exact ih (d - 1) (by omega) (k + 1) (tellT j k n x) gw (sl.set (4 + 511 * k + 205) (nI n)) lh cv h1 (by omega) (by omega) (eG) (hT) (relZ_eqZ he hRt) (tellT_PB hj.1 c_25 hn q3 hPB) g16 g2 g17 g18 g19 g20 fr4
          · skip
            have c_80 : (j.getD k (0, 0, 0)).1 = 116 := cv_nne (by omega) (by omega) c_80
            have g21 : px_pa h1 295 50 30 Value.int cv := pa_fi G2 fx3 (by omega)
            have g22 : px_pa h1 289 54 100 rK lh := pa_fi G3 fx3 (by omega)
            have g23 : px_pa h1 290 50 100 rV lh := pa_fi G4 fx3 (by omega)
            have g24 : px_pa h1 291 50 100 rT lh := pa_fi G5 fx3 (by omega)
            have g25 : pRE h1 ga gp gu gv j dn la lb cb lg A B (nI n) (toldX k n x) := by exact ⟨_, _, _, _, g5, g2, g21, g22, g23, g24, hRt⟩
            refine e_aload_n f_151_83 rfl rfl ?_
            refine e_iload_n f_151_84 rfl rfl ?_
            refine e_iload_n f_151_85 rfl rfl ?_
            obtain ⟨gw26, sl27, lh28, cv29, g30, g31, g32, g33, g34, g35, hR36⟩ := id g25
            have g37 : pRE h1 ga gp gu gv j dn la lb cb lg A B (nI n) (toldX k n x) := ⟨_, _, _, _, g30, g31, g32, g33, g34, g35, hR36⟩
            obtain ⟨hm39, fa40, fb41⟩ := fl_mid fr4
            obtain ⟨hm42, fa43, fb44⟩ := fl_mid fb41
            obtain ⟨hm45, fa46, fb47⟩ := fl_mid fb44
            have g38 : px_pa h1 285 52 6 stA j := pa_fi (pa_fi (pa_fi (pa_fi K1 fa40 (by omega)) fa43 (by omega)) fa46 (by omega)) (fl_one fb47) (by omega)
            obtain ⟨hm49, fa50, fb51⟩ := fl_mid fr4
            obtain ⟨hm52, fa53, fb54⟩ := fl_mid fb51
            obtain ⟨hm55, fa56, fb57⟩ := fl_mid fb54
            have g48 : px_pa h1 286 50 6 stN j := pa_fi (pa_fi (pa_fi (pa_fi K2 fa50 (by omega)) fa53 (by omega)) fa56 (by omega)) (fl_one fb57) (by omega)
            refine e_callV (As := [.int (nI k), .int (nI n)]) (rest := []) f_151_86 rfl rfl rfl (Nat.le_of_ble_eq_true rfl) (Nat.le_of_ble_eq_true rfl) g30 rfl (Nat.le_of_ble_eq_true rfl) (cc_Md_ttm (k := k) (w := n) (x := toldX k n x) (A := A) (B := B) (W := nI n) (ga := ga) (gp := gp) (gu := gu) (gv := gv) (j := j) (dn := dn) (la := la) (lb := lb) (cb := cb) (lg := lg) g37 g6 g38 g48 (hj) (by omega) (c_80) (by omega) (hto) (htp)) rfl (fun h58 r59 q60 => ?_)
            obtain ⟨rfl, g61, fx62⟩ := q60
            obtain ⟨hm63, fa64, fb65⟩ := fl_mid fx62
            have fr66 : px_fl [(269, 1), (287, 1), (289, 3), (295, 1)] h0 hm63 := fl_tr fr4 fa64 (by first | exact ⟨_, List.mem_cons_self, by omega, by omega⟩ | exact ⟨_, List.mem_cons_of_mem _ (List.mem_cons_self), by omega, by omega⟩ | exact ⟨_, List.mem_cons_of_mem _ (List.mem_cons_of_mem _ (List.mem_cons_self)), by omega, by omega⟩ | exact ⟨_, List.mem_cons_of_mem _ (List.mem_cons_of_mem _ (List.mem_cons_of_mem _ (List.mem_cons_self))), by omega, by omega⟩)
            obtain ⟨hm67, fa68, fb69⟩ := fl_mid fb65
            have fr70 : px_fl [(269, 1), (287, 1), (289, 3), (295, 1)] h0 hm67 := fl_tr fr66 fa68 (by first | exact ⟨_, List.mem_cons_self, by omega, by omega⟩ | exact ⟨_, List.mem_cons_of_mem _ (List.mem_cons_self), by omega, by omega⟩ | exact ⟨_, List.mem_cons_of_mem _ (List.mem_cons_of_mem _ (List.mem_cons_self)), by omega, by omega⟩ | exact ⟨_, List.mem_cons_of_mem _ (List.mem_cons_of_mem _ (List.mem_cons_of_mem _ (List.mem_cons_self))), by omega, by omega⟩)
            obtain ⟨hm71, fa72, fb73⟩ := fl_mid fb69
            have fr74 : px_fl [(269, 1), (287, 1), (289, 3), (295, 1)] h0 hm71 := fl_tr fr70 fa72 (by first | exact ⟨_, List.mem_cons_self, by omega, by omega⟩ | exact ⟨_, List.mem_cons_of_mem _ (List.mem_cons_self), by omega, by omega⟩ | exact ⟨_, List.mem_cons_of_mem _ (List.mem_cons_of_mem _ (List.mem_cons_self)), by omega, by omega⟩ | exact ⟨_, List.mem_cons_of_mem _ (List.mem_cons_of_mem _ (List.mem_cons_of_mem _ (List.mem_cons_self))), by omega, by omega⟩)
            have fb75 := fl_one fb73
            have fr76 : px_fl [(269, 1), (287, 1), (289, 3), (295, 1)] h0 h58 := fl_tr fr74 fb75 (by first | exact ⟨_, List.mem_cons_self, by omega, by omega⟩ | exact ⟨_, List.mem_cons_of_mem _ (List.mem_cons_self), by omega, by omega⟩ | exact ⟨_, List.mem_cons_of_mem _ (List.mem_cons_of_mem _ (List.mem_cons_self)), by omega, by omega⟩ | exact ⟨_, List.mem_cons_of_mem _ (List.mem_cons_of_mem _ (List.mem_cons_of_mem _ (List.mem_cons_self))), by omega, by omega⟩)
            show px_to 151 89 [some (.ref (269)), some (.int (nI n)), some (.int (nI k))] [] h58 _
            refine e_iinc (y := nI (k + 1)) (L' := [some (.ref (269)), some (.int (nI n)), some (.int (nI (k + 1)))]) f_151_89 rfl (by rw [show Int32.ofInt 1 = nI 1 by decide]; exact (nI_add _ _)) rfl rfl ?_
            refine e_goto f_151_92 ?_
            obtain ⟨gw77, sl78, lh79, cv80, g81, g82, g83, g84, g85, g86, hR87⟩ := id g61
            have em : tellM j k n x = ringGo j k n 4 (toldX k n x) := by unfold tellM; rw [if_neg c_60, if_pos c_80]
            rw [em] at he
            have g88 : h58.2.2 269 = some (12, mB ga gp (nI j.length, ((tellT j k n x).2.2.2.2).isSome, oI ((tellT j k n x).2.2.2.2), dn, la, lb, cb) (nI lh79.length, nI lg.length) gw77 gu gv) := by rw [← he.2.1]; exact g81
            have hT := tellT_ok hj.1 c_25 hn q3
            have eG : tellGo j n (d - 1) (k + 1) (tellT j k n x) = res := by rw [← q2, show tellGo j n d k x = tellGo j n ((d - 1) + 1) k x from by rw [show (d - 1) + 1 = d by omega], tellGo_s c_25 hz]; rfl
            first | (exfalso; omega) | exact ih (d - 1) (by omega) (k + 1) (tellT j k n x) gw77 sl78 lh79 cv80 h58 (by omega) (by omega) (eG) (hT) (relZ_eqZ he hR87) (tellT_PB hj.1 c_25 hn q3 hPB) g88 g82 g83 g84 g85 g86 fr76
        · skip
          have c_60 : (j.getD k (0, 0, 0)).1 = 119 := cv_nne (by omega) (by omega) c_60
          have g89 : px_pa h1 295 50 30 Value.int cv := pa_fi G2 fx3 (by omega)
          have g90 : px_pa h1 289 54 100 rK lh := pa_fi G3 fx3 (by omega)
          have g91 : px_pa h1 290 50 100 rV lh := pa_fi G4 fx3 (by omega)
          have g92 : px_pa h1 291 50 100 rT lh := pa_fi G5 fx3 (by omega)
          have g93 : pRE h1 ga gp gu gv j dn la lb cb lg A B (nI n) (toldX k n x) := by exact ⟨_, _, _, _, g5, g2, g89, g90, g91, g92, hRt⟩
          refine e_aload_n f_151_63 rfl rfl ?_
          refine e_iload_n f_151_64 rfl rfl ?_
          refine e_iload_n f_151_65 rfl rfl ?_
          obtain ⟨gw94, sl95, lh96, cv97, g98, g99, g100, g101, g102, g103, hR104⟩ := id g93
          have g105 : pRE h1 ga gp gu gv j dn la lb cb lg A B (nI n) (toldX k n x) := ⟨_, _, _, _, g98, g99, g100, g101, g102, g103, hR104⟩
          obtain ⟨hm107, fa108, fb109⟩ := fl_mid fr4
          obtain ⟨hm110, fa111, fb112⟩ := fl_mid fb109
          obtain ⟨hm113, fa114, fb115⟩ := fl_mid fb112
          have g106 : px_pa h1 285 52 6 stA j := pa_fi (pa_fi (pa_fi (pa_fi K1 fa108 (by omega)) fa111 (by omega)) fa114 (by omega)) (fl_one fb115) (by omega)
          obtain ⟨hm117, fa118, fb119⟩ := fl_mid fr4
          obtain ⟨hm120, fa121, fb122⟩ := fl_mid fb119
          obtain ⟨hm123, fa124, fb125⟩ := fl_mid fb122
          have g116 : px_pa h1 286 50 6 stN j := pa_fi (pa_fi (pa_fi (pa_fi K2 fa118 (by omega)) fa121 (by omega)) fa124 (by omega)) (fl_one fb125) (by omega)
          refine e_callV (As := [.int (nI k), .int (nI n)]) (rest := []) f_151_66 rfl rfl rfl (Nat.le_of_ble_eq_true rfl) (Nat.le_of_ble_eq_true rfl) g98 rfl (Nat.le_of_ble_eq_true rfl) (cc_Md_tsp (k := k) (w := n) (x := toldX k n x) (A := A) (B := B) (W := nI n) (ga := ga) (gp := gp) (gu := gu) (gv := gv) (j := j) (dn := dn) (la := la) (lb := lb) (cb := cb) (lg := lg) g105 g6 g106 g116 (hj) (by omega) (c_60) (by omega) (hto) (htp)) rfl (fun h126 r127 q128 => ?_)
          obtain ⟨rfl, g129, fx130⟩ := q128
          obtain ⟨hm131, fa132, fb133⟩ := fl_mid fx130
          have fr134 : px_fl [(269, 1), (287, 1), (289, 3), (295, 1)] h0 hm131 := fl_tr fr4 fa132 (by first | exact ⟨_, List.mem_cons_self, by omega, by omega⟩ | exact ⟨_, List.mem_cons_of_mem _ (List.mem_cons_self), by omega, by omega⟩ | exact ⟨_, List.mem_cons_of_mem _ (List.mem_cons_of_mem _ (List.mem_cons_self)), by omega, by omega⟩ | exact ⟨_, List.mem_cons_of_mem _ (List.mem_cons_of_mem _ (List.mem_cons_of_mem _ (List.mem_cons_self))), by omega, by omega⟩)
          obtain ⟨hm135, fa136, fb137⟩ := fl_mid fb133
          have fr138 : px_fl [(269, 1), (287, 1), (289, 3), (295, 1)] h0 hm135 := fl_tr fr134 fa136 (by first | exact ⟨_, List.mem_cons_self, by omega, by omega⟩ | exact ⟨_, List.mem_cons_of_mem _ (List.mem_cons_self), by omega, by omega⟩ | exact ⟨_, List.mem_cons_of_mem _ (List.mem_cons_of_mem _ (List.mem_cons_self)), by omega, by omega⟩ | exact ⟨_, List.mem_cons_of_mem _ (List.mem_cons_of_mem _ (List.mem_cons_of_mem _ (List.mem_cons_self))), by omega, by omega⟩)
          obtain ⟨hm139, fa140, fb141⟩ := fl_mid fb137
          have fr142 : px_fl [(269, 1), (287, 1), (289, 3), (295, 1)] h0 hm139 := fl_tr fr138 fa140 (by first | exact ⟨_, List.mem_cons_self, by omega, by omega⟩ | exact ⟨_, List.mem_cons_of_mem _ (List.mem_cons_self), by omega, by omega⟩ | exact ⟨_, List.mem_cons_of_mem _ (List.mem_cons_of_mem _ (List.mem_cons_self)), by omega, by omega⟩ | exact ⟨_, List.mem_cons_of_mem _ (List.mem_cons_of_mem _ (List.mem_cons_of_mem _ (List.mem_cons_self))), by omega, by omega⟩)
          have fb143 := fl_one fb141
          have fr144 : px_fl [(269, 1), (287, 1), (289, 3), (295, 1)] h0 h126 := fl_tr fr142 fb143 (by first | exact ⟨_, List.mem_cons_self, by omega, by omega⟩ | exact ⟨_, List.mem_cons_of_mem _ (List.mem_cons_self), by omega, by omega⟩ | exact ⟨_, List.mem_cons_of_mem _ (List.mem_cons_of_mem _ (List.mem_cons_self)), by omega, by omega⟩ | exact ⟨_, List.mem_cons_of_mem _ (List.mem_cons_of_mem _ (List.mem_cons_of_mem _ (List.mem_cons_self))), by omega, by omega⟩)
          show px_to 151 69 [some (.ref (269)), some (.int (nI n)), some (.int (nI k))] [] h126 _
          refine e_goto f_151_69 ?_
          refine e_iinc (y := nI (k + 1)) (L' := [some (.ref (269)), some (.int (nI n)), some (.int (nI (k + 1)))]) f_151_89 rfl (by rw [show Int32.ofInt 1 = nI 1 by decide]; exact (nI_add _ _)) rfl rfl ?_
          refine e_goto f_151_92 ?_
          obtain ⟨gw145, sl146, lh147, cv148, g149, g150, g151, g152, g153, g154, hR155⟩ := id g129
          have em : tellM j k n x = popS j k n 97 (toldX k n x) := by unfold tellM; rw [if_pos c_60]
          rw [em] at he
          have g156 : h126.2.2 269 = some (12, mB ga gp (nI j.length, ((tellT j k n x).2.2.2.2).isSome, oI ((tellT j k n x).2.2.2.2), dn, la, lb, cb) (nI lh147.length, nI lg.length) gw145 gu gv) := by rw [← he.2.1]; exact g149
          have hT := tellT_ok hj.1 c_25 hn q3
          have eG : tellGo j n (d - 1) (k + 1) (tellT j k n x) = res := by rw [← q2, show tellGo j n d k x = tellGo j n ((d - 1) + 1) k x from by rw [show (d - 1) + 1 = d by omega], tellGo_s c_25 hz]; rfl
          first | (exfalso; omega) | exact ih (d - 1) (by omega) (k + 1) (tellT j k n x) gw145 sl146 lh147 cv148 h126 (by omega) (by omega) (eG) (hT) (relZ_eqZ he hR155) (tellT_PB hj.1 c_25 hn q3 hPB) g156 g150 g151 g152 g153 g154 fr144

set_option maxRecDepth 20000 in
set_option maxHeartbeats 4000000 in
theorem cc_Md_ri1 {h : px_H} {n : Nat} {x : RX} {A B W : Int32} {ga : gA} {gp : gP} {gu : gU} {gv : gV} {j : List St} {dn : Int32} {la lb cb : Bool} {lg : List Row}  (H0 : pRZ h ga gp gu gv j dn la lb cb lg A B W x) (H1 : px_pa h 284 52 6 stS j) (H2 : px_pa h 285 52 6 stA j) (H3 : px_pa h 286 50 6 stN j) (p0 : okZ j) (p1 : n ≤ 5000) (p2 : W < nI n) (p3 : okX j x) (p4 : x.2.2.2.2 = none) (p5 : PB j x 96) : px_wp 151 [.ref (269), .int (nI n)] h (fun h1 r => r = none ∧ pRZ h1 ga gp gu gv j dn la lb cb lg A B (nI n) (tellGo j n 7 0 x) ∧ px_fl [(269, 1), (287, 1), (289, 3), (295, 1)] h h1) := by
  have fr0 : px_fl [(269, 1), (287, 1), (289, 3), (295, 1)] h h := fl_rf _ _
  have h6 := p0.1.1
  show px_to 151 0 [some (.ref (269)), some (.int (nI n)), none] [] h _
  obtain ⟨gw1, sl2, lh3, cv4, g5, g6, g7, g8, g9, g10, hR11⟩ := id H0
  have hR0 := hR11
  have hsl := hR0.1
  refine e_iload_n f_151_0 rfl rfl ?_
  refine e_aload_n f_151_1 rfl rfl ?_
  refine e_getf f_151_2 g5 rfl rfl ?_
  refine e_iconst (v := nI 2) f_151_5 (by decide) rfl ?_
  refine e_iaload_p (xs := sl2) f_151_6 g6 (d := 0) (by first | omega | (simp only [List.length_set]; omega)) rfl ?_
  show px_to 151 7 [some (.ref (269)), some (.int (nI n)), none] [.int (sl2.getD 2 0), .int (nI n)] h _
  rw [hR0.2.1.2.2.1]
  refine e_icmp_gt_t f_151_7 (p2) ?_
  refine e_aload_n f_151_11 rfl rfl ?_
  refine e_getf f_151_12 g5 rfl rfl ?_
  refine e_iconst (v := nI 2) f_151_15 (by decide) rfl ?_
  refine e_iload_n f_151_16 rfl rfl ?_
  refine e_iastore_p (xs := sl2) (x := nI n) f_151_17 g6 (by omega) (by first | omega | (simp only [List.length_set]; omega)) (rfl) rfl (fun h12 g13 fx14 => ?_)
  have fr15 : px_fl [(269, 1), (287, 1), (289, 3), (295, 1)] h h12 := fl_tr fr0 fx14 (by first | exact ⟨_, List.mem_cons_self, by omega, by omega⟩ | exact ⟨_, List.mem_cons_of_mem _ (List.mem_cons_self), by omega, by omega⟩ | exact ⟨_, List.mem_cons_of_mem _ (List.mem_cons_of_mem _ (List.mem_cons_self)), by omega, by omega⟩ | exact ⟨_, List.mem_cons_of_mem _ (List.mem_cons_of_mem _ (List.mem_cons_of_mem _ (List.mem_cons_self))), by omega, by omega⟩)
  refine e_iconst (v := nI 0) f_151_18 (by decide) rfl ?_
  refine e_istore_n (L' := [some (.ref (269)), some (.int (nI n)), some (.int (nI 0))]) f_151_19 (Nat.le_of_ble_eq_true rfl) rfl rfl ?_
  have g16 : h12.2.2 269 = some (12, mB ga gp (nI j.length, x.2.2.2.2.isSome, oI x.2.2.2.2, dn, la, lb, cb) (nI lh3.length, nI lg.length) gw1 gu gv) := fi_at g5 fx14 (by omega)
  have g17 : px_pa h12 295 50 30 Value.int cv4 := pa_fi g7 fx14 (by omega)
  have g18 : px_pa h12 289 54 100 rK lh3 := pa_fi g8 fx14 (by omega)
  have g19 : px_pa h12 290 50 100 rV lh3 := pa_fi g9 fx14 (by omega)
  have g20 : px_pa h12 291 50 100 rT lh3 := pa_fi g10 fx14 (by omega)
  have hR1 : relZ j cb lg A B (nI n) x (sl2.set 2 (nI n)) lh3 cv4 := ⟨by rw [List.length_set]; exact hR0.1, ⟨by rw [getD_set_ne (by omega)]; exact hR0.2.1.1, by rw [getD_set_ne (by omega)]; exact hR0.2.1.2.1, getD_set_same (by omega), by rw [getD_set_ne (by omega)]; exact hR0.2.1.2.2.2⟩, fun z => MSt_eq (hR0.2.2.1 z) (fun i h1 h2 => getD_set_ne (by omega)), hR0.2.2.2⟩
  exact ll_Md_ri1 (h0 := h) (n := n) (res := _) H1 H2 H3 p0 p1 7 0 x _ _ _ _ h12 (by have := p0.1.1; omega) (Nat.zero_le _) rfl p3 hR1 (fun _ => p5) g16 g13 g17 g18 g19 g20 fr15

set_option maxRecDepth 20000 in
set_option maxHeartbeats 4000000 in
theorem ll_Md_giv {P : px_H → Option Value → Prop} {h0 : px_H} {lh lg : List Row} {ga : gA} {gp : gP} {gq : gQ} {gw : gW} {gu : gU} {gv : gV} (K0 : px_pa h0 289 54 100 rK lh) (K1 : px_pa h0 290 50 100 rV lh) (K2 : px_pa h0 291 50 100 rT lh) (p0 : lg.length + lh.length ≤ 96) (p1 : ∀ x ∈ lh, rwOk x) (kx : ∀ g, g.2.2 269 = some (12, mB ga gp gq (nI lh.length, nI (lg.length + lh.length)) gw gu gv) → px_pa g 292 54 100 rK (lg ++ lh) → px_pa g 293 50 100 rV (lg ++ lh) → px_pa g 294 50 100 rT (lg ++ lh) → px_fj 269 1 292 3 h0 g → px_to 152 71 [some (.ref (269)), some (.int (nI lh.length))] [] g P) : ∀ (d : Nat) (i : Nat) (g : px_H), (lh.length ≤ i + d) → (i ≤ lh.length) → g.2.2 269 = some (12, mB ga gp gq (nI lh.length, nI (lg.length + i)) gw gu gv) → px_pa g 292 54 100 rK (lg ++ lh.take i) → px_pa g 293 50 100 rV (lg ++ lh.take i) → px_pa g 294 50 100 rT (lg ++ lh.take i) → px_fj 269 1 292 3 h0 g → px_to 152 2 [some (.ref (269)), some (.int (nI i))] [] g P := by
  intro d
  induction d using Nat.strongRecOn with
  | ind d ih =>
    intro i g q0 q1 G0 G1 G2 G3 frg
    have l1 := pa_len K0
    refine e_iload_n f_152_2 rfl rfl ?_
    refine e_aload_n f_152_3 rfl rfl ?_
    refine e_getf f_152_4 G0 rfl rfl ?_
    show px_to 152 7 [some (.ref (269)), some (.int (nI i))] [.int (nI lh.length), .int (nI i)] g _
    refine e_icmp_ge f_152_7 rfl (fun c_7 => ?_) (fun c_7 => ?_)
    · skip
      have c_7 : lh.length ≤ i := cv_le (by omega) (by omega) c_7
      have ei : i = lh.length := by omega
      subst ei
      rw [List.take_length] at G1 G2 G3
      exact kx g G0 G1 G2 G3 frg
    · skip
      have c_7 : i < lh.length := cv_nle (by omega) (by omega) c_7
      have hro := p1 _ (getD_mem (0, 0, 0) (show i < lh.length by omega))
      unfold rwOk at hro
      have hti : (lg ++ lh.take i).length = lg.length + i := by rw [List.length_append, List.length_take]; omega
      refine e_aload_n f_152_10 rfl rfl ?_
      refine e_getf f_152_11 G0 rfl rfl ?_
      refine e_aload_n f_152_14 rfl rfl ?_
      refine e_getf f_152_15 G0 rfl rfl ?_
      show px_to 152 18 [some (.ref (269)), some (.int (nI i))] [.int (nI (lg.length + i)), .ref (292)] g _
      refine e_aload_n f_152_18 rfl rfl ?_
      refine e_getf f_152_19 G0 rfl rfl ?_
      refine e_iload_n f_152_22 rfl rfl ?_
      obtain ⟨hm2, fa3, fb4⟩ := fj_mid frg
      have g1 : px_pa g 289 54 100 rK lh := pa_fi (pa_fi K0 fa3 (by omega)) fb4 (by omega)
      refine e_baload_p (xs := lh) f_152_23 g1 (d := (0, 0, 0)) (by first | omega | (simp only [List.length_set]; omega)) rfl ?_
      show px_to 152 24 [some (.ref (269)), some (.int (nI i))] [.int (nI ((lh.getD i (0, 0, 0)).1)), .int (nI (lg.length + i)), .ref (292)] g _
      refine e_bastore_a (xs := lg ++ lh.take i) (x := lh.getD i (0, 0, 0)) f_152_24 G1 (by omega) (hti.symm) (by omega) (nw_y (i2b_id _ (by omega))) rfl (fun h5 g6 fx7 => ?_)
      have fr8 : px_fj 269 1 292 3 h0 h5 := fj_tr frg fx7 (by omega)
      refine e_aload_n f_152_25 rfl rfl ?_
      have g9 : h5.2.2 269 = some (12, mB ga gp gq (nI lh.length, nI (lg.length + i)) gw gu gv) := fi_at G0 fx7 (by omega)
      refine e_getf f_152_26 g9 rfl rfl ?_
      refine e_aload_n f_152_29 rfl rfl ?_
      refine e_getf f_152_30 g9 rfl rfl ?_
      show px_to 152 33 [some (.ref (269)), some (.int (nI i))] [.int (nI (lg.length + i)), .ref (293)] h5 _
      refine e_aload_n f_152_33 rfl rfl ?_
      refine e_getf f_152_34 g9 rfl rfl ?_
      refine e_iload_n f_152_37 rfl rfl ?_
      obtain ⟨hm11, fa12, fb13⟩ := fj_mid fr8
      have g10 : px_pa h5 290 50 100 rV lh := pa_fi (pa_fi K1 fa12 (by omega)) fb13 (by omega)
      refine e_iaload_p (xs := lh) f_152_38 g10 (d := (0, 0, 0)) (by first | omega | (simp only [List.length_set]; omega)) rfl ?_
      show px_to 152 39 [some (.ref (269)), some (.int (nI i))] [.int ((lh.getD i (0, 0, 0)).2.1), .int (nI (lg.length + i)), .ref (293)] h5 _
      have g14 : px_pa h5 293 50 100 rV (lg ++ lh.take i) := pa_fi G2 fx7 (by omega)
      refine e_iastore_a (xs := lg ++ lh.take i) (x := lh.getD i (0, 0, 0)) f_152_39 g14 (by omega) (hti.symm) (by omega) (rfl) rfl (fun h15 g16 fx17 => ?_)
      have fr18 : px_fj 269 1 292 3 h0 h15 := fj_tr fr8 fx17 (by omega)
      refine e_aload_n f_152_40 rfl rfl ?_
      have g19 : h15.2.2 269 = some (12, mB ga gp gq (nI lh.length, nI (lg.length + i)) gw gu gv) := fi_at g9 fx17 (by omega)
      refine e_getf f_152_41 g19 rfl rfl ?_
      refine e_aload_n f_152_44 rfl rfl ?_
      refine e_getf f_152_45 g19 rfl rfl ?_
      show px_to 152 48 [some (.ref (269)), some (.int (nI i))] [.int (nI (lg.length + i)), .ref (294)] h15 _
      refine e_aload_n f_152_48 rfl rfl ?_
      refine e_getf f_152_49 g19 rfl rfl ?_
      refine e_iload_n f_152_52 rfl rfl ?_
      obtain ⟨hm21, fa22, fb23⟩ := fj_mid fr18
      have g20 : px_pa h15 291 50 100 rT lh := pa_fi (pa_fi K2 fa22 (by omega)) fb23 (by omega)
      refine e_iaload_p (xs := lh) f_152_53 g20 (d := (0, 0, 0)) (by first | omega | (simp only [List.length_set]; omega)) rfl ?_
      show px_to 152 54 [some (.ref (269)), some (.int (nI i))] [.int (nI ((lh.getD i (0, 0, 0)).2.2)), .int (nI (lg.length + i)), .ref (294)] h15 _
      have g24 : px_pa h5 294 50 100 rT (lg ++ lh.take i) := pa_fi G3 fx7 (by omega)
      have g25 : px_pa h15 294 50 100 rT (lg ++ lh.take i) := pa_fi g24 fx17 (by omega)
      refine e_iastore_a (xs := lg ++ lh.take i) (x := lh.getD i (0, 0, 0)) f_152_54 g25 (by omega) (hti.symm) (by omega) (rfl) rfl (fun h26 g27 fx28 => ?_)
      have fr29 : px_fj 269 1 292 3 h0 h26 := fj_tr fr18 fx28 (by omega)
      refine e_aload_n f_152_55 rfl rfl ?_
      refine e_dup f_152_56 rfl rfl ?_
      have g30 : h26.2.2 269 = some (12, mB ga gp gq (nI lh.length, nI (lg.length + i)) gw gu gv) := fi_at g19 fx28 (by omega)
      refine e_getf f_152_57 g30 rfl rfl ?_
      show px_to 152 60 [some (.ref (269)), some (.int (nI i))] [.int (nI (lg.length + i)), .ref (269)] h26 _
      refine e_iconst (v := nI 1) f_152_60 (by decide) rfl ?_
      refine e_iadd (z := nI (lg.length + i + 1)) f_152_61 (nI_add _ _) rfl ?_
      refine e_putp (vs' := mB ga gp gq (nI lh.length, nI (lg.length + i + 1)) gw gu gv) f_152_62 g30 (Nat.le_of_ble_eq_true rfl) (rfl) (rfl) rfl rfl (fun h31 g32 fx33 => ?_)
      have fr34 : px_fj 269 1 292 3 h0 h31 := fj_tr fr29 fx33 (by omega)
      refine e_iinc (y := nI (i + 1)) (L' := [some (.ref (269)), some (.int (nI (i + 1)))]) f_152_65 rfl (by rw [show Int32.ofInt 1 = nI 1 by decide]; exact (nI_add _ _)) rfl rfl ?_
      refine e_goto f_152_68 ?_
      have g35 : px_pa h15 292 54 100 rK ((lg ++ lh.take i) ++ [lh.getD i (0, 0, 0)]) := pa_fi g6 fx17 (by omega)
      have g36 : px_pa h26 292 54 100 rK ((lg ++ lh.take i) ++ [lh.getD i (0, 0, 0)]) := pa_fi g35 fx28 (by omega)
      have g37 : px_pa h31 292 54 100 rK ((lg ++ lh.take i) ++ [lh.getD i (0, 0, 0)]) := pa_fi g36 fx33 (by omega)
      have g38 : px_pa h31 292 54 100 rK (lg ++ lh.take (i + 1)) := pa_eq g37 (by rw [List.append_assoc, ← take_s (0, 0, 0) (by omega)])
      have g39 : px_pa h26 293 50 100 rV ((lg ++ lh.take i) ++ [lh.getD i (0, 0, 0)]) := pa_fi g16 fx28 (by omega)
      have g40 : px_pa h31 293 50 100 rV ((lg ++ lh.take i) ++ [lh.getD i (0, 0, 0)]) := pa_fi g39 fx33 (by omega)
      have g41 : px_pa h31 293 50 100 rV (lg ++ lh.take (i + 1)) := pa_eq g40 (by rw [List.append_assoc, ← take_s (0, 0, 0) (by omega)])
      have g42 : px_pa h31 294 50 100 rT ((lg ++ lh.take i) ++ [lh.getD i (0, 0, 0)]) := pa_fi g27 fx33 (by omega)
      have g43 : px_pa h31 294 50 100 rT (lg ++ lh.take (i + 1)) := pa_eq g42 (by rw [List.append_assoc, ← take_s (0, 0, 0) (by omega)])
      first | (exfalso; omega) | exact ih (d - 1) (by omega) (i + 1) h31 (by omega) (by omega) g32 g38 g41 g43 fr34

set_option maxRecDepth 20000 in
set_option maxHeartbeats 4000000 in
theorem cc_Md_giv {h : px_H} {lh lg : List Row} {ga : gA} {gp : gP} {gq : gQ} {gh : gH} {gw : gW} {gu : gU} {gv : gV} (H0 : h.2.2 269 = some (12, mB ga gp gq (nI lh.length, nI lg.length) gw gu gv)) (H1 : px_pa h 289 54 100 rK lh) (H2 : px_pa h 290 50 100 rV lh) (H3 : px_pa h 291 50 100 rT lh) (H4 : px_pa h 292 54 100 rK lg) (H5 : px_pa h 293 50 100 rV lg) (H6 : px_pa h 294 50 100 rT lg) (p0 : lg.length + lh.length ≤ 96) (p1 : ∀ x ∈ lh, rwOk x) : px_wp 152 [.ref (269)] h (fun h1 r => r = none ∧ h1.2.2 269 = some (12, mB ga gp gq (nI 0, nI ((lg ++ lh).length)) gw gu gv) ∧ px_pa h1 292 54 100 rK (lg ++ lh) ∧ px_pa h1 293 50 100 rV (lg ++ lh) ∧ px_pa h1 294 50 100 rT (lg ++ lh) ∧ px_fj 269 1 292 3 h h1) := by
  have fr0 : px_fj 269 1 292 3 h h := fj_rf _ _ _ _ _
  show px_to 152 0 [some (.ref (269)), none] [] h _
  refine e_iconst (v := nI 0) f_152_0 (by decide) rfl ?_
  refine e_istore_n (L' := [some (.ref (269)), some (.int (nI 0))]) f_152_1 (Nat.le_of_ble_eq_true rfl) rfl rfl ?_
  refine ll_Md_giv (h0 := h) H1 H2 H3 p0 p1 (fun g1 e1 e2 e3 e4 e5 => ?_) lh.length 0 h (by omega) (Nat.zero_le _) H0 (pa_eq H4 (by rw [List.take_zero, List.append_nil])) (pa_eq H5 (by rw [List.take_zero, List.append_nil])) (pa_eq H6 (by rw [List.take_zero, List.append_nil])) fr0
  refine e_aload_n f_152_71 rfl rfl ?_
  refine e_iconst (v := nI 0) f_152_72 (by decide) rfl ?_
  refine e_putp (vs' := mB ga gp gq (nI 0, nI (lg.length + lh.length)) gw gu gv) f_152_73 e1 (Nat.le_of_ble_eq_true rfl) (rfl) (rfl) rfl rfl (fun h1 g2 fx3 => ?_)
  have fr4 : px_fj 269 1 292 3 h h1 := fj_tr e5 fx3 (by omega)
  refine e_vret f_152_76 rfl ?_
  have g5 : h1.2.2 269 = some (12, mB ga gp gq (nI 0, nI ((lg ++ lh).length)) gw gu gv) := by rw [List.length_append]; exact g2
  have g6 : px_pa h1 292 54 100 rK (lg ++ lh) := pa_fi e2 fx3 (by omega)
  have g7 : px_pa h1 293 50 100 rV (lg ++ lh) := pa_fi e3 fx3 (by omega)
  have g8 : px_pa h1 294 50 100 rT (lg ++ lh) := pa_fi e4 fx3 (by omega)
  first | (exfalso; omega) | exact ⟨rfl, g5, g6, g7, g8, fr4⟩

def cpy (s d : List Int32) (n : Nat) : List Int32 := s.take n ++ d.drop n
theorem cpy_len {s d : List Int32} {n : Nat} (hs : s.length = 3070) (hd : d.length = 3070) (hn : n ≤ 3070) : (cpy s d n).length = 3070 := by
  unfold cpy
  rw [List.length_append, List.length_take, List.length_drop]
  omega
theorem cpy_get {s d : List Int32} {n i : Nat} (hs : s.length = 3070) (hn : n ≤ 3070) (hi : i < n) : (cpy s d n).getD i 0 = s.getD i 0 := by
  unfold cpy
  rw [getD_app (by rw [List.length_take]; omega), getD_tk hi]
theorem cpy_s {s d : List Int32} {i : Nat} (hs : s.length = 3070) (hd : d.length = 3070) (hi : i < 3070) : (cpy s d i).set i (s.getD i 0) = cpy s d (i + 1) := by
  unfold cpy
  rw [List.set_append_right _ _ (by rw [List.length_take]; omega), List.length_take, Nat.min_eq_left (by omega), Nat.sub_self, drop_step 0 (show i < d.length by omega), List.set_cons_zero, take_s 0 (show i < s.length by omega), List.append_assoc]
  rfl

set_option maxRecDepth 20000 in
set_option maxHeartbeats 4000000 in
theorem ll_Md_cpy {h0 : px_H} {a b : Nat} {s d2 : List Int32} {j : List St} {ga : gA} {gp : gP} {gq : gQ} {gh : gH} {gw : gW} {gu : gU} {gv : gV} (H0 : h0.2.2 269 = some (12, mB ga gp (nI j.length, gq.2.1, gq.2.2.1, gq.2.2.2.1, gq.2.2.2.2.1, gq.2.2.2.2.2.1, gq.2.2.2.2.2.2) gh gw gu gv)) (H1 : px_pa h0 a 50 3070 Value.int s) (p0 : a + 1 ≤ b ∨ b + 1 ≤ a) (p1 : 269 < b) (p2 : s.length = 3070) (p3 : d2.length = 3070) (p4 : j.length ≤ 6) : ∀ (d : Nat) (i : Nat) (g : px_H), (4 + 511 * j.length ≤ i + d) → (i ≤ 4 + 511 * j.length) → px_pa g b 50 3070 Value.int (cpy s d2 i) → px_fi b 1 h0 g → px_to 153 2 [some (.ref (269)), some (.ref (a)), some (.ref (b)), some (.int (nI i))] [] g (fun h1 r => r = none ∧ px_pa h1 b 50 3070 Value.int (cpy s d2 (4 + 511 * j.length)) ∧ px_fi b 1 h0 h1) := by
  intro d
  induction d using Nat.strongRecOn with
  | ind d ih =>
    intro i g q0 q1 G0 frg
    refine e_iload_n f_153_2 rfl rfl ?_
    refine e_iconst (v := nI 4) f_153_3 (by decide) rfl ?_
    refine e_sipush (v := nI 511) f_153_4 (by decide) rfl ?_
    refine e_aload_n f_153_7 rfl rfl ?_
    have g1 : g.2.2 269 = some (12, mB ga gp (nI j.length, gq.2.1, gq.2.2.1, gq.2.2.2.1, gq.2.2.2.2.1, gq.2.2.2.2.2.1, gq.2.2.2.2.2.2) gh gw gu gv) := fi_at H0 frg (by omega)
    refine e_getf f_153_8 g1 rfl rfl ?_
    show px_to 153 11 [some (.ref (269)), some (.ref (a)), some (.ref (b)), some (.int (nI i))] [.int (nI j.length), .int (nI 511), .int (nI 4), .int (nI i)] g _
    refine e_imul (z := nI (511 * j.length)) f_153_11 (pk_mul _ _) rfl ?_
    refine e_iadd (z := nI (4 + 511 * j.length)) f_153_12 (nI_add _ _) rfl ?_
    refine e_icmp_ge f_153_13 rfl (fun c_13 => ?_) (fun c_13 => ?_)
    · skip
      have c_13 : 4 + 511 * j.length ≤ i := cv_le (by omega) (by omega) c_13
      refine e_vret f_153_28 rfl ?_
      have ei : i = 4 + 511 * j.length := by omega
      subst ei
      exact ⟨rfl, G0, frg⟩
    · skip
      have c_13 : i < 4 + 511 * j.length := cv_nle (by omega) (by omega) c_13
      refine e_aload_n f_153_16 rfl rfl ?_
      refine e_iload_n f_153_17 rfl rfl ?_
      refine e_aload_n f_153_18 rfl rfl ?_
      refine e_iload_n f_153_19 rfl rfl ?_
      have g2 : px_pa g a 50 3070 Value.int s := pa_fi H1 frg (by omega)
      refine e_iaload_p (xs := s) f_153_20 g2 (d := 0) (by first | omega | (simp only [List.length_set]; omega)) rfl ?_
      show px_to 153 21 [some (.ref (269)), some (.ref (a)), some (.ref (b)), some (.int (nI i))] [.int (s.getD i 0), .int (nI i), .ref (b)] g _
      refine e_iastore_p (xs := cpy s d2 i) (x := s.getD i 0) f_153_21 G0 (by omega) (by rw [cpy_len p2 p3 (by omega)]; omega) (rfl) rfl (fun h3 g4 fx5 => ?_)
      have fr6 : px_fi b 1 h0 h3 := fi_tr frg fx5 (by omega)
      refine e_iinc (y := nI (i + 1)) (L' := [some (.ref (269)), some (.ref (a)), some (.ref (b)), some (.int (nI (i + 1)))]) f_153_22 rfl (by rw [show Int32.ofInt 1 = nI 1 by decide]; exact (nI_add _ _)) rfl rfl ?_
      refine e_goto f_153_25 ?_
      have g7 : px_pa h3 b 50 3070 Value.int (cpy s d2 (i + 1)) := pa_eq g4 (cpy_s p2 p3 (by omega))
      first | (exfalso; omega) | exact ih (d - 1) (by omega) (i + 1) h3 (by omega) (by omega) g7 fr6

set_option maxRecDepth 20000 in
set_option maxHeartbeats 4000000 in
theorem cc_Md_cpy {h : px_H} {a b : Nat} {s d : List Int32} {j : List St} {ga : gA} {gp : gP} {gq : gQ} {gh : gH} {gw : gW} {gu : gU} {gv : gV} (H0 : h.2.2 269 = some (12, mB ga gp (nI j.length, gq.2.1, gq.2.2.1, gq.2.2.2.1, gq.2.2.2.2.1, gq.2.2.2.2.2.1, gq.2.2.2.2.2.2) gh gw gu gv)) (H1 : px_pa h a 50 3070 Value.int s) (H2 : px_pa h b 50 3070 Value.int d) (p0 : a + 1 ≤ b ∨ b + 1 ≤ a) (p1 : 269 < b) (p2 : s.length = 3070) (p3 : d.length = 3070) (p4 : j.length ≤ 6) : px_wp 153 [.ref (269), .ref (a), .ref (b)] h (fun h1 r => r = none ∧ px_pa h1 b 50 3070 Value.int (cpy s d (4 + 511 * j.length)) ∧ px_fi b 1 h h1) := by
  have fr0 : px_fi b 1 h h := fi_rf _ _ _
  show px_to 153 0 [some (.ref (269)), some (.ref (a)), some (.ref (b)), none] [] h _
  refine e_iconst (v := nI 0) f_153_0 (by decide) rfl ?_
  refine e_istore_n (L' := [some (.ref (269)), some (.ref (a)), some (.ref (b)), some (.int (nI 0))]) f_153_1 (Nat.le_of_ble_eq_true rfl) rfl rfl ?_
  exact ll_Md_cpy (h0 := h) H0 H1 p0 p1 p2 p3 p4 (4 + 511 * j.length) 0 h (by omega) (Nat.zero_le _) H2 fr0
