def relX (j : List St) (cb : Bool) (lg : List Row) (A B W : Int32) (x : RX) (sl : List Int32) (lh : List Row) (cv : List Int32) : Prop := sl.length = 3070 ∧ (sl.getD 0 0 = A ∧ sl.getD 1 0 = B ∧ sl.getD 2 0 = W ∧ sl.getD 3 0 = x.1) ∧ MSt sl j x.2.1 ∧ x.2.2.1 = lg ++ lh ∧ cv.length = 30 ∧ (cb = true → cv = x.2.2.2.1)

def pRE (h : px_H) (ga : gA) (gp : gP) (gu : gU) (gv : gV) (j : List St) (dn : Int32) (la lb cb : Bool) (lg : List Row) (A B W : Int32) (x : RX) : Prop := ∃ (gw : gW) (sl : List Int32) (lh : List Row) (cv : List Int32), h.2.2 269 = some (12, mB ga gp (nI j.length, x.2.2.2.2.isSome, oI x.2.2.2.2, dn, la, lb, cb) (nI lh.length, nI lg.length) gw gu gv) ∧ px_pa h 287 50 3070 Value.int sl ∧ px_pa h 295 50 30 Value.int cv ∧ px_pa h 289 54 100 rK lh ∧ px_pa h 290 50 100 rV lh ∧ px_pa h 291 50 100 rT lh ∧ relX j cb lg A B W x sl lh cv

theorem pRE_fi {h h1 : px_H} {ga : gA} {gp : gP} {gu : gU} {gv : gV} {j : List St} {dn : Int32} {la lb cb : Bool} {lg : List Row} {A B W : Int32} {x : RX} {lo n : Nat} (q : pRE h ga gp gu gv j dn la lb cb lg A B W x) (f : px_fi lo n h h1) (d : (296 ≤ lo ∨ lo + n ≤ 269 ∨ (270 ≤ lo ∧ lo + n ≤ 287) ∨ (288 ≤ lo ∧ lo + n ≤ 289) ∨ (292 ≤ lo ∧ lo + n ≤ 295))) : pRE h1 ga gp gu gv j dn la lb cb lg A B W x := by
  obtain ⟨gw, sl, lh, cv, z1, z2, z3, z4, z5, z6, y⟩ := q
  exact ⟨gw, sl, lh, cv, fi_at z1 f (by omega), pa_fi z2 f (by omega), pa_fi z3 f (by omega), pa_fi z4 f (by omega), pa_fi z5 f (by omega), pa_fi z6 f (by omega), y⟩

set_option maxRecDepth 20000 in
set_option maxHeartbeats 4000000 in
theorem ll_Md_flo {h0 : px_H} {f key t : Nat} {lh : List Row} {res : RX} {A B W : Int32} {ga : gA} {gp : gP} {gu : gU} {gv : gV} {j : List St} {dn : Int32} {la lb cb : Bool} {lg : List Row}  (K0 : px_pa h0 284 52 6 stS j) (K1 : px_pa h0 285 52 6 stA j) (K2 : px_pa h0 286 50 6 stN j) (hj : okZ j) (hky : key < 4) (ht5 : t ≤ 5000) : ∀ (d : Nat) (k : Nat) (v : Int32) (x : RX) (sl : List Int32) (cv : List Int32) (g : px_H), (j.length < k + d) → (k ≤ j.length) → (pass j d k key v t x = res) → (okM j x.2.1) → (x.2.2.2.2 = none) → (relX j cb lg A B W x sl lh cv) → (bd j x k) → g.2.2 269 = some (12, mB ga gp (nI j.length, x.2.2.2.2.isSome, oI x.2.2.2.2, dn, la, lb, cb) (nI lh.length, nI lg.length) (nI key, v, nI t) gu gv) → px_pa g 287 50 3070 Value.int sl → px_pa g 295 50 30 Value.int cv → px_pa g 289 54 100 rK lh → px_pa g 290 50 100 rV lh → px_pa g 291 50 100 rT lh → px_fl [(269, 1), (287, 1), (289, 3), (295, 1)] h0 g → px_to 146 2 [some (.ref (269)), some (.int (nI f)), some (.int (nI k))] [] g (fun h1 r => r = none ∧ pRE h1 ga gp gu gv j dn la lb cb lg A B W res ∧ px_fl [(269, 1), (287, 1), (289, 3), (295, 1)] h0 h1) := by
  intro d
  induction d using Nat.strongRecOn with
  | ind d ih =>
    intro k v x sl cv g q0 q1 q2 q3 q4 q5 q6 G0 G1 G2 G3 G4 G5 frg
    have h6 := hj.1.1
    refine e_iload_n f_146_2 rfl rfl ?_
    refine e_aload_n f_146_3 rfl rfl ?_
    refine e_getf f_146_4 G0 rfl rfl ?_
    show px_to 146 7 [some (.ref (269)), some (.int (nI f)), some (.int (nI k))] [.int (nI j.length), .int (nI k)] g _
    refine e_icmp_ge f_146_7 rfl (fun c_7 => ?_) (fun c_7 => ?_)
    · skip
      have c_7 : j.length ≤ k := cv_le (by omega) (by omega) c_7
      have hlh : lh.length < 96 := by
        have z := bd_out (x := x) (j := j) (by rw [show j.length = k by omega]; exact q6)
        rw [q5.2.2.2.1, List.length_append] at z
        omega
      refine e_aload_n f_146_37 rfl rfl ?_
      refine e_getf f_146_38 G0 rfl rfl ?_
      refine e_aload_n f_146_41 rfl rfl ?_
      refine e_getf f_146_42 G0 rfl rfl ?_
      show px_to 146 45 [some (.ref (269)), some (.int (nI f)), some (.int (nI k))] [.int (nI lh.length), .ref (289)] g _
      refine e_aload_n f_146_45 rfl rfl ?_
      refine e_getf f_146_46 G0 rfl rfl ?_
      show px_to 146 49 [some (.ref (269)), some (.int (nI f)), some (.int (nI k))] [.int (nI key), .int (nI lh.length), .ref (289)] g _
      refine e_i2b (z := nI key) f_146_49 (i2b_id _ (by omega)) rfl ?_
      refine e_bastore_a (xs := lh) (x := (key, v, t)) f_146_50 G3 (by omega) (rfl) (by omega) (nw_y (i2b_id _ (by omega))) rfl (fun h1 g2 fx3 => ?_)
      have fr4 : px_fl [(269, 1), (287, 1), (289, 3), (295, 1)] h0 h1 := fl_tr frg fx3 (by first | exact ⟨_, List.mem_cons_self, by omega, by omega⟩ | exact ⟨_, List.mem_cons_of_mem _ (List.mem_cons_self), by omega, by omega⟩ | exact ⟨_, List.mem_cons_of_mem _ (List.mem_cons_of_mem _ (List.mem_cons_self)), by omega, by omega⟩ | exact ⟨_, List.mem_cons_of_mem _ (List.mem_cons_of_mem _ (List.mem_cons_of_mem _ (List.mem_cons_self))), by omega, by omega⟩)
      refine e_aload_n f_146_51 rfl rfl ?_
      have g5 : h1.2.2 269 = some (12, mB ga gp (nI j.length, x.2.2.2.2.isSome, oI x.2.2.2.2, dn, la, lb, cb) (nI lh.length, nI lg.length) (nI key, v, nI t) gu gv) := fi_at G0 fx3 (by omega)
      refine e_getf f_146_52 g5 rfl rfl ?_
      refine e_aload_n f_146_55 rfl rfl ?_
      refine e_getf f_146_56 g5 rfl rfl ?_
      show px_to 146 59 [some (.ref (269)), some (.int (nI f)), some (.int (nI k))] [.int (nI lh.length), .ref (290)] h1 _
      refine e_aload_n f_146_59 rfl rfl ?_
      refine e_getf f_146_60 g5 rfl rfl ?_
      show px_to 146 63 [some (.ref (269)), some (.int (nI f)), some (.int (nI k))] [.int (v), .int (nI lh.length), .ref (290)] h1 _
      have g6 : px_pa h1 290 50 100 rV lh := pa_fi G4 fx3 (by omega)
      refine e_iastore_a (xs := lh) (x := (key, v, t)) f_146_63 g6 (by omega) (rfl) (by omega) (rfl) rfl (fun h7 g8 fx9 => ?_)
      have fr10 : px_fl [(269, 1), (287, 1), (289, 3), (295, 1)] h0 h7 := fl_tr fr4 fx9 (by first | exact ⟨_, List.mem_cons_self, by omega, by omega⟩ | exact ⟨_, List.mem_cons_of_mem _ (List.mem_cons_self), by omega, by omega⟩ | exact ⟨_, List.mem_cons_of_mem _ (List.mem_cons_of_mem _ (List.mem_cons_self)), by omega, by omega⟩ | exact ⟨_, List.mem_cons_of_mem _ (List.mem_cons_of_mem _ (List.mem_cons_of_mem _ (List.mem_cons_self))), by omega, by omega⟩)
      refine e_aload_n f_146_64 rfl rfl ?_
      have g11 : h7.2.2 269 = some (12, mB ga gp (nI j.length, x.2.2.2.2.isSome, oI x.2.2.2.2, dn, la, lb, cb) (nI lh.length, nI lg.length) (nI key, v, nI t) gu gv) := fi_at g5 fx9 (by omega)
      refine e_getf f_146_65 g11 rfl rfl ?_
      refine e_aload_n f_146_68 rfl rfl ?_
      refine e_getf f_146_69 g11 rfl rfl ?_
      show px_to 146 72 [some (.ref (269)), some (.int (nI f)), some (.int (nI k))] [.int (nI lh.length), .ref (291)] h7 _
      refine e_aload_n f_146_72 rfl rfl ?_
      refine e_getf f_146_73 g11 rfl rfl ?_
      show px_to 146 76 [some (.ref (269)), some (.int (nI f)), some (.int (nI k))] [.int (nI t), .int (nI lh.length), .ref (291)] h7 _
      have g12 : px_pa h1 291 50 100 rT lh := pa_fi G5 fx3 (by omega)
      have g13 : px_pa h7 291 50 100 rT lh := pa_fi g12 fx9 (by omega)
      refine e_iastore_a (xs := lh) (x := (key, v, t)) f_146_76 g13 (by omega) (rfl) (by omega) (rfl) rfl (fun h14 g15 fx16 => ?_)
      have fr17 : px_fl [(269, 1), (287, 1), (289, 3), (295, 1)] h0 h14 := fl_tr fr10 fx16 (by first | exact ⟨_, List.mem_cons_self, by omega, by omega⟩ | exact ⟨_, List.mem_cons_of_mem _ (List.mem_cons_self), by omega, by omega⟩ | exact ⟨_, List.mem_cons_of_mem _ (List.mem_cons_of_mem _ (List.mem_cons_self)), by omega, by omega⟩ | exact ⟨_, List.mem_cons_of_mem _ (List.mem_cons_of_mem _ (List.mem_cons_of_mem _ (List.mem_cons_self))), by omega, by omega⟩)
      refine e_aload_n f_146_77 rfl rfl ?_
      refine e_dup f_146_78 rfl rfl ?_
      have g18 : h14.2.2 269 = some (12, mB ga gp (nI j.length, x.2.2.2.2.isSome, oI x.2.2.2.2, dn, la, lb, cb) (nI lh.length, nI lg.length) (nI key, v, nI t) gu gv) := fi_at g11 fx16 (by omega)
      refine e_getf f_146_79 g18 rfl rfl ?_
      show px_to 146 82 [some (.ref (269)), some (.int (nI f)), some (.int (nI k))] [.int (nI lh.length), .ref (269)] h14 _
      refine e_iconst (v := nI 1) f_146_82 (by decide) rfl ?_
      refine e_iadd (z := nI (lh.length + 1)) f_146_83 (nI_add _ _) rfl ?_
      refine e_putp (vs' := mB ga gp (nI j.length, x.2.2.2.2.isSome, oI x.2.2.2.2, dn, la, lb, cb) (nI (lh.length + 1), nI lg.length) (nI key, v, nI t) gu gv) f_146_84 g18 (Nat.le_of_ble_eq_true rfl) (rfl) (rfl) rfl rfl (fun h19 g20 fx21 => ?_)
      have fr22 : px_fl [(269, 1), (287, 1), (289, 3), (295, 1)] h0 h19 := fl_tr fr17 fx21 (by first | exact ⟨_, List.mem_cons_self, by omega, by omega⟩ | exact ⟨_, List.mem_cons_of_mem _ (List.mem_cons_self), by omega, by omega⟩ | exact ⟨_, List.mem_cons_of_mem _ (List.mem_cons_of_mem _ (List.mem_cons_self)), by omega, by omega⟩ | exact ⟨_, List.mem_cons_of_mem _ (List.mem_cons_of_mem _ (List.mem_cons_of_mem _ (List.mem_cons_self))), by omega, by omega⟩)
      refine e_vret f_146_87 rfl ?_
      have g23 : h19.2.2 269 = some (12, mB ga gp (nI j.length, x.2.2.2.2.isSome, oI x.2.2.2.2, dn, la, lb, cb) (nI ((lh ++ [(key, v, t)]).length), nI lg.length) (nI key, v, nI t) gu gv) := by rw [List.length_append, List.length_singleton]; exact g20
      have g24 : px_pa h1 287 50 3070 Value.int sl := pa_fi G1 fx3 (by omega)
      have g25 : px_pa h7 287 50 3070 Value.int sl := pa_fi g24 fx9 (by omega)
      have g26 : px_pa h14 287 50 3070 Value.int sl := pa_fi g25 fx16 (by omega)
      have g27 : px_pa h19 287 50 3070 Value.int sl := pa_fi g26 fx21 (by omega)
      have g28 : px_pa h1 295 50 30 Value.int cv := pa_fi G2 fx3 (by omega)
      have g29 : px_pa h7 295 50 30 Value.int cv := pa_fi g28 fx9 (by omega)
      have g30 : px_pa h14 295 50 30 Value.int cv := pa_fi g29 fx16 (by omega)
      have g31 : px_pa h19 295 50 30 Value.int cv := pa_fi g30 fx21 (by omega)
      have g32 : px_pa h7 289 54 100 rK (lh ++ [(key, v, t)]) := pa_fi g2 fx9 (by omega)
      have g33 : px_pa h14 289 54 100 rK (lh ++ [(key, v, t)]) := pa_fi g32 fx16 (by omega)
      have g34 : px_pa h19 289 54 100 rK (lh ++ [(key, v, t)]) := pa_fi g33 fx21 (by omega)
      have g35 : px_pa h14 290 50 100 rV (lh ++ [(key, v, t)]) := pa_fi g8 fx16 (by omega)
      have g36 : px_pa h19 290 50 100 rV (lh ++ [(key, v, t)]) := pa_fi g35 fx21 (by omega)
      have g37 : px_pa h19 291 50 100 rT (lh ++ [(key, v, t)]) := pa_fi g15 fx21 (by omega)
      have ek : k = j.length := by omega
      have hlo : x.2.2.1.length < 96 := bd_out (by rw [← ek]; exact q6)
      have er : res = (x.1, x.2.1, x.2.2.1 ++ [(key, v, t)], x.2.2.2.1, x.2.2.2.2) := by rw [← q2, show pass j d k key v t x = pass j ((d - 1) + 1) k key v t x from by rw [show (d - 1) + 1 = d by omega], pass_out (by omega)]; unfold radd; rw [if_pos hlo]
      rw [er]
      exact ⟨rfl, ⟨_, _, lh ++ [(key, v, t)], _, g23, g27, g31, g34, g36, g37, q5.1, q5.2.1, q5.2.2.1, by rw [q5.2.2.2.1, List.append_assoc], q5.2.2.2.2⟩, fr22⟩
    · skip
      have c_7 : k < j.length := cv_nle (by omega) (by omega) c_7
      refine e_aload_n f_146_10 rfl rfl ?_
      refine e_iload_n f_146_11 rfl rfl ?_
      refine e_iconst (v := nI 0) f_146_12 (by decide) rfl ?_
      refine e_callV (As := [.int (nI k), .int (nI 0)]) (rest := []) f_146_13 rfl rfl rfl (Nat.le_of_ble_eq_true rfl) (Nat.le_of_ble_eq_true rfl) G0 rfl (Nat.le_of_ble_eq_true rfl) (cc_Md_cnt (k := k) (q := 0) (cb := cb) (cv := cv) (ga := ga) (gp := gp) (gq := (nI j.length, x.2.2.2.2.isSome, oI x.2.2.2.2, dn, la, lb, cb)) (gh := (nI lh.length, nI lg.length)) (gw := (nI key, v, nI t)) (gu := gu) (gv := gv) G0 G2 (by omega) (by omega) (q5.2.2.2.2.1)) rfl (fun h38 r39 q40 => ?_)
      obtain ⟨rfl, g41, fx42⟩ := q40
      have fr43 : px_fl [(269, 1), (287, 1), (289, 3), (295, 1)] h0 h38 := fl_tr frg fx42 (by first | exact ⟨_, List.mem_cons_self, by omega, by omega⟩ | exact ⟨_, List.mem_cons_of_mem _ (List.mem_cons_self), by omega, by omega⟩ | exact ⟨_, List.mem_cons_of_mem _ (List.mem_cons_of_mem _ (List.mem_cons_self)), by omega, by omega⟩ | exact ⟨_, List.mem_cons_of_mem _ (List.mem_cons_of_mem _ (List.mem_cons_of_mem _ (List.mem_cons_self))), by omega, by omega⟩)
      show px_to 146 16 [some (.ref (269)), some (.int (nI f)), some (.int (nI k))] [] h38 _
      refine e_aload_n f_146_16 rfl rfl ?_
      refine e_iload_n f_146_17 rfl rfl ?_
      have g44 : h38.2.2 269 = some (12, mB ga gp (nI j.length, x.2.2.2.2.isSome, oI x.2.2.2.2, dn, la, lb, cb) (nI lh.length, nI lg.length) (nI key, v, nI t) gu gv) := fi_at G0 fx42 (by omega)
      obtain ⟨hm46, fa47, fb48⟩ := fl_mid fr43
      obtain ⟨hm49, fa50, fb51⟩ := fl_mid fb48
      obtain ⟨hm52, fa53, fb54⟩ := fl_mid fb51
      have g45 : px_pa h38 284 52 6 stS j := pa_fi (pa_fi (pa_fi (pa_fi K0 fa47 (by omega)) fa50 (by omega)) fa53 (by omega)) (fl_one fb54) (by omega)
      obtain ⟨hm56, fa57, fb58⟩ := fl_mid fr43
      obtain ⟨hm59, fa60, fb61⟩ := fl_mid fb58
      obtain ⟨hm62, fa63, fb64⟩ := fl_mid fb61
      have g55 : px_pa h38 285 52 6 stA j := pa_fi (pa_fi (pa_fi (pa_fi K1 fa57 (by omega)) fa60 (by omega)) fa63 (by omega)) (fl_one fb64) (by omega)
      obtain ⟨hm66, fa67, fb68⟩ := fl_mid fr43
      obtain ⟨hm69, fa70, fb71⟩ := fl_mid fb68
      obtain ⟨hm72, fa73, fb74⟩ := fl_mid fb71
      have g65 : px_pa h38 286 50 6 stN j := pa_fi (pa_fi (pa_fi (pa_fi K2 fa67 (by omega)) fa70 (by omega)) fa73 (by omega)) (fl_one fb74) (by omega)
      have g75 : px_pa h38 287 50 3070 Value.int sl := pa_fi G1 fx42 (by omega)
      refine e_callV (As := [.int (nI k)]) (rest := []) f_146_18 rfl rfl rfl (Nat.le_of_ble_eq_true rfl) (Nat.le_of_ble_eq_true rfl) g44 rfl (Nat.le_of_ble_eq_true rfl) (cc_Md_pas (j := j) (k := k) (key := key) (v := v) (t := t) (sl := sl) (sms := x.2.1) (cb := cb) (cv := tI cb cv (5 * k + 0)) (ga := ga) (gp := gp) (gq := (nI j.length, x.2.2.2.2.isSome, oI x.2.2.2.2, dn, la, lb, cb)) (gh := (nI lh.length, nI lg.length)) (gw := (0, 0, 0)) (gu := gu) (gv := gv) g44 g45 g55 g65 g75 g41 (hj) (c_7) (q5.1) (by rw [tI_len]; exact q5.2.2.2.2.1) (q5.2.2.1) (q3) (by omega) (by omega) (bd_siz q6 c_7)) rfl (fun h76 r77 q78 => ?_)
      obtain ⟨rfl, g79, fx80⟩ := q78
      obtain ⟨hm81, fa82, fb83⟩ := fl_mid fx80
      have fr84 : px_fl [(269, 1), (287, 1), (289, 3), (295, 1)] h0 hm81 := fl_tr fr43 fa82 (by first | exact ⟨_, List.mem_cons_self, by omega, by omega⟩ | exact ⟨_, List.mem_cons_of_mem _ (List.mem_cons_self), by omega, by omega⟩ | exact ⟨_, List.mem_cons_of_mem _ (List.mem_cons_of_mem _ (List.mem_cons_self)), by omega, by omega⟩ | exact ⟨_, List.mem_cons_of_mem _ (List.mem_cons_of_mem _ (List.mem_cons_of_mem _ (List.mem_cons_self))), by omega, by omega⟩)
      obtain ⟨hm85, fa86, fb87⟩ := fl_mid fb83
      have fr88 : px_fl [(269, 1), (287, 1), (289, 3), (295, 1)] h0 hm85 := fl_tr fr84 fa86 (by first | exact ⟨_, List.mem_cons_self, by omega, by omega⟩ | exact ⟨_, List.mem_cons_of_mem _ (List.mem_cons_self), by omega, by omega⟩ | exact ⟨_, List.mem_cons_of_mem _ (List.mem_cons_of_mem _ (List.mem_cons_self)), by omega, by omega⟩ | exact ⟨_, List.mem_cons_of_mem _ (List.mem_cons_of_mem _ (List.mem_cons_of_mem _ (List.mem_cons_self))), by omega, by omega⟩)
      have fb89 := fl_one fb87
      have fr90 : px_fl [(269, 1), (287, 1), (289, 3), (295, 1)] h0 h76 := fl_tr fr88 fb89 (by first | exact ⟨_, List.mem_cons_self, by omega, by omega⟩ | exact ⟨_, List.mem_cons_of_mem _ (List.mem_cons_self), by omega, by omega⟩ | exact ⟨_, List.mem_cons_of_mem _ (List.mem_cons_of_mem _ (List.mem_cons_self)), by omega, by omega⟩ | exact ⟨_, List.mem_cons_of_mem _ (List.mem_cons_of_mem _ (List.mem_cons_of_mem _ (List.mem_cons_self))), by omega, by omega⟩)
      show px_to 146 21 [some (.ref (269)), some (.int (nI f)), some (.int (nI k))] [.int (bI (psB (j.getD k (0, 0, 0)) (x.2.1.getD k sm0) key v t))] h76 _
      rcases g79 with ⟨hb, hz, y1, y2, y3⟩ | ⟨m1, late, sl2, hb, hz, hs, hp, y1, y2, y3⟩ | ⟨w1, m1, late, sl2, hb, hz, hs, hp, y1, y2, y3⟩
      · skip
        rw [hb]
        refine e_if_ne_f f_146_21 (by decide) rfl ?_
        refine e_vret f_146_24 rfl ?_
        have g91 : px_pa h38 289 54 100 rK lh := pa_fi G3 fx42 (by omega)
        have g92 : px_pa hm81 289 54 100 rK lh := pa_fi g91 fa82 (by omega)
        have g93 : px_pa hm85 289 54 100 rK lh := pa_fi g92 fa86 (by omega)
        have g94 : px_pa h76 289 54 100 rK lh := pa_fi g93 fb89 (by omega)
        have g95 : px_pa h38 290 50 100 rV lh := pa_fi G4 fx42 (by omega)
        have g96 : px_pa hm81 290 50 100 rV lh := pa_fi g95 fa82 (by omega)
        have g97 : px_pa hm85 290 50 100 rV lh := pa_fi g96 fa86 (by omega)
        have g98 : px_pa h76 290 50 100 rV lh := pa_fi g97 fb89 (by omega)
        have g99 : px_pa h38 291 50 100 rT lh := pa_fi G5 fx42 (by omega)
        have g100 : px_pa hm81 291 50 100 rT lh := pa_fi g99 fa82 (by omega)
        have g101 : px_pa hm85 291 50 100 rT lh := pa_fi g100 fa86 (by omega)
        have g102 : px_pa h76 291 50 100 rT lh := pa_fi g101 fb89 (by omega)
        have er : res = (x.1, x.2.1, x.2.2.1, tinc (tinc x.2.2.2.1 (k * 5)) (k * 5 + 4), some k) := by rw [← q2, show pass j d k key v t x = pass j ((d - 1) + 1) k key v t x from by rw [show (d - 1) + 1 = d by omega], pass_z c_7 hz]
        rw [er]
        exact ⟨rfl, ⟨_, _, _, _, y1, y2, y3, g94, g98, g102, q5.1, q5.2.1, q5.2.2.1, q5.2.2.2.1, by rw [tI_len, tI_len]; exact q5.2.2.2.2.1, cvR (cvR q5.2.2.2.2.2 (by omega)) (by omega)⟩, fr90⟩
      · skip
        rw [hb]
        refine e_if_ne_f f_146_21 (by decide) rfl ?_
        refine e_vret f_146_24 rfl ?_
        have g103 : px_pa h38 289 54 100 rK lh := pa_fi G3 fx42 (by omega)
        have g104 : px_pa hm81 289 54 100 rK lh := pa_fi g103 fa82 (by omega)
        have g105 : px_pa hm85 289 54 100 rK lh := pa_fi g104 fa86 (by omega)
        have g106 : px_pa h76 289 54 100 rK lh := pa_fi g105 fb89 (by omega)
        have g107 : px_pa h38 290 50 100 rV lh := pa_fi G4 fx42 (by omega)
        have g108 : px_pa hm81 290 50 100 rV lh := pa_fi g107 fa82 (by omega)
        have g109 : px_pa hm85 290 50 100 rV lh := pa_fi g108 fa86 (by omega)
        have g110 : px_pa h76 290 50 100 rV lh := pa_fi g109 fb89 (by omega)
        have g111 : px_pa h38 291 50 100 rT lh := pa_fi G5 fx42 (by omega)
        have g112 : px_pa hm81 291 50 100 rT lh := pa_fi g111 fa82 (by omega)
        have g113 : px_pa hm85 291 50 100 rT lh := pa_fi g112 fa86 (by omega)
        have g114 : px_pa h76 291 50 100 rT lh := pa_fi g113 fb89 (by omega)
        have er : res = (if late = true then x.1 + nI 1 else x.1, x.2.1.set k m1, x.2.2.1, if late = true then tinc (tinc x.2.2.2.1 (k * 5)) (k * 5 + 3) else tinc x.2.2.2.1 (k * 5), x.2.2.2.2) := by rw [← q2, show pass j d k key v t x = pass j ((d - 1) + 1) k key v t x from by rw [show (d - 1) + 1 = d by omega], pass_no c_7 hz hs]
        rw [er]
        exact ⟨rfl, ⟨_, _, _, _, y1, y2, y3, g106, g110, g114, hp.1, ⟨(hp.2.1 0 (by omega)).trans q5.2.1.1, (hp.2.1 1 (by omega)).trans q5.2.1.2.1, (hp.2.1 2 (by omega)).trans q5.2.1.2.2.1, hp.2.2.1.trans (by rw [q5.2.1.2.2.2])⟩, hp.2.2.2, q5.2.2.2.1, by split <;> (simp only [tI_len]; exact q5.2.2.2.2.1), by
          cases late
          · exact cvR q5.2.2.2.2.2 (by omega)
          · exact cvR (cvR q5.2.2.2.2.2 (by omega)) (by omega)⟩, fr90⟩
      · skip
        rw [hb]
        refine e_if_ne_t f_146_21 (by decide) ?_
        refine e_aload_n f_146_25 rfl rfl ?_
        refine e_iload_n f_146_26 rfl rfl ?_
        refine e_iconst (v := nI 1) f_146_27 (by decide) rfl ?_
        refine e_callV (As := [.int (nI k), .int (nI 1)]) (rest := []) f_146_28 rfl rfl rfl (Nat.le_of_ble_eq_true rfl) (Nat.le_of_ble_eq_true rfl) y1 rfl (Nat.le_of_ble_eq_true rfl) (cc_Md_cnt (k := k) (q := 1) (cb := cb) (cv := tI cb cv (5 * k + 0)) (ga := ga) (gp := gp) (gq := (nI j.length, x.2.2.2.2.isSome, oI x.2.2.2.2, dn, la, lb, cb)) (gh := (nI lh.length, nI lg.length)) (gw := (nI key, w1, nI t)) (gu := gu) (gv := gv) y1 y3 (by omega) (by omega) (by rw [tI_len]; exact q5.2.2.2.2.1)) rfl (fun h115 r116 q117 => ?_)
        obtain ⟨rfl, g118, fx119⟩ := q117
        have fr120 : px_fl [(269, 1), (287, 1), (289, 3), (295, 1)] h0 h115 := fl_tr fr90 fx119 (by first | exact ⟨_, List.mem_cons_self, by omega, by omega⟩ | exact ⟨_, List.mem_cons_of_mem _ (List.mem_cons_self), by omega, by omega⟩ | exact ⟨_, List.mem_cons_of_mem _ (List.mem_cons_of_mem _ (List.mem_cons_self)), by omega, by omega⟩ | exact ⟨_, List.mem_cons_of_mem _ (List.mem_cons_of_mem _ (List.mem_cons_of_mem _ (List.mem_cons_self))), by omega, by omega⟩)
        show px_to 146 31 [some (.ref (269)), some (.int (nI f)), some (.int (nI k))] [] h115 _
        refine e_iinc (y := nI (k + 1)) (L' := [some (.ref (269)), some (.int (nI f)), some (.int (nI (k + 1)))]) f_146_31 rfl (by rw [show Int32.ofInt 1 = nI 1 by decide]; exact (nI_add _ _)) rfl rfl ?_
        refine e_goto f_146_34 ?_
        have eq : pass j (d - 1) (k + 1) key w1 t (x.1, x.2.1.set k m1, x.2.2.1, tinc (tinc x.2.2.2.1 (k * 5)) (k * 5 + 1), x.2.2.2.2) = res := by rw [← q2, show pass j d k key v t x = pass j ((d - 1) + 1) k key v t x from by rw [show (d - 1) + 1 = d by omega], pass_on c_7 hz hs]
        have hok2 : okM j (x.1, x.2.1.set k m1, x.2.2.1, tinc (tinc x.2.2.2.1 (k * 5)) (k * 5 + 1), x.2.2.2.2).2.1 := okM_set q3 (by have z := stepDo_ok (key := key) (t := t) (v := v) (hj.1.2 _ (getD_mem (0, 0, 0) c_7)) (q3.2 k c_7) hky ht5; rw [hs] at z; exact z)
        have hR2 : relX j cb lg A B W (x.1, x.2.1.set k m1, x.2.2.1, tinc (tinc x.2.2.2.1 (k * 5)) (k * 5 + 1), x.2.2.2.2) sl2 lh (tI cb (tI cb cv (5 * k + 0)) (5 * k + 1)) := ⟨hp.1, ⟨(hp.2.1 0 (by omega)).trans q5.2.1.1, (hp.2.1 1 (by omega)).trans q5.2.1.2.1, (hp.2.1 2 (by omega)).trans q5.2.1.2.2.1, hp.2.2.1.trans q5.2.1.2.2.2⟩, hp.2.2.2, q5.2.2.2.1, by rw [tI_len, tI_len]; exact q5.2.2.2.2.1, cvR (cvR q5.2.2.2.2.2 (by omega)) (by omega)⟩
        have g121 : h115.2.2 269 = some (12, mB ga gp (nI j.length, x.2.2.2.2.isSome, oI x.2.2.2.2, dn, la, lb, cb) (nI lh.length, nI lg.length) (nI key, w1, nI t) gu gv) := fi_at y1 fx119 (by omega)
        have g122 : px_pa h115 287 50 3070 Value.int sl2 := pa_fi y2 fx119 (by omega)
        have g123 : px_pa h38 289 54 100 rK lh := pa_fi G3 fx42 (by omega)
        have g124 : px_pa hm81 289 54 100 rK lh := pa_fi g123 fa82 (by omega)
        have g125 : px_pa hm85 289 54 100 rK lh := pa_fi g124 fa86 (by omega)
        have g126 : px_pa h76 289 54 100 rK lh := pa_fi g125 fb89 (by omega)
        have g127 : px_pa h115 289 54 100 rK lh := pa_fi g126 fx119 (by omega)
        have g128 : px_pa h38 290 50 100 rV lh := pa_fi G4 fx42 (by omega)
        have g129 : px_pa hm81 290 50 100 rV lh := pa_fi g128 fa82 (by omega)
        have g130 : px_pa hm85 290 50 100 rV lh := pa_fi g129 fa86 (by omega)
        have g131 : px_pa h76 290 50 100 rV lh := pa_fi g130 fb89 (by omega)
        have g132 : px_pa h115 290 50 100 rV lh := pa_fi g131 fx119 (by omega)
        have g133 : px_pa h38 291 50 100 rT lh := pa_fi G5 fx42 (by omega)
        have g134 : px_pa hm81 291 50 100 rT lh := pa_fi g133 fa82 (by omega)
        have g135 : px_pa hm85 291 50 100 rT lh := pa_fi g134 fa86 (by omega)
        have g136 : px_pa h76 291 50 100 rT lh := pa_fi g135 fb89 (by omega)
        have g137 : px_pa h115 291 50 100 rT lh := pa_fi g136 fx119 (by omega)
        first | (exfalso; omega) | exact ih (d - 1) (by omega) (k + 1) w1 (x.1, x.2.1.set k m1, x.2.2.1, tinc (tinc x.2.2.2.1 (k * 5)) (k * 5 + 1), x.2.2.2.2) sl2 (tI cb (tI cb cv (5 * k + 0)) (5 * k + 1)) h115 (by omega) (by omega) (eq) (hok2) (q4) (hR2) (bd_step hj.1 q3.1 c_7 hs q6) g121 g122 g118 g127 g132 g137 fr120

set_option maxRecDepth 20000 in
set_option maxHeartbeats 4000000 in
theorem cc_Md_flo {h : px_H} {f key t : Nat} {v : Int32} {x : RX} {sl : List Int32} {lh : List Row} {cv : List Int32} {A B W : Int32} {ga : gA} {gp : gP} {gu : gU} {gv : gV} {j : List St} {dn : Int32} {la lb cb : Bool} {lg : List Row}  (H0 : h.2.2 269 = some (12, mB ga gp (nI j.length, x.2.2.2.2.isSome, oI x.2.2.2.2, dn, la, lb, cb) (nI lh.length, nI lg.length) (nI key, v, nI t) gu gv)) (H1 : px_pa h 284 52 6 stS j) (H2 : px_pa h 285 52 6 stA j) (H3 : px_pa h 286 50 6 stN j) (H4 : px_pa h 287 50 3070 Value.int sl) (H5 : px_pa h 295 50 30 Value.int cv) (H6 : px_pa h 289 54 100 rK lh) (H7 : px_pa h 290 50 100 rV lh) (H8 : px_pa h 291 50 100 rT lh) (p0 : okZ j) (p1 : f ≤ j.length) (p2 : key < 4) (p3 : t ≤ 5000) (p4 : okM j x.2.1) (p5 : x.2.2.2.2 = none) (p6 : relX j cb lg A B W x sl lh cv) (p7 : bd j x f) : px_wp 146 [.ref (269), .int (nI f)] h (fun h1 r => r = none ∧ pRE h1 ga gp gu gv j dn la lb cb lg A B W (pass j 7 f key v t x) ∧ px_fl [(269, 1), (287, 1), (289, 3), (295, 1)] h h1) := by
  have fr0 : px_fl [(269, 1), (287, 1), (289, 3), (295, 1)] h h := fl_rf _ _
  show px_to 146 0 [some (.ref (269)), some (.int (nI f)), none] [] h _
  refine e_iload_n f_146_0 rfl rfl ?_
  refine e_istore_n (L' := [some (.ref (269)), some (.int (nI f)), some (.int (nI f))]) f_146_1 (Nat.le_of_ble_eq_true rfl) rfl rfl ?_
  exact ll_Md_flo (h0 := h) (f := f) (res := _) H1 H2 H3 p0 p2 p3 7 f v x sl cv h (by have := p0.1.1; omega) p1 rfl p4 p5 p6 p7 H0 H4 H5 H6 H7 H8 fr0
