theorem rlt_iff {r s : Row} : rlt r s = true ↔ (r.1 < s.1 ∨ (r.1 = s.1 ∧ (r.2.1.toInt < s.2.1.toInt ∨ (r.2.1.toInt = s.2.1.toInt ∧ r.2.2 < s.2.2)))) := by
  unfold rlt
  by_cases h1 : r.1 = s.1
  · rw [if_neg (fun z => z h1)]
    by_cases h2 : r.2.1 = s.2.1
    · rw [if_neg (fun z => z h2), decide_eq_true_iff, h2]
      omega
    · have h3 : r.2.1.toInt ≠ s.2.1.toInt := fun z => h2 (Int32.toInt_inj.mp z)
      rw [if_pos h2, decide_eq_true_iff, Int32.lt_iff_toInt_lt]
      omega
  · rw [if_pos h1, decide_eq_true_iff]
    omega
theorem rlt_f {r s : Row} (h : rlt r s = false) : ¬ (r.1 < s.1 ∨ (r.1 = s.1 ∧ (r.2.1.toInt < s.2.1.toInt ∨ (r.2.1.toInt = s.2.1.toInt ∧ r.2.2 < s.2.2)))) := fun z => by
  rw [rlt_iff.mpr z] at h
  exact nomatch h
theorem rlt_nf {r s : Row} (h : ¬ (r.1 < s.1 ∨ (r.1 = s.1 ∧ (r.2.1.toInt < s.2.1.toInt ∨ (r.2.1.toInt = s.2.1.toInt ∧ r.2.2 < s.2.2))))) : rlt r s = false := by
  cases e : rlt r s with
  | false => rfl
  | true => exact absurd (rlt_iff.mp e) h
theorem rle_tr {a b c : Row} (h1 : rlt b a = false) (h2 : rlt c b = false) : rlt c a = false := by
  have z1 := rlt_f h1
  have z2 := rlt_f h2
  exact rlt_nf (by omega)
theorem rlt_as {a b : Row} (h : rlt a b = true) : rlt b a = false := by
  have z := rlt_iff.mp h
  exact rlt_nf (by omega)
def rSo (l : List Row) : Prop := l.Pairwise (fun a b => rlt b a = false)
theorem rpos_sp {xs : List Row} {r : Row} : ∀ k, (∀ i, rpos xs r k ≤ i → i < k → rlt r (xs.getD i (0, 0, 0)) = true) ∧ (0 < rpos xs r k → rlt r (xs.getD (rpos xs r k - 1) (0, 0, 0)) = false)
  | 0 => ⟨fun i _ h => absurd h (Nat.not_lt_zero _), fun h => absurd h (Nat.lt_irrefl 0)⟩
  | k + 1 => by
    have ih := rpos_sp (xs := xs) (r := r) k
    cases h : rlt r (xs.getD k (0, 0, 0)) with
    | true =>
      have e : rpos xs r (k + 1) = rpos xs r k := by show (if _ then _ else _) = _; rw [if_pos h]
      rw [e]
      refine ⟨fun i h1 h2 => ?_, ih.2⟩
      rcases Nat.lt_or_ge i k with z | z
      · exact ih.1 i h1 z
      · rw [show i = k by omega]; exact h
    | false =>
      have e : rpos xs r (k + 1) = k + 1 := by show (if _ then _ else _) = _; rw [if_neg (by rw [h]; decide)]
      rw [e]
      exact ⟨fun i h1 h2 => absurd h1 (by omega), fun _ => h⟩
theorem rins_so {xs : List Row} {r : Row} (h : rSo xs) : rSo (rins xs r) := by
  have hp := rpos_sp (xs := xs) (r := r) xs.length
  have hle := rpos_le xs r xs.length
  unfold rins
  generalize rpos xs r xs.length = p at hp hle
  have h0 : (xs.take p ++ xs.drop p).Pairwise (fun a b => rlt b a = false) := by rw [List.take_append_drop]; exact h
  obtain ⟨h1, h2, h3⟩ := List.pairwise_append.mp h0
  have hd : ∀ b ∈ xs.drop p, rlt b r = false := fun b hb => by
    obtain ⟨i, hi, e⟩ := List.mem_iff_getElem.mp hb
    rw [List.length_drop] at hi
    have z := hp.1 (p + i) (by omega) (by omega)
    rw [getD_lt (0, 0, 0) (by omega)] at z
    rw [List.getElem_drop] at e
    rw [← e]
    exact rlt_as z
  have ht : ∀ a ∈ xs.take p, rlt r a = false := fun a ha => by
    obtain ⟨i, hi, e⟩ := List.mem_iff_getElem.mp ha
    rw [List.length_take] at hi
    rw [List.getElem_take] at e
    have z := hp.2 (by omega)
    rw [getD_lt (0, 0, 0) (by omega)] at z
    rcases Nat.lt_or_ge i (p - 1) with y | y
    · have w := List.pairwise_iff_getElem.mp h i (p - 1) (by omega) (by omega) y
      rw [e] at w
      exact rle_tr w z
    · rw [← e]
      have e2 : i = p - 1 := by omega
      subst e2
      exact z
  refine List.pairwise_append.mpr ⟨h1, List.pairwise_cons.mpr ⟨hd, h2⟩, fun a ha b hb => ?_⟩
  rcases List.mem_cons.mp hb with z | z
  · rw [z]; exact ht a ha
  · exact h3 a ha b z
theorem foldl_so : ∀ (ys acc : List Row), rSo acc → rSo (ys.foldl rins acc)
  | [], _, h => h
  | y :: ys, acc, h => foldl_so ys _ (rins_so h)
theorem rsort_so (l : List Row) : rSo (rsort l) := foldl_so l [] List.Pairwise.nil
theorem rins_last {acc : List Row} {x : Row} (h : rSo (acc ++ [x])) : rins acc x = acc ++ [x] := by
  have e : rpos acc x acc.length = acc.length := by
    cases hn : acc.length with
    | zero => rfl
    | succ n =>
      have z := (List.pairwise_append.mp h).2.2 (acc.getD n (0, 0, 0)) (getD_mem (0, 0, 0) (by omega)) x List.mem_cons_self
      show (if _ then _ else _) = _
      rw [if_neg (by rw [z]; decide)]
  unfold rins
  rw [e, List.take_length, List.drop_length]
theorem foldl_id : ∀ (ys acc : List Row), rSo (acc ++ ys) → ys.foldl rins acc = acc ++ ys
  | [], acc, _ => (List.append_nil acc).symm
  | y :: ys, acc, h => by
    have e : acc ++ y :: ys = (acc ++ [y]) ++ ys := by rw [List.append_assoc]; rfl
    rw [e] at h ⊢
    rw [List.foldl_cons, rins_last (List.pairwise_append.mp h).1]
    exact foldl_id ys _ h
theorem rsort_rsort (l : List Row) : rsort (rsort l) = rsort l := foldl_id (rsort l) [] (rsort_so l)
def ieB (y : RO) (pz : Bool) (lt : List Row) : Bool := decide (y.2.2.1.isSome = pz ∧ rsort y.2.1 = rsort lt)
theorem ieB_isEq {j : List St} {ev : List Ev} {bits : Int32} {lt : List Row} (h : rsort lt = rsort (plO j ev).2.1) : ieB (scO j ev bits) (plO j ev).2.2.1.isSome lt = isEq j ev bits := by
  unfold ieB isEq
  apply decide_eq_decide.mpr
  rw [h]
  have e : ((scO j ev bits).2.2.1.isSome = (plO j ev).2.2.1.isSome) ↔ ((scO j ev bits).2.2.1 = none ↔ (plO j ev).2.2.1 = none) := by
    cases (scO j ev bits).2.2.1 <;> cases (plO j ev).2.2.1 <;> simp
  rw [e]

set_option maxRecDepth 20000 in
set_option maxHeartbeats 4000000 in
theorem ll_Md_aga {h0 : px_H} {c : Nat} {lg : List Row} {ga : gA} {gp : gP} {gq : gQ} {gh : gH} {gw : gW} {gu : gU} {gv : gV} (HM : h0.2.2 269 = some (12, mB ga gp gq (gh.1, nI lg.length) gw gu gv)) (K0 : px_pa h0 292 54 100 rK lg) (K1 : px_pa h0 293 50 100 rV lg) (K2 : px_pa h0 294 50 100 rT lg) (p0 : ∀ x ∈ lg, rwOk x) : ∀ (d : Nat) (i : Nat) (g : px_H), (lg.length ≤ i + d) → (i ≤ lg.length) → px_pa g 300 54 100 rK (lg.take i) → px_pa g 301 50 100 rV (lg.take i) → px_pa g 302 50 100 rT (lg.take i) → px_fi 300 3 h0 g → px_to 184 32 [some (.ref (269)), some (.int (nI c)), some (.int (nI i))] [] g (fun h1 r => r = none ∧ px_pa h1 300 54 100 rK lg ∧ px_pa h1 301 50 100 rV lg ∧ px_pa h1 302 50 100 rT lg ∧ px_fi 300 3 h0 h1) := by
  intro d
  induction d using Nat.strongRecOn with
  | ind d ih =>
    intro i g q0 q1 G0 G1 G2 frg
    have l1 := pa_len K0
    refine e_iload_n f_184_32 rfl rfl ?_
    refine e_aload_n f_184_33 rfl rfl ?_
    have g1 : g.2.2 269 = some (12, mB ga gp gq (gh.1, nI lg.length) gw gu gv) := fi_at HM frg (by omega)
    refine e_getf f_184_34 g1 rfl rfl ?_
    show px_to 184 37 [some (.ref (269)), some (.int (nI c)), some (.int (nI i))] [.int (nI lg.length), .int (nI i)] g _
    refine e_icmp_ge f_184_37 rfl (fun c_37 => ?_) (fun c_37 => ?_)
    · skip
      have c_37 : lg.length ≤ i := cv_le (by omega) (by omega) c_37
      refine e_vret f_184_82 rfl ?_
      rw [List.take_of_length_le (by omega)] at G0 G1 G2
      exact ⟨rfl, G0, G1, G2, frg⟩
    · skip
      have c_37 : i < lg.length := cv_nle (by omega) (by omega) c_37
      have hro := p0 _ (getD_mem (0, 0, 0) (show i < lg.length by omega))
      unfold rwOk at hro
      have hti : (lg.take i).length = i := by rw [List.length_take]; omega
      refine e_aload_n f_184_40 rfl rfl ?_
      refine e_getf f_184_41 g1 rfl rfl ?_
      refine e_iload_n f_184_44 rfl rfl ?_
      refine e_aload_n f_184_45 rfl rfl ?_
      refine e_getf f_184_46 g1 rfl rfl ?_
      refine e_iload_n f_184_49 rfl rfl ?_
      have g2 : px_pa g 292 54 100 rK lg := pa_fi K0 frg (by omega)
      refine e_baload_p (xs := lg) f_184_50 g2 (d := (0, 0, 0)) (by first | omega | (simp only [List.length_set]; omega)) rfl ?_
      show px_to 184 51 [some (.ref (269)), some (.int (nI c)), some (.int (nI i))] [.int (nI ((lg.getD i (0, 0, 0)).1)), .int (nI i), .ref (300)] g _
      refine e_bastore_a (xs := lg.take i) (x := lg.getD i (0, 0, 0)) f_184_51 G0 (by omega) (by omega) (by omega) (nw_y (i2b_id _ (by omega))) rfl (fun h3 g4 fx5 => ?_)
      have fr6 : px_fi 300 3 h0 h3 := fi_tr frg fx5 (by omega)
      refine e_aload_n f_184_52 rfl rfl ?_
      have g7 : h3.2.2 269 = some (12, mB ga gp gq (gh.1, nI lg.length) gw gu gv) := fi_at HM fr6 (by omega)
      refine e_getf f_184_53 g7 rfl rfl ?_
      refine e_iload_n f_184_56 rfl rfl ?_
      refine e_aload_n f_184_57 rfl rfl ?_
      refine e_getf f_184_58 g7 rfl rfl ?_
      refine e_iload_n f_184_61 rfl rfl ?_
      have g8 : px_pa h3 293 50 100 rV lg := pa_fi K1 fr6 (by omega)
      refine e_iaload_p (xs := lg) f_184_62 g8 (d := (0, 0, 0)) (by first | omega | (simp only [List.length_set]; omega)) rfl ?_
      show px_to 184 63 [some (.ref (269)), some (.int (nI c)), some (.int (nI i))] [.int ((lg.getD i (0, 0, 0)).2.1), .int (nI i), .ref (301)] h3 _
      have g9 : px_pa h3 301 50 100 rV (lg.take i) := pa_fi G1 fx5 (by omega)
      refine e_iastore_a (xs := lg.take i) (x := lg.getD i (0, 0, 0)) f_184_63 g9 (by omega) (by omega) (by omega) (rfl) rfl (fun h10 g11 fx12 => ?_)
      have fr13 : px_fi 300 3 h0 h10 := fi_tr fr6 fx12 (by omega)
      refine e_aload_n f_184_64 rfl rfl ?_
      have g14 : h10.2.2 269 = some (12, mB ga gp gq (gh.1, nI lg.length) gw gu gv) := fi_at HM fr13 (by omega)
      refine e_getf f_184_65 g14 rfl rfl ?_
      refine e_iload_n f_184_68 rfl rfl ?_
      refine e_aload_n f_184_69 rfl rfl ?_
      refine e_getf f_184_70 g14 rfl rfl ?_
      refine e_iload_n f_184_73 rfl rfl ?_
      have g15 : px_pa h10 294 50 100 rT lg := pa_fi K2 fr13 (by omega)
      refine e_iaload_p (xs := lg) f_184_74 g15 (d := (0, 0, 0)) (by first | omega | (simp only [List.length_set]; omega)) rfl ?_
      show px_to 184 75 [some (.ref (269)), some (.int (nI c)), some (.int (nI i))] [.int (nI ((lg.getD i (0, 0, 0)).2.2)), .int (nI i), .ref (302)] h10 _
      have g16 : px_pa h3 302 50 100 rT (lg.take i) := pa_fi G2 fx5 (by omega)
      have g17 : px_pa h10 302 50 100 rT (lg.take i) := pa_fi g16 fx12 (by omega)
      refine e_iastore_a (xs := lg.take i) (x := lg.getD i (0, 0, 0)) f_184_75 g17 (by omega) (by omega) (by omega) (rfl) rfl (fun h18 g19 fx20 => ?_)
      have fr21 : px_fi 300 3 h0 h18 := fi_tr fr13 fx20 (by omega)
      refine e_iinc (y := nI (i + 1)) (L' := [some (.ref (269)), some (.int (nI c)), some (.int (nI (i + 1)))]) f_184_76 rfl (by rw [show Int32.ofInt 1 = nI 1 by decide]; exact (nI_add _ _)) rfl rfl ?_
      refine e_goto f_184_79 ?_
      have g22 : px_pa h10 300 54 100 rK ((lg.take i) ++ [lg.getD i (0, 0, 0)]) := pa_fi g4 fx12 (by omega)
      have g23 : px_pa h18 300 54 100 rK ((lg.take i) ++ [lg.getD i (0, 0, 0)]) := pa_fi g22 fx20 (by omega)
      have g24 : px_pa h18 300 54 100 rK (lg.take (i + 1)) := pa_eq g23 ((take_s (0, 0, 0) (by omega)).symm)
      have g25 : px_pa h18 301 50 100 rV ((lg.take i) ++ [lg.getD i (0, 0, 0)]) := pa_fi g11 fx20 (by omega)
      have g26 : px_pa h18 301 50 100 rV (lg.take (i + 1)) := pa_eq g25 ((take_s (0, 0, 0) (by omega)).symm)
      have g27 : px_pa h18 302 50 100 rT (lg.take (i + 1)) := pa_eq g19 ((take_s (0, 0, 0) (by omega)).symm)
      first | (exfalso; omega) | exact ih (d - 1) (by omega) (i + 1) h18 (by omega) (by omega) g24 g26 g27 fr21

set_option maxRecDepth 20000 in
set_option maxHeartbeats 4000000 in
theorem cc_Md_aga {h : px_H} {c : Nat} {ev : List Ev} {em : List Nat} {es : List Ev} {pl : List Nat} {L cn : Int32} {j jn : List St} {cb : Bool} {sl sl2 : List Int32} {lh lg lt : List Row} {cv tl : List Int32} {gp : gP} {gq : gQ} {gh : gH} {gw : gW} {gu : gU} {gv : gV} (H0 : h.2.2 269 = some (12, mB (L, nI j.length, cn) gp (gq.1, gq.2.1, gq.2.2.1, gq.2.2.2.1, gq.2.2.2.2.1, gq.2.2.2.2.2.1, cb) gh gw gu gv)) (H1 : px_pa h 271 52 6 stS j) (H2 : px_pa h 272 52 6 stA j) (H3 : px_pa h 273 50 6 stN j) (H4 : px_pa h 284 52 6 stS jn) (H5 : px_pa h 285 52 6 stA jn) (H6 : px_pa h 286 50 6 stN jn) (H7 : px_pa h 287 50 3070 Value.int sl) (H8 : px_pa h 288 50 3070 Value.int sl2) (H9 : px_pa h 289 54 100 rK lh) (H10 : px_pa h 290 50 100 rV lh) (H11 : px_pa h 291 50 100 rT lh) (H12 : px_pa h 292 54 100 rK lg) (H13 : px_pa h 293 50 100 rV lg) (H14 : px_pa h 294 50 100 rT lg) (H15 : px_pa h 295 50 30 Value.int cv) (H16 : px_pa h 296 50 24 vN pl) (H17 : px_pa h 274 50 8 vN em) (H18 : px_pa h 275 52 192 evS es) (H19 : px_pa h 276 54 192 evK es) (H20 : px_pa h 277 53 192 evV es) (H21 : px_pa h 278 53 192 evT es) (H22 : px_pa h 300 54 100 rK lt) (H23 : px_pa h 301 50 100 rV lt) (H24 : px_pa h 302 50 100 rT lt) (p0 : okZ j) (p1 : sl.length = 3070 ∧ sl2.length = 3070 ∧ cv.length = 30) (p2 : c < 8) (p3 : em.length = 8 ∧ es.length = 192) (p4 : inE es c ev) (p5 : ev.length ≤ 24) (p6 : ∀ e ∈ ev, okEv e) (p7 : em.getD c 0 = ev.length) (p8 : tl.length = 30 ∧ (cb = true → cv = tl)) : px_wp 184 [.ref (269), .int (nI c)] h (fun h1 r => r = none ∧ px_pa h1 284 52 6 stS j ∧ px_pa h1 285 52 6 stA j ∧ px_pa h1 286 50 6 stN j ∧ px_pa h1 296 50 24 vN (evPl ev 0) ∧ pRO h1 (L, nI j.length, cn) gp (nI (evPl ev 0).length, gu.2.1, nI (plO j ev).2.1.length) (gv.1, gv.2.1, gv.2.2.1, gv.2.2.2.1, gv.2.2.2.2.1, (plO j ev).2.2.1.isSome, gv.2.2.2.2.2.2.1, gv.2.2.2.2.2.2.2.1, gv.2.2.2.2.2.2.2.2) j cb (plO j ev) ((runS j (evs ev (evPl ev 0)) tl).1.2.2.2.1) ∧ px_pa h1 300 54 100 rK ((plO j ev).2.1) ∧ px_pa h1 301 50 100 rV ((plO j ev).2.1) ∧ px_pa h1 302 50 100 rT ((plO j ev).2.1) ∧ px_fl [(269, 1), (284, 13), (300, 3)] h h1) := by
  have fr0 : px_fl [(269, 1), (284, 13), (300, 3)] h h := fl_rf _ _
  have h6 := p0.1.1
  have hj2 : ∀ s ∈ j, s.1 < 65536 ∧ s.2.1 < 65536 := fun s hs => ⟨by have := (p0.1.2 s hs).1; omega, (p0.1.2 s hs).2.1⟩
  have he2 : ∀ e ∈ ev, e.1 < 65536 := fun e he => by have := (p6 e he).1; omega
  have hrok : ∀ x ∈ (plO j ev).2.1, rwOk x := (runO_ok p0.1 (evs_ok (fun p hp => by have := evPl_lt ev 0 p hp; omega) p6)).1
  show px_to 184 0 [some (.ref (269)), some (.int (nI c)), none] [] h _
  refine e_aload_n f_184_0 rfl rfl ?_
  refine e_callV (As := []) (rest := []) f_184_1 rfl rfl rfl (Nat.le_of_ble_eq_true rfl) (Nat.le_of_ble_eq_true rfl) H0 rfl (Nat.le_of_ble_eq_true rfl) (cc_Md_asT (L := L) (cn := cn) (j := j) (jn := jn) (gp := gp) (gq := (gq.1, gq.2.1, gq.2.2.1, gq.2.2.2.1, gq.2.2.2.2.1, gq.2.2.2.2.2.1, cb)) (gh := gh) (gw := gw) (gu := gu) (gv := gv) H0 H1 H2 H3 H4 H5 H6 (hj2)) rfl (fun h1 r2 q3 => ?_)
  obtain ⟨rfl, g4, g5, g6, g7, fx8⟩ := q3
  obtain ⟨hm9, fa10, fb11⟩ := fj_mid fx8
  have fr12 : px_fl [(269, 1), (284, 13), (300, 3)] h hm9 := fl_tr fr0 fa10 (by first | exact ⟨_, List.mem_cons_self, by omega, by omega⟩ | exact ⟨_, List.mem_cons_of_mem _ (List.mem_cons_self), by omega, by omega⟩ | exact ⟨_, List.mem_cons_of_mem _ (List.mem_cons_of_mem _ (List.mem_cons_self)), by omega, by omega⟩)
  have fr13 : px_fl [(269, 1), (284, 13), (300, 3)] h h1 := fl_tr fr12 fb11 (by first | exact ⟨_, List.mem_cons_self, by omega, by omega⟩ | exact ⟨_, List.mem_cons_of_mem _ (List.mem_cons_self), by omega, by omega⟩ | exact ⟨_, List.mem_cons_of_mem _ (List.mem_cons_of_mem _ (List.mem_cons_self)), by omega, by omega⟩)
  show px_to 184 4 [some (.ref (269)), some (.int (nI c)), none] [] h1 _
  refine e_aload_n f_184_4 rfl rfl ?_
  refine e_iload_n f_184_5 rfl rfl ?_
  have g14 : px_pa hm9 296 50 24 vN pl := pa_fi H16 fa10 (by omega)
  have g15 : px_pa h1 296 50 24 vN pl := pa_fi g14 fb11 (by omega)
  have g16 : px_pa hm9 274 50 8 vN em := pa_fi H17 fa10 (by omega)
  have g17 : px_pa h1 274 50 8 vN em := pa_fi g16 fb11 (by omega)
  have g18 : px_pa hm9 275 52 192 evS es := pa_fi H18 fa10 (by omega)
  have g19 : px_pa h1 275 52 192 evS es := pa_fi g18 fb11 (by omega)
  refine e_callV (As := [.int (nI c)]) (rest := []) f_184_6 rfl rfl rfl (Nat.le_of_ble_eq_true rfl) (Nat.le_of_ble_eq_true rfl) g4 rfl (Nat.le_of_ble_eq_true rfl) (cc_Md_plP (pl := pl) (c := c) (ev := ev) (em := em) (es := es) (ga := (L, nI j.length, cn)) (gp := gp) (gq := (nI j.length, gq.2.1, gq.2.2.1, gq.2.2.2.1, gq.2.2.2.2.1, gq.2.2.2.2.2.1, cb)) (gh := gh) (gw := gw) (gu := gu) (gv := gv) g4 g15 g17 g19 (by omega) (p3) (p7) (p4) (p5) (he2)) rfl (fun h20 r21 q22 => ?_)
  obtain ⟨rfl, g23, g24, fx25⟩ := q22
  obtain ⟨hm26, fa27, fb28⟩ := fj_mid fx25
  have fr29 : px_fl [(269, 1), (284, 13), (300, 3)] h hm26 := fl_tr fr13 fa27 (by first | exact ⟨_, List.mem_cons_self, by omega, by omega⟩ | exact ⟨_, List.mem_cons_of_mem _ (List.mem_cons_self), by omega, by omega⟩ | exact ⟨_, List.mem_cons_of_mem _ (List.mem_cons_of_mem _ (List.mem_cons_self)), by omega, by omega⟩)
  have fr30 : px_fl [(269, 1), (284, 13), (300, 3)] h h20 := fl_tr fr29 fb28 (by first | exact ⟨_, List.mem_cons_self, by omega, by omega⟩ | exact ⟨_, List.mem_cons_of_mem _ (List.mem_cons_self), by omega, by omega⟩ | exact ⟨_, List.mem_cons_of_mem _ (List.mem_cons_of_mem _ (List.mem_cons_self)), by omega, by omega⟩)
  show px_to 184 9 [some (.ref (269)), some (.int (nI c)), none] [] h20 _
  refine e_aload_n f_184_9 rfl rfl ?_
  refine e_iload_n f_184_10 rfl rfl ?_
  have g31 : px_pa hm26 284 52 6 stS j := pa_fi g5 fa27 (by omega)
  have g32 : px_pa h20 284 52 6 stS j := pa_fi g31 fb28 (by omega)
  have g33 : px_pa hm26 285 52 6 stA j := pa_fi g6 fa27 (by omega)
  have g34 : px_pa h20 285 52 6 stA j := pa_fi g33 fb28 (by omega)
  have g35 : px_pa hm26 286 50 6 stN j := pa_fi g7 fa27 (by omega)
  have g36 : px_pa h20 286 50 6 stN j := pa_fi g35 fb28 (by omega)
  have g37 : px_pa hm9 287 50 3070 Value.int sl := pa_fi H7 fa10 (by omega)
  have g38 : px_pa h1 287 50 3070 Value.int sl := pa_fi g37 fb11 (by omega)
  have g39 : px_pa hm26 287 50 3070 Value.int sl := pa_fi g38 fa27 (by omega)
  have g40 : px_pa h20 287 50 3070 Value.int sl := pa_fi g39 fb28 (by omega)
  have g41 : px_pa hm9 288 50 3070 Value.int sl2 := pa_fi H8 fa10 (by omega)
  have g42 : px_pa h1 288 50 3070 Value.int sl2 := pa_fi g41 fb11 (by omega)
  have g43 : px_pa hm26 288 50 3070 Value.int sl2 := pa_fi g42 fa27 (by omega)
  have g44 : px_pa h20 288 50 3070 Value.int sl2 := pa_fi g43 fb28 (by omega)
  have g45 : px_pa hm9 289 54 100 rK lh := pa_fi H9 fa10 (by omega)
  have g46 : px_pa h1 289 54 100 rK lh := pa_fi g45 fb11 (by omega)
  have g47 : px_pa hm26 289 54 100 rK lh := pa_fi g46 fa27 (by omega)
  have g48 : px_pa h20 289 54 100 rK lh := pa_fi g47 fb28 (by omega)
  have g49 : px_pa hm9 290 50 100 rV lh := pa_fi H10 fa10 (by omega)
  have g50 : px_pa h1 290 50 100 rV lh := pa_fi g49 fb11 (by omega)
  have g51 : px_pa hm26 290 50 100 rV lh := pa_fi g50 fa27 (by omega)
  have g52 : px_pa h20 290 50 100 rV lh := pa_fi g51 fb28 (by omega)
  have g53 : px_pa hm9 291 50 100 rT lh := pa_fi H11 fa10 (by omega)
  have g54 : px_pa h1 291 50 100 rT lh := pa_fi g53 fb11 (by omega)
  have g55 : px_pa hm26 291 50 100 rT lh := pa_fi g54 fa27 (by omega)
  have g56 : px_pa h20 291 50 100 rT lh := pa_fi g55 fb28 (by omega)
  have g57 : px_pa hm9 292 54 100 rK lg := pa_fi H12 fa10 (by omega)
  have g58 : px_pa h1 292 54 100 rK lg := pa_fi g57 fb11 (by omega)
  have g59 : px_pa hm26 292 54 100 rK lg := pa_fi g58 fa27 (by omega)
  have g60 : px_pa h20 292 54 100 rK lg := pa_fi g59 fb28 (by omega)
  have g61 : px_pa hm9 293 50 100 rV lg := pa_fi H13 fa10 (by omega)
  have g62 : px_pa h1 293 50 100 rV lg := pa_fi g61 fb11 (by omega)
  have g63 : px_pa hm26 293 50 100 rV lg := pa_fi g62 fa27 (by omega)
  have g64 : px_pa h20 293 50 100 rV lg := pa_fi g63 fb28 (by omega)
  have g65 : px_pa hm9 294 50 100 rT lg := pa_fi H14 fa10 (by omega)
  have g66 : px_pa h1 294 50 100 rT lg := pa_fi g65 fb11 (by omega)
  have g67 : px_pa hm26 294 50 100 rT lg := pa_fi g66 fa27 (by omega)
  have g68 : px_pa h20 294 50 100 rT lg := pa_fi g67 fb28 (by omega)
  have g69 : px_pa hm9 295 50 30 Value.int cv := pa_fi H15 fa10 (by omega)
  have g70 : px_pa h1 295 50 30 Value.int cv := pa_fi g69 fb11 (by omega)
  have g71 : px_pa hm26 295 50 30 Value.int cv := pa_fi g70 fa27 (by omega)
  have g72 : px_pa h20 295 50 30 Value.int cv := pa_fi g71 fb28 (by omega)
  have g73 : px_pa hm26 275 52 192 evS es := pa_fi g19 fa27 (by omega)
  have g74 : px_pa h20 275 52 192 evS es := pa_fi g73 fb28 (by omega)
  have g75 : px_pa hm9 276 54 192 evK es := pa_fi H19 fa10 (by omega)
  have g76 : px_pa h1 276 54 192 evK es := pa_fi g75 fb11 (by omega)
  have g77 : px_pa hm26 276 54 192 evK es := pa_fi g76 fa27 (by omega)
  have g78 : px_pa h20 276 54 192 evK es := pa_fi g77 fb28 (by omega)
  have g79 : px_pa hm9 277 53 192 evV es := pa_fi H20 fa10 (by omega)
  have g80 : px_pa h1 277 53 192 evV es := pa_fi g79 fb11 (by omega)
  have g81 : px_pa hm26 277 53 192 evV es := pa_fi g80 fa27 (by omega)
  have g82 : px_pa h20 277 53 192 evV es := pa_fi g81 fb28 (by omega)
  have g83 : px_pa hm9 278 53 192 evT es := pa_fi H21 fa10 (by omega)
  have g84 : px_pa h1 278 53 192 evT es := pa_fi g83 fb11 (by omega)
  have g85 : px_pa hm26 278 53 192 evT es := pa_fi g84 fa27 (by omega)
  have g86 : px_pa h20 278 53 192 evT es := pa_fi g85 fb28 (by omega)
  refine e_callV (As := [.int (nI c)]) (rest := []) f_184_11 rfl rfl rfl (Nat.le_of_ble_eq_true rfl) (Nat.le_of_ble_eq_true rfl) g23 rfl (Nat.le_of_ble_eq_true rfl) (cc_Md_runs (c := c) (ev := ev) (es := es) (pl := (evPl ev 0)) (j := j) (cb := cb) (sl := sl) (sl2 := sl2) (lh := lh) (lg := lg) (cv := cv) (tl := tl) (ga := (L, nI j.length, cn)) (gp := gp) (gq := (nI j.length, gq.2.1, gq.2.2.1, gq.2.2.2.1, gq.2.2.2.2.1, gq.2.2.2.2.2.1, cb)) (gh := gh) (gw := gw) (gu := (nI ((evPl ev 0).length), gu.2.1, gu.2.2)) (gv := gv) g23 g32 g34 g36 g40 g44 g48 g52 g56 g60 g64 g68 g72 g24 g74 g78 g82 g86 (p0) (p1) (by omega) (p3.2) (p4) (p5) (p6) (fun p hp => by have := evPl_lt ev 0 p hp; omega) (p8)) rfl (fun h87 r88 q89 => ?_)
  obtain ⟨rfl, g90, fx91⟩ := q89
  obtain ⟨hm92, fa93, fb94⟩ := fj_mid fx91
  have fr95 : px_fl [(269, 1), (284, 13), (300, 3)] h hm92 := fl_tr fr30 fa93 (by first | exact ⟨_, List.mem_cons_self, by omega, by omega⟩ | exact ⟨_, List.mem_cons_of_mem _ (List.mem_cons_self), by omega, by omega⟩ | exact ⟨_, List.mem_cons_of_mem _ (List.mem_cons_of_mem _ (List.mem_cons_self)), by omega, by omega⟩)
  have fr96 : px_fl [(269, 1), (284, 13), (300, 3)] h h87 := fl_tr fr95 fb94 (by first | exact ⟨_, List.mem_cons_self, by omega, by omega⟩ | exact ⟨_, List.mem_cons_of_mem _ (List.mem_cons_self), by omega, by omega⟩ | exact ⟨_, List.mem_cons_of_mem _ (List.mem_cons_of_mem _ (List.mem_cons_self)), by omega, by omega⟩)
  show px_to 184 14 [some (.ref (269)), some (.int (nI c)), none] [] h87 _
  have g97 : pRO h87 (L, nI j.length, cn) gp (nI (evPl ev 0).length, gu.2.1, gu.2.2) gv j cb (plO j ev) ((runS j (evs ev (evPl ev 0)) tl).1.2.2.2.1) := g90
  obtain ⟨la98, lb99, gw100, sl101, sl2102, lh103, cv104, g105, g106, g107, g108, g109, g110, g111, g112, g113, g114, hO115⟩ := id g97
  have hO := hO115
  refine e_aload_n f_184_14 rfl rfl ?_
  refine e_aload_n f_184_15 rfl rfl ?_
  refine e_getf f_184_16 g105 rfl rfl ?_
  show px_to 184 19 [some (.ref (269)), some (.int (nI c)), none] [.int (bI ((plO j ev).2.2.1.isSome)), .ref (269)] h87 _
  refine e_putp (vs' := mB (L, nI j.length, cn) gp (nI j.length, (plO j ev).2.2.1.isSome, oI (plO j ev).2.2.1, (plO j ev).2.2.2, la98, lb99, cb) (nI 0, nI ((plO j ev).2.1.length)) gw100 (nI (evPl ev 0).length, gu.2.1, gu.2.2) (gv.1, gv.2.1, gv.2.2.1, gv.2.2.2.1, gv.2.2.2.2.1, (plO j ev).2.2.1.isSome, gv.2.2.2.2.2.2.1, gv.2.2.2.2.2.2.2.1, gv.2.2.2.2.2.2.2.2)) f_184_19 g105 (Nat.le_of_ble_eq_true rfl) (nw_bI _) (by generalize (plO j ev).2.2.1.isSome = b; cases b <;> rfl) rfl rfl (fun h116 g117 fx118 => ?_)
  have fr119 : px_fl [(269, 1), (284, 13), (300, 3)] h h116 := fl_tr fr96 fx118 (by first | exact ⟨_, List.mem_cons_self, by omega, by omega⟩ | exact ⟨_, List.mem_cons_of_mem _ (List.mem_cons_self), by omega, by omega⟩ | exact ⟨_, List.mem_cons_of_mem _ (List.mem_cons_of_mem _ (List.mem_cons_self)), by omega, by omega⟩)
  refine e_aload_n f_184_22 rfl rfl ?_
  refine e_aload_n f_184_23 rfl rfl ?_
  refine e_getf f_184_24 g117 rfl rfl ?_
  show px_to 184 27 [some (.ref (269)), some (.int (nI c)), none] [.int (nI ((plO j ev).2.1.length)), .ref (269)] h116 _
  refine e_putp (vs' := mB (L, nI j.length, cn) gp (nI j.length, (plO j ev).2.2.1.isSome, oI (plO j ev).2.2.1, (plO j ev).2.2.2, la98, lb99, cb) (nI 0, nI ((plO j ev).2.1.length)) gw100 (nI (evPl ev 0).length, gu.2.1, nI ((plO j ev).2.1.length)) (gv.1, gv.2.1, gv.2.2.1, gv.2.2.2.1, gv.2.2.2.2.1, (plO j ev).2.2.1.isSome, gv.2.2.2.2.2.2.1, gv.2.2.2.2.2.2.2.1, gv.2.2.2.2.2.2.2.2)) f_184_27 g117 (Nat.le_of_ble_eq_true rfl) (rfl) (rfl) rfl rfl (fun h120 g121 fx122 => ?_)
  have fr123 : px_fl [(269, 1), (284, 13), (300, 3)] h h120 := fl_tr fr119 fx122 (by first | exact ⟨_, List.mem_cons_self, by omega, by omega⟩ | exact ⟨_, List.mem_cons_of_mem _ (List.mem_cons_self), by omega, by omega⟩ | exact ⟨_, List.mem_cons_of_mem _ (List.mem_cons_of_mem _ (List.mem_cons_self)), by omega, by omega⟩)
  refine e_iconst (v := nI 0) f_184_30 (by decide) rfl ?_
  refine e_istore_n (L' := [some (.ref (269)), some (.int (nI c)), some (.int (nI 0))]) f_184_31 (Nat.le_of_ble_eq_true rfl) rfl rfl ?_
  have g124 : px_pa h116 292 54 100 rK ((plO j ev).2.1) := pa_fi g111 fx118 (by omega)
  have g125 : px_pa h120 292 54 100 rK ((plO j ev).2.1) := pa_fi g124 fx122 (by omega)
  have g126 : px_pa h116 293 50 100 rV ((plO j ev).2.1) := pa_fi g112 fx118 (by omega)
  have g127 : px_pa h120 293 50 100 rV ((plO j ev).2.1) := pa_fi g126 fx122 (by omega)
  have g128 : px_pa h116 294 50 100 rT ((plO j ev).2.1) := pa_fi g113 fx118 (by omega)
  have g129 : px_pa h120 294 50 100 rT ((plO j ev).2.1) := pa_fi g128 fx122 (by omega)
  have g130 : px_pa hm9 300 54 100 rK lt := pa_fi H22 fa10 (by omega)
  have g131 : px_pa h1 300 54 100 rK lt := pa_fi g130 fb11 (by omega)
  have g132 : px_pa hm26 300 54 100 rK lt := pa_fi g131 fa27 (by omega)
  have g133 : px_pa h20 300 54 100 rK lt := pa_fi g132 fb28 (by omega)
  have g134 : px_pa hm92 300 54 100 rK lt := pa_fi g133 fa93 (by omega)
  have g135 : px_pa h87 300 54 100 rK lt := pa_fi g134 fb94 (by omega)
  have g136 : px_pa h116 300 54 100 rK lt := pa_fi g135 fx118 (by omega)
  have g137 : px_pa h120 300 54 100 rK lt := pa_fi g136 fx122 (by omega)
  have g138 : px_pa hm9 301 50 100 rV lt := pa_fi H23 fa10 (by omega)
  have g139 : px_pa h1 301 50 100 rV lt := pa_fi g138 fb11 (by omega)
  have g140 : px_pa hm26 301 50 100 rV lt := pa_fi g139 fa27 (by omega)
  have g141 : px_pa h20 301 50 100 rV lt := pa_fi g140 fb28 (by omega)
  have g142 : px_pa hm92 301 50 100 rV lt := pa_fi g141 fa93 (by omega)
  have g143 : px_pa h87 301 50 100 rV lt := pa_fi g142 fb94 (by omega)
  have g144 : px_pa h116 301 50 100 rV lt := pa_fi g143 fx118 (by omega)
  have g145 : px_pa h120 301 50 100 rV lt := pa_fi g144 fx122 (by omega)
  have g146 : px_pa hm9 302 50 100 rT lt := pa_fi H24 fa10 (by omega)
  have g147 : px_pa h1 302 50 100 rT lt := pa_fi g146 fb11 (by omega)
  have g148 : px_pa hm26 302 50 100 rT lt := pa_fi g147 fa27 (by omega)
  have g149 : px_pa h20 302 50 100 rT lt := pa_fi g148 fb28 (by omega)
  have g150 : px_pa hm92 302 50 100 rT lt := pa_fi g149 fa93 (by omega)
  have g151 : px_pa h87 302 50 100 rT lt := pa_fi g150 fb94 (by omega)
  have g152 : px_pa h116 302 50 100 rT lt := pa_fi g151 fx118 (by omega)
  have g153 : px_pa h120 302 50 100 rT lt := pa_fi g152 fx122 (by omega)
  refine px_to_mono (ll_Md_aga (h0 := h120) (c := c) (gh := (nI 0, 0)) (lg := (plO j ev).2.1) g121 g125 g127 g129 hrok (plO j ev).2.1.length 0 h120 (by omega) (Nat.zero_le _) (pa_nil g137) (pa_nil g145) (pa_nil g153) (fi_rf _ _ _)) (fun h1 r hr => ?_)
  obtain ⟨e1, e2, e3, e4, e5⟩ := hr
  have fr154 : px_fl [(269, 1), (284, 13), (300, 3)] h h1 := fl_tr fr123 e5 (by first | exact ⟨_, List.mem_cons_self, by omega, by omega⟩ | exact ⟨_, List.mem_cons_of_mem _ (List.mem_cons_self), by omega, by omega⟩ | exact ⟨_, List.mem_cons_of_mem _ (List.mem_cons_of_mem _ (List.mem_cons_self)), by omega, by omega⟩)
  have g155 : h1.2.2 269 = some (12, mB (L, nI j.length, cn) gp (nI j.length, (plO j ev).2.2.1.isSome, oI (plO j ev).2.2.1, (plO j ev).2.2.2, la98, lb99, cb) (nI 0, nI ((plO j ev).2.1.length)) gw100 (nI (evPl ev 0).length, gu.2.1, nI ((plO j ev).2.1.length)) (gv.1, gv.2.1, gv.2.2.1, gv.2.2.2.1, gv.2.2.2.2.1, (plO j ev).2.2.1.isSome, gv.2.2.2.2.2.2.1, gv.2.2.2.2.2.2.2.1, gv.2.2.2.2.2.2.2.2)) := fi_at g121 e5 (by omega)
  have g156 : px_pa h116 287 50 3070 Value.int sl101 := pa_fi g106 fx118 (by omega)
  have g157 : px_pa h120 287 50 3070 Value.int sl101 := pa_fi g156 fx122 (by omega)
  have g158 : px_pa h1 287 50 3070 Value.int sl101 := pa_fi g157 e5 (by omega)
  have g159 : px_pa h116 288 50 3070 Value.int sl2102 := pa_fi g107 fx118 (by omega)
  have g160 : px_pa h120 288 50 3070 Value.int sl2102 := pa_fi g159 fx122 (by omega)
  have g161 : px_pa h1 288 50 3070 Value.int sl2102 := pa_fi g160 e5 (by omega)
  have g162 : px_pa h116 289 54 100 rK lh103 := pa_fi g108 fx118 (by omega)
  have g163 : px_pa h120 289 54 100 rK lh103 := pa_fi g162 fx122 (by omega)
  have g164 : px_pa h1 289 54 100 rK lh103 := pa_fi g163 e5 (by omega)
  have g165 : px_pa h116 290 50 100 rV lh103 := pa_fi g109 fx118 (by omega)
  have g166 : px_pa h120 290 50 100 rV lh103 := pa_fi g165 fx122 (by omega)
  have g167 : px_pa h1 290 50 100 rV lh103 := pa_fi g166 e5 (by omega)
  have g168 : px_pa h116 291 50 100 rT lh103 := pa_fi g110 fx118 (by omega)
  have g169 : px_pa h120 291 50 100 rT lh103 := pa_fi g168 fx122 (by omega)
  have g170 : px_pa h1 291 50 100 rT lh103 := pa_fi g169 e5 (by omega)
  have g171 : px_pa h1 292 54 100 rK ((plO j ev).2.1) := pa_fi g125 e5 (by omega)
  have g172 : px_pa h1 293 50 100 rV ((plO j ev).2.1) := pa_fi g127 e5 (by omega)
  have g173 : px_pa h1 294 50 100 rT ((plO j ev).2.1) := pa_fi g129 e5 (by omega)
  have g174 : px_pa h116 295 50 30 Value.int cv104 := pa_fi g114 fx118 (by omega)
  have g175 : px_pa h120 295 50 30 Value.int cv104 := pa_fi g174 fx122 (by omega)
  have g176 : px_pa h1 295 50 30 Value.int cv104 := pa_fi g175 e5 (by omega)
  have g177 : pRO h1 (L, nI j.length, cn) gp (nI (evPl ev 0).length, gu.2.1, nI (plO j ev).2.1.length) (gv.1, gv.2.1, gv.2.2.1, gv.2.2.2.1, gv.2.2.2.2.1, (plO j ev).2.2.1.isSome, gv.2.2.2.2.2.2.1, gv.2.2.2.2.2.2.2.1, gv.2.2.2.2.2.2.2.2) j cb (plO j ev) ((runS j (evs ev (evPl ev 0)) tl).1.2.2.2.1) := ⟨_, _, _, _, _, _, _, g155, g158, g161, g164, g167, g170, g171, g172, g173, g176, hO⟩
  have g178 : px_pa hm92 284 52 6 stS j := pa_fi g32 fa93 (by omega)
  have g179 : px_pa h87 284 52 6 stS j := pa_fi g178 fb94 (by omega)
  have g180 : px_pa h116 284 52 6 stS j := pa_fi g179 fx118 (by omega)
  have g181 : px_pa h120 284 52 6 stS j := pa_fi g180 fx122 (by omega)
  have g182 : px_pa h1 284 52 6 stS j := pa_fi g181 e5 (by omega)
  have g183 : px_pa hm92 285 52 6 stA j := pa_fi g34 fa93 (by omega)
  have g184 : px_pa h87 285 52 6 stA j := pa_fi g183 fb94 (by omega)
  have g185 : px_pa h116 285 52 6 stA j := pa_fi g184 fx118 (by omega)
  have g186 : px_pa h120 285 52 6 stA j := pa_fi g185 fx122 (by omega)
  have g187 : px_pa h1 285 52 6 stA j := pa_fi g186 e5 (by omega)
  have g188 : px_pa hm92 286 50 6 stN j := pa_fi g36 fa93 (by omega)
  have g189 : px_pa h87 286 50 6 stN j := pa_fi g188 fb94 (by omega)
  have g190 : px_pa h116 286 50 6 stN j := pa_fi g189 fx118 (by omega)
  have g191 : px_pa h120 286 50 6 stN j := pa_fi g190 fx122 (by omega)
  have g192 : px_pa h1 286 50 6 stN j := pa_fi g191 e5 (by omega)
  have g193 : px_pa hm92 296 50 24 vN (evPl ev 0) := pa_fi g24 fa93 (by omega)
  have g194 : px_pa h87 296 50 24 vN (evPl ev 0) := pa_fi g193 fb94 (by omega)
  have g195 : px_pa h116 296 50 24 vN (evPl ev 0) := pa_fi g194 fx118 (by omega)
  have g196 : px_pa h120 296 50 24 vN (evPl ev 0) := pa_fi g195 fx122 (by omega)
  have g197 : px_pa h1 296 50 24 vN (evPl ev 0) := pa_fi g196 e5 (by omega)
  first | (exfalso; omega) | exact ⟨e1, g182, g187, g192, g197, g177, e2, e3, e4, fr154⟩

def relI (yo : RO) (lt0 : List Row) (sl sl2 cv : List Int32) (lt : List Row) : Prop := sl.length = 3070 ∧ sl2.length = 3070 ∧ cv.length = 30 ∧ rsort lt = rsort lt0 ∧ ∀ x ∈ lt, rwOk x
def pIE (h : px_H) (ga : gA) (gp : gP) (pn : Int32) (gv : gV) (j : List St) (cb : Bool) (yo : RO) (lt0 : List Row) : Prop := ∃ (la lb : Bool) (gw : gW) (o1 : Int32) (sl sl2 : List Int32) (lh : List Row) (cv : List Int32) (lo lt : List Row), h.2.2 269 = some (12, mB ga gp (nI j.length, yo.2.2.1.isSome, oI yo.2.2.1, yo.2.2.2, la, lb, cb) (nI 0, nI yo.2.1.length) gw (pn, o1, nI lt.length) gv) ∧ px_pa h 287 50 3070 Value.int sl ∧ px_pa h 288 50 3070 Value.int sl2 ∧ px_pa h 289 54 100 rK lh ∧ px_pa h 290 50 100 rV lh ∧ px_pa h 291 50 100 rT lh ∧ px_pa h 292 54 100 rK yo.2.1 ∧ px_pa h 293 50 100 rV yo.2.1 ∧ px_pa h 294 50 100 rT yo.2.1 ∧ px_pa h 295 50 30 Value.int cv ∧ px_pa h 297 54 100 rK lo ∧ px_pa h 298 50 100 rV lo ∧ px_pa h 299 50 100 rT lo ∧ px_pa h 300 54 100 rK lt ∧ px_pa h 301 50 100 rV lt ∧ px_pa h 302 50 100 rT lt ∧ relI yo lt0 sl sl2 cv lt

theorem bI_inj {a b : Bool} (h : bI a = bI b) : a = b := by
  cases a <;> cases b
  · rfl
  · exact absurd h (by decide)
  · exact absurd h (by decide)
  · rfl

set_option maxRecDepth 20000 in
set_option maxHeartbeats 4000000 in
theorem cc_Md_ieq {h : px_H} {bits : Int32} {pz : Bool} {c : Nat} {ev es : List Ev} {pl : List Nat} {j : List St} {cb : Bool} {sl sl2 : List Int32} {lh lg lo lt : List Row} {cv : List Int32} {ga : gA} {gp : gP} {gq : gQ} {gh : gH} {gw : gW} {gu : gU} {gv : gV} (H0 : h.2.2 269 = some (12, mB ga gp (nI j.length, gq.2.1, gq.2.2.1, gq.2.2.2.1, gq.2.2.2.2.1, gq.2.2.2.2.2.1, cb) gh gw (gu.1, gu.2.1, nI lt.length) (nI (evCnt false ev), nI (evCnt true ev), gv.2.2.1, gv.2.2.2.1, gv.2.2.2.2.1, pz, gv.2.2.2.2.2.2.1, gv.2.2.2.2.2.2.2.1, gv.2.2.2.2.2.2.2.2))) (H1 : px_pa h 284 52 6 stS j) (H2 : px_pa h 285 52 6 stA j) (H3 : px_pa h 286 50 6 stN j) (H4 : px_pa h 287 50 3070 Value.int sl) (H5 : px_pa h 288 50 3070 Value.int sl2) (H6 : px_pa h 289 54 100 rK lh) (H7 : px_pa h 290 50 100 rV lh) (H8 : px_pa h 291 50 100 rT lh) (H9 : px_pa h 292 54 100 rK lg) (H10 : px_pa h 293 50 100 rV lg) (H11 : px_pa h 294 50 100 rT lg) (H12 : px_pa h 295 50 30 Value.int cv) (H13 : px_pa h 296 50 24 vN pl) (H14 : px_pa h 275 52 192 evS es) (H15 : px_pa h 276 54 192 evK es) (H16 : px_pa h 277 53 192 evV es) (H17 : px_pa h 278 53 192 evT es) (H18 : px_pa h 297 54 100 rK lo) (H19 : px_pa h 298 50 100 rV lo) (H20 : px_pa h 299 50 100 rT lo) (H21 : px_pa h 300 54 100 rK lt) (H22 : px_pa h 301 50 100 rV lt) (H23 : px_pa h 302 50 100 rT lt) (p0 : okZ j) (p1 : sl.length = 3070 ∧ sl2.length = 3070 ∧ cv.length = 30) (p2 : c < 8) (p3 : es.length = 192) (p4 : inE es c ev) (p5 : ev.length ≤ 24) (p6 : ∀ e ∈ ev, okEv e) (p7 : schOk ev (bsOf bits (nAB ev)) 0 0) (p8 : ∀ x ∈ lt, rwOk x) : px_wp 185 [.ref (269), .int (nI c), .int (bits)] h (fun h1 r => r = some (.int (bI (ieB (scO j ev bits) pz lt))) ∧ pIE h1 ga gp (nI (nAB ev)) (nI (evCnt false ev), nI (evCnt true ev), gv.2.2.1, gv.2.2.2.1, gv.2.2.2.2.1, pz, gv.2.2.2.2.2.2.1, gv.2.2.2.2.2.2.2.1, gv.2.2.2.2.2.2.2.2) j cb (scO j ev bits) lt ∧ px_pa h1 296 50 24 vN (schL ev (bsOf bits (nAB ev)) 0 0) ∧ px_fj 269 1 287 16 h h1) := by
  have fr0 : px_fj 269 1 287 16 h h := fj_rf _ _ _ _ _
  have h6 := p0.1.1
  have he2 : ∀ e ∈ ev, e.1 < 65536 := fun e he => by have := (p6 e he).1; omega
  have hrr := runO_ok (j := j) p0.1 (evs_ok (schL_lt p7) p6)
  have hrok : ∀ x ∈ (scO j ev bits).2.1, rwOk x := hrr.1
  have hrl : (scO j ev bits).2.1.length ≤ 96 := hrr.2.1
  show px_to 185 0 [some (.ref (269)), some (.int (nI c)), some (.int (bits))] [] h _
  refine e_aload_n f_185_0 rfl rfl ?_
  refine e_iload_n f_185_1 rfl rfl ?_
  refine e_iload_n f_185_2 rfl rfl ?_
  refine e_callV (As := [.int (nI c), .int (bits)]) (rest := []) f_185_3 rfl rfl rfl (Nat.le_of_ble_eq_true rfl) (Nat.le_of_ble_eq_true rfl) H0 rfl (Nat.le_of_ble_eq_true rfl) (cc_Md_plB (bits := bits) (pl := pl) (c := c) (ev := ev) (em := []) (es := es) (ga := ga) (gp := gp) (gq := (nI j.length, gq.2.1, gq.2.2.1, gq.2.2.2.1, gq.2.2.2.2.1, gq.2.2.2.2.2.1, cb)) (gh := gh) (gw := gw) (gu := (gu.1, gu.2.1, nI lt.length)) (gv := (nI (evCnt false ev), nI (evCnt true ev), gv.2.2.1, gv.2.2.2.1, gv.2.2.2.2.1, pz, gv.2.2.2.2.2.2.1, gv.2.2.2.2.2.2.2.1, gv.2.2.2.2.2.2.2.2)) H0 H13 H14 (by omega) (p3) (trivial) (p4) (p5) (he2) (p7)) rfl (fun h1 r2 q3 => ?_)
  obtain ⟨rfl, g4, g5, fx6⟩ := q3
  obtain ⟨hm7, fa8, fb9⟩ := fj_mid fx6
  have fr10 : px_fj 269 1 287 16 h hm7 := fj_tr fr0 fa8 (by omega)
  have fr11 : px_fj 269 1 287 16 h h1 := fj_tr fr10 fb9 (by omega)
  show px_to 185 6 [some (.ref (269)), some (.int (nI c)), some (.int (bits))] [] h1 _
  have g12 : h1.2.2 269 = some (12, mB ga gp (nI j.length, gq.2.1, gq.2.2.1, gq.2.2.2.1, gq.2.2.2.2.1, gq.2.2.2.2.2.1, cb) gh gw (nI ((schL ev (bsOf bits (nAB ev)) 0 0).length), gu.2.1, nI lt.length) (nI (evCnt false ev), nI (evCnt true ev), gv.2.2.1, gv.2.2.2.1, gv.2.2.2.2.1, pz, gv.2.2.2.2.2.2.1, gv.2.2.2.2.2.2.2.1, gv.2.2.2.2.2.2.2.2)) := by rw [schL_len, bsOf_len]; exact g4
  refine e_aload_n f_185_6 rfl rfl ?_
  refine e_iload_n f_185_7 rfl rfl ?_
  have g13 : px_pa hm7 284 52 6 stS j := pa_fi H1 fa8 (by omega)
  have g14 : px_pa h1 284 52 6 stS j := pa_fi g13 fb9 (by omega)
  have g15 : px_pa hm7 285 52 6 stA j := pa_fi H2 fa8 (by omega)
  have g16 : px_pa h1 285 52 6 stA j := pa_fi g15 fb9 (by omega)
  have g17 : px_pa hm7 286 50 6 stN j := pa_fi H3 fa8 (by omega)
  have g18 : px_pa h1 286 50 6 stN j := pa_fi g17 fb9 (by omega)
  have g19 : px_pa hm7 287 50 3070 Value.int sl := pa_fi H4 fa8 (by omega)
  have g20 : px_pa h1 287 50 3070 Value.int sl := pa_fi g19 fb9 (by omega)
  have g21 : px_pa hm7 288 50 3070 Value.int sl2 := pa_fi H5 fa8 (by omega)
  have g22 : px_pa h1 288 50 3070 Value.int sl2 := pa_fi g21 fb9 (by omega)
  have g23 : px_pa hm7 289 54 100 rK lh := pa_fi H6 fa8 (by omega)
  have g24 : px_pa h1 289 54 100 rK lh := pa_fi g23 fb9 (by omega)
  have g25 : px_pa hm7 290 50 100 rV lh := pa_fi H7 fa8 (by omega)
  have g26 : px_pa h1 290 50 100 rV lh := pa_fi g25 fb9 (by omega)
  have g27 : px_pa hm7 291 50 100 rT lh := pa_fi H8 fa8 (by omega)
  have g28 : px_pa h1 291 50 100 rT lh := pa_fi g27 fb9 (by omega)
  have g29 : px_pa hm7 292 54 100 rK lg := pa_fi H9 fa8 (by omega)
  have g30 : px_pa h1 292 54 100 rK lg := pa_fi g29 fb9 (by omega)
  have g31 : px_pa hm7 293 50 100 rV lg := pa_fi H10 fa8 (by omega)
  have g32 : px_pa h1 293 50 100 rV lg := pa_fi g31 fb9 (by omega)
  have g33 : px_pa hm7 294 50 100 rT lg := pa_fi H11 fa8 (by omega)
  have g34 : px_pa h1 294 50 100 rT lg := pa_fi g33 fb9 (by omega)
  have g35 : px_pa hm7 295 50 30 Value.int cv := pa_fi H12 fa8 (by omega)
  have g36 : px_pa h1 295 50 30 Value.int cv := pa_fi g35 fb9 (by omega)
  have g37 : px_pa hm7 275 52 192 evS es := pa_fi H14 fa8 (by omega)
  have g38 : px_pa h1 275 52 192 evS es := pa_fi g37 fb9 (by omega)
  have g39 : px_pa hm7 276 54 192 evK es := pa_fi H15 fa8 (by omega)
  have g40 : px_pa h1 276 54 192 evK es := pa_fi g39 fb9 (by omega)
  have g41 : px_pa hm7 277 53 192 evV es := pa_fi H16 fa8 (by omega)
  have g42 : px_pa h1 277 53 192 evV es := pa_fi g41 fb9 (by omega)
  have g43 : px_pa hm7 278 53 192 evT es := pa_fi H17 fa8 (by omega)
  have g44 : px_pa h1 278 53 192 evT es := pa_fi g43 fb9 (by omega)
  refine e_callV (As := [.int (nI c)]) (rest := []) f_185_8 rfl rfl rfl (Nat.le_of_ble_eq_true rfl) (Nat.le_of_ble_eq_true rfl) g12 rfl (Nat.le_of_ble_eq_true rfl) (cc_Md_runs (c := c) (ev := ev) (es := es) (pl := (schL ev (bsOf bits (nAB ev)) 0 0)) (j := j) (cb := cb) (sl := sl) (sl2 := sl2) (lh := lh) (lg := lg) (cv := cv) (tl := cv) (ga := ga) (gp := gp) (gq := (nI j.length, gq.2.1, gq.2.2.1, gq.2.2.2.1, gq.2.2.2.2.1, gq.2.2.2.2.2.1, cb)) (gh := gh) (gw := gw) (gu := (nI ((schL ev (bsOf bits (nAB ev)) 0 0).length), gu.2.1, nI lt.length)) (gv := (nI (evCnt false ev), nI (evCnt true ev), gv.2.2.1, gv.2.2.2.1, gv.2.2.2.2.1, pz, gv.2.2.2.2.2.2.1, gv.2.2.2.2.2.2.2.1, gv.2.2.2.2.2.2.2.2)) g12 g14 g16 g18 g20 g22 g24 g26 g28 g30 g32 g34 g36 g5 g38 g40 g42 g44 (p0) (p1) (by omega) (p3) (p4) (p5) (p6) (schL_lt p7) (⟨p1.2.2, fun _ => rfl⟩)) rfl (fun h45 r46 q47 => ?_)
  obtain ⟨rfl, g48, fx49⟩ := q47
  obtain ⟨hm50, fa51, fb52⟩ := fj_mid fx49
  have fr53 : px_fj 269 1 287 16 h hm50 := fj_tr fr11 fa51 (by omega)
  have fr54 : px_fj 269 1 287 16 h h45 := fj_tr fr53 fb52 (by omega)
  show px_to 185 11 [some (.ref (269)), some (.int (nI c)), some (.int (bits))] [] h45 _
  have g55 : pRO h45 ga gp (nI (nAB ev), gu.2.1, nI lt.length) (nI (evCnt false ev), nI (evCnt true ev), gv.2.2.1, gv.2.2.2.1, gv.2.2.2.2.1, pz, gv.2.2.2.2.2.2.1, gv.2.2.2.2.2.2.2.1, gv.2.2.2.2.2.2.2.2) j cb (scO j ev bits) ((runS j (evs ev (schL ev (bsOf bits (nAB ev)) 0 0)) cv).1.2.2.2.1) := by have z := g48; rw [schL_len, bsOf_len] at z; exact z
  obtain ⟨la56, lb57, gw58, sl59, sl260, lh61, cv62, g63, g64, g65, g66, g67, g68, g69, g70, g71, g72, hO73⟩ := id g55
  have hO := hO73
  refine e_aload_n f_185_11 rfl rfl ?_
  refine e_getf f_185_12 g63 rfl rfl ?_
  show px_to 185 15 [some (.ref (269)), some (.int (nI c)), some (.int (bits))] [.int (bI ((scO j ev bits).2.2.1.isSome))] h45 _
  refine e_aload_n f_185_15 rfl rfl ?_
  refine e_getf f_185_16 g63 rfl rfl ?_
  show px_to 185 19 [some (.ref (269)), some (.int (nI c)), some (.int (bits))] [.int (bI pz), .int (bI ((scO j ev bits).2.2.1.isSome))] h45 _
  refine e_icmp_eq f_185_19 rfl (fun c_19 => ?_) (fun c_19 => ?_)
  · skip
    refine e_aload_n f_185_24 rfl rfl ?_
    have g74 : px_pa hm7 297 54 100 rK lo := pa_fi H18 fa8 (by omega)
    have g75 : px_pa h1 297 54 100 rK lo := pa_fi g74 fb9 (by omega)
    have g76 : px_pa hm50 297 54 100 rK lo := pa_fi g75 fa51 (by omega)
    have g77 : px_pa h45 297 54 100 rK lo := pa_fi g76 fb52 (by omega)
    have g78 : px_pa hm7 298 50 100 rV lo := pa_fi H19 fa8 (by omega)
    have g79 : px_pa h1 298 50 100 rV lo := pa_fi g78 fb9 (by omega)
    have g80 : px_pa hm50 298 50 100 rV lo := pa_fi g79 fa51 (by omega)
    have g81 : px_pa h45 298 50 100 rV lo := pa_fi g80 fb52 (by omega)
    have g82 : px_pa hm7 299 50 100 rT lo := pa_fi H20 fa8 (by omega)
    have g83 : px_pa h1 299 50 100 rT lo := pa_fi g82 fb9 (by omega)
    have g84 : px_pa hm50 299 50 100 rT lo := pa_fi g83 fa51 (by omega)
    have g85 : px_pa h45 299 50 100 rT lo := pa_fi g84 fb52 (by omega)
    refine e_callV (As := []) (rest := []) f_185_25 rfl rfl rfl (Nat.le_of_ble_eq_true rfl) (Nat.le_of_ble_eq_true rfl) g63 rfl (Nat.le_of_ble_eq_true rfl) (cc_Md_tkG (lg := (scO j ev bits).2.1) (lo := lo) (ga := ga) (gp := gp) (gq := (nI j.length, (scO j ev bits).2.2.1.isSome, oI (scO j ev bits).2.2.1, (scO j ev bits).2.2.2, la56, lb57, cb)) (gh := (nI 0, nI ((scO j ev bits).2.1.length))) (gw := gw58) (gu := (nI (nAB ev), gu.2.1, nI lt.length)) (gv := (nI (evCnt false ev), nI (evCnt true ev), gv.2.2.1, gv.2.2.2.1, gv.2.2.2.2.1, pz, gv.2.2.2.2.2.2.1, gv.2.2.2.2.2.2.2.1, gv.2.2.2.2.2.2.2.2)) g63 g69 g70 g71 g77 g81 g85 (hrok)) rfl (fun h86 r87 q88 => ?_)
    obtain ⟨rfl, g89, g90, g91, g92, fx93⟩ := q88
    obtain ⟨hm94, fa95, fb96⟩ := fj_mid fx93
    have fr97 : px_fj 269 1 287 16 h hm94 := fj_tr fr54 fa95 (by omega)
    have fr98 : px_fj 269 1 287 16 h h86 := fj_tr fr97 fb96 (by omega)
    show px_to 185 28 [some (.ref (269)), some (.int (nI c)), some (.int (bits))] [] h86 _
    refine e_aload_n f_185_28 rfl rfl ?_
    have g99 : px_pa hm7 300 54 100 rK lt := pa_fi H21 fa8 (by omega)
    have g100 : px_pa h1 300 54 100 rK lt := pa_fi g99 fb9 (by omega)
    have g101 : px_pa hm50 300 54 100 rK lt := pa_fi g100 fa51 (by omega)
    have g102 : px_pa h45 300 54 100 rK lt := pa_fi g101 fb52 (by omega)
    have g103 : px_pa hm94 300 54 100 rK lt := pa_fi g102 fa95 (by omega)
    have g104 : px_pa h86 300 54 100 rK lt := pa_fi g103 fb96 (by omega)
    have g105 : px_pa hm7 301 50 100 rV lt := pa_fi H22 fa8 (by omega)
    have g106 : px_pa h1 301 50 100 rV lt := pa_fi g105 fb9 (by omega)
    have g107 : px_pa hm50 301 50 100 rV lt := pa_fi g106 fa51 (by omega)
    have g108 : px_pa h45 301 50 100 rV lt := pa_fi g107 fb52 (by omega)
    have g109 : px_pa hm94 301 50 100 rV lt := pa_fi g108 fa95 (by omega)
    have g110 : px_pa h86 301 50 100 rV lt := pa_fi g109 fb96 (by omega)
    have g111 : px_pa hm7 302 50 100 rT lt := pa_fi H23 fa8 (by omega)
    have g112 : px_pa h1 302 50 100 rT lt := pa_fi g111 fb9 (by omega)
    have g113 : px_pa hm50 302 50 100 rT lt := pa_fi g112 fa51 (by omega)
    have g114 : px_pa h45 302 50 100 rT lt := pa_fi g113 fb52 (by omega)
    have g115 : px_pa hm94 302 50 100 rT lt := pa_fi g114 fa95 (by omega)
    have g116 : px_pa h86 302 50 100 rT lt := pa_fi g115 fb96 (by omega)
    refine e_callV (As := []) (rest := []) f_185_29 rfl rfl rfl (Nat.le_of_ble_eq_true rfl) (Nat.le_of_ble_eq_true rfl) g89 rfl (Nat.le_of_ble_eq_true rfl) (cc_Md_sortB (lo := ((scO j ev bits).2.1)) (lt := lt) (ga := ga) (gp := gp) (gq := (nI j.length, (scO j ev bits).2.2.1.isSome, oI (scO j ev bits).2.2.1, (scO j ev bits).2.2.2, la56, lb57, cb)) (gh := (nI 0, nI (((scO j ev bits).2.1).length))) (gw := gw58) (gu := (nI (nAB ev), nI (((scO j ev bits).2.1).length), nI lt.length)) (gv := (nI (evCnt false ev), nI (evCnt true ev), gv.2.2.1, gv.2.2.2.1, gv.2.2.2.2.1, pz, gv.2.2.2.2.2.2.1, gv.2.2.2.2.2.2.2.1, gv.2.2.2.2.2.2.2.2)) g89 g90 g91 g92 g104 g110 g116 (hrok) (p8)) rfl (fun h117 r118 q119 => ?_)
    obtain ⟨rfl, g120, g121, g122, g123, g124, g125, fx126⟩ := q119
    have fr127 : px_fj 269 1 287 16 h h117 := fj_tr fr98 fx126 (by omega)
    show px_to 185 32 [some (.ref (269)), some (.int (nI c)), some (.int (bits))] [] h117 _
    have g128 : h117.2.2 269 = some (12, mB ga gp (nI j.length, (scO j ev bits).2.2.1.isSome, oI (scO j ev bits).2.2.1, (scO j ev bits).2.2.2, la56, lb57, cb) (nI 0, nI (((scO j ev bits).2.1).length)) gw58 (nI (nAB ev), nI (((scO j ev bits).2.1).length), nI lt.length) (nI (evCnt false ev), nI (evCnt true ev), gv.2.2.1, gv.2.2.2.1, gv.2.2.2.2.1, pz, gv.2.2.2.2.2.2.1, gv.2.2.2.2.2.2.2.1, gv.2.2.2.2.2.2.2.2)) := fi_at g89 fx126 (by omega)
    have g129 : h117.2.2 269 = some (12, mB ga gp (nI j.length, (scO j ev bits).2.2.1.isSome, oI (scO j ev bits).2.2.1, (scO j ev bits).2.2.2, la56, lb57, cb) (nI 0, nI (((scO j ev bits).2.1).length)) gw58 (nI (nAB ev), nI ((rsort (scO j ev bits).2.1).length), nI ((rsort lt).length)) (nI (evCnt false ev), nI (evCnt true ev), gv.2.2.1, gv.2.2.2.1, gv.2.2.2.2.1, pz, gv.2.2.2.2.2.2.1, gv.2.2.2.2.2.2.2.1, gv.2.2.2.2.2.2.2.2)) := by rw [rsort_len, rsort_len]; exact g128
    refine e_aload_n f_185_32 rfl rfl ?_
    refine e_callV (As := []) (rest := []) f_185_33 rfl rfl rfl (Nat.le_of_ble_eq_true rfl) (Nat.le_of_ble_eq_true rfl) g129 rfl (Nat.le_of_ble_eq_true rfl) (cc_Md_unl (lo := (rsort (scO j ev bits).2.1)) (lt := (rsort lt)) (ga := ga) (gp := gp) (gq := (nI j.length, (scO j ev bits).2.2.1.isSome, oI (scO j ev bits).2.2.1, (scO j ev bits).2.2.2, la56, lb57, cb)) (gh := (nI 0, nI (((scO j ev bits).2.1).length))) (gw := gw58) (gu := (nI (nAB ev), nI ((rsort (scO j ev bits).2.1).length), nI ((rsort lt).length))) (gv := (nI (evCnt false ev), nI (evCnt true ev), gv.2.2.1, gv.2.2.2.1, gv.2.2.2.2.1, pz, gv.2.2.2.2.2.2.1, gv.2.2.2.2.2.2.2.1, gv.2.2.2.2.2.2.2.2)) g129 g120 g121 g122 g123 g124 g125 (⟨rsort_ok hrok, rsort_ok p8⟩)) rfl (fun h130 r131 q132 => ?_)
    obtain ⟨rfl, qe⟩ := q132
    have qe := qe.symm
    subst qe
    show px_to 185 36 [some (.ref (269)), some (.int (nI c)), some (.int (bits))] [.int (rfd (rsort (scO j ev bits).2.1) (rsort lt) 0)] h117 _
    have g133 : h117.2.2 269 = some (12, mB ga gp (nI j.length, (scO j ev bits).2.2.1.isSome, oI (scO j ev bits).2.2.1, (scO j ev bits).2.2.2, la56, lb57, cb) (nI 0, nI (((scO j ev bits).2.1).length)) gw58 (nI (nAB ev), nI ((scO j ev bits).2.1.length), nI lt.length) (nI (evCnt false ev), nI (evCnt true ev), gv.2.2.1, gv.2.2.2.1, gv.2.2.2.2.1, pz, gv.2.2.2.2.2.2.1, gv.2.2.2.2.2.2.2.1, gv.2.2.2.2.2.2.2.2)) := by have z := g129; rw [rsort_len, rsort_len] at z; exact z
    refine e_bipush (v := (-3)) f_185_36 (by decide) rfl ?_
    refine e_icmp_ne f_185_38 rfl (fun c_38 => ?_) (fun c_38 => ?_)
    · skip
      refine e_iconst (v := nI 0) f_185_45 (by decide) rfl ?_
      refine e_iret f_185_46 rfl (rfl) ?_
      have g134 : px_pa hm94 287 50 3070 Value.int sl59 := pa_fi g64 fa95 (by omega)
      have g135 : px_pa h86 287 50 3070 Value.int sl59 := pa_fi g134 fb96 (by omega)
      have g136 : px_pa h117 287 50 3070 Value.int sl59 := pa_fi g135 fx126 (by omega)
      have g137 : px_pa hm94 288 50 3070 Value.int sl260 := pa_fi g65 fa95 (by omega)
      have g138 : px_pa h86 288 50 3070 Value.int sl260 := pa_fi g137 fb96 (by omega)
      have g139 : px_pa h117 288 50 3070 Value.int sl260 := pa_fi g138 fx126 (by omega)
      have g140 : px_pa hm94 289 54 100 rK lh61 := pa_fi g66 fa95 (by omega)
      have g141 : px_pa h86 289 54 100 rK lh61 := pa_fi g140 fb96 (by omega)
      have g142 : px_pa h117 289 54 100 rK lh61 := pa_fi g141 fx126 (by omega)
      have g143 : px_pa hm94 290 50 100 rV lh61 := pa_fi g67 fa95 (by omega)
      have g144 : px_pa h86 290 50 100 rV lh61 := pa_fi g143 fb96 (by omega)
      have g145 : px_pa h117 290 50 100 rV lh61 := pa_fi g144 fx126 (by omega)
      have g146 : px_pa hm94 291 50 100 rT lh61 := pa_fi g68 fa95 (by omega)
      have g147 : px_pa h86 291 50 100 rT lh61 := pa_fi g146 fb96 (by omega)
      have g148 : px_pa h117 291 50 100 rT lh61 := pa_fi g147 fx126 (by omega)
      have g149 : px_pa hm94 292 54 100 rK ((scO j ev bits).2.1) := pa_fi g69 fa95 (by omega)
      have g150 : px_pa h86 292 54 100 rK ((scO j ev bits).2.1) := pa_fi g149 fb96 (by omega)
      have g151 : px_pa h117 292 54 100 rK ((scO j ev bits).2.1) := pa_fi g150 fx126 (by omega)
      have g152 : px_pa hm94 293 50 100 rV ((scO j ev bits).2.1) := pa_fi g70 fa95 (by omega)
      have g153 : px_pa h86 293 50 100 rV ((scO j ev bits).2.1) := pa_fi g152 fb96 (by omega)
      have g154 : px_pa h117 293 50 100 rV ((scO j ev bits).2.1) := pa_fi g153 fx126 (by omega)
      have g155 : px_pa hm94 294 50 100 rT ((scO j ev bits).2.1) := pa_fi g71 fa95 (by omega)
      have g156 : px_pa h86 294 50 100 rT ((scO j ev bits).2.1) := pa_fi g155 fb96 (by omega)
      have g157 : px_pa h117 294 50 100 rT ((scO j ev bits).2.1) := pa_fi g156 fx126 (by omega)
      have g158 : px_pa hm94 295 50 30 Value.int cv62 := pa_fi g72 fa95 (by omega)
      have g159 : px_pa h86 295 50 30 Value.int cv62 := pa_fi g158 fb96 (by omega)
      have g160 : px_pa h117 295 50 30 Value.int cv62 := pa_fi g159 fx126 (by omega)
      have g162 : h117.2.2 269 = some (12, mB ga gp (nI j.length, (scO j ev bits).2.2.1.isSome, oI (scO j ev bits).2.2.1, (scO j ev bits).2.2.2, la56, lb57, cb) (nI 0, nI ((scO j ev bits).2.1.length)) gw58 (nI (nAB ev), nI (scO j ev bits).2.1.length, nI (rsort lt).length) (nI (evCnt false ev), nI (evCnt true ev), gv.2.2.1, gv.2.2.2.1, gv.2.2.2.2.1, pz, gv.2.2.2.2.2.2.1, gv.2.2.2.2.2.2.2.1, gv.2.2.2.2.2.2.2.2)) := by rw [rsort_len]; exact g133
      have g161 : pIE h117 ga gp (nI (nAB ev)) (nI (evCnt false ev), nI (evCnt true ev), gv.2.2.1, gv.2.2.2.1, gv.2.2.2.2.1, pz, gv.2.2.2.2.2.2.1, gv.2.2.2.2.2.2.2.1, gv.2.2.2.2.2.2.2.2) j cb (scO j ev bits) lt := ⟨_, _, _, _, _, _, _, _, _, rsort lt, g162, g136, g139, g142, g145, g148, g151, g154, g157, g160, g120, g121, g122, g123, g124, g125, ⟨hO.1, hO.2.1, hO.2.2.1, rsort_rsort lt, rsort_ok p8⟩⟩
      have g163 : px_pa hm50 296 50 24 vN (schL ev (bsOf bits (nAB ev)) 0 0) := pa_fi g5 fa51 (by omega)
      have g164 : px_pa h45 296 50 24 vN (schL ev (bsOf bits (nAB ev)) 0 0) := pa_fi g163 fb52 (by omega)
      have g165 : px_pa hm94 296 50 24 vN (schL ev (bsOf bits (nAB ev)) 0 0) := pa_fi g164 fa95 (by omega)
      have g166 : px_pa h86 296 50 24 vN (schL ev (bsOf bits (nAB ev)) 0 0) := pa_fi g165 fb96 (by omega)
      have g167 : px_pa h117 296 50 24 vN (schL ev (bsOf bits (nAB ev)) 0 0) := pa_fi g166 fx126 (by omega)
      first | (exfalso; omega) | exact ⟨congrArg (fun z => some (Value.int z)) (b0 (by unfold ieB; exact decide_eq_false (fun z => c_38 ((rfd_eq (by rw [rsort_len]; omega)).mpr z.2)))), g161, g167, fr127⟩
    · skip
      refine e_iconst (v := nI 1) f_185_41 (by decide) rfl ?_
      refine e_goto f_185_42 ?_
      refine e_iret f_185_46 rfl (rfl) ?_
      have g168 : px_pa hm94 287 50 3070 Value.int sl59 := pa_fi g64 fa95 (by omega)
      have g169 : px_pa h86 287 50 3070 Value.int sl59 := pa_fi g168 fb96 (by omega)
      have g170 : px_pa h117 287 50 3070 Value.int sl59 := pa_fi g169 fx126 (by omega)
      have g171 : px_pa hm94 288 50 3070 Value.int sl260 := pa_fi g65 fa95 (by omega)
      have g172 : px_pa h86 288 50 3070 Value.int sl260 := pa_fi g171 fb96 (by omega)
      have g173 : px_pa h117 288 50 3070 Value.int sl260 := pa_fi g172 fx126 (by omega)
      have g174 : px_pa hm94 289 54 100 rK lh61 := pa_fi g66 fa95 (by omega)
      have g175 : px_pa h86 289 54 100 rK lh61 := pa_fi g174 fb96 (by omega)
      have g176 : px_pa h117 289 54 100 rK lh61 := pa_fi g175 fx126 (by omega)
      have g177 : px_pa hm94 290 50 100 rV lh61 := pa_fi g67 fa95 (by omega)
      have g178 : px_pa h86 290 50 100 rV lh61 := pa_fi g177 fb96 (by omega)
      have g179 : px_pa h117 290 50 100 rV lh61 := pa_fi g178 fx126 (by omega)
      have g180 : px_pa hm94 291 50 100 rT lh61 := pa_fi g68 fa95 (by omega)
      have g181 : px_pa h86 291 50 100 rT lh61 := pa_fi g180 fb96 (by omega)
      have g182 : px_pa h117 291 50 100 rT lh61 := pa_fi g181 fx126 (by omega)
      have g183 : px_pa hm94 292 54 100 rK ((scO j ev bits).2.1) := pa_fi g69 fa95 (by omega)
      have g184 : px_pa h86 292 54 100 rK ((scO j ev bits).2.1) := pa_fi g183 fb96 (by omega)
      have g185 : px_pa h117 292 54 100 rK ((scO j ev bits).2.1) := pa_fi g184 fx126 (by omega)
      have g186 : px_pa hm94 293 50 100 rV ((scO j ev bits).2.1) := pa_fi g70 fa95 (by omega)
      have g187 : px_pa h86 293 50 100 rV ((scO j ev bits).2.1) := pa_fi g186 fb96 (by omega)
      have g188 : px_pa h117 293 50 100 rV ((scO j ev bits).2.1) := pa_fi g187 fx126 (by omega)
      have g189 : px_pa hm94 294 50 100 rT ((scO j ev bits).2.1) := pa_fi g71 fa95 (by omega)
      have g190 : px_pa h86 294 50 100 rT ((scO j ev bits).2.1) := pa_fi g189 fb96 (by omega)
      have g191 : px_pa h117 294 50 100 rT ((scO j ev bits).2.1) := pa_fi g190 fx126 (by omega)
      have g192 : px_pa hm94 295 50 30 Value.int cv62 := pa_fi g72 fa95 (by omega)
      have g193 : px_pa h86 295 50 30 Value.int cv62 := pa_fi g192 fb96 (by omega)
      have g194 : px_pa h117 295 50 30 Value.int cv62 := pa_fi g193 fx126 (by omega)
      have g196 : h117.2.2 269 = some (12, mB ga gp (nI j.length, (scO j ev bits).2.2.1.isSome, oI (scO j ev bits).2.2.1, (scO j ev bits).2.2.2, la56, lb57, cb) (nI 0, nI ((scO j ev bits).2.1.length)) gw58 (nI (nAB ev), nI (scO j ev bits).2.1.length, nI (rsort lt).length) (nI (evCnt false ev), nI (evCnt true ev), gv.2.2.1, gv.2.2.2.1, gv.2.2.2.2.1, pz, gv.2.2.2.2.2.2.1, gv.2.2.2.2.2.2.2.1, gv.2.2.2.2.2.2.2.2)) := by rw [rsort_len]; exact g133
      have g195 : pIE h117 ga gp (nI (nAB ev)) (nI (evCnt false ev), nI (evCnt true ev), gv.2.2.1, gv.2.2.2.1, gv.2.2.2.2.1, pz, gv.2.2.2.2.2.2.1, gv.2.2.2.2.2.2.2.1, gv.2.2.2.2.2.2.2.2) j cb (scO j ev bits) lt := ⟨_, _, _, _, _, _, _, _, _, rsort lt, g196, g170, g173, g176, g179, g182, g185, g188, g191, g194, g120, g121, g122, g123, g124, g125, ⟨hO.1, hO.2.1, hO.2.2.1, rsort_rsort lt, rsort_ok p8⟩⟩
      have g197 : px_pa hm50 296 50 24 vN (schL ev (bsOf bits (nAB ev)) 0 0) := pa_fi g5 fa51 (by omega)
      have g198 : px_pa h45 296 50 24 vN (schL ev (bsOf bits (nAB ev)) 0 0) := pa_fi g197 fb52 (by omega)
      have g199 : px_pa hm94 296 50 24 vN (schL ev (bsOf bits (nAB ev)) 0 0) := pa_fi g198 fa95 (by omega)
      have g200 : px_pa h86 296 50 24 vN (schL ev (bsOf bits (nAB ev)) 0 0) := pa_fi g199 fb96 (by omega)
      have g201 : px_pa h117 296 50 24 vN (schL ev (bsOf bits (nAB ev)) 0 0) := pa_fi g200 fx126 (by omega)
      first | (exfalso; omega) | exact ⟨congrArg (fun z => some (Value.int z)) (b1 (by unfold ieB; exact decide_eq_true ⟨bI_inj (c_19), (rfd_eq (by rw [rsort_len]; omega)).mp (Classical.not_not.mp c_38)⟩)), g195, g201, fr127⟩
  · skip
    refine e_iconst (v := nI 0) f_185_22 (by decide) rfl ?_
    refine e_iret f_185_23 rfl (rfl) ?_
    have g202 : px_pa hm7 297 54 100 rK lo := pa_fi H18 fa8 (by omega)
    have g203 : px_pa h1 297 54 100 rK lo := pa_fi g202 fb9 (by omega)
    have g204 : px_pa hm50 297 54 100 rK lo := pa_fi g203 fa51 (by omega)
    have g205 : px_pa h45 297 54 100 rK lo := pa_fi g204 fb52 (by omega)
    have g206 : px_pa hm7 298 50 100 rV lo := pa_fi H19 fa8 (by omega)
    have g207 : px_pa h1 298 50 100 rV lo := pa_fi g206 fb9 (by omega)
    have g208 : px_pa hm50 298 50 100 rV lo := pa_fi g207 fa51 (by omega)
    have g209 : px_pa h45 298 50 100 rV lo := pa_fi g208 fb52 (by omega)
    have g210 : px_pa hm7 299 50 100 rT lo := pa_fi H20 fa8 (by omega)
    have g211 : px_pa h1 299 50 100 rT lo := pa_fi g210 fb9 (by omega)
    have g212 : px_pa hm50 299 50 100 rT lo := pa_fi g211 fa51 (by omega)
    have g213 : px_pa h45 299 50 100 rT lo := pa_fi g212 fb52 (by omega)
    have g214 : px_pa hm7 300 54 100 rK lt := pa_fi H21 fa8 (by omega)
    have g215 : px_pa h1 300 54 100 rK lt := pa_fi g214 fb9 (by omega)
    have g216 : px_pa hm50 300 54 100 rK lt := pa_fi g215 fa51 (by omega)
    have g217 : px_pa h45 300 54 100 rK lt := pa_fi g216 fb52 (by omega)
    have g218 : px_pa hm7 301 50 100 rV lt := pa_fi H22 fa8 (by omega)
    have g219 : px_pa h1 301 50 100 rV lt := pa_fi g218 fb9 (by omega)
    have g220 : px_pa hm50 301 50 100 rV lt := pa_fi g219 fa51 (by omega)
    have g221 : px_pa h45 301 50 100 rV lt := pa_fi g220 fb52 (by omega)
    have g222 : px_pa hm7 302 50 100 rT lt := pa_fi H23 fa8 (by omega)
    have g223 : px_pa h1 302 50 100 rT lt := pa_fi g222 fb9 (by omega)
    have g224 : px_pa hm50 302 50 100 rT lt := pa_fi g223 fa51 (by omega)
    have g225 : px_pa h45 302 50 100 rT lt := pa_fi g224 fb52 (by omega)
    have g226 : pIE h45 ga gp (nI (nAB ev)) (nI (evCnt false ev), nI (evCnt true ev), gv.2.2.1, gv.2.2.2.1, gv.2.2.2.2.1, pz, gv.2.2.2.2.2.2.1, gv.2.2.2.2.2.2.2.1, gv.2.2.2.2.2.2.2.2) j cb (scO j ev bits) lt := ⟨_, _, _, _, _, _, _, _, _, lt, g63, g64, g65, g66, g67, g68, g69, g70, g71, g72, g205, g209, g213, g217, g221, g225, ⟨hO.1, hO.2.1, hO.2.2.1, rfl, p8⟩⟩
    have g227 : px_pa hm50 296 50 24 vN (schL ev (bsOf bits (nAB ev)) 0 0) := pa_fi g5 fa51 (by omega)
    have g228 : px_pa h45 296 50 24 vN (schL ev (bsOf bits (nAB ev)) 0 0) := pa_fi g227 fb52 (by omega)
    first | (exfalso; omega) | exact ⟨congrArg (fun z => some (Value.int z)) (b0 (by unfold ieB; exact decide_eq_false (fun z => c_19 (congrArg bI z.1)))), g226, g228, fr54⟩
