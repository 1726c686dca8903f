/-- the job's part of a text: did it go well, the place -/
def jobR (tx : List Nat) : Bool × Nat := if sgn tx 0 = 74 then (if (aJ tx).1 = true then (if sgn tx (aJ tx).2.1 = 59 then (true, skp tx (aJ tx).2.1 + 1) else (false, skp tx (aJ tx).2.1)) else (false, (aJ tx).2.1)) else (false, skp tx 0)
theorem rdSteps_sk {tx : List Nat} {f tm p : Nat} {j : List St} (h : sgn tx p ∉ stepSigns ∨ (sgn tx p = 116 ∧ tm = 2)) : (rdSteps tx (f + 1) tm p j) = (true, skp tx p, j) := by
  rw [rdSteps, if_pos h]
theorem aJ_le {tx : List Nat} (h : sgn tx 0 = 74) : (aJ tx).2.1 ≤ tx.length := rdSteps_le _ _ _ _ (sgn_nx h (by decide))

def pMJ (h : px_H) (tx : List Nat) (sn cn : Int32) (p : Nat) (kp : Bool) (wr : Int32) (rc : Nat) (gq : gQ) (gh : gH) (gw : gW) (gu : gU) (gv : gV) (n : Nat) (b : Bool) : Prop := ∃ (rs tm : Nat), pMS h tx sn cn p kp wr rs rc tm gq gh gw gu gv (fun _ _ _ => True) ∧ (b = true → rs = n)
theorem pMJ_fi {h h1 : px_H} {tx : List Nat} {sn cn : Int32} {p : Nat} {kp : Bool} {wr : Int32} {rc : Nat} {gq : gQ} {gh : gH} {gw : gW} {gu : gU} {gv : gV} {m : Nat} {b : Bool} {lo n : Nat} (q : pMJ h tx sn cn p kp wr rc gq gh gw gu gv m b) (f : px_fi lo n h h1) (d : 270 ≤ lo ∨ lo + n ≤ 269) : pMJ h1 tx sn cn p kp wr rc gq gh gw gu gv m b := by
  obtain ⟨a, c, z, y⟩ := q
  exact ⟨a, c, pMS_fi z f d, y⟩

def pMk (h : px_H) (tx : List Nat) (b : Bool) : Prop := ∃ jl : List St, px_pa h 271 52 6 stS jl ∧ px_pa h 272 52 6 stA jl ∧ px_pa h 273 50 6 stN jl ∧ (b = true → jl = (aJ tx).2.2)
theorem pMk_fi {h h1 : px_H} {tx : List Nat} {b : Bool} {lo n : Nat} (q : pMk h tx b) (f : px_fi lo n h h1) (d : 274 ≤ lo ∨ lo + n ≤ 271) : pMk h1 tx b := by
  obtain ⟨jl, a, c, e, y⟩ := q
  exact ⟨jl, pa_fi a f (by omega), pa_fi c f (by omega), pa_fi e f (by omega), y⟩

set_option maxRecDepth 20000 in
set_option maxHeartbeats 4000000 in
theorem ll_Md_job0 {P : px_H → Option Value → Prop} {h0 : px_H} {tx : List Nat} {sn cn : Int32} {rc : Nat} {wr : Int32} {gq : gQ} {gh : gH} {gw : gW} {gu : gU} {gv : gV} {y : Bool × Nat × List St} (H1 : px_pa h0 270 52 500 vN tx) (p1 : okTx tx) (kf : ∀ g p rs tm (jl : List St), pMS g tx sn cn p false (nI p) rs rc tm gq gh gw gu gv (fun _ _ _ => True) → px_fi 269 1 h0 g → y.1 = false → p = y.2.1 → px_to 132 43 [some (.ref (269))] [] g P) (kx : ∀ g p rs tm, pMS g tx sn cn p false wr rs rc tm gq gh gw gu gv (fun _ _ _ => True) → px_fi 269 1 h0 g → y.1 = true → p ≤ tx.length → skp tx p = skp tx y.2.1 → rs = y.2.2.length → px_to 132 45 [some (.ref (269))] [] g P) : ∀ (d : Nat) (p : Nat) (rs : Nat) (tm : Nat) (jl : List St) (g : px_H), (6 < rs + d) → (p ≤ tx.length) → (rs ≤ 6) → (tm ≤ 2) → (rdSteps tx (6 - rs) tm p jl = y) → (jl.length = rs) → pMS g tx sn cn p false wr rs rc tm gq gh gw gu gv (fun _ _ _ => True) → px_fi 269 1 h0 g → px_to 132 21 [some (.ref (269))] [] g P := by
  intro d
  induction d using Nat.strongRecOn with
  | ind d ih =>
    intro p rs tm jl g q0 q1 q2 q3 q4 q5 G0 frg
    have le := pa_len H1
    have hsl : sgn tx p < 127 := tx_lt p1 _
    have hsk := skp_le q1
    refine e_aload_n f_132_21 rfl rfl ?_
    refine e_aload_n f_132_22 rfl rfl ?_
    obtain ⟨rd1, ky2, vl3, mo4, g5, hX6⟩ := id G0
    have g7 : px_pa g 270 52 500 vN tx := pa_fi H1 frg (by omega)
    refine e_callV (As := []) (rest := [.ref (269)]) f_132_23 rfl rfl rfl (Nat.le_of_ble_eq_true rfl) (Nat.le_of_ble_eq_true rfl) g5 rfl (Nat.le_of_ble_eq_true rfl) (cc_Md_look (tx := tx) (sn := sn) (cn := cn) (p := p) (kp := false) (wr := wr) (rd := rd1) (rs := rs) (rc := rc) (tm := tm) (ky := ky2) (vl := vl3) (mo := mo4) (gq := gq) (gh := gh) (gw := gw) (gu := gu) (gv := gv) g5 g7 (by omega) (p1)) rfl (fun h8 r9 q10 => ?_)
    obtain ⟨rfl, g11, fx12⟩ := q10
    have fr13 : px_fi 269 1 h0 h8 := fi_tr frg fx12 (by omega)
    show px_to 132 26 [some (.ref (269))] [.int (nI (sgn tx p)), .ref (269)] h8 _
    refine e_callV (As := [.int (nI (sgn tx p))]) (rest := []) f_132_26 rfl rfl rfl (Nat.le_of_ble_eq_true rfl) (Nat.le_of_ble_eq_true rfl) g11 rfl (Nat.le_of_ble_eq_true rfl) (cc_Md_isSt (s := sgn tx p) (tx := tx) (sn := sn) (cn := cn) (p := skp tx p) (kp := false) (wr := wr) (rd := rd1) (rs := rs) (rc := rc) (tm := tm) (ky := ky2) (vl := vl3) (mo := mo4) (gq := gq) (gh := gh) (gw := gw) (gu := gu) (gv := gv) g11 (by omega) (by omega) (by omega)) rfl (fun h14 r15 q16 => ?_)
    obtain ⟨rfl, qe⟩ := q16
    have qe := qe.symm
    subst qe
    show px_to 132 29 [some (.ref (269))] [.int (bI (decide ((sgn tx p ∈ stepSigns ∧ ¬ (sgn tx p = 116 ∧ tm = 2)) ∧ rs < 6)))] h8 _
    refine e_if_eq f_132_29 rfl (fun c_29 => ?_) (fun c_29 => ?_)
    · skip
      have c_29 : (decide ((sgn tx p ∈ stepSigns ∧ ¬ (sgn tx p = 116 ∧ tm = 2)) ∧ rs < 6)) = false := bI_f c_29
      have hns : ¬ ((sgn tx p ∈ stepSigns ∧ ¬ (sgn tx p = 116 ∧ tm = 2)) ∧ rs < 6) := of_decide_eq_false c_29
      have g17 : pMS h8 tx sn cn (skp tx p) false wr rs rc tm gq gh gw gu gv (fun _ _ _ => True) := ⟨_, _, _, _, g11, trivial⟩
      have hy : y.1 = true ∧ skp tx (skp tx p) = skp tx y.2.1 ∧ y.2.2 = jl := by
        rcases Nat.lt_or_ge rs 6 with h6 | h6
        · rw [show 6 - rs = (6 - (rs + 1)) + 1 by omega, rdSteps_sk (by by_cases c : sgn tx p ∈ stepSigns; exact Or.inr (Classical.not_not.mp (fun z => hns ⟨⟨c, z⟩, h6⟩)); exact Or.inl c)] at q4
          subst q4
          exact ⟨rfl, rfl, rfl⟩
        · rw [show 6 - rs = 0 by omega, rdSteps] at q4
          subst q4
          exact ⟨rfl, skp_idem q1, rfl⟩
      have hj := hy.2.2
      subst hj
      exact kx h8 _ _ _ g17 fr13 hy.1 hsk hy.2.1 q5.symm
    · skip
      have c_29 : (decide ((sgn tx p ∈ stepSigns ∧ ¬ (sgn tx p = 116 ∧ tm = 2)) ∧ rs < 6)) = true := bI_t' c_29
      obtain ⟨⟨hin, hnt⟩, hr6⟩ := of_decide_eq_true c_29
      have hsl2 : skp tx p + 1 ≤ tx.length := sgn_next hin (by decide)
      rw [show 6 - rs = (6 - (rs + 1)) + 1 by omega, rdSteps, if_neg (fun z => z.elim (fun z => z hin) hnt)] at q4
      refine e_aload_n f_132_32 rfl rfl ?_
      refine e_aload_n f_132_33 rfl rfl ?_
      have g18 : px_pa h8 270 52 500 vN tx := pa_fi H1 fr13 (by omega)
      refine e_callV (As := []) (rest := [.ref (269)]) f_132_34 rfl rfl rfl (Nat.le_of_ble_eq_true rfl) (Nat.le_of_ble_eq_true rfl) g11 rfl (Nat.le_of_ble_eq_true rfl) (cc_Md_look (tx := tx) (sn := sn) (cn := cn) (p := skp tx p) (kp := false) (wr := wr) (rd := rd1) (rs := rs) (rc := rc) (tm := tm) (ky := ky2) (vl := vl3) (mo := mo4) (gq := gq) (gh := gh) (gw := gw) (gu := gu) (gv := gv) g11 g18 (hsk) (p1)) rfl (fun h19 r20 q21 => ?_)
      obtain ⟨rfl, g22, fx23⟩ := q21
      have fr24 : px_fi 269 1 h0 h19 := fi_tr fr13 fx23 (by omega)
      show px_to 132 37 [some (.ref (269))] [.int (nI (sgn tx (skp tx p))), .ref (269)] h19 _
      rw [sgn_idem q1]
      have g25 : h19.2.2 269 = some (12, mB (nI tx.length, sn, cn) (nI (skp tx p), false, wr, rd1, nI rs, nI rc, nI tm, ky2, vl3, mo4) gq gh gw gu gv) := by have z := g22; rw [skp_idem q1] at z; exact z
      have g26 : px_pa h19 270 52 500 vN tx := pa_fi H1 fr24 (by omega)
      refine e_callV (As := [.int (nI (sgn tx p))]) (rest := []) f_132_37 rfl rfl rfl (Nat.le_of_ble_eq_true rfl) (Nat.le_of_ble_eq_true rfl) g25 rfl (Nat.le_of_ble_eq_true rfl) (cc_Md_st0 (s := sgn tx p) (jl := jl) (tx := tx) (sn := sn) (cn := cn) (p := skp tx p) (kp := true) (wr := wr) (rd := rd1) (rs := rs) (rc := rc) (tm := tm) (ky := ky2) (vl := vl3) (mo := mo4) (gq := gq) (gh := gh) (gw := gw) (gu := gu) (gv := gv) g25 g26 (hsl2) (p1) (hin) (by omega) (by omega) (by omega)) rfl (fun h27 r28 q29 => ?_)
      obtain ⟨rfl, g30, fx31⟩ := q29
      have fr32 : px_fi 269 1 h0 h27 := fi_tr fr24 fx31 (by omega)
      show px_to 132 40 [some (.ref (269))] [.int (bI ((rdStep tx (sgn tx p) (skp tx p + 1)).1))] h27 _
      refine e_if_ne f_132_40 rfl (fun c_40 => ?_) (fun c_40 => ?_)
      · skip
        have c_40 : ((rdStep tx (sgn tx p) (skp tx p + 1)).1) = true := bI_t c_40
        have g33 : pMS h27 tx sn cn ((rdStep tx (sgn tx p) (skp tx p + 1)).2.1) false wr (rs + 1) rc (if sgn tx p = 116 then tm + 1 else tm) gq gh gw gu gv (fun _ _ _ => True) := by have z := g30; rw [c_40, if_pos rfl, if_pos rfl] at z; exact z
        rw [if_pos c_40] at q4
        have htl2 : (if sgn tx p = 116 then tm + 1 else tm) ≤ 2 := by split <;> omega
        first | (exfalso; omega) | exact ih (d - 1) (by omega) ((rdStep tx (sgn tx p) (skp tx p + 1)).2.1) (rs + 1) (if sgn tx p = 116 then tm + 1 else tm) (jl ++ [(rdStep tx (sgn tx p) (skp tx p + 1)).2.2]) h27 (by omega) (rdStep_le hsl2) (by omega) (htl2) (q4) (by rw [List.length_append, List.length_singleton]; omega) g33 fr32
      · skip
        have c_40 : ((rdStep tx (sgn tx p) (skp tx p + 1)).1) = false := bI_f' c_40
        have g35 : pMS h27 tx sn cn ((rdStep tx (sgn tx p) (skp tx p + 1)).2.1) false (nI (rdStep tx (sgn tx p) (skp tx p + 1)).2.1) rs rc (if sgn tx p = 116 then tm + 1 else tm) gq gh gw gu gv (fun _ _ _ => True) := by have z := g30; rw [c_40, if_neg (by decide), if_neg (by decide)] at z; exact z
        rw [if_neg (by rw [c_40]; decide)] at q4
        subst q4
        exact kf h27 _ _ _ jl g35 fr32 rfl rfl

set_option maxRecDepth 20000 in
set_option maxHeartbeats 4000000 in
theorem ll_Md_job1 {P : px_H → Option Value → Prop} {h0 : px_H} {tx : List Nat} {sn cn : Int32} {rc : Nat} {wr : Int32} {gq : gQ} {gh : gH} {gw : gW} {gu : gU} {gv : gV} {y : Bool × Nat × List St} (H1 : px_pa h0 270 52 500 vN tx) (p1 : okTx tx) (kf : ∀ g p rs tm (jl : List St), pMS g tx sn cn p true (nI p) rs rc tm gq gh gw gu gv (fun _ _ _ => True) → px_pa g 271 52 6 stS jl → px_pa g 272 52 6 stA jl → px_pa g 273 50 6 stN jl → px_fj 269 1 271 3 h0 g → y.1 = false → p = y.2.1 → px_to 132 43 [some (.ref (269))] [] g P) (kx : ∀ g p rs tm, pMS g tx sn cn p true wr rs rc tm gq gh gw gu gv (fun _ _ _ => True) → px_pa g 271 52 6 stS y.2.2 → px_pa g 272 52 6 stA y.2.2 → px_pa g 273 50 6 stN y.2.2 → px_fj 269 1 271 3 h0 g → y.1 = true → p ≤ tx.length → skp tx p = skp tx y.2.1 → rs = y.2.2.length → px_to 132 45 [some (.ref (269))] [] g P) : ∀ (d : Nat) (p : Nat) (rs : Nat) (tm : Nat) (jl : List St) (g : px_H), (6 < rs + d) → (p ≤ tx.length) → (rs ≤ 6) → (tm ≤ 2) → (rdSteps tx (6 - rs) tm p jl = y) → (jl.length = rs) → pMS g tx sn cn p true wr rs rc tm gq gh gw gu gv (fun _ _ _ => True) → px_pa g 271 52 6 stS jl → px_pa g 272 52 6 stA jl → px_pa g 273 50 6 stN jl → px_fj 269 1 271 3 h0 g → px_to 132 21 [some (.ref (269))] [] g P := by
  intro d
  induction d using Nat.strongRecOn with
  | ind d ih =>
    intro p rs tm jl g q0 q1 q2 q3 q4 q5 G0 G1 G2 G3 frg
    have le := pa_len H1
    have hsl : sgn tx p < 127 := tx_lt p1 _
    have hsk := skp_le q1
    refine e_aload_n f_132_21 rfl rfl ?_
    refine e_aload_n f_132_22 rfl rfl ?_
    obtain ⟨rd1, ky2, vl3, mo4, g5, hX6⟩ := id G0
    obtain ⟨hm8, fa9, fb10⟩ := fj_mid frg
    have g7 : px_pa g 270 52 500 vN tx := pa_fi (pa_fi H1 fa9 (by omega)) fb10 (by omega)
    refine e_callV (As := []) (rest := [.ref (269)]) f_132_23 rfl rfl rfl (Nat.le_of_ble_eq_true rfl) (Nat.le_of_ble_eq_true rfl) g5 rfl (Nat.le_of_ble_eq_true rfl) (cc_Md_look (tx := tx) (sn := sn) (cn := cn) (p := p) (kp := true) (wr := wr) (rd := rd1) (rs := rs) (rc := rc) (tm := tm) (ky := ky2) (vl := vl3) (mo := mo4) (gq := gq) (gh := gh) (gw := gw) (gu := gu) (gv := gv) g5 g7 (by omega) (p1)) rfl (fun h11 r12 q13 => ?_)
    obtain ⟨rfl, g14, fx15⟩ := q13
    have fr16 : px_fj 269 1 271 3 h0 h11 := fj_tr frg fx15 (by omega)
    show px_to 132 26 [some (.ref (269))] [.int (nI (sgn tx p)), .ref (269)] h11 _
    refine e_callV (As := [.int (nI (sgn tx p))]) (rest := []) f_132_26 rfl rfl rfl (Nat.le_of_ble_eq_true rfl) (Nat.le_of_ble_eq_true rfl) g14 rfl (Nat.le_of_ble_eq_true rfl) (cc_Md_isSt (s := sgn tx p) (tx := tx) (sn := sn) (cn := cn) (p := skp tx p) (kp := true) (wr := wr) (rd := rd1) (rs := rs) (rc := rc) (tm := tm) (ky := ky2) (vl := vl3) (mo := mo4) (gq := gq) (gh := gh) (gw := gw) (gu := gu) (gv := gv) g14 (by omega) (by omega) (by omega)) rfl (fun h17 r18 q19 => ?_)
    obtain ⟨rfl, qe⟩ := q19
    have qe := qe.symm
    subst qe
    show px_to 132 29 [some (.ref (269))] [.int (bI (decide ((sgn tx p ∈ stepSigns ∧ ¬ (sgn tx p = 116 ∧ tm = 2)) ∧ rs < 6)))] h11 _
    refine e_if_eq f_132_29 rfl (fun c_29 => ?_) (fun c_29 => ?_)
    · skip
      have c_29 : (decide ((sgn tx p ∈ stepSigns ∧ ¬ (sgn tx p = 116 ∧ tm = 2)) ∧ rs < 6)) = false := bI_f c_29
      have hns : ¬ ((sgn tx p ∈ stepSigns ∧ ¬ (sgn tx p = 116 ∧ tm = 2)) ∧ rs < 6) := of_decide_eq_false c_29
      have g20 : pMS h11 tx sn cn (skp tx p) true wr rs rc tm gq gh gw gu gv (fun _ _ _ => True) := ⟨_, _, _, _, g14, trivial⟩
      have hy : y.1 = true ∧ skp tx (skp tx p) = skp tx y.2.1 ∧ y.2.2 = jl := by
        rcases Nat.lt_or_ge rs 6 with h6 | h6
        · rw [show 6 - rs = (6 - (rs + 1)) + 1 by omega, rdSteps_sk (by by_cases c : sgn tx p ∈ stepSigns; exact Or.inr (Classical.not_not.mp (fun z => hns ⟨⟨c, z⟩, h6⟩)); exact Or.inl c)] at q4
          subst q4
          exact ⟨rfl, rfl, rfl⟩
        · rw [show 6 - rs = 0 by omega, rdSteps] at q4
          subst q4
          exact ⟨rfl, skp_idem q1, rfl⟩
      have g21 : px_pa h11 271 52 6 stS jl := pa_fi G1 fx15 (by omega)
      have g22 : px_pa h11 272 52 6 stA jl := pa_fi G2 fx15 (by omega)
      have g23 : px_pa h11 273 50 6 stN jl := pa_fi G3 fx15 (by omega)
      have hj := hy.2.2
      subst hj
      exact kx h11 _ _ _ g20 g21 g22 g23 fr16 hy.1 hsk hy.2.1 q5.symm
    · skip
      have c_29 : (decide ((sgn tx p ∈ stepSigns ∧ ¬ (sgn tx p = 116 ∧ tm = 2)) ∧ rs < 6)) = true := bI_t' c_29
      obtain ⟨⟨hin, hnt⟩, hr6⟩ := of_decide_eq_true c_29
      have hsl2 : skp tx p + 1 ≤ tx.length := sgn_next hin (by decide)
      rw [show 6 - rs = (6 - (rs + 1)) + 1 by omega, rdSteps, if_neg (fun z => z.elim (fun z => z hin) hnt)] at q4
      refine e_aload_n f_132_32 rfl rfl ?_
      refine e_aload_n f_132_33 rfl rfl ?_
      obtain ⟨hm25, fa26, fb27⟩ := fj_mid fr16
      have g24 : px_pa h11 270 52 500 vN tx := pa_fi (pa_fi H1 fa26 (by omega)) fb27 (by omega)
      refine e_callV (As := []) (rest := [.ref (269)]) f_132_34 rfl rfl rfl (Nat.le_of_ble_eq_true rfl) (Nat.le_of_ble_eq_true rfl) g14 rfl (Nat.le_of_ble_eq_true rfl) (cc_Md_look (tx := tx) (sn := sn) (cn := cn) (p := skp tx p) (kp := true) (wr := wr) (rd := rd1) (rs := rs) (rc := rc) (tm := tm) (ky := ky2) (vl := vl3) (mo := mo4) (gq := gq) (gh := gh) (gw := gw) (gu := gu) (gv := gv) g14 g24 (hsk) (p1)) rfl (fun h28 r29 q30 => ?_)
      obtain ⟨rfl, g31, fx32⟩ := q30
      have fr33 : px_fj 269 1 271 3 h0 h28 := fj_tr fr16 fx32 (by omega)
      show px_to 132 37 [some (.ref (269))] [.int (nI (sgn tx (skp tx p))), .ref (269)] h28 _
      rw [sgn_idem q1]
      have g34 : h28.2.2 269 = some (12, mB (nI tx.length, sn, cn) (nI (skp tx p), true, wr, rd1, nI rs, nI rc, nI tm, ky2, vl3, mo4) gq gh gw gu gv) := by have z := g31; rw [skp_idem q1] at z; exact z
      obtain ⟨hm36, fa37, fb38⟩ := fj_mid fr33
      have g35 : px_pa h28 270 52 500 vN tx := pa_fi (pa_fi H1 fa37 (by omega)) fb38 (by omega)
      have g39 : px_pa h11 271 52 6 stS jl := pa_fi G1 fx15 (by omega)
      have g40 : px_pa h28 271 52 6 stS jl := pa_fi g39 fx32 (by omega)
      have g41 : px_pa h11 272 52 6 stA jl := pa_fi G2 fx15 (by omega)
      have g42 : px_pa h28 272 52 6 stA jl := pa_fi g41 fx32 (by omega)
      have g43 : px_pa h11 273 50 6 stN jl := pa_fi G3 fx15 (by omega)
      have g44 : px_pa h28 273 50 6 stN jl := pa_fi g43 fx32 (by omega)
      refine e_callV (As := [.int (nI (sgn tx p))]) (rest := []) f_132_37 rfl rfl rfl (Nat.le_of_ble_eq_true rfl) (Nat.le_of_ble_eq_true rfl) g34 rfl (Nat.le_of_ble_eq_true rfl) (cc_Md_st1 (s := sgn tx p) (jl := jl) (tx := tx) (sn := sn) (cn := cn) (p := skp tx p) (kp := true) (wr := wr) (rd := rd1) (rs := rs) (rc := rc) (tm := tm) (ky := ky2) (vl := vl3) (mo := mo4) (gq := gq) (gh := gh) (gw := gw) (gu := gu) (gv := gv) g34 g35 g40 g42 g44 (hsl2) (p1) (hin) (by omega) (by omega) (by omega)) rfl (fun h45 r46 q47 => ?_)
      obtain ⟨rfl, g48, g49, g50, g51, fx52⟩ := q47
      obtain ⟨hm53, fa54, fb55⟩ := fj_mid fx52
      have fr56 : px_fj 269 1 271 3 h0 hm53 := fj_tr fr33 fa54 (by omega)
      have fr57 : px_fj 269 1 271 3 h0 h45 := fj_tr fr56 fb55 (by omega)
      show px_to 132 40 [some (.ref (269))] [.int (bI ((rdStep tx (sgn tx p) (skp tx p + 1)).1))] h45 _
      refine e_if_ne f_132_40 rfl (fun c_40 => ?_) (fun c_40 => ?_)
      · skip
        have c_40 : ((rdStep tx (sgn tx p) (skp tx p + 1)).1) = true := bI_t c_40
        have g58 : pMS h45 tx sn cn ((rdStep tx (sgn tx p) (skp tx p + 1)).2.1) true wr (rs + 1) rc (if sgn tx p = 116 then tm + 1 else tm) gq gh gw gu gv (fun _ _ _ => True) := by have z := g48; rw [c_40, if_pos rfl, if_pos rfl] at z; exact z
        have g59 : px_pa h45 271 52 6 stS (jl ++ [(rdStep tx (sgn tx p) (skp tx p + 1)).2.2]) := by have z := g49; rw [c_40, if_pos rfl] at z; exact z
        have g60 : px_pa h45 272 52 6 stA (jl ++ [(rdStep tx (sgn tx p) (skp tx p + 1)).2.2]) := by have z := g50; rw [c_40, if_pos rfl] at z; exact z
        have g61 : px_pa h45 273 50 6 stN (jl ++ [(rdStep tx (sgn tx p) (skp tx p + 1)).2.2]) := by have z := g51; rw [c_40, if_pos rfl] at z; exact z
        rw [if_pos c_40] at q4
        have htl2 : (if sgn tx p = 116 then tm + 1 else tm) ≤ 2 := by split <;> omega
        first | (exfalso; omega) | exact ih (d - 1) (by omega) ((rdStep tx (sgn tx p) (skp tx p + 1)).2.1) (rs + 1) (if sgn tx p = 116 then tm + 1 else tm) (jl ++ [(rdStep tx (sgn tx p) (skp tx p + 1)).2.2]) h45 (by omega) (rdStep_le hsl2) (by omega) (htl2) (q4) (by rw [List.length_append, List.length_singleton]; omega) g58 g59 g60 g61 fr57
      · skip
        have c_40 : ((rdStep tx (sgn tx p) (skp tx p + 1)).1) = false := bI_f' c_40
        have g63 : pMS h45 tx sn cn ((rdStep tx (sgn tx p) (skp tx p + 1)).2.1) true (nI (rdStep tx (sgn tx p) (skp tx p + 1)).2.1) rs rc (if sgn tx p = 116 then tm + 1 else tm) gq gh gw gu gv (fun _ _ _ => True) := by have z := g48; rw [c_40, if_neg (by decide), if_neg (by decide)] at z; exact z
        have g64 : px_pa h45 271 52 6 stS jl := by have z := g49; rw [c_40, if_neg (by decide)] at z; exact z
        have g65 : px_pa h45 272 52 6 stA jl := by have z := g50; rw [c_40, if_neg (by decide)] at z; exact z
        have g66 : px_pa h45 273 50 6 stN jl := by have z := g51; rw [c_40, if_neg (by decide)] at z; exact z
        rw [if_neg (by rw [c_40]; decide)] at q4
        subst q4
        exact kf h45 _ _ _ jl g63 g64 g65 g66 fr57 rfl rfl

set_option maxRecDepth 20000 in
set_option maxHeartbeats 4000000 in
theorem cc_Md_job0 {h : px_H} {jl : List St} {tx : List Nat} {sn cn : Int32} {rc : Nat} {kp : Bool} {wr rd rs tm ky vl mo : Int32} {gq : gQ} {gh : gH} {gw : gW} {gu : gU} {gv : gV} (H0 : h.2.2 269 = some (12, mB (nI tx.length, sn, cn) (nI 0, false, wr, rd, rs, nI rc, tm, ky, vl, mo) gq gh gw gu gv)) (H1 : px_pa h 270 52 500 vN tx) (p0 : okTx tx) : px_wp 132 [.ref (269)] h (fun h1 r => r = some (.int (bI ((jobR tx).1))) ∧ pMJ h1 tx sn cn ((jobR tx).2) false (if (jobR tx).1 = true then wr else nI (jobR tx).2) rc gq gh gw gu gv ((aJ tx).2.2.length) ((jobR tx).1) ∧ px_fi 269 1 h h1) := by
  have fr0 : px_fi 269 1 h h := fi_rf _ _ _
  show px_to 132 0 [some (.ref (269))] [] h _
  refine e_aload_n f_132_0 rfl rfl ?_
  refine e_iconst (v := nI 0) f_132_1 (by decide) rfl ?_
  refine e_putp (vs' := mB (nI tx.length, sn, cn) (nI 0, false, wr, rd, nI 0, nI rc, tm, ky, vl, mo) gq gh gw gu gv) f_132_2 H0 (Nat.le_of_ble_eq_true rfl) (rfl) (rfl) rfl rfl (fun h1 g2 fx3 => ?_)
  have fr4 : px_fi 269 1 h h1 := fi_tr fr0 fx3 (by omega)
  refine e_aload_n f_132_5 rfl rfl ?_
  refine e_iconst (v := nI 0) f_132_6 (by decide) rfl ?_
  refine e_putp (vs' := mB (nI tx.length, sn, cn) (nI 0, false, wr, rd, nI 0, nI rc, nI 0, ky, vl, mo) gq gh gw gu gv) f_132_7 g2 (Nat.le_of_ble_eq_true rfl) (rfl) (rfl) rfl rfl (fun h5 g6 fx7 => ?_)
  have fr8 : px_fi 269 1 h h5 := fi_tr fr4 fx7 (by omega)
  refine e_aload_n f_132_10 rfl rfl ?_
  refine e_bipush (v := nI 74) f_132_11 (by decide) rfl ?_
  have g9 : px_pa h5 270 52 500 vN tx := pa_fi H1 fr8 (by omega)
  refine e_callV (As := [.int (nI 74)]) (rest := []) f_132_13 rfl rfl rfl (Nat.le_of_ble_eq_true rfl) (Nat.le_of_ble_eq_true rfl) g6 rfl (Nat.le_of_ble_eq_true rfl) (cc_Md_takes (c := 74) (tx := tx) (sn := sn) (cn := cn) (p := 0) (kp := false) (wr := wr) (rd := rd) (rs := 0) (rc := rc) (tm := 0) (ky := ky) (vl := vl) (mo := mo) (gq := gq) (gh := gh) (gw := gw) (gu := gu) (gv := gv) g6 g9 (by omega) (p0) (by omega)) rfl (fun h10 r11 q12 => ?_)
  obtain ⟨rfl, g13, fx14⟩ := q12
  have fr15 : px_fi 269 1 h h10 := fi_tr fr8 fx14 (by omega)
  show px_to 132 16 [some (.ref (269))] [.int (bI (decide (sgn tx 0 = 74)))] h10 _
  refine e_if_ne f_132_16 rfl (fun c_16 => ?_) (fun c_16 => ?_)
  · skip
    have c_16 : (decide (sgn tx 0 = 74)) = true := bI_t c_16
    have h74 : sgn tx 0 = 74 := of_decide_eq_true c_16
    have hl0 := sgn_nx h74 (by decide)
    have g16 : h10.2.2 269 = some (12, mB (nI tx.length, sn, cn) (nI (skp tx 0 + 1), false, wr, rd, nI 0, nI rc, nI 0, ky, vl, mo) gq gh gw gu gv) := by have z := g13; rw [if_pos h74, if_pos h74] at z; exact z
    have g17 : pMS h10 tx sn cn (skp tx 0 + 1) false wr 0 rc 0 gq gh gw gu gv (fun _ _ _ => True) := ⟨_, _, _, _, g16, trivial⟩
    have g18 : px_pa h10 270 52 500 vN tx := pa_fi H1 fr15 (by omega)
    refine ll_Md_job0 (h0 := h10) (y := aJ tx) g18 p0 (fun g1 p1 rs1 tm1 jl1 z0 zf hy1 hy2 => ?_) (fun g1 p1 rs1 tm1 z0 zf hy1 hy2 hy3 hy4 => ?_) 7 (skp tx 0 + 1) 0 0 [] h10 (by omega) hl0 (by omega) (by omega) rfl rfl g17 (fi_rf _ _ _)
    · skip
      have fr19 : px_fi 269 1 h g1 := fi_tr fr15 zf (by omega)
      refine e_iconst (v := nI 0) f_132_43 (by decide) rfl ?_
      refine e_iret f_132_44 rfl (rfl) ?_
      have er : jobR tx = (false, (aJ tx).2.1) := by unfold jobR; rw [if_pos h74, if_neg (by rw [hy1]; decide)]
      rw [er]
      dsimp only
      rw [if_neg (by decide)]
      subst hy2
      exact ⟨rfl, ⟨_, _, z0, fun e => absurd e (by decide)⟩, fr19⟩
    · skip
      have fr20 : px_fi 269 1 h g1 := fi_tr fr15 zf (by omega)
      have hs1 : sgn tx p1 = sgn tx (aJ tx).2.1 := by unfold sgn; rw [hy3]
      refine e_aload_n f_132_45 rfl rfl ?_
      refine e_bipush (v := nI 59) f_132_46 (by decide) rfl ?_
      obtain ⟨rd21, ky22, vl23, mo24, g25, hX26⟩ := id z0
      have g27 : px_pa g1 270 52 500 vN tx := pa_fi H1 fr20 (by omega)
      refine e_callV (As := [.int (nI 59)]) (rest := []) f_132_48 rfl rfl rfl (Nat.le_of_ble_eq_true rfl) (Nat.le_of_ble_eq_true rfl) g25 rfl (Nat.le_of_ble_eq_true rfl) (cc_Md_takes (c := 59) (tx := tx) (sn := sn) (cn := cn) (p := p1) (kp := false) (wr := wr) (rd := rd21) (rs := rs1) (rc := rc) (tm := tm1) (ky := ky22) (vl := vl23) (mo := mo24) (gq := gq) (gh := gh) (gw := gw) (gu := gu) (gv := gv) g25 g27 (hy2) (p0) (by omega)) rfl (fun h28 r29 q30 => ?_)
      obtain ⟨rfl, g31, fx32⟩ := q30
      have fr33 : px_fi 269 1 h h28 := fi_tr fr20 fx32 (by omega)
      show px_to 132 51 [some (.ref (269))] [.int (bI (decide (sgn tx p1 = 59)))] h28 _
      refine e_iret f_132_51 rfl (nw_bI _) ?_
      have zz := g31
      rw [hs1, hy3] at zz
      by_cases c59 : sgn tx (aJ tx).2.1 = 59
      · skip
        have er : jobR tx = (true, skp tx (aJ tx).2.1 + 1) := by unfold jobR; rw [if_pos h74, if_pos hy1, if_pos c59]
        rw [if_pos c59, if_pos c59] at zz
        rw [er, hs1, decide_eq_true c59]
        dsimp only
        rw [if_pos rfl]
        exact ⟨rfl, ⟨_, _, ⟨_, _, _, _, zz, trivial⟩, fun _ => hy4⟩, fr33⟩
      · skip
        have er : jobR tx = (false, skp tx (aJ tx).2.1) := by unfold jobR; rw [if_pos h74, if_pos hy1, if_neg c59]
        rw [if_neg c59, if_neg c59] at zz
        rw [er, hs1, decide_eq_false c59]
        dsimp only
        rw [if_neg (by decide)]
        exact ⟨rfl, ⟨_, _, ⟨_, _, _, _, zz, trivial⟩, fun e => absurd e (by decide)⟩, fr33⟩
  · skip
    have c_16 : (decide (sgn tx 0 = 74)) = false := bI_f' c_16
    have h74 : ¬ sgn tx 0 = 74 := of_decide_eq_false c_16
    have g34 : h10.2.2 269 = some (12, mB (nI tx.length, sn, cn) (nI (skp tx 0), false, nI (skp tx 0), rd, nI 0, nI rc, nI 0, ky, vl, mo) gq gh gw gu gv) := by have z := g13; rw [if_neg h74, if_neg h74] at z; exact z
    refine e_iconst (v := nI 0) f_132_19 (by decide) rfl ?_
    refine e_iret f_132_20 rfl (rfl) ?_
    have er : jobR tx = (false, skp tx 0) := by unfold jobR; rw [if_neg h74]
    rw [er]
    dsimp only
    rw [if_neg (by decide)]
    exact ⟨rfl, ⟨_, _, ⟨_, _, _, _, g34, trivial⟩, fun e => absurd e (by decide)⟩, fr15⟩

set_option maxRecDepth 20000 in
set_option maxHeartbeats 4000000 in
theorem cc_Md_job1 {h : px_H} {jl : List St} {tx : List Nat} {sn cn : Int32} {rc : Nat} {kp : Bool} {wr rd rs tm ky vl mo : Int32} {gq : gQ} {gh : gH} {gw : gW} {gu : gU} {gv : gV} (H0 : h.2.2 269 = some (12, mB (nI tx.length, sn, cn) (nI 0, true, wr, rd, rs, nI rc, tm, ky, vl, mo) gq gh gw gu gv)) (H1 : px_pa h 270 52 500 vN tx) (H2 : px_pa h 271 52 6 stS jl) (H3 : px_pa h 272 52 6 stA jl) (H4 : px_pa h 273 50 6 stN jl) (p0 : okTx tx) : px_wp 132 [.ref (269)] h (fun h1 r => r = some (.int (bI ((jobR tx).1))) ∧ pMJ h1 tx sn cn ((jobR tx).2) true (if (jobR tx).1 = true then wr else nI (jobR tx).2) rc gq gh gw gu gv ((aJ tx).2.2.length) ((jobR tx).1) ∧ pMk h1 tx ((jobR tx).1) ∧ px_fj 269 1 271 3 h h1) := by
  have fr0 : px_fj 269 1 271 3 h h := fj_rf _ _ _ _ _
  show px_to 132 0 [some (.ref (269))] [] h _
  refine e_aload_n f_132_0 rfl rfl ?_
  refine e_iconst (v := nI 0) f_132_1 (by decide) rfl ?_
  refine e_putp (vs' := mB (nI tx.length, sn, cn) (nI 0, true, wr, rd, nI 0, nI rc, tm, ky, vl, mo) gq gh gw gu gv) f_132_2 H0 (Nat.le_of_ble_eq_true rfl) (rfl) (rfl) rfl rfl (fun h1 g2 fx3 => ?_)
  have fr4 : px_fj 269 1 271 3 h h1 := fj_tr fr0 fx3 (by omega)
  refine e_aload_n f_132_5 rfl rfl ?_
  refine e_iconst (v := nI 0) f_132_6 (by decide) rfl ?_
  refine e_putp (vs' := mB (nI tx.length, sn, cn) (nI 0, true, wr, rd, nI 0, nI rc, nI 0, ky, vl, mo) gq gh gw gu gv) f_132_7 g2 (Nat.le_of_ble_eq_true rfl) (rfl) (rfl) rfl rfl (fun h5 g6 fx7 => ?_)
  have fr8 : px_fj 269 1 271 3 h h5 := fj_tr fr4 fx7 (by omega)
  refine e_aload_n f_132_10 rfl rfl ?_
  refine e_bipush (v := nI 74) f_132_11 (by decide) rfl ?_
  obtain ⟨hm10, fa11, fb12⟩ := fj_mid fr8
  have g9 : px_pa h5 270 52 500 vN tx := pa_fi (pa_fi H1 fa11 (by omega)) fb12 (by omega)
  refine e_callV (As := [.int (nI 74)]) (rest := []) f_132_13 rfl rfl rfl (Nat.le_of_ble_eq_true rfl) (Nat.le_of_ble_eq_true rfl) g6 rfl (Nat.le_of_ble_eq_true rfl) (cc_Md_takes (c := 74) (tx := tx) (sn := sn) (cn := cn) (p := 0) (kp := true) (wr := wr) (rd := rd) (rs := 0) (rc := rc) (tm := 0) (ky := ky) (vl := vl) (mo := mo) (gq := gq) (gh := gh) (gw := gw) (gu := gu) (gv := gv) g6 g9 (by omega) (p0) (by omega)) rfl (fun h13 r14 q15 => ?_)
  obtain ⟨rfl, g16, fx17⟩ := q15
  have fr18 : px_fj 269 1 271 3 h h13 := fj_tr fr8 fx17 (by omega)
  show px_to 132 16 [some (.ref (269))] [.int (bI (decide (sgn tx 0 = 74)))] h13 _
  refine e_if_ne f_132_16 rfl (fun c_16 => ?_) (fun c_16 => ?_)
  · skip
    have c_16 : (decide (sgn tx 0 = 74)) = true := bI_t c_16
    have h74 : sgn tx 0 = 74 := of_decide_eq_true c_16
    have hl0 := sgn_nx h74 (by decide)
    have g19 : h13.2.2 269 = some (12, mB (nI tx.length, sn, cn) (nI (skp tx 0 + 1), true, wr, rd, nI 0, nI rc, nI 0, ky, vl, mo) gq gh gw gu gv) := by have z := g16; rw [if_pos h74, if_pos h74] at z; exact z
    have g20 : pMS h13 tx sn cn (skp tx 0 + 1) true wr 0 rc 0 gq gh gw gu gv (fun _ _ _ => True) := ⟨_, _, _, _, g19, trivial⟩
    obtain ⟨hm22, fa23, fb24⟩ := fj_mid fr18
    have g21 : px_pa h13 270 52 500 vN tx := pa_fi (pa_fi H1 fa23 (by omega)) fb24 (by omega)
    have g25 : px_pa h1 271 52 6 stS jl := pa_fi H2 fx3 (by omega)
    have g26 : px_pa h5 271 52 6 stS jl := pa_fi g25 fx7 (by omega)
    have g27 : px_pa h13 271 52 6 stS jl := pa_fi g26 fx17 (by omega)
    have g28 : px_pa h1 272 52 6 stA jl := pa_fi H3 fx3 (by omega)
    have g29 : px_pa h5 272 52 6 stA jl := pa_fi g28 fx7 (by omega)
    have g30 : px_pa h13 272 52 6 stA jl := pa_fi g29 fx17 (by omega)
    have g31 : px_pa h1 273 50 6 stN jl := pa_fi H4 fx3 (by omega)
    have g32 : px_pa h5 273 50 6 stN jl := pa_fi g31 fx7 (by omega)
    have g33 : px_pa h13 273 50 6 stN jl := pa_fi g32 fx17 (by omega)
    refine ll_Md_job1 (h0 := h13) (y := aJ tx) g21 p0 (fun g1 p1 rs1 tm1 jl1 z0 z1 z2 z3 zf hy1 hy2 => ?_) (fun g1 p1 rs1 tm1 z0 z1 z2 z3 zf hy1 hy2 hy3 hy4 => ?_) 7 (skp tx 0 + 1) 0 0 [] h13 (by omega) hl0 (by omega) (by omega) rfl rfl g20 (pa_nil g27) (pa_nil g30) (pa_nil g33) (fj_rf _ _ _ _ _)
    · skip
      obtain ⟨hm34, fa35, fb36⟩ := fj_mid zf
      have fr37 : px_fj 269 1 271 3 h hm34 := fj_tr fr18 fa35 (by omega)
      have fr38 : px_fj 269 1 271 3 h g1 := fj_tr fr37 fb36 (by omega)
      refine e_iconst (v := nI 0) f_132_43 (by decide) rfl ?_
      refine e_iret f_132_44 rfl (rfl) ?_
      have er : jobR tx = (false, (aJ tx).2.1) := by unfold jobR; rw [if_pos h74, if_neg (by rw [hy1]; decide)]
      rw [er]
      dsimp only
      rw [if_neg (by decide)]
      subst hy2
      exact ⟨rfl, ⟨_, _, z0, fun e => absurd e (by decide)⟩, ⟨_, z1, z2, z3, fun e => absurd e (by decide)⟩, fr38⟩
    · skip
      obtain ⟨hm39, fa40, fb41⟩ := fj_mid zf
      have fr42 : px_fj 269 1 271 3 h hm39 := fj_tr fr18 fa40 (by omega)
      have fr43 : px_fj 269 1 271 3 h g1 := fj_tr fr42 fb41 (by omega)
      have hs1 : sgn tx p1 = sgn tx (aJ tx).2.1 := by unfold sgn; rw [hy3]
      refine e_aload_n f_132_45 rfl rfl ?_
      refine e_bipush (v := nI 59) f_132_46 (by decide) rfl ?_
      obtain ⟨rd44, ky45, vl46, mo47, g48, hX49⟩ := id z0
      obtain ⟨hm51, fa52, fb53⟩ := fj_mid fr43
      have g50 : px_pa g1 270 52 500 vN tx := pa_fi (pa_fi H1 fa52 (by omega)) fb53 (by omega)
      refine e_callV (As := [.int (nI 59)]) (rest := []) f_132_48 rfl rfl rfl (Nat.le_of_ble_eq_true rfl) (Nat.le_of_ble_eq_true rfl) g48 rfl (Nat.le_of_ble_eq_true rfl) (cc_Md_takes (c := 59) (tx := tx) (sn := sn) (cn := cn) (p := p1) (kp := true) (wr := wr) (rd := rd44) (rs := rs1) (rc := rc) (tm := tm1) (ky := ky45) (vl := vl46) (mo := mo47) (gq := gq) (gh := gh) (gw := gw) (gu := gu) (gv := gv) g48 g50 (hy2) (p0) (by omega)) rfl (fun h54 r55 q56 => ?_)
      obtain ⟨rfl, g57, fx58⟩ := q56
      have fr59 : px_fj 269 1 271 3 h h54 := fj_tr fr43 fx58 (by omega)
      show px_to 132 51 [some (.ref (269))] [.int (bI (decide (sgn tx p1 = 59)))] h54 _
      refine e_iret f_132_51 rfl (nw_bI _) ?_
      have g60 : px_pa h54 271 52 6 stS ((aJ tx).2.2) := pa_fi z1 fx58 (by omega)
      have g61 : px_pa h54 272 52 6 stA ((aJ tx).2.2) := pa_fi z2 fx58 (by omega)
      have g62 : px_pa h54 273 50 6 stN ((aJ tx).2.2) := pa_fi z3 fx58 (by omega)
      have zz := g57
      rw [hs1, hy3] at zz
      by_cases c59 : sgn tx (aJ tx).2.1 = 59
      · skip
        have er : jobR tx = (true, skp tx (aJ tx).2.1 + 1) := by unfold jobR; rw [if_pos h74, if_pos hy1, if_pos c59]
        rw [if_pos c59, if_pos c59] at zz
        rw [er, hs1, decide_eq_true c59]
        dsimp only
        rw [if_pos rfl]
        exact ⟨rfl, ⟨_, _, ⟨_, _, _, _, zz, trivial⟩, fun _ => hy4⟩, ⟨_, g60, g61, g62, fun _ => rfl⟩, fr59⟩
      · skip
        have er : jobR tx = (false, skp tx (aJ tx).2.1) := by unfold jobR; rw [if_pos h74, if_pos hy1, if_neg c59]
        rw [if_neg c59, if_neg c59] at zz
        rw [er, hs1, decide_eq_false c59]
        dsimp only
        rw [if_neg (by decide)]
        exact ⟨rfl, ⟨_, _, ⟨_, _, _, _, zz, trivial⟩, fun e => absurd e (by decide)⟩, ⟨_, g60, g61, g62, fun e => absurd e (by decide)⟩, fr59⟩
  · skip
    have c_16 : (decide (sgn tx 0 = 74)) = false := bI_f' c_16
    have h74 : ¬ sgn tx 0 = 74 := of_decide_eq_false c_16
    have g63 : h13.2.2 269 = some (12, mB (nI tx.length, sn, cn) (nI (skp tx 0), true, nI (skp tx 0), rd, nI 0, nI rc, nI 0, ky, vl, mo) gq gh gw gu gv) := by have z := g16; rw [if_neg h74, if_neg h74] at z; exact z
    refine e_iconst (v := nI 0) f_132_19 (by decide) rfl ?_
    refine e_iret f_132_20 rfl (rfl) ?_
    have g64 : px_pa h1 271 52 6 stS jl := pa_fi H2 fx3 (by omega)
    have g65 : px_pa h5 271 52 6 stS jl := pa_fi g64 fx7 (by omega)
    have g66 : px_pa h13 271 52 6 stS jl := pa_fi g65 fx17 (by omega)
    have g67 : px_pa h1 272 52 6 stA jl := pa_fi H3 fx3 (by omega)
    have g68 : px_pa h5 272 52 6 stA jl := pa_fi g67 fx7 (by omega)
    have g69 : px_pa h13 272 52 6 stA jl := pa_fi g68 fx17 (by omega)
    have g70 : px_pa h1 273 50 6 stN jl := pa_fi H4 fx3 (by omega)
    have g71 : px_pa h5 273 50 6 stN jl := pa_fi g70 fx7 (by omega)
    have g72 : px_pa h13 273 50 6 stN jl := pa_fi g71 fx17 (by omega)
    have er : jobR tx = (false, skp tx 0) := by unfold jobR; rw [if_neg h74]
    rw [er]
    dsimp only
    rw [if_neg (by decide)]
    exact ⟨rfl, ⟨_, _, ⟨_, _, _, _, g63, trivial⟩, fun e => absurd e (by decide)⟩, ⟨_, g66, g69, g72, fun e => absurd e (by decide)⟩, fr18⟩
