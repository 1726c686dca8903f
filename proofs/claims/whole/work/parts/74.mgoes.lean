theorem sgn_0 {tx : List Nat} {p : Nat} (ht : okTx tx) (h : p ≤ tx.length) : sgn tx p = 0 ↔ skp tx p = tx.length := by
  have h1 := skp_le h
  constructor
  · intro e
    apply Classical.byContradiction
    intro c
    have h2 := (ht _ (getD_mem 0 (show skp tx p < tx.length by omega))).1
    have e2 : tx.getD (skp tx p) 0 = 0 := e
    omega
  · intro e
    unfold sgn
    rw [List.getD_eq_getElem?_getD, List.getElem?_eq_none (by omega)]
    rfl
theorem jobR_t {tx : List Nat} (h : (jobR tx).1 = true) : sgn tx 0 = 74 ∧ (aJ tx).1 = true ∧ sgn tx (aJ tx).2.1 = 59 ∧ (jobR tx).2 = skp tx (aJ tx).2.1 + 1 := by
  unfold jobR at h ⊢
  by_cases c1 : sgn tx 0 = 74
  · rw [if_pos c1] at h ⊢
    by_cases c2 : (aJ tx).1 = true
    · rw [if_pos c2] at h ⊢
      by_cases c3 : sgn tx (aJ tx).2.1 = 59
      · rw [if_pos c3]; exact ⟨c1, c2, c3, rfl⟩
      · rw [if_neg c3] at h; exact absurd h Bool.false_ne_true
    · rw [if_neg c2] at h; exact absurd h Bool.false_ne_true
  · rw [if_neg c1] at h; exact absurd h Bool.false_ne_true
theorem rdAll_f {tx : List Nat} (h : (jobR tx).1 = false) : (rdAll tx).1 = false ∧ (rdAll tx).2.1 = (jobR tx).2 := by
  unfold jobR at h ⊢
  unfold rdAll
  by_cases c1 : sgn tx 0 = 74
  · rw [if_pos c1] at h ⊢; rw [if_pos c1]
    by_cases c2 : (aJ tx).1 = true
    · rw [if_pos c2] at h ⊢; rw [if_pos c2]
      by_cases c3 : sgn tx (aJ tx).2.1 = 59
      · rw [if_pos c3] at h; exact absurd h.symm Bool.false_ne_true
      · rw [if_neg c3, if_neg c3]; exact ⟨rfl, rfl⟩
    · rw [if_neg c2, if_neg c2]; exact ⟨rfl, rfl⟩
  · rw [if_neg c1, if_neg c1]; exact ⟨rfl, rfl⟩
theorem rdAll_t {tx : List Nat} (h : (jobR tx).1 = true) : rdAll tx = if (aC tx).1 = true then (decide (sgn tx (aC tx).2.1 = 0), skp tx (aC tx).2.1, (aJ tx).2.2, (aC tx).2.2) else (false, (aC tx).2.1, (aJ tx).2.2, (aC tx).2.2) := by
  obtain ⟨c1, c2, c3, _⟩ := jobR_t h
  unfold rdAll
  rw [if_pos c1, if_pos c2, if_pos c3]
def pMG (h : px_H) (tx : List Nat) (sn cn : Int32) (kp : Bool) (wr : Int32) (gq : gQ) (gh : gH) (gw : gW) (gu : gU) (gv : gV) (b : Bool) : Prop := ∃ (p rs rc tm : Nat), pMS h tx sn cn p kp wr rs rc tm gq gh gw gu gv (fun _ _ _ => True) ∧ (b = true → rs = (aJ tx).2.2.length ∧ rc = (aC tx).2.2.length)
theorem pMG_fi {h h1 : px_H} {tx : List Nat} {sn cn : Int32} {kp : Bool} {wr : Int32} {gq : gQ} {gh : gH} {gw : gW} {gu : gU} {gv : gV} {b : Bool} {lo n : Nat} (q : pMG h tx sn cn kp wr gq gh gw gu gv b) (f : px_fi lo n h h1) (d : 270 ≤ lo ∨ lo + n ≤ 269) : pMG h1 tx sn cn kp wr gq gh gw gu gv b := by
  obtain ⟨p, rs, rc, tm, z, y⟩ := q
  exact ⟨p, rs, rc, tm, pMS_fi z f d, y⟩
def pMX (h : px_H) (tx : List Nat) (b : Bool) : Prop := ∃ xs : List CS3, pMA h xs ∧ (b = true → xs = (aC tx).2.2)
theorem pMX_fi {h h1 : px_H} {tx : List Nat} {b : Bool} {lo n : Nat} (q : pMX h tx b) (f : px_fi lo n h h1) (d : 284 ≤ lo ∨ lo + n ≤ 274) : pMX h1 tx b := by
  obtain ⟨xs, z, y⟩ := q
  exact ⟨xs, pMA_fi z f d, y⟩
theorem okA_nil {xs : List CS3} {em om wn : List Nat} {es : List Ev} {ro : List Row} (h : okA xs em es om ro wn) : okA [] em es om ro wn := ⟨h.1, fun c hc => absurd hc (by simp)⟩
theorem pMA_nil {h : px_H} {xs : List CS3} (q : pMA h xs) : pMA h [] := by
  obtain ⟨em, es, om, ro, wn, z1, z2, z3, z4, z5, z6, z7, z8, z9, z10, y⟩ := q
  exact ⟨em, es, om, ro, wn, z1, z2, z3, z4, z5, z6, z7, z8, z9, z10, okA_nil y⟩

set_option maxRecDepth 20000 in
set_option maxHeartbeats 4000000 in
theorem ll_Md_goes0 {P : px_H → Option Value → Prop} {h0 : px_H} {tx : List Nat} {sn cn : Int32} {rs tm : Nat} {wr : Int32} {gq : gQ} {gh : gH} {gw : gW} {gu : gU} {gv : gV} {y : Bool × Nat × List CS3} (H1 : px_pa h0 270 52 500 vN tx) (p1 : okTx tx) (kf : ∀ g p rc (xs : List CS3), pMS g tx sn cn p false (nI p) rs rc tm gq gh gw gu gv (fun _ _ _ => True) → px_fi 269 1 h0 g → y.1 = false → p = y.2.1 → px_to 138 49 [some (.ref (269)), none, none] [] g P) (kx : ∀ g p rc, pMS g tx sn cn p false wr rs rc tm gq gh gw gu gv (fun _ _ _ => True) → px_fi 269 1 h0 g → y.1 = true → p ≤ tx.length → skp tx p = skp tx y.2.1 → rc = y.2.2.length → px_to 138 51 [some (.ref (269)), none, none] [] g P) : ∀ (d : Nat) (p : Nat) (rc : Nat) (xs : List CS3) (g : px_H), (8 < rc + d) → (p ≤ tx.length) → (rc ≤ 8) → (rdCs tx (8 - rc) p xs = y) → (xs.length = rc) → (∀ x ∈ xs, okC3 x) → pMS g tx sn cn p false wr rs rc tm gq gh gw gu gv (fun _ _ _ => True) → px_fi 269 1 h0 g → px_to 138 24 [some (.ref (269)), none, none] [] g P := by
  intro d
  induction d using Nat.strongRecOn with
  | ind d ih =>
    intro p rc xs g q0 q1 q2 q3 q4 q5 G0 frg
    have le := pa_len H1
    have hsl : sgn tx p < 127 := tx_lt p1 _
    have hsk := skp_le q1
    refine e_aload_n f_138_24 rfl rfl ?_
    obtain ⟨rd1, ky2, vl3, mo4, g5, hX6⟩ := id G0
    refine e_getf f_138_25 g5 rfl rfl ?_
    show px_to 138 28 [some (.ref (269)), none, none] [.int (nI rc)] g _
    refine e_bipush (v := nI 8) f_138_28 (by decide) rfl ?_
    refine e_icmp_ge f_138_30 rfl (fun c_30 => ?_) (fun c_30 => ?_)
    · skip
      have c_30 : 8 ≤ rc := cv_le (by omega) (by omega) c_30
      have hy : y.1 = true ∧ skp tx p = skp tx y.2.1 ∧ y.2.2 = xs := by rw [show 8 - rc = 0 by omega, rdCs] at q3; subst q3; exact ⟨rfl, rfl, rfl⟩
      have g7 : pMS g tx sn cn p false wr rs rc tm gq gh gw gu gv (fun _ _ _ => True) := ⟨_, _, _, _, g5, trivial⟩
      have hj := hy.2.2
      subst hj
      exact kx g _ rc g7 frg hy.1 q1 hy.2.1 q4.symm
    · skip
      have c_30 : rc < 8 := cv_nle (by omega) (by omega) c_30
      refine e_aload_n f_138_33 rfl rfl ?_
      have g8 : px_pa g 270 52 500 vN tx := pa_fi H1 frg (by omega)
      refine e_callV (As := []) (rest := []) f_138_34 rfl rfl rfl (Nat.le_of_ble_eq_true rfl) (Nat.le_of_ble_eq_true rfl) g5 rfl (Nat.le_of_ble_eq_true rfl) (cc_Md_look (tx := tx) (sn := sn) (cn := cn) (p := p) (kp := false) (wr := wr) (rd := rd1) (rs := rs) (rc := rc) (tm := tm) (ky := ky2) (vl := vl3) (mo := mo4) (gq := gq) (gh := gh) (gw := gw) (gu := gu) (gv := gv) g5 g8 (by omega) (p1)) rfl (fun h9 r10 q11 => ?_)
      obtain ⟨rfl, g12, fx13⟩ := q11
      have fr14 : px_fi 269 1 h0 h9 := fi_tr frg fx13 (by omega)
      show px_to 138 37 [some (.ref (269)), none, none] [.int (nI (sgn tx p))] h9 _
      refine e_bipush (v := nI 67) f_138_37 (by decide) rfl ?_
      refine e_icmp_ne f_138_39 rfl (fun c_39 => ?_) (fun c_39 => ?_)
      · skip
        have c_39 : sgn tx p ≠ 67 := cv_ne c_39
        have hy : y.1 = true ∧ skp tx (skp tx p) = skp tx y.2.1 ∧ y.2.2 = xs := by rw [show 8 - rc = (8 - (rc + 1)) + 1 by omega, rdCs, if_neg c_39] at q3; subst q3; exact ⟨rfl, rfl, rfl⟩
        have g15 : pMS h9 tx sn cn (skp tx p) false wr rs rc tm gq gh gw gu gv (fun _ _ _ => True) := ⟨_, _, _, _, g12, trivial⟩
        have hj := hy.2.2
        subst hj
        exact kx h9 _ rc g15 fr14 hy.1 hsk hy.2.1 q4.symm
      · skip
        have c_39 : sgn tx p = 67 := cv_nne (by omega) (by omega) c_39
        have hsl2 : skp tx p + 1 ≤ tx.length := sgn_nx c_39 (by decide)
        rw [show 8 - rc = (8 - (rc + 1)) + 1 by omega, rdCs, if_pos c_39] at q3
        refine e_aload_n f_138_42 rfl rfl ?_
        have g16 : px_pa h9 270 52 500 vN tx := pa_fi H1 fr14 (by omega)
        refine e_callV (As := []) (rest := []) f_138_43 rfl rfl rfl (Nat.le_of_ble_eq_true rfl) (Nat.le_of_ble_eq_true rfl) g12 rfl (Nat.le_of_ble_eq_true rfl) (cc_Md_case0 (xs := []) (tx := tx) (sn := sn) (cn := cn) (p := skp tx p) (kp := true) (wr := wr) (rd := rd1) (rs := rs) (rc := rc) (tm := tm) (ky := ky2) (vl := vl3) (mo := mo4) (gq := gq) (gh := gh) (gw := gw) (gu := gu) (gv := gv) g12 g16 (hsl2) (p1) (by omega)) rfl (fun h17 r18 q19 => ?_)
        obtain ⟨rfl, g20, fx21⟩ := q19
        have fr22 : px_fi 269 1 h0 h17 := fi_tr fr14 fx21 (by omega)
        show px_to 138 46 [some (.ref (269)), none, none] [.int (bI ((rdCase tx (skp tx p + 1)).1))] h17 _
        refine e_if_ne f_138_46 rfl (fun c_46 => ?_) (fun c_46 => ?_)
        · skip
          have c_46 : ((rdCase tx (skp tx p + 1)).1) = true := bI_t c_46
          have g23 : pMS h17 tx sn cn ((rdCase tx (skp tx p + 1)).2.1) false wr rs (rc + 1) tm gq gh gw gu gv (fun _ _ _ => True) := by have z := g20; rw [c_46, if_pos rfl, if_pos rfl] at z; exact z
          rw [if_pos c_46] at q3
          first | (exfalso; omega) | exact ih (d - 1) (by omega) ((rdCase tx (skp tx p + 1)).2.1) (rc + 1) (xs ++ [(rdCase tx (skp tx p + 1)).2.2]) h17 (by omega) (rdCase_le hsl2) (by omega) (q3) (by rw [List.length_append, List.length_singleton]; omega) (fun x hx => by rw [List.mem_append, List.mem_singleton] at hx; rcases hx with z | z; exact q5 x z; rw [z]; exact rdCase_ok p1) g23 fr22
        · skip
          have c_46 : ((rdCase tx (skp tx p + 1)).1) = false := bI_f' c_46
          have g24 : pMS h17 tx sn cn ((rdCase tx (skp tx p + 1)).2.1) false (nI (rdCase tx (skp tx p + 1)).2.1) rs rc tm gq gh gw gu gv (fun _ _ _ => True) := by have z := g20; rw [c_46, if_neg (by decide), if_neg (by decide)] at z; exact z
          rw [if_neg (by rw [c_46]; decide)] at q3
          subst q3
          exact kf h17 _ rc xs g24 fr22 rfl rfl

set_option maxRecDepth 20000 in
set_option maxHeartbeats 4000000 in
theorem ll_Md_goes1 {P : px_H → Option Value → Prop} {h0 : px_H} {tx : List Nat} {sn cn : Int32} {rs tm : Nat} {wr : Int32} {gq : gQ} {gh : gH} {gw : gW} {gu : gU} {gv : gV} {y : Bool × Nat × List CS3} (H1 : px_pa h0 270 52 500 vN tx) (p1 : okTx tx) (kf : ∀ g p rc (xs : List CS3), pMS g tx sn cn p true (nI p) rs rc tm gq gh gw gu gv (fun _ _ _ => True) → pMA g xs → px_fj 269 1 274 10 h0 g → y.1 = false → p = y.2.1 → px_to 138 49 [some (.ref (269)), none, none] [] g P) (kx : ∀ g p rc, pMS g tx sn cn p true wr rs rc tm gq gh gw gu gv (fun _ _ _ => True) → pMA g y.2.2 → px_fj 269 1 274 10 h0 g → y.1 = true → p ≤ tx.length → skp tx p = skp tx y.2.1 → rc = y.2.2.length → px_to 138 51 [some (.ref (269)), none, none] [] g P) : ∀ (d : Nat) (p : Nat) (rc : Nat) (xs : List CS3) (g : px_H), (8 < rc + d) → (p ≤ tx.length) → (rc ≤ 8) → (rdCs tx (8 - rc) p xs = y) → (xs.length = rc) → (∀ x ∈ xs, okC3 x) → pMS g tx sn cn p true wr rs rc tm gq gh gw gu gv (fun _ _ _ => True) → pMA g xs → px_fj 269 1 274 10 h0 g → px_to 138 24 [some (.ref (269)), none, none] [] g P := by
  intro d
  induction d using Nat.strongRecOn with
  | ind d ih =>
    intro p rc xs g q0 q1 q2 q3 q4 q5 G0 G1 frg
    have le := pa_len H1
    have hsl : sgn tx p < 127 := tx_lt p1 _
    have hsk := skp_le q1
    refine e_aload_n f_138_24 rfl rfl ?_
    obtain ⟨rd1, ky2, vl3, mo4, g5, hX6⟩ := id G0
    refine e_getf f_138_25 g5 rfl rfl ?_
    show px_to 138 28 [some (.ref (269)), none, none] [.int (nI rc)] g _
    refine e_bipush (v := nI 8) f_138_28 (by decide) rfl ?_
    refine e_icmp_ge f_138_30 rfl (fun c_30 => ?_) (fun c_30 => ?_)
    · skip
      have c_30 : 8 ≤ rc := cv_le (by omega) (by omega) c_30
      have hy : y.1 = true ∧ skp tx p = skp tx y.2.1 ∧ y.2.2 = xs := by rw [show 8 - rc = 0 by omega, rdCs] at q3; subst q3; exact ⟨rfl, rfl, rfl⟩
      have g7 : pMS g tx sn cn p true wr rs rc tm gq gh gw gu gv (fun _ _ _ => True) := ⟨_, _, _, _, g5, trivial⟩
      have hj := hy.2.2
      subst hj
      exact kx g _ rc g7 G1 frg hy.1 q1 hy.2.1 q4.symm
    · skip
      have c_30 : rc < 8 := cv_nle (by omega) (by omega) c_30
      refine e_aload_n f_138_33 rfl rfl ?_
      obtain ⟨hm9, fa10, fb11⟩ := fj_mid frg
      have g8 : px_pa g 270 52 500 vN tx := pa_fi (pa_fi H1 fa10 (by omega)) fb11 (by omega)
      refine e_callV (As := []) (rest := []) f_138_34 rfl rfl rfl (Nat.le_of_ble_eq_true rfl) (Nat.le_of_ble_eq_true rfl) g5 rfl (Nat.le_of_ble_eq_true rfl) (cc_Md_look (tx := tx) (sn := sn) (cn := cn) (p := p) (kp := true) (wr := wr) (rd := rd1) (rs := rs) (rc := rc) (tm := tm) (ky := ky2) (vl := vl3) (mo := mo4) (gq := gq) (gh := gh) (gw := gw) (gu := gu) (gv := gv) g5 g8 (by omega) (p1)) rfl (fun h12 r13 q14 => ?_)
      obtain ⟨rfl, g15, fx16⟩ := q14
      have fr17 : px_fj 269 1 274 10 h0 h12 := fj_tr frg fx16 (by omega)
      show px_to 138 37 [some (.ref (269)), none, none] [.int (nI (sgn tx p))] h12 _
      refine e_bipush (v := nI 67) f_138_37 (by decide) rfl ?_
      refine e_icmp_ne f_138_39 rfl (fun c_39 => ?_) (fun c_39 => ?_)
      · skip
        have c_39 : sgn tx p ≠ 67 := cv_ne c_39
        have hy : y.1 = true ∧ skp tx (skp tx p) = skp tx y.2.1 ∧ y.2.2 = xs := by rw [show 8 - rc = (8 - (rc + 1)) + 1 by omega, rdCs, if_neg c_39] at q3; subst q3; exact ⟨rfl, rfl, rfl⟩
        have g18 : pMS h12 tx sn cn (skp tx p) true wr rs rc tm gq gh gw gu gv (fun _ _ _ => True) := ⟨_, _, _, _, g15, trivial⟩
        have g19 : pMA h12 xs := pMA_fi G1 fx16 (by omega)
        have hj := hy.2.2
        subst hj
        exact kx h12 _ rc g18 g19 fr17 hy.1 hsk hy.2.1 q4.symm
      · skip
        have c_39 : sgn tx p = 67 := cv_nne (by omega) (by omega) c_39
        have hsl2 : skp tx p + 1 ≤ tx.length := sgn_nx c_39 (by decide)
        rw [show 8 - rc = (8 - (rc + 1)) + 1 by omega, rdCs, if_pos c_39] at q3
        refine e_aload_n f_138_42 rfl rfl ?_
        obtain ⟨hm21, fa22, fb23⟩ := fj_mid fr17
        have g20 : px_pa h12 270 52 500 vN tx := pa_fi (pa_fi H1 fa22 (by omega)) fb23 (by omega)
        have g24 : pMA h12 xs := pMA_fi G1 fx16 (by omega)
        refine e_callV (As := []) (rest := []) f_138_43 rfl rfl rfl (Nat.le_of_ble_eq_true rfl) (Nat.le_of_ble_eq_true rfl) g15 rfl (Nat.le_of_ble_eq_true rfl) (cc_Md_case1 (xs := xs) (tx := tx) (sn := sn) (cn := cn) (p := skp tx p) (kp := true) (wr := wr) (rd := rd1) (rs := rs) (rc := rc) (tm := tm) (ky := ky2) (vl := vl3) (mo := mo4) (gq := gq) (gh := gh) (gw := gw) (gu := gu) (gv := gv) g15 g20 g24 (hsl2) (p1) (by omega) (q4) (q5)) rfl (fun h25 r26 q27 => ?_)
        obtain ⟨rfl, g28, g29, fx30⟩ := q27
        obtain ⟨hm31, fa32, fb33⟩ := fj_mid fx30
        have fr34 : px_fj 269 1 274 10 h0 hm31 := fj_tr fr17 fa32 (by omega)
        have fr35 : px_fj 269 1 274 10 h0 h25 := fj_tr fr34 fb33 (by omega)
        show px_to 138 46 [some (.ref (269)), none, none] [.int (bI ((rdCase tx (skp tx p + 1)).1))] h25 _
        refine e_if_ne f_138_46 rfl (fun c_46 => ?_) (fun c_46 => ?_)
        · skip
          have c_46 : ((rdCase tx (skp tx p + 1)).1) = true := bI_t c_46
          have g36 : pMS h25 tx sn cn ((rdCase tx (skp tx p + 1)).2.1) true wr rs (rc + 1) tm gq gh gw gu gv (fun _ _ _ => True) := by have z := g28; rw [c_46, if_pos rfl, if_pos rfl] at z; exact z
          have g37 : pMA h25 (xs ++ [(rdCase tx (skp tx p + 1)).2.2]) := by have z := g29; rw [c_46, if_pos rfl] at z; exact z
          rw [if_pos c_46] at q3
          first | (exfalso; omega) | exact ih (d - 1) (by omega) ((rdCase tx (skp tx p + 1)).2.1) (rc + 1) (xs ++ [(rdCase tx (skp tx p + 1)).2.2]) h25 (by omega) (rdCase_le hsl2) (by omega) (q3) (by rw [List.length_append, List.length_singleton]; omega) (fun x hx => by rw [List.mem_append, List.mem_singleton] at hx; rcases hx with z | z; exact q5 x z; rw [z]; exact rdCase_ok p1) g36 g37 fr35
        · skip
          have c_46 : ((rdCase tx (skp tx p + 1)).1) = false := bI_f' c_46
          have g38 : pMS h25 tx sn cn ((rdCase tx (skp tx p + 1)).2.1) true (nI (rdCase tx (skp tx p + 1)).2.1) rs rc tm gq gh gw gu gv (fun _ _ _ => True) := by have z := g28; rw [c_46, if_neg (by decide), if_neg (by decide)] at z; exact z
          have g39 : pMA h25 xs := by have z := g29; rw [c_46, if_neg (by decide)] at z; exact z
          rw [if_neg (by rw [c_46]; decide)] at q3
          subst q3
          exact kf h25 _ rc xs g38 g39 fr35 rfl rfl

set_option maxRecDepth 20000 in
set_option maxHeartbeats 4000000 in
theorem cc_Md_goes0 {h : px_H} {jl : List St} {xs0 : List CS3} {tx : List Nat} {sn cn : Int32} {gp : gP} {gq : gQ} {gh : gH} {gw : gW} {gu : gU} {gv : gV} (H0 : h.2.2 269 = some (12, mB (nI tx.length, sn, cn) gp gq gh gw gu gv)) (H1 : px_pa h 270 52 500 vN tx) (p0 : okTx tx) : px_wp 138 [.ref (269), .int (bI false)] h (fun h1 r => r = some (.int (bI ((rdAll tx).1))) ∧ pMG h1 tx sn cn false (if (rdAll tx).1 = true then gp.2.2.1 else nI (rdAll tx).2.1) gq gh gw gu gv ((rdAll tx).1) ∧ px_fi 269 1 h h1) := by
  have fr0 : px_fi 269 1 h h := fi_rf _ _ _
  have le := pa_len H1
  show px_to 138 0 [some (.ref (269)), some (.int (bI false)), none] [] h _
  refine e_aload_n f_138_0 rfl rfl ?_
  refine e_iconst (v := nI 0) f_138_1 (by decide) rfl ?_
  refine e_putp (vs' := mB (nI tx.length, sn, cn) (nI 0, gp.2.1, gp.2.2.1, gp.2.2.2.1, gp.2.2.2.2.1, gp.2.2.2.2.2.1, gp.2.2.2.2.2.2.1, gp.2.2.2.2.2.2.2.1, gp.2.2.2.2.2.2.2.2.1, gp.2.2.2.2.2.2.2.2.2) gq gh gw gu gv) f_138_2 H0 (Nat.le_of_ble_eq_true rfl) (rfl) (rfl) rfl rfl (fun h1 g2 fx3 => ?_)
  have fr4 : px_fi 269 1 h h1 := fi_tr fr0 fx3 (by omega)
  refine e_aload_n f_138_5 rfl rfl ?_
  refine e_iload_n f_138_6 rfl rfl ?_
  refine e_putp (vs' := mB (nI tx.length, sn, cn) (nI 0, false, gp.2.2.1, gp.2.2.2.1, gp.2.2.2.2.1, gp.2.2.2.2.2.1, gp.2.2.2.2.2.2.1, gp.2.2.2.2.2.2.2.1, gp.2.2.2.2.2.2.2.2.1, gp.2.2.2.2.2.2.2.2.2) gq gh gw gu gv) f_138_7 g2 (Nat.le_of_ble_eq_true rfl) (nw_bI _) (rfl) rfl rfl (fun h5 g6 fx7 => ?_)
  have fr8 : px_fi 269 1 h h5 := fi_tr fr4 fx7 (by omega)
  refine e_aload_n f_138_10 rfl rfl ?_
  refine e_iconst (v := nI 0) f_138_11 (by decide) rfl ?_
  refine e_putp (vs' := mB (nI tx.length, sn, cn) (nI 0, false, gp.2.2.1, gp.2.2.2.1, gp.2.2.2.2.1, nI 0, gp.2.2.2.2.2.2.1, gp.2.2.2.2.2.2.2.1, gp.2.2.2.2.2.2.2.2.1, gp.2.2.2.2.2.2.2.2.2) gq gh gw gu gv) f_138_12 g6 (Nat.le_of_ble_eq_true rfl) (rfl) (rfl) rfl rfl (fun h9 g10 fx11 => ?_)
  have fr12 : px_fi 269 1 h h9 := fi_tr fr8 fx11 (by omega)
  refine e_aload_n f_138_15 rfl rfl ?_
  have g13 : px_pa h9 270 52 500 vN tx := pa_fi H1 fr12 (by omega)
  refine e_callV (As := []) (rest := []) f_138_16 rfl rfl rfl (Nat.le_of_ble_eq_true rfl) (Nat.le_of_ble_eq_true rfl) g10 rfl (Nat.le_of_ble_eq_true rfl) (cc_Md_job0 (jl := []) (tx := tx) (sn := sn) (cn := cn) (kp := true) (wr := gp.2.2.1) (rd := gp.2.2.2.1) (rs := gp.2.2.2.2.1) (rc := 0) (tm := gp.2.2.2.2.2.2.1) (ky := gp.2.2.2.2.2.2.2.1) (vl := gp.2.2.2.2.2.2.2.2.1) (mo := gp.2.2.2.2.2.2.2.2.2) (gq := gq) (gh := gh) (gw := gw) (gu := gu) (gv := gv) g10 g13 (p0)) rfl (fun h14 r15 q16 => ?_)
  obtain ⟨rfl, g17, fx18⟩ := q16
  have fr19 : px_fi 269 1 h h14 := fi_tr fr12 fx18 (by omega)
  show px_to 138 19 [some (.ref (269)), some (.int (bI false)), none] [.int (bI ((jobR tx).1))] h14 _
  refine e_if_ne f_138_19 rfl (fun c_19 => ?_) (fun c_19 => ?_)
  · skip
    have c_19 : ((jobR tx).1) = true := bI_t c_19
    refine px_to_L (L := [some (.ref (269)), none, none]) ⟨Or.inr rfl, Or.inl rfl, Or.inr rfl, trivial⟩ ?_
    obtain ⟨rs20, tm21, g22, hrs23⟩ := id g17
    obtain ⟨j1, j2, j3, j4⟩ := jobR_t c_19
    have hl1 : skp tx (aJ tx).2.1 + 1 ≤ tx.length := sgn_nx j3 (by decide)
    have g24 : pMS h14 tx sn cn (skp tx (aJ tx).2.1 + 1) false gp.2.2.1 rs20 0 tm21 gq gh gw gu gv (fun _ _ _ => True) := by have z := g22; rw [j4, c_19, if_pos rfl] at z; exact z
    have g25 : px_pa h14 270 52 500 vN tx := pa_fi H1 fr19 (by omega)
    refine ll_Md_goes0 (h0 := h14) (y := aC tx) g25 p0 (fun g1 q1 rc1 xs1 z0 zf hy1 hy2 => ?_) (fun g1 q1 rc1 z0 zf hy1 hy2 hy3 hy4 => ?_) 9 (skp tx (aJ tx).2.1 + 1) 0 [] h14 (by omega) hl1 (by omega) rfl rfl (fun x hx => absurd hx (by simp)) g24 (fi_rf _ _ _)
    · skip
      have fr26 : px_fi 269 1 h g1 := fi_tr fr19 zf (by omega)
      refine e_iconst (v := nI 0) f_138_49 (by decide) rfl ?_
      refine e_iret f_138_50 rfl (rfl) ?_
      subst hy2
      have er := rdAll_t c_19
      rw [if_neg (by rw [hy1]; decide)] at er
      rw [er]
      dsimp only
      rw [if_neg (by decide)]
      exact ⟨rfl, ⟨_, _, _, _, z0, fun e => absurd e (by decide)⟩, fr26⟩
    · skip
      have fr27 : px_fi 269 1 h g1 := fi_tr fr19 zf (by omega)
      have hy3s : sgn tx q1 = sgn tx (aC tx).2.1 := by unfold sgn; rw [hy3]
      have hskq := skp_le hy2
      refine e_aload_n f_138_51 rfl rfl ?_
      obtain ⟨rd28, ky29, vl30, mo31, g32, hX33⟩ := id z0
      have g34 : px_pa g1 270 52 500 vN tx := pa_fi H1 fr27 (by omega)
      refine e_callV (As := []) (rest := []) f_138_52 rfl rfl rfl (Nat.le_of_ble_eq_true rfl) (Nat.le_of_ble_eq_true rfl) g32 rfl (Nat.le_of_ble_eq_true rfl) (cc_Md_look (tx := tx) (sn := sn) (cn := cn) (p := q1) (kp := false) (wr := gp.2.2.1) (rd := rd28) (rs := rs20) (rc := rc1) (tm := tm21) (ky := ky29) (vl := vl30) (mo := mo31) (gq := gq) (gh := gh) (gw := gw) (gu := gu) (gv := gv) g32 g34 (hy2) (p0)) rfl (fun h35 r36 q37 => ?_)
      obtain ⟨rfl, g38, fx39⟩ := q37
      have fr40 : px_fi 269 1 h h35 := fi_tr fr27 fx39 (by omega)
      show px_to 138 55 [some (.ref (269)), none, none] [.int (nI (sgn tx q1))] h35 _
      refine e_istore_n (L' := [some (.ref (269)), none, some (.int (nI (sgn tx q1)))]) f_138_55 (Nat.le_of_ble_eq_true rfl) rfl rfl ?_
      refine e_aload_n f_138_56 rfl rfl ?_
      refine e_getf f_138_57 g38 rfl rfl ?_
      show px_to 138 60 [some (.ref (269)), none, some (.int (nI (sgn tx q1)))] [.int (nI (skp tx q1))] h35 _
      refine e_aload_n f_138_60 rfl rfl ?_
      refine e_getf f_138_61 g38 rfl rfl ?_
      show px_to 138 64 [some (.ref (269)), none, some (.int (nI (sgn tx q1)))] [.int (nI tx.length), .int (nI (skp tx q1))] h35 _
      refine e_icmp_eq f_138_64 rfl (fun c_64 => ?_) (fun c_64 => ?_)
      · skip
        have c_64 : skp tx q1 = tx.length := cv_eq (by omega) (by omega) c_64
        refine e_iconst (v := nI 1) f_138_74 (by decide) rfl ?_
        refine e_goto f_138_75 ?_
        refine e_iret f_138_79 rfl (rfl) ?_
        have hz0 : sgn tx (aC tx).2.1 = 0 ↔ skp tx q1 = tx.length := by rw [← hy3s]; exact sgn_0 p0 hy2
        have er := rdAll_t c_19
        rw [if_pos hy1, decide_eq_true (hz0.mpr c_64)] at er
        rw [er]
        dsimp only
        rw [if_pos rfl]
        exact ⟨rfl, ⟨_, _, _, _, ⟨_, _, _, _, g38, trivial⟩, fun _ => ⟨hrs23 c_19, hy4⟩⟩, fr40⟩
      · skip
        have c_64 : skp tx q1 ≠ tx.length := cv_ne c_64
        refine e_aload_n f_138_67 rfl rfl ?_
        refine e_callV (As := []) (rest := []) f_138_68 rfl rfl rfl (Nat.le_of_ble_eq_true rfl) (Nat.le_of_ble_eq_true rfl) g38 rfl (Nat.le_of_ble_eq_true rfl) (cc_Md_fails (tx := tx) (sn := sn) (cn := cn) (p := skp tx q1) (kp := false) (wr := gp.2.2.1) (rd := rd28) (rs := rs20) (rc := rc1) (tm := tm21) (ky := ky29) (vl := vl30) (mo := mo31) (gq := gq) (gh := gh) (gw := gw) (gu := gu) (gv := gv) g38 ) rfl (fun h41 r42 q43 => ?_)
        obtain ⟨rfl, g44, fx45⟩ := q43
        have fr46 : px_fi 269 1 h h41 := fi_tr fr40 fx45 (by omega)
        show px_to 138 71 [some (.ref (269)), none, some (.int (nI (sgn tx q1)))] [.int (nI 0)] h41 _
        refine e_if_eq_t f_138_71 (by decide) ?_
        refine e_iconst (v := nI 0) f_138_78 (by decide) rfl ?_
        refine e_iret f_138_79 rfl (rfl) ?_
        have hz0 : sgn tx (aC tx).2.1 = 0 ↔ skp tx q1 = tx.length := by rw [← hy3s]; exact sgn_0 p0 hy2
        have er := rdAll_t c_19
        rw [if_pos hy1, decide_eq_false (fun z => c_64 (hz0.mp z))] at er
        rw [er]
        dsimp only
        rw [if_neg (by decide)]
        have zz := g44
        rw [hy3] at zz
        exact ⟨rfl, ⟨_, _, _, _, ⟨_, _, _, _, zz, trivial⟩, fun e => absurd e (by decide)⟩, fr46⟩
  · skip
    have c_19 : ((jobR tx).1) = false := bI_f' c_19
    refine e_iconst (v := nI 0) f_138_22 (by decide) rfl ?_
    refine e_iret f_138_23 rfl (rfl) ?_
    obtain ⟨rs47, tm48, g49, hrs50⟩ := id g17
    obtain ⟨er1, er2⟩ := rdAll_f c_19
    rw [er1, er2, if_neg (by decide)]
    have zz := g49
    rw [c_19, if_neg (by decide)] at zz
    exact ⟨rfl, ⟨_, _, _, _, zz, fun e => absurd e (by decide)⟩, fr19⟩

set_option maxRecDepth 20000 in
set_option maxHeartbeats 4000000 in
theorem cc_Md_goes1 {h : px_H} {jl : List St} {xs0 : List CS3} {tx : List Nat} {sn cn : Int32} {gp : gP} {gq : gQ} {gh : gH} {gw : gW} {gu : gU} {gv : gV} (H0 : h.2.2 269 = some (12, mB (nI tx.length, sn, cn) gp gq gh gw gu gv)) (H1 : px_pa h 270 52 500 vN tx) (H2 : px_pa h 271 52 6 stS jl) (H3 : px_pa h 272 52 6 stA jl) (H4 : px_pa h 273 50 6 stN jl) (H5 : pMA h xs0) (p0 : okTx tx) : px_wp 138 [.ref (269), .int (bI true)] h (fun h1 r => r = some (.int (bI ((rdAll tx).1))) ∧ pMG h1 tx sn cn true (if (rdAll tx).1 = true then gp.2.2.1 else nI (rdAll tx).2.1) gq gh gw gu gv ((rdAll tx).1) ∧ pMk h1 tx ((rdAll tx).1) ∧ pMX h1 tx ((rdAll tx).1) ∧ px_fl [(269, 1), (271, 3), (274, 10)] h h1) := by
  have fr0 : px_fl [(269, 1), (271, 3), (274, 10)] h h := fl_rf _ _
  have le := pa_len H1
  show px_to 138 0 [some (.ref (269)), some (.int (bI true)), none] [] h _
  refine e_aload_n f_138_0 rfl rfl ?_
  refine e_iconst (v := nI 0) f_138_1 (by decide) rfl ?_
  refine e_putp (vs' := mB (nI tx.length, sn, cn) (nI 0, gp.2.1, gp.2.2.1, gp.2.2.2.1, gp.2.2.2.2.1, gp.2.2.2.2.2.1, gp.2.2.2.2.2.2.1, gp.2.2.2.2.2.2.2.1, gp.2.2.2.2.2.2.2.2.1, gp.2.2.2.2.2.2.2.2.2) gq gh gw gu gv) f_138_2 H0 (Nat.le_of_ble_eq_true rfl) (rfl) (rfl) rfl rfl (fun h1 g2 fx3 => ?_)
  have fr4 : px_fl [(269, 1), (271, 3), (274, 10)] h h1 := fl_tr fr0 fx3 (by first | exact ⟨_, List.mem_cons_self, by omega, by omega⟩ | exact ⟨_, List.mem_cons_of_mem _ (List.mem_cons_self), by omega, by omega⟩ | exact ⟨_, List.mem_cons_of_mem _ (List.mem_cons_of_mem _ (List.mem_cons_self)), by omega, by omega⟩)
  refine e_aload_n f_138_5 rfl rfl ?_
  refine e_iload_n f_138_6 rfl rfl ?_
  refine e_putp (vs' := mB (nI tx.length, sn, cn) (nI 0, true, gp.2.2.1, gp.2.2.2.1, gp.2.2.2.2.1, gp.2.2.2.2.2.1, gp.2.2.2.2.2.2.1, gp.2.2.2.2.2.2.2.1, gp.2.2.2.2.2.2.2.2.1, gp.2.2.2.2.2.2.2.2.2) gq gh gw gu gv) f_138_7 g2 (Nat.le_of_ble_eq_true rfl) (nw_bI _) (rfl) rfl rfl (fun h5 g6 fx7 => ?_)
  have fr8 : px_fl [(269, 1), (271, 3), (274, 10)] h h5 := fl_tr fr4 fx7 (by first | exact ⟨_, List.mem_cons_self, by omega, by omega⟩ | exact ⟨_, List.mem_cons_of_mem _ (List.mem_cons_self), by omega, by omega⟩ | exact ⟨_, List.mem_cons_of_mem _ (List.mem_cons_of_mem _ (List.mem_cons_self)), by omega, by omega⟩)
  refine e_aload_n f_138_10 rfl rfl ?_
  refine e_iconst (v := nI 0) f_138_11 (by decide) rfl ?_
  refine e_putp (vs' := mB (nI tx.length, sn, cn) (nI 0, true, gp.2.2.1, gp.2.2.2.1, gp.2.2.2.2.1, nI 0, gp.2.2.2.2.2.2.1, gp.2.2.2.2.2.2.2.1, gp.2.2.2.2.2.2.2.2.1, gp.2.2.2.2.2.2.2.2.2) gq gh gw gu gv) f_138_12 g6 (Nat.le_of_ble_eq_true rfl) (rfl) (rfl) rfl rfl (fun h9 g10 fx11 => ?_)
  have fr12 : px_fl [(269, 1), (271, 3), (274, 10)] h h9 := fl_tr fr8 fx11 (by first | exact ⟨_, List.mem_cons_self, by omega, by omega⟩ | exact ⟨_, List.mem_cons_of_mem _ (List.mem_cons_self), by omega, by omega⟩ | exact ⟨_, List.mem_cons_of_mem _ (List.mem_cons_of_mem _ (List.mem_cons_self)), by omega, by omega⟩)
  refine e_aload_n f_138_15 rfl rfl ?_
  obtain ⟨hm14, fa15, fb16⟩ := fl_mid fr12
  obtain ⟨hm17, fa18, fb19⟩ := fl_mid fb16
  have g13 : px_pa h9 270 52 500 vN tx := pa_fi (pa_fi (pa_fi H1 fa15 (by omega)) fa18 (by omega)) (fl_one fb19) (by omega)
  have g20 : px_pa h1 271 52 6 stS jl := pa_fi H2 fx3 (by omega)
  have g21 : px_pa h5 271 52 6 stS jl := pa_fi g20 fx7 (by omega)
  have g22 : px_pa h9 271 52 6 stS jl := pa_fi g21 fx11 (by omega)
  have g23 : px_pa h1 272 52 6 stA jl := pa_fi H3 fx3 (by omega)
  have g24 : px_pa h5 272 52 6 stA jl := pa_fi g23 fx7 (by omega)
  have g25 : px_pa h9 272 52 6 stA jl := pa_fi g24 fx11 (by omega)
  have g26 : px_pa h1 273 50 6 stN jl := pa_fi H4 fx3 (by omega)
  have g27 : px_pa h5 273 50 6 stN jl := pa_fi g26 fx7 (by omega)
  have g28 : px_pa h9 273 50 6 stN jl := pa_fi g27 fx11 (by omega)
  refine e_callV (As := []) (rest := []) f_138_16 rfl rfl rfl (Nat.le_of_ble_eq_true rfl) (Nat.le_of_ble_eq_true rfl) g10 rfl (Nat.le_of_ble_eq_true rfl) (cc_Md_job1 (jl := jl) (tx := tx) (sn := sn) (cn := cn) (kp := true) (wr := gp.2.2.1) (rd := gp.2.2.2.1) (rs := gp.2.2.2.2.1) (rc := 0) (tm := gp.2.2.2.2.2.2.1) (ky := gp.2.2.2.2.2.2.2.1) (vl := gp.2.2.2.2.2.2.2.2.1) (mo := gp.2.2.2.2.2.2.2.2.2) (gq := gq) (gh := gh) (gw := gw) (gu := gu) (gv := gv) g10 g13 g22 g25 g28 (p0)) rfl (fun h29 r30 q31 => ?_)
  obtain ⟨rfl, g32, g33, fx34⟩ := q31
  obtain ⟨hm35, fa36, fb37⟩ := fj_mid fx34
  have fr38 : px_fl [(269, 1), (271, 3), (274, 10)] h hm35 := fl_tr fr12 fa36 (by first | exact ⟨_, List.mem_cons_self, by omega, by omega⟩ | exact ⟨_, List.mem_cons_of_mem _ (List.mem_cons_self), by omega, by omega⟩ | exact ⟨_, List.mem_cons_of_mem _ (List.mem_cons_of_mem _ (List.mem_cons_self)), by omega, by omega⟩)
  have fr39 : px_fl [(269, 1), (271, 3), (274, 10)] h h29 := fl_tr fr38 fb37 (by first | exact ⟨_, List.mem_cons_self, by omega, by omega⟩ | exact ⟨_, List.mem_cons_of_mem _ (List.mem_cons_self), by omega, by omega⟩ | exact ⟨_, List.mem_cons_of_mem _ (List.mem_cons_of_mem _ (List.mem_cons_self)), by omega, by omega⟩)
  show px_to 138 19 [some (.ref (269)), some (.int (bI true)), none] [.int (bI ((jobR tx).1))] h29 _
  refine e_if_ne f_138_19 rfl (fun c_19 => ?_) (fun c_19 => ?_)
  · skip
    have c_19 : ((jobR tx).1) = true := bI_t c_19
    refine px_to_L (L := [some (.ref (269)), none, none]) ⟨Or.inr rfl, Or.inl rfl, Or.inr rfl, trivial⟩ ?_
    obtain ⟨rs40, tm41, g42, hrs43⟩ := id g32
    obtain ⟨j1, j2, j3, j4⟩ := jobR_t c_19
    have hl1 : skp tx (aJ tx).2.1 + 1 ≤ tx.length := sgn_nx j3 (by decide)
    have g44 : pMS h29 tx sn cn (skp tx (aJ tx).2.1 + 1) true gp.2.2.1 rs40 0 tm41 gq gh gw gu gv (fun _ _ _ => True) := by have z := g42; rw [j4, c_19, if_pos rfl] at z; exact z
    obtain ⟨hm46, fa47, fb48⟩ := fl_mid fr39
    obtain ⟨hm49, fa50, fb51⟩ := fl_mid fb48
    have g45 : px_pa h29 270 52 500 vN tx := pa_fi (pa_fi (pa_fi H1 fa47 (by omega)) fa50 (by omega)) (fl_one fb51) (by omega)
    have g52 : pMA h1 xs0 := pMA_fi H5 fx3 (by omega)
    have g53 : pMA h5 xs0 := pMA_fi g52 fx7 (by omega)
    have g54 : pMA h9 xs0 := pMA_fi g53 fx11 (by omega)
    have g55 : pMA hm35 xs0 := pMA_fi g54 fa36 (by omega)
    have g56 : pMA h29 xs0 := pMA_fi g55 fb37 (by omega)
    refine ll_Md_goes1 (h0 := h29) (y := aC tx) g45 p0 (fun g1 q1 rc1 xs1 z0 z1 zf hy1 hy2 => ?_) (fun g1 q1 rc1 z0 z1 zf hy1 hy2 hy3 hy4 => ?_) 9 (skp tx (aJ tx).2.1 + 1) 0 [] h29 (by omega) hl1 (by omega) rfl rfl (fun x hx => absurd hx (by simp)) g44 (pMA_nil g56) (fj_rf _ _ _ _ _)
    · skip
      obtain ⟨hm57, fa58, fb59⟩ := fj_mid zf
      have fr60 : px_fl [(269, 1), (271, 3), (274, 10)] h hm57 := fl_tr fr39 fa58 (by first | exact ⟨_, List.mem_cons_self, by omega, by omega⟩ | exact ⟨_, List.mem_cons_of_mem _ (List.mem_cons_self), by omega, by omega⟩ | exact ⟨_, List.mem_cons_of_mem _ (List.mem_cons_of_mem _ (List.mem_cons_self)), by omega, by omega⟩)
      have fr61 : px_fl [(269, 1), (271, 3), (274, 10)] h g1 := fl_tr fr60 fb59 (by first | exact ⟨_, List.mem_cons_self, by omega, by omega⟩ | exact ⟨_, List.mem_cons_of_mem _ (List.mem_cons_self), by omega, by omega⟩ | exact ⟨_, List.mem_cons_of_mem _ (List.mem_cons_of_mem _ (List.mem_cons_self)), by omega, by omega⟩)
      refine e_iconst (v := nI 0) f_138_49 (by decide) rfl ?_
      refine e_iret f_138_50 rfl (rfl) ?_
      have g62 : pMk hm57 tx ((jobR tx).1) := pMk_fi g33 fa58 (by omega)
      have g63 : pMk g1 tx ((jobR tx).1) := pMk_fi g62 fb59 (by omega)
      subst hy2
      have er := rdAll_t c_19
      rw [if_neg (by rw [hy1]; decide)] at er
      rw [er]
      dsimp only
      rw [if_neg (by decide)]
      have zk := g63
      exact ⟨rfl, ⟨_, _, _, _, z0, fun e => absurd e (by decide)⟩, (by obtain ⟨jl, a1, a2, a3, _⟩ := zk; exact ⟨jl, a1, a2, a3, fun e => absurd e (by decide)⟩), ⟨_, z1, fun e => absurd e (by decide)⟩, fr61⟩
    · skip
      obtain ⟨hm64, fa65, fb66⟩ := fj_mid zf
      have fr67 : px_fl [(269, 1), (271, 3), (274, 10)] h hm64 := fl_tr fr39 fa65 (by first | exact ⟨_, List.mem_cons_self, by omega, by omega⟩ | exact ⟨_, List.mem_cons_of_mem _ (List.mem_cons_self), by omega, by omega⟩ | exact ⟨_, List.mem_cons_of_mem _ (List.mem_cons_of_mem _ (List.mem_cons_self)), by omega, by omega⟩)
      have fr68 : px_fl [(269, 1), (271, 3), (274, 10)] h g1 := fl_tr fr67 fb66 (by first | exact ⟨_, List.mem_cons_self, by omega, by omega⟩ | exact ⟨_, List.mem_cons_of_mem _ (List.mem_cons_self), by omega, by omega⟩ | exact ⟨_, List.mem_cons_of_mem _ (List.mem_cons_of_mem _ (List.mem_cons_self)), by omega, by omega⟩)
      have hy3s : sgn tx q1 = sgn tx (aC tx).2.1 := by unfold sgn; rw [hy3]
      have hskq := skp_le hy2
      refine e_aload_n f_138_51 rfl rfl ?_
      obtain ⟨rd69, ky70, vl71, mo72, g73, hX74⟩ := id z0
      obtain ⟨hm76, fa77, fb78⟩ := fl_mid fr68
      obtain ⟨hm79, fa80, fb81⟩ := fl_mid fb78
      have g75 : px_pa g1 270 52 500 vN tx := pa_fi (pa_fi (pa_fi H1 fa77 (by omega)) fa80 (by omega)) (fl_one fb81) (by omega)
      refine e_callV (As := []) (rest := []) f_138_52 rfl rfl rfl (Nat.le_of_ble_eq_true rfl) (Nat.le_of_ble_eq_true rfl) g73 rfl (Nat.le_of_ble_eq_true rfl) (cc_Md_look (tx := tx) (sn := sn) (cn := cn) (p := q1) (kp := true) (wr := gp.2.2.1) (rd := rd69) (rs := rs40) (rc := rc1) (tm := tm41) (ky := ky70) (vl := vl71) (mo := mo72) (gq := gq) (gh := gh) (gw := gw) (gu := gu) (gv := gv) g73 g75 (hy2) (p0)) rfl (fun h82 r83 q84 => ?_)
      obtain ⟨rfl, g85, fx86⟩ := q84
      have fr87 : px_fl [(269, 1), (271, 3), (274, 10)] h h82 := fl_tr fr68 fx86 (by first | exact ⟨_, List.mem_cons_self, by omega, by omega⟩ | exact ⟨_, List.mem_cons_of_mem _ (List.mem_cons_self), by omega, by omega⟩ | exact ⟨_, List.mem_cons_of_mem _ (List.mem_cons_of_mem _ (List.mem_cons_self)), by omega, by omega⟩)
      show px_to 138 55 [some (.ref (269)), none, none] [.int (nI (sgn tx q1))] h82 _
      refine e_istore_n (L' := [some (.ref (269)), none, some (.int (nI (sgn tx q1)))]) f_138_55 (Nat.le_of_ble_eq_true rfl) rfl rfl ?_
      refine e_aload_n f_138_56 rfl rfl ?_
      refine e_getf f_138_57 g85 rfl rfl ?_
      show px_to 138 60 [some (.ref (269)), none, some (.int (nI (sgn tx q1)))] [.int (nI (skp tx q1))] h82 _
      refine e_aload_n f_138_60 rfl rfl ?_
      refine e_getf f_138_61 g85 rfl rfl ?_
      show px_to 138 64 [some (.ref (269)), none, some (.int (nI (sgn tx q1)))] [.int (nI tx.length), .int (nI (skp tx q1))] h82 _
      refine e_icmp_eq f_138_64 rfl (fun c_64 => ?_) (fun c_64 => ?_)
      · skip
        have c_64 : skp tx q1 = tx.length := cv_eq (by omega) (by omega) c_64
        refine e_iconst (v := nI 1) f_138_74 (by decide) rfl ?_
        refine e_goto f_138_75 ?_
        refine e_iret f_138_79 rfl (rfl) ?_
        have g88 : pMk hm64 tx ((jobR tx).1) := pMk_fi g33 fa65 (by omega)
        have g89 : pMk g1 tx ((jobR tx).1) := pMk_fi g88 fb66 (by omega)
        have g90 : pMk h82 tx ((jobR tx).1) := pMk_fi g89 fx86 (by omega)
        have hz0 : sgn tx (aC tx).2.1 = 0 ↔ skp tx q1 = tx.length := by rw [← hy3s]; exact sgn_0 p0 hy2
        have er := rdAll_t c_19
        rw [if_pos hy1, decide_eq_true (hz0.mpr c_64)] at er
        rw [er]
        dsimp only
        rw [if_pos rfl]
        have zk := g90
        rw [c_19] at zk
        have g91 : pMA h82 ((aC tx).2.2) := pMA_fi z1 fx86 (by omega)
        exact ⟨rfl, ⟨_, _, _, _, ⟨_, _, _, _, g85, trivial⟩, fun _ => ⟨hrs43 c_19, hy4⟩⟩, zk, ⟨_, g91, fun _ => rfl⟩, fr87⟩
      · skip
        have c_64 : skp tx q1 ≠ tx.length := cv_ne c_64
        refine e_aload_n f_138_67 rfl rfl ?_
        refine e_callV (As := []) (rest := []) f_138_68 rfl rfl rfl (Nat.le_of_ble_eq_true rfl) (Nat.le_of_ble_eq_true rfl) g85 rfl (Nat.le_of_ble_eq_true rfl) (cc_Md_fails (tx := tx) (sn := sn) (cn := cn) (p := skp tx q1) (kp := true) (wr := gp.2.2.1) (rd := rd69) (rs := rs40) (rc := rc1) (tm := tm41) (ky := ky70) (vl := vl71) (mo := mo72) (gq := gq) (gh := gh) (gw := gw) (gu := gu) (gv := gv) g85 ) rfl (fun h92 r93 q94 => ?_)
        obtain ⟨rfl, g95, fx96⟩ := q94
        have fr97 : px_fl [(269, 1), (271, 3), (274, 10)] h h92 := fl_tr fr87 fx96 (by first | exact ⟨_, List.mem_cons_self, by omega, by omega⟩ | exact ⟨_, List.mem_cons_of_mem _ (List.mem_cons_self), by omega, by omega⟩ | exact ⟨_, List.mem_cons_of_mem _ (List.mem_cons_of_mem _ (List.mem_cons_self)), by omega, by omega⟩)
        show px_to 138 71 [some (.ref (269)), none, some (.int (nI (sgn tx q1)))] [.int (nI 0)] h92 _
        refine e_if_eq_t f_138_71 (by decide) ?_
        refine e_iconst (v := nI 0) f_138_78 (by decide) rfl ?_
        refine e_iret f_138_79 rfl (rfl) ?_
        have g98 : pMk hm64 tx ((jobR tx).1) := pMk_fi g33 fa65 (by omega)
        have g99 : pMk g1 tx ((jobR tx).1) := pMk_fi g98 fb66 (by omega)
        have g100 : pMk h82 tx ((jobR tx).1) := pMk_fi g99 fx86 (by omega)
        have g101 : pMk h92 tx ((jobR tx).1) := pMk_fi g100 fx96 (by omega)
        have hz0 : sgn tx (aC tx).2.1 = 0 ↔ skp tx q1 = tx.length := by rw [← hy3s]; exact sgn_0 p0 hy2
        have er := rdAll_t c_19
        rw [if_pos hy1, decide_eq_false (fun z => c_64 (hz0.mp z))] at er
        rw [er]
        dsimp only
        rw [if_neg (by decide)]
        have zk := g101
        rw [c_19] at zk
        have g102 : pMA h82 ((aC tx).2.2) := pMA_fi z1 fx86 (by omega)
        have g103 : pMA h92 ((aC tx).2.2) := pMA_fi g102 fx96 (by omega)
        have zz := g95
        rw [hy3] at zz
        exact ⟨rfl, ⟨_, _, _, _, ⟨_, _, _, _, zz, trivial⟩, fun e => absurd e (by decide)⟩, (by obtain ⟨jl, a1, a2, a3, _⟩ := zk; exact ⟨jl, a1, a2, a3, fun e => absurd e (by decide)⟩), ⟨_, g103, fun _ => rfl⟩, fr97⟩
  · skip
    have c_19 : ((jobR tx).1) = false := bI_f' c_19
    refine e_iconst (v := nI 0) f_138_22 (by decide) rfl ?_
    refine e_iret f_138_23 rfl (rfl) ?_
    obtain ⟨rs104, tm105, g106, hrs107⟩ := id g32
    obtain ⟨er1, er2⟩ := rdAll_f c_19
    rw [er1, er2, if_neg (by decide)]
    have zz := g106
    rw [c_19, if_neg (by decide)] at zz
    have zk := g33
    rw [c_19] at zk
    have g108 : pMA h1 xs0 := pMA_fi H5 fx3 (by omega)
    have g109 : pMA h5 xs0 := pMA_fi g108 fx7 (by omega)
    have g110 : pMA h9 xs0 := pMA_fi g109 fx11 (by omega)
    have g111 : pMA hm35 xs0 := pMA_fi g110 fa36 (by omega)
    have g112 : pMA h29 xs0 := pMA_fi g111 fb37 (by omega)
    exact ⟨rfl, ⟨_, _, _, _, zz, fun e => absurd e (by decide)⟩, zk, ⟨_, g112, fun e => absurd e (by decide)⟩, fr39⟩
