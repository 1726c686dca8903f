def rK (r : Row) : Value := .int (nI r.1)
def rV (r : Row) : Value := .int r.2.1
def rT (r : Row) : Value := .int (nI r.2.2)
/-- rows of a case among all rows -/
def inR (ro : List Row) (c : Nat) (l : List Row) : Prop := ∀ i, i < l.length → ro.getD (16 * c + i) (0, 0, 0) = l.getD i (0, 0, 0)
def inE (es : List Ev) (c : Nat) (l : List Ev) : Prop := ∀ i, i < l.length → es.getD (24 * c + i) (0, 0, 0, 0) = l.getD i (0, 0, 0, 0)
theorem inR_app {ro : List Row} {c n : Nat} {l : List Row} {r : Row} (hn : l.length = n) (hl : 16 * c + n < ro.length) (h : inR ro c l) : inR (ro.set (16 * c + n) r) c (l ++ [r]) := fun i hi => by
  rw [List.length_append, List.length_singleton] at hi
  by_cases e : i = n
  · subst e
    rw [getD_set_same hl, List.getD_eq_getElem?_getD, List.getElem?_append_right (by omega), show i - l.length = 0 by omega]
    rfl
  · rw [getD_set_ne (by omega), getD_app (by omega)]
    exact h i (by omega)
theorem inE_app {es : List Ev} {c n : Nat} {l : List Ev} {e : Ev} (hn : l.length = n) (hl : 24 * c + n < es.length) (h : inE es c l) : inE (es.set (24 * c + n) e) c (l ++ [e]) := fun i hi => by
  rw [List.length_append, List.length_singleton] at hi
  by_cases e2 : i = n
  · subst e2
    rw [getD_set_same hl, List.getD_eq_getElem?_getD, List.getElem?_append_right (by omega), show i - l.length = 0 by omega]
    rfl
  · rw [getD_set_ne (by omega), getD_app (by omega)]
    exact h i (by omega)
/-- the told part of a case: did it go well, the place, the rows, the order's sign -/
def toR (tx : List Nat) (p : Nat) : Bool × Nat × List Row × Nat :=
  if (rdTold tx 16 p []).1 = true then
    (if sgn tx (rdTold tx 16 p []).2.1 ∈ ordL then
      (if sgn tx (skp tx (rdTold tx 16 p []).2.1 + 1) = 59 then (true, skp tx (skp tx (rdTold tx 16 p []).2.1 + 1) + 1, (rdTold tx 16 p []).2.2, sgn tx (rdTold tx 16 p []).2.1)
      else (false, skp tx (skp tx (rdTold tx 16 p []).2.1 + 1), [], 0))
    else (false, skp tx (rdTold tx 16 p []).2.1, [], 0))
  else (false, (rdTold tx 16 p []).2.1, [], 0)
theorem key_rng {c : Nat} (h : c < 127) : c ∈ keyL ↔ 97 ≤ c ∧ c ≤ 100 := by
  simp only [keyL, List.mem_cons, List.not_mem_nil, or_false]
  omega

set_option maxRecDepth 20000 in
set_option maxHeartbeats 4000000 in
theorem ll_Md_outs0 {P : px_H → Option Value → Prop} {h0 : px_H} {tx : List Nat} {sn cn : Int32} {rs rc tm : Nat} {wr : Int32} {gq : gQ} {gh : gH} {gw : gW} {gu : gU} {gv : gV} {y : Bool × Nat × List Row} {ro0 : List Row} (H1 : px_pa h0 270 52 500 vN tx) (p1 : okTx tx) (hrc : rc < 8) (kf : ∀ g p (ro : List Row), pMS g tx sn cn p false (nI p) rs rc tm gq gh gw gu gv (fun _ _ _ => True) → px_fi 269 1 h0 g → y.1 = false → p = y.2.1 → ro.length = 128 → (∀ i, i < 16 * rc → ro.getD i (0, 0, 0) = ro0.getD i (0, 0, 0)) → px_to 136 33 [some (.ref (269)), none, none] [] g P) (kx : ∀ g p n (ro : List Row), pMS g tx sn cn p false wr rs rc tm gq gh gw gu gv (fun _ _ _ => True) → px_fi 269 1 h0 g → y.1 = true → p ≤ tx.length → skp tx p = skp tx y.2.1 → n = y.2.2.length → n ≤ 16 → ro.length = 128 → True → (∀ i, i < 16 * rc → ro.getD i (0, 0, 0) = ro0.getD i (0, 0, 0)) → px_to 136 91 [some (.ref (269)), some (.int (nI n)), none] [] g P) : ∀ (d : Nat) (n : Nat) (p : Nat) (l : List Row) (ro : List Row) (g : px_H), (16 < n + d) → (p ≤ tx.length) → (n ≤ 16) → (rdTold tx (16 - n) p l = y) → (l.length = n) → (ro.length = 128) → (True) → ((∀ i, i < 16 * rc → ro.getD i (0, 0, 0) = ro0.getD i (0, 0, 0))) → pMS g tx sn cn p false wr rs rc tm gq gh gw gu gv (fun _ _ _ => True) → px_fi 269 1 h0 g → px_to 136 2 [some (.ref (269)), some (.int (nI n)), none] [] g P := by
  intro d
  induction d using Nat.strongRecOn with
  | ind d ih =>
    intro n p l ro g q0 q1 q2 q3 q4 q5 q6 q7 G0 frg
    have le := pa_len H1
    have hsl : sgn tx p < 127 := tx_lt p1 _
    have hsk := skp_le q1
    refine e_iload_n f_136_2 rfl rfl ?_
    refine e_bipush (v := nI 16) f_136_3 (by decide) rfl ?_
    refine e_icmp_ge f_136_5 rfl (fun c_5 => ?_) (fun c_5 => ?_)
    · skip
      have c_5 : 16 ≤ n := cv_le (by omega) (by omega) c_5
      have hy : y.1 = true ∧ skp tx p = skp tx y.2.1 ∧ y.2.2 = l := by rw [show 16 - n = 0 by omega, rdTold] at q3; subst q3; exact ⟨rfl, rfl, rfl⟩
      have hj := hy.2.2
      subst hj
      exact kx g _ n ro G0 frg hy.1 q1 hy.2.1 q4.symm (by omega) q5 q6 q7
    · skip
      have c_5 : n < 16 := cv_nle (by omega) (by omega) c_5
      refine e_aload_n f_136_8 rfl rfl ?_
      obtain ⟨rd1, ky2, vl3, mo4, g5, hX6⟩ := id G0
      have g7 : px_pa g 270 52 500 vN tx := pa_fi H1 frg (by omega)
      refine e_callV (As := []) (rest := []) f_136_9 rfl rfl rfl (Nat.le_of_ble_eq_true rfl) (Nat.le_of_ble_eq_true rfl) g5 rfl (Nat.le_of_ble_eq_true rfl) (cc_Md_look (tx := tx) (sn := sn) (cn := cn) (p := p) (kp := false) (wr := wr) (rd := rd1) (rs := rs) (rc := rc) (tm := tm) (ky := ky2) (vl := vl3) (mo := mo4) (gq := gq) (gh := gh) (gw := gw) (gu := gu) (gv := gv) g5 g7 (by omega) (p1)) rfl (fun h8 r9 q10 => ?_)
      obtain ⟨rfl, g11, fx12⟩ := q10
      have fr13 : px_fi 269 1 h0 h8 := fi_tr frg fx12 (by omega)
      show px_to 136 12 [some (.ref (269)), some (.int (nI n)), none] [.int (nI (sgn tx p))] h8 _
      refine e_bipush (v := nI 97) f_136_12 (by decide) rfl ?_
      refine e_icmp_lt f_136_14 rfl (fun c_14 => ?_) (fun c_14 => ?_)
      · skip
        have c_14 : sgn tx p < 97 := cv_lt (by omega) (by omega) c_14
        have hin : sgn tx p ∉ keyL := fun z => by have := (key_rng hsl).mp z; omega
        have hy : y.1 = true ∧ skp tx (skp tx p) = skp tx y.2.1 ∧ y.2.2 = l := by rw [show 16 - n = (16 - (n + 1)) + 1 by omega, rdTold, if_neg hin] at q3; subst q3; exact ⟨rfl, rfl, rfl⟩
        have g14 : pMS h8 tx sn cn (skp tx p) false wr rs rc tm gq gh gw gu gv (fun _ _ _ => True) := ⟨_, _, _, _, g11, trivial⟩
        have hj := hy.2.2
        subst hj
        exact kx h8 _ n ro g14 fr13 hy.1 hsk hy.2.1 q4.symm (by omega) q5 q6 q7
      · skip
        have c_14 : 97 ≤ sgn tx p := cv_nlt (by omega) (by omega) c_14
        refine e_aload_n f_136_17 rfl rfl ?_
        have g15 : px_pa h8 270 52 500 vN tx := pa_fi H1 fr13 (by omega)
        refine e_callV (As := []) (rest := []) f_136_18 rfl rfl rfl (Nat.le_of_ble_eq_true rfl) (Nat.le_of_ble_eq_true rfl) g11 rfl (Nat.le_of_ble_eq_true rfl) (cc_Md_look (tx := tx) (sn := sn) (cn := cn) (p := skp tx p) (kp := false) (wr := wr) (rd := rd1) (rs := rs) (rc := rc) (tm := tm) (ky := ky2) (vl := vl3) (mo := mo4) (gq := gq) (gh := gh) (gw := gw) (gu := gu) (gv := gv) g11 g15 (hsk) (p1)) rfl (fun h16 r17 q18 => ?_)
        obtain ⟨rfl, g19, fx20⟩ := q18
        have fr21 : px_fi 269 1 h0 h16 := fi_tr fr13 fx20 (by omega)
        show px_to 136 21 [some (.ref (269)), some (.int (nI n)), none] [.int (nI (sgn tx (skp tx p)))] h16 _
        rw [sgn_idem q1]
        have g22 : h16.2.2 269 = some (12, mB (nI tx.length, sn, cn) (nI (skp tx p), false, wr, rd1, nI rs, nI rc, nI tm, ky2, vl3, mo4) gq gh gw gu gv) := by have z := g19; rw [skp_idem q1] at z; exact z
        refine e_bipush (v := nI 100) f_136_21 (by decide) rfl ?_
        refine e_icmp_gt f_136_23 rfl (fun c_23 => ?_) (fun c_23 => ?_)
        · skip
          have c_23 : 100 < sgn tx p := cv_lt (by omega) (by omega) c_23
          have hin : sgn tx p ∉ keyL := fun z => by have := (key_rng hsl).mp z; omega
          have hy : y.1 = true ∧ skp tx (skp tx p) = skp tx y.2.1 ∧ y.2.2 = l := by rw [show 16 - n = (16 - (n + 1)) + 1 by omega, rdTold, if_neg hin] at q3; subst q3; exact ⟨rfl, rfl, rfl⟩
          have g23 : pMS h16 tx sn cn (skp tx p) false wr rs rc tm gq gh gw gu gv (fun _ _ _ => True) := ⟨_, _, _, _, g22, trivial⟩
          have hj := hy.2.2
          subst hj
          exact kx h16 _ n ro g23 fr21 hy.1 hsk hy.2.1 q4.symm (by omega) q5 q6 q7
        · skip
          have c_23 : sgn tx p ≤ 100 := cv_nlt (by omega) (by omega) c_23
          have hin : sgn tx p ∈ keyL := (key_rng hsl).mpr ⟨by omega, by omega⟩
          have hrsk : rdRow tx (skp tx p) = rdRow tx p := by unfold rdRow; rw [sgn_idem q1, skp_idem q1]
          rw [show 16 - n = (16 - (n + 1)) + 1 by omega, rdTold, if_pos hin] at q3
          refine e_aload_n f_136_26 rfl rfl ?_
          have g24 : px_pa h16 270 52 500 vN tx := pa_fi H1 fr21 (by omega)
          refine e_callV (As := []) (rest := []) f_136_27 rfl rfl rfl (Nat.le_of_ble_eq_true rfl) (Nat.le_of_ble_eq_true rfl) g22 rfl (Nat.le_of_ble_eq_true rfl) (cc_Md_row (tx := tx) (sn := sn) (cn := cn) (p := skp tx p) (kp := false) (wr := wr) (rd := rd1) (rs := rs) (rc := rc) (tm := tm) (ky := ky2) (vl := vl3) (mo := mo4) (gq := gq) (gh := gh) (gw := gw) (gu := gu) (gv := gv) g22 g24 (hsk) (p1)) rfl (fun h25 r26 q27 => ?_)
          obtain ⟨rfl, g28, fx29⟩ := q27
          have fr30 : px_fi 269 1 h0 h25 := fi_tr fr21 fx29 (by omega)
          show px_to 136 30 [some (.ref (269)), some (.int (nI n)), none] [.int (bI ((rdRow tx (skp tx p)).1))] h25 _
          refine e_if_ne f_136_30 rfl (fun c_30 => ?_) (fun c_30 => ?_)
          · skip
            have c_30 : ((rdRow tx (skp tx p)).1) = true := bI_t c_30
            rw [hrsk] at c_30
            have g31 : pMS h25 tx sn cn ((rdRow tx p).2.1) false wr rs rc tm gq gh gw gu gv (fun ky vl mo => (rdRow tx p).1 = true → ky = nI (rdRow tx p).2.2.1 ∧ vl = (rdRow tx p).2.2.2.1 ∧ mo = nI (rdRow tx p).2.2.2.2) := by have z := g28; rw [hrsk, c_30, if_pos rfl] at z; rw [c_30]; exact z
            obtain ⟨rd32, ky33, vl34, mo35, g36, hX37⟩ := id g31
            obtain ⟨hk1, hk2, hk3⟩ := hX37 c_30
            have hrw := rdRow_ok (tx := tx) (p := p)
            have hrs := rdRow_s (tx := tx) (p := p)
            have g38 : h25.2.2 269 = some (12, mB (nI tx.length, sn, cn) (nI ((rdRow tx p).2.1), false, wr, rd32, nI rs, nI rc, nI tm, nI ((rdRow tx p).2.2.1), (rdRow tx p).2.2.2.1, nI ((rdRow tx p).2.2.2.2)) gq gh gw gu gv) := by have z := g36; rw [hk1, hk2, hk3] at z; exact z
            refine e_aload_n f_136_35 rfl rfl ?_
            refine e_getf f_136_36 g38 rfl rfl ?_
            show px_to 136 39 [some (.ref (269)), some (.int (nI n)), none] [.int (bI false)] h25 _
            refine e_if_eq_t f_136_39 (by decide) ?_
            refine e_iinc (y := nI (n + 1)) (L' := [some (.ref (269)), some (.int (nI (n + 1))), none]) f_136_85 rfl (by rw [show Int32.ofInt 1 = nI 1 by decide]; exact (nI_add _ _)) rfl rfl ?_
            refine e_goto f_136_88 ?_
            have g39 : pMS h25 tx sn cn ((rdRow tx p).2.1) false wr rs rc tm gq gh gw gu gv (fun _ _ _ => True) := ⟨_, _, _, _, g38, trivial⟩
            rw [if_pos c_30] at q3
            first | (exfalso; omega) | exact ih (d - 1) (by omega) (n + 1) ((rdRow tx p).2.1) (l ++ [(rdRow tx p).2.2]) ro h25 (by omega) (rdRow_le q1) (by omega) (q3) (by rw [List.length_append, List.length_singleton]; omega) (by omega) (by omega) (by omega) g39 fr30
          · skip
            have c_30 : ((rdRow tx (skp tx p)).1) = false := bI_f' c_30
            rw [hrsk] at c_30
            have g40 : pMS h25 tx sn cn ((rdRow tx p).2.1) false (nI (rdRow tx p).2.1) rs rc tm gq gh gw gu gv (fun ky vl mo => (rdRow tx p).1 = true → ky = nI (rdRow tx p).2.2.1 ∧ vl = (rdRow tx p).2.2.2.1 ∧ mo = nI (rdRow tx p).2.2.2.2) := by have z := g28; rw [hrsk, c_30, if_neg (by decide)] at z; rw [c_30]; exact z
            rw [if_neg (by rw [c_30]; decide)] at q3
            subst q3
            obtain ⟨rd41, ky42, vl43, mo44, g45, hX46⟩ := id g40
            have g47 : pMS h25 tx sn cn ((rdRow tx p).2.1) false (nI (rdRow tx p).2.1) rs rc tm gq gh gw gu gv (fun _ _ _ => True) := ⟨_, _, _, _, g45, trivial⟩
            refine px_to_L (L := [some (.ref (269)), none, none]) ⟨Or.inr rfl, Or.inl rfl, Or.inr rfl, trivial⟩ ?_
            exact kf h25 _ ro g47 fr30 rfl rfl q5 q7

set_option maxRecDepth 20000 in
set_option maxHeartbeats 4000000 in
theorem ll_Md_outs1 {P : px_H → Option Value → Prop} {h0 : px_H} {tx : List Nat} {sn cn : Int32} {rs rc tm : Nat} {wr : Int32} {gq : gQ} {gh : gH} {gw : gW} {gu : gU} {gv : gV} {y : Bool × Nat × List Row} {ro0 : List Row} (H1 : px_pa h0 270 52 500 vN tx) (p1 : okTx tx) (hrc : rc < 8) (kf : ∀ g p (ro : List Row), pMS g tx sn cn p true (nI p) rs rc tm gq gh gw gu gv (fun _ _ _ => True) → px_pa g 280 54 128 rK ro → px_pa g 281 53 128 rV ro → px_pa g 282 53 128 rT ro → px_fj 269 1 280 3 h0 g → y.1 = false → p = y.2.1 → ro.length = 128 → (∀ i, i < 16 * rc → ro.getD i (0, 0, 0) = ro0.getD i (0, 0, 0)) → px_to 136 33 [some (.ref (269)), none, none] [] g P) (kx : ∀ g p n (ro : List Row), pMS g tx sn cn p true wr rs rc tm gq gh gw gu gv (fun _ _ _ => True) → px_pa g 280 54 128 rK ro → px_pa g 281 53 128 rV ro → px_pa g 282 53 128 rT ro → px_fj 269 1 280 3 h0 g → y.1 = true → p ≤ tx.length → skp tx p = skp tx y.2.1 → n = y.2.2.length → n ≤ 16 → ro.length = 128 → inR ro rc y.2.2 → (∀ i, i < 16 * rc → ro.getD i (0, 0, 0) = ro0.getD i (0, 0, 0)) → px_to 136 91 [some (.ref (269)), some (.int (nI n)), none] [] g P) : ∀ (d : Nat) (n : Nat) (p : Nat) (l : List Row) (ro : List Row) (g : px_H), (16 < n + d) → (p ≤ tx.length) → (n ≤ 16) → (rdTold tx (16 - n) p l = y) → (l.length = n) → (ro.length = 128) → (inR ro rc l) → ((∀ i, i < 16 * rc → ro.getD i (0, 0, 0) = ro0.getD i (0, 0, 0))) → pMS g tx sn cn p true wr rs rc tm gq gh gw gu gv (fun _ _ _ => True) → px_pa g 280 54 128 rK ro → px_pa g 281 53 128 rV ro → px_pa g 282 53 128 rT ro → px_fj 269 1 280 3 h0 g → px_to 136 2 [some (.ref (269)), some (.int (nI n)), none] [] g P := by
  intro d
  induction d using Nat.strongRecOn with
  | ind d ih =>
    intro n p l ro g q0 q1 q2 q3 q4 q5 q6 q7 G0 G1 G2 G3 frg
    have le := pa_len H1
    have hsl : sgn tx p < 127 := tx_lt p1 _
    have hsk := skp_le q1
    refine e_iload_n f_136_2 rfl rfl ?_
    refine e_bipush (v := nI 16) f_136_3 (by decide) rfl ?_
    refine e_icmp_ge f_136_5 rfl (fun c_5 => ?_) (fun c_5 => ?_)
    · skip
      have c_5 : 16 ≤ n := cv_le (by omega) (by omega) c_5
      have hy : y.1 = true ∧ skp tx p = skp tx y.2.1 ∧ y.2.2 = l := by rw [show 16 - n = 0 by omega, rdTold] at q3; subst q3; exact ⟨rfl, rfl, rfl⟩
      have hj := hy.2.2
      subst hj
      exact kx g _ n ro G0 G1 G2 G3 frg hy.1 q1 hy.2.1 q4.symm (by omega) q5 q6 q7
    · skip
      have c_5 : n < 16 := cv_nle (by omega) (by omega) c_5
      refine e_aload_n f_136_8 rfl rfl ?_
      obtain ⟨rd1, ky2, vl3, mo4, g5, hX6⟩ := id G0
      obtain ⟨hm8, fa9, fb10⟩ := fj_mid frg
      have g7 : px_pa g 270 52 500 vN tx := pa_fi (pa_fi H1 fa9 (by omega)) fb10 (by omega)
      refine e_callV (As := []) (rest := []) f_136_9 rfl rfl rfl (Nat.le_of_ble_eq_true rfl) (Nat.le_of_ble_eq_true rfl) g5 rfl (Nat.le_of_ble_eq_true rfl) (cc_Md_look (tx := tx) (sn := sn) (cn := cn) (p := p) (kp := true) (wr := wr) (rd := rd1) (rs := rs) (rc := rc) (tm := tm) (ky := ky2) (vl := vl3) (mo := mo4) (gq := gq) (gh := gh) (gw := gw) (gu := gu) (gv := gv) g5 g7 (by omega) (p1)) rfl (fun h11 r12 q13 => ?_)
      obtain ⟨rfl, g14, fx15⟩ := q13
      have fr16 : px_fj 269 1 280 3 h0 h11 := fj_tr frg fx15 (by omega)
      show px_to 136 12 [some (.ref (269)), some (.int (nI n)), none] [.int (nI (sgn tx p))] h11 _
      refine e_bipush (v := nI 97) f_136_12 (by decide) rfl ?_
      refine e_icmp_lt f_136_14 rfl (fun c_14 => ?_) (fun c_14 => ?_)
      · skip
        have c_14 : sgn tx p < 97 := cv_lt (by omega) (by omega) c_14
        have hin : sgn tx p ∉ keyL := fun z => by have := (key_rng hsl).mp z; omega
        have hy : y.1 = true ∧ skp tx (skp tx p) = skp tx y.2.1 ∧ y.2.2 = l := by rw [show 16 - n = (16 - (n + 1)) + 1 by omega, rdTold, if_neg hin] at q3; subst q3; exact ⟨rfl, rfl, rfl⟩
        have g17 : pMS h11 tx sn cn (skp tx p) true wr rs rc tm gq gh gw gu gv (fun _ _ _ => True) := ⟨_, _, _, _, g14, trivial⟩
        have g18 : px_pa h11 280 54 128 rK ro := pa_fi G1 fx15 (by omega)
        have g19 : px_pa h11 281 53 128 rV ro := pa_fi G2 fx15 (by omega)
        have g20 : px_pa h11 282 53 128 rT ro := pa_fi G3 fx15 (by omega)
        have hj := hy.2.2
        subst hj
        exact kx h11 _ n ro g17 g18 g19 g20 fr16 hy.1 hsk hy.2.1 q4.symm (by omega) q5 q6 q7
      · skip
        have c_14 : 97 ≤ sgn tx p := cv_nlt (by omega) (by omega) c_14
        refine e_aload_n f_136_17 rfl rfl ?_
        obtain ⟨hm22, fa23, fb24⟩ := fj_mid fr16
        have g21 : px_pa h11 270 52 500 vN tx := pa_fi (pa_fi H1 fa23 (by omega)) fb24 (by omega)
        refine e_callV (As := []) (rest := []) f_136_18 rfl rfl rfl (Nat.le_of_ble_eq_true rfl) (Nat.le_of_ble_eq_true rfl) g14 rfl (Nat.le_of_ble_eq_true rfl) (cc_Md_look (tx := tx) (sn := sn) (cn := cn) (p := skp tx p) (kp := true) (wr := wr) (rd := rd1) (rs := rs) (rc := rc) (tm := tm) (ky := ky2) (vl := vl3) (mo := mo4) (gq := gq) (gh := gh) (gw := gw) (gu := gu) (gv := gv) g14 g21 (hsk) (p1)) rfl (fun h25 r26 q27 => ?_)
        obtain ⟨rfl, g28, fx29⟩ := q27
        have fr30 : px_fj 269 1 280 3 h0 h25 := fj_tr fr16 fx29 (by omega)
        show px_to 136 21 [some (.ref (269)), some (.int (nI n)), none] [.int (nI (sgn tx (skp tx p)))] h25 _
        rw [sgn_idem q1]
        have g31 : h25.2.2 269 = some (12, mB (nI tx.length, sn, cn) (nI (skp tx p), true, wr, rd1, nI rs, nI rc, nI tm, ky2, vl3, mo4) gq gh gw gu gv) := by have z := g28; rw [skp_idem q1] at z; exact z
        refine e_bipush (v := nI 100) f_136_21 (by decide) rfl ?_
        refine e_icmp_gt f_136_23 rfl (fun c_23 => ?_) (fun c_23 => ?_)
        · skip
          have c_23 : 100 < sgn tx p := cv_lt (by omega) (by omega) c_23
          have hin : sgn tx p ∉ keyL := fun z => by have := (key_rng hsl).mp z; omega
          have hy : y.1 = true ∧ skp tx (skp tx p) = skp tx y.2.1 ∧ y.2.2 = l := by rw [show 16 - n = (16 - (n + 1)) + 1 by omega, rdTold, if_neg hin] at q3; subst q3; exact ⟨rfl, rfl, rfl⟩
          have g32 : pMS h25 tx sn cn (skp tx p) true wr rs rc tm gq gh gw gu gv (fun _ _ _ => True) := ⟨_, _, _, _, g31, trivial⟩
          have g33 : px_pa h11 280 54 128 rK ro := pa_fi G1 fx15 (by omega)
          have g34 : px_pa h25 280 54 128 rK ro := pa_fi g33 fx29 (by omega)
          have g35 : px_pa h11 281 53 128 rV ro := pa_fi G2 fx15 (by omega)
          have g36 : px_pa h25 281 53 128 rV ro := pa_fi g35 fx29 (by omega)
          have g37 : px_pa h11 282 53 128 rT ro := pa_fi G3 fx15 (by omega)
          have g38 : px_pa h25 282 53 128 rT ro := pa_fi g37 fx29 (by omega)
          have hj := hy.2.2
          subst hj
          exact kx h25 _ n ro g32 g34 g36 g38 fr30 hy.1 hsk hy.2.1 q4.symm (by omega) q5 q6 q7
        · skip
          have c_23 : sgn tx p ≤ 100 := cv_nlt (by omega) (by omega) c_23
          have hin : sgn tx p ∈ keyL := (key_rng hsl).mpr ⟨by omega, by omega⟩
          have hrsk : rdRow tx (skp tx p) = rdRow tx p := by unfold rdRow; rw [sgn_idem q1, skp_idem q1]
          rw [show 16 - n = (16 - (n + 1)) + 1 by omega, rdTold, if_pos hin] at q3
          refine e_aload_n f_136_26 rfl rfl ?_
          obtain ⟨hm40, fa41, fb42⟩ := fj_mid fr30
          have g39 : px_pa h25 270 52 500 vN tx := pa_fi (pa_fi H1 fa41 (by omega)) fb42 (by omega)
          refine e_callV (As := []) (rest := []) f_136_27 rfl rfl rfl (Nat.le_of_ble_eq_true rfl) (Nat.le_of_ble_eq_true rfl) g31 rfl (Nat.le_of_ble_eq_true rfl) (cc_Md_row (tx := tx) (sn := sn) (cn := cn) (p := skp tx p) (kp := true) (wr := wr) (rd := rd1) (rs := rs) (rc := rc) (tm := tm) (ky := ky2) (vl := vl3) (mo := mo4) (gq := gq) (gh := gh) (gw := gw) (gu := gu) (gv := gv) g31 g39 (hsk) (p1)) rfl (fun h43 r44 q45 => ?_)
          obtain ⟨rfl, g46, fx47⟩ := q45
          have fr48 : px_fj 269 1 280 3 h0 h43 := fj_tr fr30 fx47 (by omega)
          show px_to 136 30 [some (.ref (269)), some (.int (nI n)), none] [.int (bI ((rdRow tx (skp tx p)).1))] h43 _
          refine e_if_ne f_136_30 rfl (fun c_30 => ?_) (fun c_30 => ?_)
          · skip
            have c_30 : ((rdRow tx (skp tx p)).1) = true := bI_t c_30
            rw [hrsk] at c_30
            have g49 : pMS h43 tx sn cn ((rdRow tx p).2.1) true wr rs rc tm gq gh gw gu gv (fun ky vl mo => (rdRow tx p).1 = true → ky = nI (rdRow tx p).2.2.1 ∧ vl = (rdRow tx p).2.2.2.1 ∧ mo = nI (rdRow tx p).2.2.2.2) := by have z := g46; rw [hrsk, c_30, if_pos rfl] at z; rw [c_30]; exact z
            obtain ⟨rd50, ky51, vl52, mo53, g54, hX55⟩ := id g49
            obtain ⟨hk1, hk2, hk3⟩ := hX55 c_30
            have hrw := rdRow_ok (tx := tx) (p := p)
            have hrs := rdRow_s (tx := tx) (p := p)
            have g56 : h43.2.2 269 = some (12, mB (nI tx.length, sn, cn) (nI ((rdRow tx p).2.1), true, wr, rd50, nI rs, nI rc, nI tm, nI ((rdRow tx p).2.2.1), (rdRow tx p).2.2.2.1, nI ((rdRow tx p).2.2.2.2)) gq gh gw gu gv) := by have z := g54; rw [hk1, hk2, hk3] at z; exact z
            refine e_aload_n f_136_35 rfl rfl ?_
            refine e_getf f_136_36 g56 rfl rfl ?_
            show px_to 136 39 [some (.ref (269)), some (.int (nI n)), none] [.int (bI true)] h43 _
            refine e_if_eq_f f_136_39 (by decide) rfl ?_
            refine e_bipush (v := nI 16) f_136_42 (by decide) rfl ?_
            refine e_aload_n f_136_44 rfl rfl ?_
            refine e_getf f_136_45 g56 rfl rfl ?_
            show px_to 136 48 [some (.ref (269)), some (.int (nI n)), none] [.int (nI rc), .int (nI 16)] h43 _
            refine e_imul (z := nI (16 * rc)) f_136_48 (pk_mul _ _) rfl ?_
            refine e_iload_n f_136_49 rfl rfl ?_
            refine e_iadd (z := nI (16 * rc + n)) f_136_50 (nI_add _ _) rfl ?_
            refine e_istore_n (L' := [some (.ref (269)), some (.int (nI n)), some (.int (nI (16 * rc + n)))]) f_136_51 (Nat.le_of_ble_eq_true rfl) rfl rfl ?_
            refine e_aload_n f_136_52 rfl rfl ?_
            refine e_getf f_136_53 g56 rfl rfl ?_
            refine e_iload_n f_136_56 rfl rfl ?_
            refine e_aload_n f_136_57 rfl rfl ?_
            refine e_getf f_136_58 g56 rfl rfl ?_
            show px_to 136 61 [some (.ref (269)), some (.int (nI n)), some (.int (nI (16 * rc + n)))] [.int (nI ((rdRow tx p).2.2.1)), .int (nI (16 * rc + n)), .ref (280)] h43 _
            refine e_i2b (z := nI ((rdRow tx p).2.2.1)) f_136_61 (i2b_id _ (by omega)) rfl ?_
            have g57 : px_pa h11 280 54 128 rK ro := pa_fi G1 fx15 (by omega)
            have g58 : px_pa h25 280 54 128 rK ro := pa_fi g57 fx29 (by omega)
            have g59 : px_pa h43 280 54 128 rK ro := pa_fi g58 fx47 (by omega)
            refine e_bastore_p (xs := ro) (x := (rdRow tx p).2.2) f_136_62 g59 (by omega) (by first | omega | (simp only [List.length_set]; omega)) (nw_y (i2b_id _ (by omega))) rfl (fun h60 g61 fx62 => ?_)
            have fr63 : px_fj 269 1 280 3 h0 h60 := fj_tr fr48 fx62 (by omega)
            refine e_aload_n f_136_63 rfl rfl ?_
            have g64 : h60.2.2 269 = some (12, mB (nI tx.length, sn, cn) (nI ((rdRow tx p).2.1), true, wr, rd50, nI rs, nI rc, nI tm, nI ((rdRow tx p).2.2.1), (rdRow tx p).2.2.2.1, nI ((rdRow tx p).2.2.2.2)) gq gh gw gu gv) := fi_at g56 fx62 (by omega)
            refine e_getf f_136_64 g64 rfl rfl ?_
            refine e_iload_n f_136_67 rfl rfl ?_
            refine e_aload_n f_136_68 rfl rfl ?_
            refine e_getf f_136_69 g64 rfl rfl ?_
            show px_to 136 72 [some (.ref (269)), some (.int (nI n)), some (.int (nI (16 * rc + n)))] [.int ((rdRow tx p).2.2.2.1), .int (nI (16 * rc + n)), .ref (281)] h60 _
            refine e_i2s (z := (rdRow tx p).2.2.2.1) f_136_72 (hrs) rfl ?_
            have g65 : px_pa h11 281 53 128 rV ro := pa_fi G2 fx15 (by omega)
            have g66 : px_pa h25 281 53 128 rV ro := pa_fi g65 fx29 (by omega)
            have g67 : px_pa h43 281 53 128 rV ro := pa_fi g66 fx47 (by omega)
            have g68 : px_pa h60 281 53 128 rV ro := pa_fi g67 fx62 (by omega)
            refine e_sastore_p (xs := ro) (x := (rdRow tx p).2.2) f_136_73 g68 (by omega) (by first | omega | (simp only [List.length_set]; omega)) (nw_s hrs) rfl (fun h69 g70 fx71 => ?_)
            have fr72 : px_fj 269 1 280 3 h0 h69 := fj_tr fr63 fx71 (by omega)
            refine e_aload_n f_136_74 rfl rfl ?_
            have g73 : h69.2.2 269 = some (12, mB (nI tx.length, sn, cn) (nI ((rdRow tx p).2.1), true, wr, rd50, nI rs, nI rc, nI tm, nI ((rdRow tx p).2.2.1), (rdRow tx p).2.2.2.1, nI ((rdRow tx p).2.2.2.2)) gq gh gw gu gv) := fi_at g64 fx71 (by omega)
            refine e_getf f_136_75 g73 rfl rfl ?_
            refine e_iload_n f_136_78 rfl rfl ?_
            refine e_aload_n f_136_79 rfl rfl ?_
            refine e_getf f_136_80 g73 rfl rfl ?_
            show px_to 136 83 [some (.ref (269)), some (.int (nI n)), some (.int (nI (16 * rc + n)))] [.int (nI ((rdRow tx p).2.2.2.2)), .int (nI (16 * rc + n)), .ref (282)] h69 _
            refine e_i2s (z := nI ((rdRow tx p).2.2.2.2)) f_136_83 (sI_n _ (by omega)) rfl ?_
            have g74 : px_pa h11 282 53 128 rT ro := pa_fi G3 fx15 (by omega)
            have g75 : px_pa h25 282 53 128 rT ro := pa_fi g74 fx29 (by omega)
            have g76 : px_pa h43 282 53 128 rT ro := pa_fi g75 fx47 (by omega)
            have g77 : px_pa h60 282 53 128 rT ro := pa_fi g76 fx62 (by omega)
            have g78 : px_pa h69 282 53 128 rT ro := pa_fi g77 fx71 (by omega)
            refine e_sastore_p (xs := ro) (x := (rdRow tx p).2.2) f_136_84 g78 (by omega) (by first | omega | (simp only [List.length_set]; omega)) (nw_s (sI_n _ (by omega))) rfl (fun h79 g80 fx81 => ?_)
            have fr82 : px_fj 269 1 280 3 h0 h79 := fj_tr fr72 fx81 (by omega)
            refine e_iinc (y := nI (n + 1)) (L' := [some (.ref (269)), some (.int (nI (n + 1))), some (.int (nI (16 * rc + n)))]) f_136_85 rfl (by rw [show Int32.ofInt 1 = nI 1 by decide]; exact (nI_add _ _)) rfl rfl ?_
            refine e_goto f_136_88 ?_
            have g83 : h79.2.2 269 = some (12, mB (nI tx.length, sn, cn) (nI ((rdRow tx p).2.1), true, wr, rd50, nI rs, nI rc, nI tm, nI ((rdRow tx p).2.2.1), (rdRow tx p).2.2.2.1, nI ((rdRow tx p).2.2.2.2)) gq gh gw gu gv) := fi_at g73 fx81 (by omega)
            have g84 : pMS h79 tx sn cn ((rdRow tx p).2.1) true wr rs rc tm gq gh gw gu gv (fun _ _ _ => True) := ⟨_, _, _, _, g83, trivial⟩
            rw [if_pos c_30] at q3
            refine px_to_L (L := [some (.ref (269)), some (.int (nI (n + 1))), none]) ⟨Or.inr rfl, Or.inr rfl, Or.inl rfl, trivial⟩ ?_
            have g85 : px_pa h69 280 54 128 rK (ro.set (16 * rc + n) ((rdRow tx p).2.2)) := pa_fi g61 fx71 (by omega)
            have g86 : px_pa h79 280 54 128 rK (ro.set (16 * rc + n) ((rdRow tx p).2.2)) := pa_fi g85 fx81 (by omega)
            have g87 : px_pa h79 281 53 128 rV (ro.set (16 * rc + n) ((rdRow tx p).2.2)) := pa_fi g70 fx81 (by omega)
            first | (exfalso; omega) | exact ih (d - 1) (by omega) (n + 1) ((rdRow tx p).2.1) (l ++ [(rdRow tx p).2.2]) (ro.set (16 * rc + n) (rdRow tx p).2.2) h79 (by omega) (rdRow_le q1) (by omega) (q3) (by rw [List.length_append, List.length_singleton]; omega) (by rw [List.length_set]; exact q5) (inR_app q4 (by omega) q6) (fun i hi => by rw [getD_set_ne (by omega)]; exact q7 i hi) g84 g86 g87 g80 fr82
          · skip
            have c_30 : ((rdRow tx (skp tx p)).1) = false := bI_f' c_30
            rw [hrsk] at c_30
            have g88 : pMS h43 tx sn cn ((rdRow tx p).2.1) true (nI (rdRow tx p).2.1) rs rc tm gq gh gw gu gv (fun ky vl mo => (rdRow tx p).1 = true → ky = nI (rdRow tx p).2.2.1 ∧ vl = (rdRow tx p).2.2.2.1 ∧ mo = nI (rdRow tx p).2.2.2.2) := by have z := g46; rw [hrsk, c_30, if_neg (by decide)] at z; rw [c_30]; exact z
            rw [if_neg (by rw [c_30]; decide)] at q3
            subst q3
            obtain ⟨rd89, ky90, vl91, mo92, g93, hX94⟩ := id g88
            have g95 : pMS h43 tx sn cn ((rdRow tx p).2.1) true (nI (rdRow tx p).2.1) rs rc tm gq gh gw gu gv (fun _ _ _ => True) := ⟨_, _, _, _, g93, trivial⟩
            refine px_to_L (L := [some (.ref (269)), none, none]) ⟨Or.inr rfl, Or.inl rfl, Or.inr rfl, trivial⟩ ?_
            have g96 : px_pa h11 280 54 128 rK ro := pa_fi G1 fx15 (by omega)
            have g97 : px_pa h25 280 54 128 rK ro := pa_fi g96 fx29 (by omega)
            have g98 : px_pa h43 280 54 128 rK ro := pa_fi g97 fx47 (by omega)
            have g99 : px_pa h11 281 53 128 rV ro := pa_fi G2 fx15 (by omega)
            have g100 : px_pa h25 281 53 128 rV ro := pa_fi g99 fx29 (by omega)
            have g101 : px_pa h43 281 53 128 rV ro := pa_fi g100 fx47 (by omega)
            have g102 : px_pa h11 282 53 128 rT ro := pa_fi G3 fx15 (by omega)
            have g103 : px_pa h25 282 53 128 rT ro := pa_fi g102 fx29 (by omega)
            have g104 : px_pa h43 282 53 128 rT ro := pa_fi g103 fx47 (by omega)
            exact kf h43 _ ro g95 g98 g101 g104 fr48 rfl rfl q5 q7
