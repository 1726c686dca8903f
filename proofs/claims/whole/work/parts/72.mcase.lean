def okA (xs : List CS3) (em : List Nat) (es : List Ev) (om : List Nat) (ro : List Row) (wn : List Nat) : Prop := (em.length = 8 ∧ es.length = 192 ∧ om.length = 8 ∧ ro.length = 128 ∧ wn.length = 8) ∧ ∀ c, c < xs.length → em.getD c 0 = (xs.getD c c30).1.length ∧ inE es c (xs.getD c c30).1 ∧ om.getD c 0 = (xs.getD c c30).2.1.length ∧ inR ro c (xs.getD c c30).2.1 ∧ wn.getD c 0 = (xs.getD c c30).2.2
theorem okA_up {xs : List CS3} {em em2 om om2 wn wn2 : List Nat} {es es2 : List Ev} {ro ro2 : List Row} {rc : Nat} (h : okA xs em es om ro wn) (hx : ∀ x ∈ xs, okC3 x) (hc : xs.length = rc) (l : em2.length = 8 ∧ es2.length = 192 ∧ om2.length = 8 ∧ ro2.length = 128 ∧ wn2.length = 8) (h1 : ∀ i, i ≠ rc → em2.getD i 0 = em.getD i 0) (h2 : ∀ i, i < 24 * rc → es2.getD i (0, 0, 0, 0) = es.getD i (0, 0, 0, 0)) (h3 : ∀ i, i ≠ rc → om2.getD i 0 = om.getD i 0 ∧ wn2.getD i 0 = wn.getD i 0) (h4 : ∀ i, i < 16 * rc → ro2.getD i (0, 0, 0) = ro.getD i (0, 0, 0)) : okA xs em2 es2 om2 ro2 wn2 := by
  refine ⟨l, fun c hl => ?_⟩
  obtain ⟨a1, a2, a3, a4, a5⟩ := h.2 c hl
  have ok := hx _ (getD_mem c30 hl)
  refine ⟨(h1 c (by omega)).trans a1, fun i hi => ?_, (h3 c (by omega)).1.trans a3, fun i hi => ?_, (h3 c (by omega)).2.trans a5⟩
  · rw [h2 _ (by have := ok.1; omega)]; exact a2 i hi
  · rw [h4 _ (by have := ok.2.2.1; omega)]; exact a4 i hi
theorem okA_app {xs : List CS3} {em om wn : List Nat} {es : List Ev} {ro : List Row} {rc : Nat} {x : CS3} (h : okA xs em es om ro wn) (hc : xs.length = rc) (h1 : em.getD rc 0 = x.1.length) (h2 : inE es rc x.1) (h3 : om.getD rc 0 = x.2.1.length) (h4 : inR ro rc x.2.1) (h5 : wn.getD rc 0 = x.2.2) : okA (xs ++ [x]) em es om ro wn := by
  refine ⟨h.1, fun c hl => ?_⟩
  rw [List.length_append, List.length_singleton] at hl
  by_cases e : c = rc
  · subst e
    have : (xs ++ [x]).getD c c30 = x := by
      rw [List.getD_eq_getElem?_getD, List.getElem?_append_right (by omega), show c - xs.length = 0 by omega]
      rfl
    rw [this]
    exact ⟨h1, h2, h3, h4, h5⟩
  · rw [getD_app (by omega)]
    exact h.2 c (by omega)
theorem rdCase_to {tx : List Nat} {p : Nat} : rdCase tx p = if (caE tx p).1 = true then (if sgn tx (caE tx p).2.1 = 58 then ((toR tx (skp tx (caE tx p).2.1 + 1)).1, (toR tx (skp tx (caE tx p).2.1 + 1)).2.1, if (toR tx (skp tx (caE tx p).2.1 + 1)).1 = true then ((caE tx p).2.2, (toR tx (skp tx (caE tx p).2.1 + 1)).2.2.1, (toR tx (skp tx (caE tx p).2.1 + 1)).2.2.2) else ([], [], 0)) else (false, skp tx (caE tx p).2.1, ([], [], 0))) else (false, (caE tx p).2.1, ([], [], 0)) := by
  unfold rdCase toR
  show _ = _
  by_cases c1 : (caE tx p).1 = true
  · rw [if_pos c1, if_pos c1]
    by_cases c2 : sgn tx (caE tx p).2.1 = 58
    · rw [if_pos c2, if_pos c2]
      show (if (caT tx p).1 = true then _ else _) = _
      by_cases c3 : (caT tx p).1 = true
      · have c3' : (rdTold tx 16 (skp tx (caE tx p).2.1 + 1) []).1 = true := c3
        rw [if_pos c3, if_pos c3']
        by_cases c4 : sgn tx (caT tx p).2.1 ∈ ordL
        · have c4' : sgn tx (rdTold tx 16 (skp tx (caE tx p).2.1 + 1) []).2.1 ∈ ordL := c4
          rw [if_pos c4, if_pos c4']
          by_cases c5 : sgn tx (skp tx (caT tx p).2.1 + 1) = 59
          · have c5' : sgn tx (skp tx (rdTold tx 16 (skp tx (caE tx p).2.1 + 1) []).2.1 + 1) = 59 := c5
            rw [if_pos c5, if_pos c5']
            rfl
          · have c5' : ¬ sgn tx (skp tx (rdTold tx 16 (skp tx (caE tx p).2.1 + 1) []).2.1 + 1) = 59 := c5
            rw [if_neg c5, if_neg c5']
            rfl
        · have c4' : ¬ sgn tx (rdTold tx 16 (skp tx (caE tx p).2.1 + 1) []).2.1 ∈ ordL := c4
          rw [if_neg c4, if_neg c4']
          rfl
      · have c3' : ¬ (rdTold tx 16 (skp tx (caE tx p).2.1 + 1) []).1 = true := c3
        rw [if_neg c3, if_neg c3']
        rfl
    · rw [if_neg c2, if_neg c2]
  · rw [if_neg c1, if_neg c1]
theorem toR_le {tx : List Nat} {p : Nat} (h : p ≤ tx.length) : (toR tx p).2.1 ≤ tx.length := by
  unfold toR
  split
  · split
    · rename_i c2
      have h2 := sgn_next c2 (by decide)
      split
      · exact sgn_nx (by assumption) (by decide)
      · exact skp_le h2
    · exact skp_le (rdTold_le _ _ _ h)
  · exact rdTold_le _ _ _ h

def pMA (h : px_H) (xs : List CS3) : Prop := ∃ (em : List Nat) (es : List Ev) (om : List Nat) (ro : List Row) (wn : List Nat), px_pa h 274 50 8 vN em ∧ px_pa h 275 52 192 evS es ∧ px_pa h 276 54 192 evK es ∧ px_pa h 277 53 192 evV es ∧ px_pa h 278 53 192 evT es ∧ px_pa h 279 50 8 vN om ∧ px_pa h 280 54 128 rK ro ∧ px_pa h 281 53 128 rV ro ∧ px_pa h 282 53 128 rT ro ∧ px_pa h 283 52 8 vN wn ∧ okA xs em es om ro wn
theorem pMA_fi {h h1 : px_H} {xs : List CS3} {lo n : Nat} (q : pMA h xs) (f : px_fi lo n h h1) (d : 284 ≤ lo ∨ lo + n ≤ 274) : pMA h1 xs := by
  obtain ⟨em, es, om, ro, wn, z1, z2, z3, z4, z5, z6, z7, z8, z9, z10, y⟩ := q
  exact ⟨em, es, om, ro, wn, pa_fi z1 f (by omega), pa_fi z2 f (by omega), pa_fi z3 f (by omega), pa_fi z4 f (by omega), pa_fi z5 f (by omega), pa_fi z6 f (by omega), pa_fi z7 f (by omega), pa_fi z8 f (by omega), pa_fi z9 f (by omega), pa_fi z10 f (by omega), y⟩

set_option maxRecDepth 20000 in
set_option maxHeartbeats 4000000 in
theorem ll_Md_evs0 {P : px_H → Option Value → Prop} {h0 : px_H} {tx : List Nat} {sn cn : Int32} {rs rc tm : Nat} {wr : Int32} {gq : gQ} {gh : gH} {gw : gW} {gu : gU} {gv : gV} {y : Bool × Nat × List Ev} {es0 : List Ev} (H1 : px_pa h0 270 52 500 vN tx) (p1 : okTx tx) (hrc : rc < 8) (kf : ∀ g p (es : List Ev), pMS g tx sn cn p false (nI p) rs rc tm gq gh gw gu gv (fun _ _ _ => True) → px_fi 269 1 h0 g → y.1 = false → p = y.2.1 → es.length = 192 → (∀ i, i < 24 * rc → es.getD i (0, 0, 0, 0) = es0.getD i (0, 0, 0, 0)) → px_to 137 40 [some (.ref (269)), none] [] g P) (kx : ∀ g p n (es : List Ev), pMS g tx sn cn p false wr rs rc tm gq gh gw gu gv (fun _ _ _ => True) → px_fi 269 1 h0 g → y.1 = true → p ≤ tx.length → skp tx p = skp tx y.2.1 → n = y.2.2.length → n ≤ 24 → es.length = 192 → True → (∀ i, i < 24 * rc → es.getD i (0, 0, 0, 0) = es0.getD i (0, 0, 0, 0)) → px_to 137 48 [some (.ref (269)), some (.int (nI n))] [] g P) : ∀ (d : Nat) (n : Nat) (p : Nat) (l : List Ev) (es : List Ev) (g : px_H), (24 < n + d) → (p ≤ tx.length) → (n ≤ 24) → (rdEvs tx (24 - n) p l = y) → (l.length = n) → (es.length = 192) → (True) → ((∀ i, i < 24 * rc → es.getD i (0, 0, 0, 0) = es0.getD i (0, 0, 0, 0))) → pMS g tx sn cn p false wr rs rc tm gq gh gw gu gv (fun _ _ _ => True) → px_fi 269 1 h0 g → px_to 137 12 [some (.ref (269)), some (.int (nI n))] [] g P := by
  intro d
  induction d using Nat.strongRecOn with
  | ind d ih =>
    intro n p l es g q0 q1 q2 q3 q4 q5 q6 q7 G0 frg
    have le := pa_len H1
    have hsl : sgn tx p < 127 := tx_lt p1 _
    have hsk := skp_le q1
    refine e_iload_n f_137_12 rfl rfl ?_
    refine e_bipush (v := nI 24) f_137_13 (by decide) rfl ?_
    refine e_icmp_ge f_137_15 rfl (fun c_15 => ?_) (fun c_15 => ?_)
    · skip
      have c_15 : 24 ≤ n := cv_le (by omega) (by omega) c_15
      have hy : y.1 = true ∧ skp tx p = skp tx y.2.1 ∧ y.2.2 = l := by rw [show 24 - n = 0 by omega, rdEvs] at q3; subst q3; exact ⟨rfl, rfl, rfl⟩
      have hj := hy.2.2
      subst hj
      exact kx g _ n es G0 frg hy.1 q1 hy.2.1 q4.symm (by omega) q5 q6 q7
    · skip
      have c_15 : n < 24 := cv_nle (by omega) (by omega) c_15
      refine e_aload_n f_137_18 rfl rfl ?_
      obtain ⟨rd1, ky2, vl3, mo4, g5, hX6⟩ := id G0
      have g7 : px_pa g 270 52 500 vN tx := pa_fi H1 frg (by omega)
      refine e_callV (As := []) (rest := []) f_137_19 rfl rfl rfl (Nat.le_of_ble_eq_true rfl) (Nat.le_of_ble_eq_true rfl) g5 rfl (Nat.le_of_ble_eq_true rfl) (cc_Md_look (tx := tx) (sn := sn) (cn := cn) (p := p) (kp := false) (wr := wr) (rd := rd1) (rs := rs) (rc := rc) (tm := tm) (ky := ky2) (vl := vl3) (mo := mo4) (gq := gq) (gh := gh) (gw := gw) (gu := gu) (gv := gv) g5 g7 (by omega) (p1)) rfl (fun h8 r9 q10 => ?_)
      obtain ⟨rfl, g11, fx12⟩ := q10
      have fr13 : px_fi 269 1 h0 h8 := fi_tr frg fx12 (by omega)
      show px_to 137 22 [some (.ref (269)), some (.int (nI n))] [.int (nI (sgn tx p))] h8 _
      refine e_callS (As := [.int (nI (sgn tx p))]) (rest := []) f_137_22 rfl rfl rfl (Nat.le_of_ble_eq_true rfl) (Nat.le_of_ble_eq_true rfl) (cc_Md_isEv (s := sgn tx p)  (by omega)) rfl (fun h14 r15 q16 => ?_)
      obtain ⟨rfl, qe⟩ := q16
      have qe := qe.symm
      subst qe
      show px_to 137 25 [some (.ref (269)), some (.int (nI n))] [.int (bI (decide (sgn tx p ∈ evSigns)))] h8 _
      refine e_if_eq f_137_25 rfl (fun c_25 => ?_) (fun c_25 => ?_)
      · skip
        have c_25 : (decide (sgn tx p ∈ evSigns)) = false := bI_f c_25
        have hin : sgn tx p ∉ evSigns := of_decide_eq_false c_25
        have hy : y.1 = true ∧ skp tx (skp tx p) = skp tx y.2.1 ∧ y.2.2 = l := by rw [show 24 - n = (24 - (n + 1)) + 1 by omega, rdEvs, if_neg hin] at q3; subst q3; exact ⟨rfl, rfl, rfl⟩
        have g17 : pMS h8 tx sn cn (skp tx p) false wr rs rc tm gq gh gw gu gv (fun _ _ _ => True) := ⟨_, _, _, _, g11, trivial⟩
        have hj := hy.2.2
        subst hj
        exact kx h8 _ n es g17 fr13 hy.1 hsk hy.2.1 q4.symm (by omega) q5 q6 q7
      · skip
        have c_25 : (decide (sgn tx p ∈ evSigns)) = true := bI_t' c_25
        have hin : sgn tx p ∈ evSigns := of_decide_eq_true c_25
        have hsl2 : skp tx p + 1 ≤ tx.length := sgn_next hin (by decide)
        rw [show 24 - n = (24 - (n + 1)) + 1 by omega, rdEvs, if_pos hin] at q3
        refine e_aload_n f_137_28 rfl rfl ?_
        refine e_aload_n f_137_29 rfl rfl ?_
        have g18 : px_pa h8 270 52 500 vN tx := pa_fi H1 fr13 (by omega)
        refine e_callV (As := []) (rest := [.ref (269)]) f_137_30 rfl rfl rfl (Nat.le_of_ble_eq_true rfl) (Nat.le_of_ble_eq_true rfl) g11 rfl (Nat.le_of_ble_eq_true rfl) (cc_Md_look (tx := tx) (sn := sn) (cn := cn) (p := skp tx p) (kp := false) (wr := wr) (rd := rd1) (rs := rs) (rc := rc) (tm := tm) (ky := ky2) (vl := vl3) (mo := mo4) (gq := gq) (gh := gh) (gw := gw) (gu := gu) (gv := gv) g11 g18 (hsk) (p1)) rfl (fun h19 r20 q21 => ?_)
        obtain ⟨rfl, g22, fx23⟩ := q21
        have fr24 : px_fi 269 1 h0 h19 := fi_tr fr13 fx23 (by omega)
        show px_to 137 33 [some (.ref (269)), some (.int (nI n))] [.int (nI (sgn tx (skp tx p))), .ref (269)] h19 _
        rw [sgn_idem q1]
        have g25 : h19.2.2 269 = some (12, mB (nI tx.length, sn, cn) (nI (skp tx p), false, wr, rd1, nI rs, nI rc, nI tm, ky2, vl3, mo4) gq gh gw gu gv) := by have z := g22; rw [skp_idem q1] at z; exact z
        refine e_iload_n f_137_33 rfl rfl ?_
        have g26 : px_pa h19 270 52 500 vN tx := pa_fi H1 fr24 (by omega)
        refine e_callV (As := [.int (nI (sgn tx p)), .int (nI n)]) (rest := []) f_137_34 rfl rfl rfl (Nat.le_of_ble_eq_true rfl) (Nat.le_of_ble_eq_true rfl) g25 rfl (Nat.le_of_ble_eq_true rfl) (cc_Md_evt0 (s := sgn tx p) (n := n) (es := []) (tx := tx) (sn := sn) (cn := cn) (p := skp tx p) (kp := true) (wr := wr) (rd := rd1) (rs := rs) (rc := rc) (tm := tm) (ky := ky2) (vl := vl3) (mo := mo4) (gq := gq) (gh := gh) (gw := gw) (gu := gu) (gv := gv) g25 g26 (hsl2) (p1) (hin) (trivial) (by omega)) rfl (fun h27 r28 q29 => ?_)
        obtain ⟨rfl, g30, fx31⟩ := q29
        have fr32 : px_fi 269 1 h0 h27 := fi_tr fr24 fx31 (by omega)
        show px_to 137 37 [some (.ref (269)), some (.int (nI n))] [.int (bI ((rdEv tx (sgn tx p) (skp tx p + 1)).1))] h27 _
        refine e_if_ne f_137_37 rfl (fun c_37 => ?_) (fun c_37 => ?_)
        · skip
          have c_37 : ((rdEv tx (sgn tx p) (skp tx p + 1)).1) = true := bI_t c_37
          refine e_iinc (y := nI (n + 1)) (L' := [some (.ref (269)), some (.int (nI (n + 1)))]) f_137_42 rfl (by rw [show Int32.ofInt 1 = nI 1 by decide]; exact (nI_add _ _)) rfl rfl ?_
          refine e_goto f_137_45 ?_
          have g33 : pMS h27 tx sn cn ((rdEv tx (sgn tx p) (skp tx p + 1)).2.1) false wr rs rc tm gq gh gw gu gv (fun _ _ _ => True) := by have z := g30; rw [c_37, if_pos rfl] at z; exact z
          rw [if_pos c_37] at q3
          first | (exfalso; omega) | exact ih (d - 1) (by omega) (n + 1) ((rdEv tx (sgn tx p) (skp tx p + 1)).2.1) (l ++ [(rdEv tx (sgn tx p) (skp tx p + 1)).2.2]) es h27 (by omega) (rdEv_le hsl2) (by omega) (q3) (by rw [List.length_append, List.length_singleton]; omega) (q5) (trivial) (q7) g33 fr32
        · skip
          have c_37 : ((rdEv tx (sgn tx p) (skp tx p + 1)).1) = false := bI_f' c_37
          have g34 : pMS h27 tx sn cn ((rdEv tx (sgn tx p) (skp tx p + 1)).2.1) false (nI (rdEv tx (sgn tx p) (skp tx p + 1)).2.1) rs rc tm gq gh gw gu gv (fun _ _ _ => True) := by have z := g30; rw [c_37, if_neg (by decide)] at z; exact z
          rw [if_neg (by rw [c_37]; decide)] at q3
          subst q3
          refine px_to_L (L := [some (.ref (269)), none]) ⟨Or.inr rfl, Or.inl rfl, trivial⟩ ?_
          exact kf h27 _ es g34 fr32 rfl rfl q5 q7

set_option maxRecDepth 20000 in
set_option maxHeartbeats 4000000 in
theorem ll_Md_evs1 {P : px_H → Option Value → Prop} {h0 : px_H} {tx : List Nat} {sn cn : Int32} {rs rc tm : Nat} {wr : Int32} {gq : gQ} {gh : gH} {gw : gW} {gu : gU} {gv : gV} {y : Bool × Nat × List Ev} {es0 : List Ev} (H1 : px_pa h0 270 52 500 vN tx) (p1 : okTx tx) (hrc : rc < 8) (kf : ∀ g p (es : List Ev), pMS g tx sn cn p true (nI p) rs rc tm gq gh gw gu gv (fun _ _ _ => True) → px_pa g 275 52 192 evS es → px_pa g 276 54 192 evK es → px_pa g 277 53 192 evV es → px_pa g 278 53 192 evT es → px_fj 269 1 275 4 h0 g → y.1 = false → p = y.2.1 → es.length = 192 → (∀ i, i < 24 * rc → es.getD i (0, 0, 0, 0) = es0.getD i (0, 0, 0, 0)) → px_to 137 40 [some (.ref (269)), none] [] g P) (kx : ∀ g p n (es : List Ev), pMS g tx sn cn p true wr rs rc tm gq gh gw gu gv (fun _ _ _ => True) → px_pa g 275 52 192 evS es → px_pa g 276 54 192 evK es → px_pa g 277 53 192 evV es → px_pa g 278 53 192 evT es → px_fj 269 1 275 4 h0 g → y.1 = true → p ≤ tx.length → skp tx p = skp tx y.2.1 → n = y.2.2.length → n ≤ 24 → es.length = 192 → inE es rc y.2.2 → (∀ i, i < 24 * rc → es.getD i (0, 0, 0, 0) = es0.getD i (0, 0, 0, 0)) → px_to 137 48 [some (.ref (269)), some (.int (nI n))] [] g P) : ∀ (d : Nat) (n : Nat) (p : Nat) (l : List Ev) (es : List Ev) (g : px_H), (24 < n + d) → (p ≤ tx.length) → (n ≤ 24) → (rdEvs tx (24 - n) p l = y) → (l.length = n) → (es.length = 192) → (inE es rc l) → ((∀ i, i < 24 * rc → es.getD i (0, 0, 0, 0) = es0.getD i (0, 0, 0, 0))) → pMS g tx sn cn p true wr rs rc tm gq gh gw gu gv (fun _ _ _ => True) → px_pa g 275 52 192 evS es → px_pa g 276 54 192 evK es → px_pa g 277 53 192 evV es → px_pa g 278 53 192 evT es → px_fj 269 1 275 4 h0 g → px_to 137 12 [some (.ref (269)), some (.int (nI n))] [] g P := by
  intro d
  induction d using Nat.strongRecOn with
  | ind d ih =>
    intro n p l es g q0 q1 q2 q3 q4 q5 q6 q7 G0 G1 G2 G3 G4 frg
    have le := pa_len H1
    have hsl : sgn tx p < 127 := tx_lt p1 _
    have hsk := skp_le q1
    refine e_iload_n f_137_12 rfl rfl ?_
    refine e_bipush (v := nI 24) f_137_13 (by decide) rfl ?_
    refine e_icmp_ge f_137_15 rfl (fun c_15 => ?_) (fun c_15 => ?_)
    · skip
      have c_15 : 24 ≤ n := cv_le (by omega) (by omega) c_15
      have hy : y.1 = true ∧ skp tx p = skp tx y.2.1 ∧ y.2.2 = l := by rw [show 24 - n = 0 by omega, rdEvs] at q3; subst q3; exact ⟨rfl, rfl, rfl⟩
      have hj := hy.2.2
      subst hj
      exact kx g _ n es G0 G1 G2 G3 G4 frg hy.1 q1 hy.2.1 q4.symm (by omega) q5 q6 q7
    · skip
      have c_15 : n < 24 := cv_nle (by omega) (by omega) c_15
      refine e_aload_n f_137_18 rfl rfl ?_
      obtain ⟨rd1, ky2, vl3, mo4, g5, hX6⟩ := id G0
      obtain ⟨hm8, fa9, fb10⟩ := fj_mid frg
      have g7 : px_pa g 270 52 500 vN tx := pa_fi (pa_fi H1 fa9 (by omega)) fb10 (by omega)
      refine e_callV (As := []) (rest := []) f_137_19 rfl rfl rfl (Nat.le_of_ble_eq_true rfl) (Nat.le_of_ble_eq_true rfl) g5 rfl (Nat.le_of_ble_eq_true rfl) (cc_Md_look (tx := tx) (sn := sn) (cn := cn) (p := p) (kp := true) (wr := wr) (rd := rd1) (rs := rs) (rc := rc) (tm := tm) (ky := ky2) (vl := vl3) (mo := mo4) (gq := gq) (gh := gh) (gw := gw) (gu := gu) (gv := gv) g5 g7 (by omega) (p1)) rfl (fun h11 r12 q13 => ?_)
      obtain ⟨rfl, g14, fx15⟩ := q13
      have fr16 : px_fj 269 1 275 4 h0 h11 := fj_tr frg fx15 (by omega)
      show px_to 137 22 [some (.ref (269)), some (.int (nI n))] [.int (nI (sgn tx p))] h11 _
      refine e_callS (As := [.int (nI (sgn tx p))]) (rest := []) f_137_22 rfl rfl rfl (Nat.le_of_ble_eq_true rfl) (Nat.le_of_ble_eq_true rfl) (cc_Md_isEv (s := sgn tx p)  (by omega)) rfl (fun h17 r18 q19 => ?_)
      obtain ⟨rfl, qe⟩ := q19
      have qe := qe.symm
      subst qe
      show px_to 137 25 [some (.ref (269)), some (.int (nI n))] [.int (bI (decide (sgn tx p ∈ evSigns)))] h11 _
      refine e_if_eq f_137_25 rfl (fun c_25 => ?_) (fun c_25 => ?_)
      · skip
        have c_25 : (decide (sgn tx p ∈ evSigns)) = false := bI_f c_25
        have hin : sgn tx p ∉ evSigns := of_decide_eq_false c_25
        have hy : y.1 = true ∧ skp tx (skp tx p) = skp tx y.2.1 ∧ y.2.2 = l := by rw [show 24 - n = (24 - (n + 1)) + 1 by omega, rdEvs, if_neg hin] at q3; subst q3; exact ⟨rfl, rfl, rfl⟩
        have g20 : pMS h11 tx sn cn (skp tx p) true wr rs rc tm gq gh gw gu gv (fun _ _ _ => True) := ⟨_, _, _, _, g14, trivial⟩
        have g21 : px_pa h11 275 52 192 evS es := pa_fi G1 fx15 (by omega)
        have g22 : px_pa h11 276 54 192 evK es := pa_fi G2 fx15 (by omega)
        have g23 : px_pa h11 277 53 192 evV es := pa_fi G3 fx15 (by omega)
        have g24 : px_pa h11 278 53 192 evT es := pa_fi G4 fx15 (by omega)
        have hj := hy.2.2
        subst hj
        exact kx h11 _ n es g20 g21 g22 g23 g24 fr16 hy.1 hsk hy.2.1 q4.symm (by omega) q5 q6 q7
      · skip
        have c_25 : (decide (sgn tx p ∈ evSigns)) = true := bI_t' c_25
        have hin : sgn tx p ∈ evSigns := of_decide_eq_true c_25
        have hsl2 : skp tx p + 1 ≤ tx.length := sgn_next hin (by decide)
        rw [show 24 - n = (24 - (n + 1)) + 1 by omega, rdEvs, if_pos hin] at q3
        refine e_aload_n f_137_28 rfl rfl ?_
        refine e_aload_n f_137_29 rfl rfl ?_
        obtain ⟨hm26, fa27, fb28⟩ := fj_mid fr16
        have g25 : px_pa h11 270 52 500 vN tx := pa_fi (pa_fi H1 fa27 (by omega)) fb28 (by omega)
        refine e_callV (As := []) (rest := [.ref (269)]) f_137_30 rfl rfl rfl (Nat.le_of_ble_eq_true rfl) (Nat.le_of_ble_eq_true rfl) g14 rfl (Nat.le_of_ble_eq_true rfl) (cc_Md_look (tx := tx) (sn := sn) (cn := cn) (p := skp tx p) (kp := true) (wr := wr) (rd := rd1) (rs := rs) (rc := rc) (tm := tm) (ky := ky2) (vl := vl3) (mo := mo4) (gq := gq) (gh := gh) (gw := gw) (gu := gu) (gv := gv) g14 g25 (hsk) (p1)) rfl (fun h29 r30 q31 => ?_)
        obtain ⟨rfl, g32, fx33⟩ := q31
        have fr34 : px_fj 269 1 275 4 h0 h29 := fj_tr fr16 fx33 (by omega)
        show px_to 137 33 [some (.ref (269)), some (.int (nI n))] [.int (nI (sgn tx (skp tx p))), .ref (269)] h29 _
        rw [sgn_idem q1]
        have g35 : h29.2.2 269 = some (12, mB (nI tx.length, sn, cn) (nI (skp tx p), true, wr, rd1, nI rs, nI rc, nI tm, ky2, vl3, mo4) gq gh gw gu gv) := by have z := g32; rw [skp_idem q1] at z; exact z
        refine e_iload_n f_137_33 rfl rfl ?_
        obtain ⟨hm37, fa38, fb39⟩ := fj_mid fr34
        have g36 : px_pa h29 270 52 500 vN tx := pa_fi (pa_fi H1 fa38 (by omega)) fb39 (by omega)
        have g40 : px_pa h11 275 52 192 evS es := pa_fi G1 fx15 (by omega)
        have g41 : px_pa h29 275 52 192 evS es := pa_fi g40 fx33 (by omega)
        have g42 : px_pa h11 276 54 192 evK es := pa_fi G2 fx15 (by omega)
        have g43 : px_pa h29 276 54 192 evK es := pa_fi g42 fx33 (by omega)
        have g44 : px_pa h11 277 53 192 evV es := pa_fi G3 fx15 (by omega)
        have g45 : px_pa h29 277 53 192 evV es := pa_fi g44 fx33 (by omega)
        have g46 : px_pa h11 278 53 192 evT es := pa_fi G4 fx15 (by omega)
        have g47 : px_pa h29 278 53 192 evT es := pa_fi g46 fx33 (by omega)
        refine e_callV (As := [.int (nI (sgn tx p)), .int (nI n)]) (rest := []) f_137_34 rfl rfl rfl (Nat.le_of_ble_eq_true rfl) (Nat.le_of_ble_eq_true rfl) g35 rfl (Nat.le_of_ble_eq_true rfl) (cc_Md_evt1 (s := sgn tx p) (n := n) (es := es) (tx := tx) (sn := sn) (cn := cn) (p := skp tx p) (kp := true) (wr := wr) (rd := rd1) (rs := rs) (rc := rc) (tm := tm) (ky := ky2) (vl := vl3) (mo := mo4) (gq := gq) (gh := gh) (gw := gw) (gu := gu) (gv := gv) g35 g36 g41 g43 g45 g47 (hsl2) (p1) (hin) (q5) (by omega)) rfl (fun h48 r49 q50 => ?_)
        obtain ⟨rfl, g51, g52, g53, g54, g55, fx56⟩ := q50
        obtain ⟨hm57, fa58, fb59⟩ := fj_mid fx56
        have fr60 : px_fj 269 1 275 4 h0 hm57 := fj_tr fr34 fa58 (by omega)
        have fr61 : px_fj 269 1 275 4 h0 h48 := fj_tr fr60 fb59 (by omega)
        show px_to 137 37 [some (.ref (269)), some (.int (nI n))] [.int (bI ((rdEv tx (sgn tx p) (skp tx p + 1)).1))] h48 _
        refine e_if_ne f_137_37 rfl (fun c_37 => ?_) (fun c_37 => ?_)
        · skip
          have c_37 : ((rdEv tx (sgn tx p) (skp tx p + 1)).1) = true := bI_t c_37
          refine e_iinc (y := nI (n + 1)) (L' := [some (.ref (269)), some (.int (nI (n + 1)))]) f_137_42 rfl (by rw [show Int32.ofInt 1 = nI 1 by decide]; exact (nI_add _ _)) rfl rfl ?_
          refine e_goto f_137_45 ?_
          have g62 : pMS h48 tx sn cn ((rdEv tx (sgn tx p) (skp tx p + 1)).2.1) true wr rs rc tm gq gh gw gu gv (fun _ _ _ => True) := by have z := g51; rw [c_37, if_pos rfl] at z; exact z
          have g63 : px_pa h48 275 52 192 evS (es.set (24 * rc + n) (rdEv tx (sgn tx p) (skp tx p + 1)).2.2) := by have z := g52; rw [c_37, if_pos rfl] at z; exact z
          have g64 : px_pa h48 276 54 192 evK (es.set (24 * rc + n) (rdEv tx (sgn tx p) (skp tx p + 1)).2.2) := by have z := g53; rw [c_37, if_pos rfl] at z; exact z
          have g65 : px_pa h48 277 53 192 evV (es.set (24 * rc + n) (rdEv tx (sgn tx p) (skp tx p + 1)).2.2) := by have z := g54; rw [c_37, if_pos rfl] at z; exact z
          have g66 : px_pa h48 278 53 192 evT (es.set (24 * rc + n) (rdEv tx (sgn tx p) (skp tx p + 1)).2.2) := by have z := g55; rw [c_37, if_pos rfl] at z; exact z
          rw [if_pos c_37] at q3
          first | (exfalso; omega) | exact ih (d - 1) (by omega) (n + 1) ((rdEv tx (sgn tx p) (skp tx p + 1)).2.1) (l ++ [(rdEv tx (sgn tx p) (skp tx p + 1)).2.2]) (es.set (24 * rc + n) (rdEv tx (sgn tx p) (skp tx p + 1)).2.2) h48 (by omega) (rdEv_le hsl2) (by omega) (q3) (by rw [List.length_append, List.length_singleton]; omega) (by rw [List.length_set]; exact q5) (inE_app q4 (by omega) q6) (fun i hi => by rw [getD_set_ne (by omega)]; exact q7 i hi) g62 g63 g64 g65 g66 fr61
        · skip
          have c_37 : ((rdEv tx (sgn tx p) (skp tx p + 1)).1) = false := bI_f' c_37
          have g67 : pMS h48 tx sn cn ((rdEv tx (sgn tx p) (skp tx p + 1)).2.1) true (nI (rdEv tx (sgn tx p) (skp tx p + 1)).2.1) rs rc tm gq gh gw gu gv (fun _ _ _ => True) := by have z := g51; rw [c_37, if_neg (by decide)] at z; exact z
          have g68 : px_pa h48 275 52 192 evS es := by have z := g52; rw [c_37, if_neg (by decide)] at z; exact z
          have g69 : px_pa h48 276 54 192 evK es := by have z := g53; rw [c_37, if_neg (by decide)] at z; exact z
          have g70 : px_pa h48 277 53 192 evV es := by have z := g54; rw [c_37, if_neg (by decide)] at z; exact z
          have g71 : px_pa h48 278 53 192 evT es := by have z := g55; rw [c_37, if_neg (by decide)] at z; exact z
          rw [if_neg (by rw [c_37]; decide)] at q3
          subst q3
          refine px_to_L (L := [some (.ref (269)), none]) ⟨Or.inr rfl, Or.inl rfl, trivial⟩ ?_
          exact kf h48 _ es g67 g68 g69 g70 g71 fr61 rfl rfl q5 q7
