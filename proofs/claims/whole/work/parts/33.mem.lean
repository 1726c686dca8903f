def px_rs (h : px_H) (a kd n : Nat) (f : Nat → Nat) : Prop := h.2.2 a = some (kd, (List.range n).map (fun k => Value.ref (f k)))
theorem rs_fi {lo n a kd c : Nat} {f : Nat → Nat} {h h1 : px_H} (hc : px_rs h a kd c f) (fr : px_fi lo n h h1) (d : a + 1 ≤ lo ∨ lo + n ≤ a) : px_rs h1 a kd c f := fi_at hc fr d
theorem e_aaload_r {m pc pc' : Nat} {L : px_L} {st : List Value} {h : px_H} {P : px_H → Option Value → Prop} {ln a0 b0 : Nat} {v0 : Value} {a kd n k : Nat} {f : Nat → Nat} (hf : px_at m pc = some (.aaload, ln, a0, b0, v0)) (hkd : kd = 55 ∨ kd = 56) (hq : px_rs h a kd n f) (hk : k < n) (hn : n < 1000) (hp : pc + 1 = pc') (j : px_to m pc' L (.ref (f k) :: st) h P) : px_to m pc L (.int (nI k) :: .ref a :: st) h P := by
  refine e_aaload hf hq hkd (nI_pos (by omega)) ?_ hp j
  rw [nI_clamp (by omega), List.getElem?_map, List.getElem?_range hk]
  rfl
def pSt (h : px_H) (M : Nat) (sms : List SM) : Prop := ∀ k, k < 6 → ∃ s, pSM h (M + 5 * k + 2) s ∧ (k < sms.length → s = sms.getD k sm0)
def pStx (h : px_H) (M : Nat) (sms : List SM) (k : Nat) : Prop := ∀ q, q < 6 → q ≠ k → ∃ s, pSM h (M + 5 * q + 2) s ∧ (q < sms.length → s = sms.getD q sm0)
theorem pSt_fi {h h1 : px_H} {M lo n : Nat} {sms : List SM} (p : pSt h M sms) (f : px_fi lo n h h1) (d : M + 32 ≤ lo ∨ lo + n ≤ M + 2) : pSt h1 M sms := fun k hk => by
  obtain ⟨s, h2, h3⟩ := p k hk
  exact ⟨s, pSM_fi h2 f (by omega), h3⟩
theorem pStx_fi {h h1 : px_H} {M lo n k : Nat} {sms : List SM} (p : pStx h M sms k) (f : px_fi lo n h h1) (d : M + 32 ≤ lo ∨ lo + n ≤ M + 2 ∨ (M + 5 * k + 2 ≤ lo ∧ lo + n ≤ M + 5 * k + 7)) : pStx h1 M sms k := fun q hq hn => by
  obtain ⟨s, h2, h3⟩ := p q hq hn
  exact ⟨s, pSM_fi h2 f (by omega), h3⟩
theorem pSt_out {h : px_H} {M k : Nat} {sms : List SM} (p : pSt h M sms) (hk : k < 6) : (∃ s, pSM h (M + 5 * k + 2) s ∧ (k < sms.length → s = sms.getD k sm0)) ∧ pStx h M sms k := ⟨p k hk, fun q hq _ => p q hq⟩
theorem pSt_get {h : px_H} {M k : Nat} {sms : List SM} (p : pSt h M sms) (hk : k < 6) (hl : k < sms.length) : pSM h (M + 5 * k + 2) (sms.getD k sm0) ∧ pStx h M sms k := by
  obtain ⟨⟨s, h1, h2⟩, h3⟩ := pSt_out p hk
  exact ⟨h2 hl ▸ h1, h3⟩
theorem pSt_in {h : px_H} {M k : Nat} {sms : List SM} {s : SM} (p : pStx h M sms k) (q : pSM h (M + 5 * k + 2) s) : pSt h M (sms.set k s) := fun i hi => by
  by_cases e : i = k
  · subst e
    exact ⟨s, q, fun hl => (getD_set_same (by rw [List.length_set] at hl; exact hl)).symm⟩
  · obtain ⟨s2, h2, h3⟩ := p i hi e
    exact ⟨s2, h2, fun hl => by rw [getD_set_ne (fun z => e z.symm)]; exact h3 (by rw [List.length_set] at hl; exact hl)⟩
theorem pSt_app {h : px_H} {M k : Nat} {sms : List SM} {s : SM} (p : pStx h M sms k) (q : pSM h (M + 5 * k + 2) s) (hk : sms.length = k) : pSt h M (sms ++ [s]) := fun i hi => by
  by_cases e : i = k
  · subst e
    refine ⟨s, q, fun hl => ?_⟩
    rw [List.getD_eq_getElem?_getD, List.getElem?_append_right (by omega), hk, Nat.sub_self]
    rfl
  · obtain ⟨s2, h2, h3⟩ := p i hi e
    refine ⟨s2, h2, fun hl => ?_⟩
    rw [List.length_append, List.length_singleton] at hl
    rw [getD_app (by omega)]
    exact h3 (by omega)
theorem pSt_nil {h : px_H} {M : Nat} {sms : List SM} (p : pSt h M sms) : pSt h M [] := fun k hk => by
  obtain ⟨s, h2, h3⟩ := p k hk
  exact ⟨s, h2, fun z => absurd z (by simp)⟩
theorem pSt_eq {h : px_H} {M : Nat} {x y : List SM} (p : pSt h M x) (e : x = y) : pSt h M y := e ▸ p
def iMax (x y : Int32) : Int32 := if x < y then y else x
def iMin (x y : Int32) : Int32 := if y < x then y else x

set_option maxRecDepth 20000 in
set_option maxHeartbeats 4000000 in
theorem ll_Mem_clear {h0 : px_H} {M n : Nat} (p0 : 17 ≤ M) (p1 : n ≤ 6) : ∀ (d : Nat) (i : Nat) (g : px_H), (n ≤ i + d) → (i ≤ n) → g.2.2 M = some (2, [.int ((-1)), .int ((-1)), .int ((-1)), .int (nI 0), .ref (M + 1)]) → px_rs g (M + 1) 55 6 (fun k => M + 5 * k + 2) → pSt g M (List.replicate i sm0) → px_fi M 32 h0 g → px_to 14 22 [some (.ref (M)), some (.int (nI n)), some (.int (nI i))] [] g (fun h1 r => r = none ∧ h1.2.2 M = some (2, [.int ((-1)), .int ((-1)), .int ((-1)), .int (nI 0), .ref (M + 1)]) ∧ px_rs h1 (M + 1) 55 6 (fun k => M + 5 * k + 2) ∧ pSt h1 M (List.replicate n sm0) ∧ px_fi M 32 h0 h1) := by
  intro d
  induction d using Nat.strongRecOn with
  | ind d ih =>
    intro i g q0 q1 G0 G1 G2 frg
    refine e_iload_n f_14_22 rfl rfl ?_
    refine e_iload_n f_14_23 rfl rfl ?_
    refine e_icmp_ge f_14_24 rfl (fun c_24 => ?_) (fun c_24 => ?_)
    · skip
      have c_24 : n ≤ i := cv_le (by omega) (by omega) c_24
      refine e_vret f_14_48 rfl ?_
      have e : i = n := by omega
      subst e
      exact ⟨rfl, G0, G1, G2, frg⟩
    · skip
      have c_24 : i < n := cv_nle (by omega) (by omega) c_24
      refine e_iload_n f_14_27 rfl rfl ?_
      refine e_bipush (v := nI 6) f_14_28 (by decide) rfl ?_
      refine e_icmp_ge f_14_30 rfl (fun c_30 => ?_) (fun c_30 => ?_)
      · skip
        have c_30 : 6 ≤ i := cv_le (by omega) (by omega) c_30
        refine e_vret f_14_48 rfl ?_
        have e : i = n := by omega
        subst e
        exact ⟨rfl, G0, G1, G2, frg⟩
      · skip
        have c_30 : i < 6 := cv_nle (by omega) (by omega) c_30
        refine e_aload_n f_14_33 rfl rfl ?_
        refine e_getf f_14_34 G0 rfl rfl ?_
        refine e_iload_n f_14_37 rfl rfl ?_
        refine e_aaload_r f_14_38 (by decide) G1 (by first | omega | (simp only [List.length_set]; omega)) (by decide) rfl ?_
        show px_to 14 39 [some (.ref (M)), some (.int (nI n)), some (.int (nI i))] [.ref (M + 5 * i + 2)] g _
        obtain ⟨⟨⟨to, su, ti, ms, cs⟩, g1, _⟩, g2⟩ := pSt_out (k := i) G2 (by omega)
        refine e_callV (As := []) (rest := []) f_14_39 rfl rfl rfl (Nat.le_of_ble_eq_true rfl) (Nat.le_of_ble_eq_true rfl) g1.1 rfl (Nat.le_of_ble_eq_true rfl) (cc_SM_clear (a := M + 5 * i + 2) (to := to) (su := su) (ti := ti) (ms := ms) (cs := cs) g1 (by omega)) rfl (fun h3 r4 q5 => ?_)
        obtain ⟨rfl, g6, fx7⟩ := q5
        have fr8 : px_fi M 32 h0 h3 := fi_tr frg fx7 (by omega)
        show px_to 14 42 [some (.ref (M)), some (.int (nI n)), some (.int (nI i))] [] h3 _
        refine e_iinc (y := nI (i + 1)) (L' := [some (.ref (M)), some (.int (nI n)), some (.int (nI (i + 1)))]) f_14_42 rfl (by rw [show Int32.ofInt 1 = nI 1 by decide]; exact (nI_add _ _)) rfl rfl ?_
        refine e_goto f_14_45 ?_
        have g9 : pStx h3 M (List.replicate i sm0) i := pStx_fi g2 fx7 (by omega)
        have g10 : pSt h3 M ((List.replicate i sm0) ++ [sm0]) := pSt_app g9 g6 (by simp)
        have g11 : pSt h3 M (List.replicate (i + 1) sm0) := pSt_eq g10 List.replicate_succ'.symm
        have g12 : h3.2.2 M = some (2, [.int ((-1)), .int ((-1)), .int ((-1)), .int (nI 0), .ref (M + 1)]) := fi_at G0 fx7 (by omega)
        have g13 : px_rs h3 (M + 1) 55 6 (fun k => M + 5 * k + 2) := rs_fi G1 fx7 (by omega)
        first | (exfalso; omega) | exact ih (d - 1) (by omega) (i + 1) h3 (by omega) (by omega) g12 g13 g11 fr8

set_option maxRecDepth 20000 in
set_option maxHeartbeats 4000000 in
theorem cc_Mem_clear {h : px_H} {n : Nat} {M : Nat} {A B W S : Int32} {sms : List SM} (H0 : h.2.2 M = some (2, [.int (A), .int (B), .int (W), .int (S), .ref (M + 1)])) (H1 : px_rs h (M + 1) 55 6 (fun k => M + 5 * k + 2)) (H2 : pSt h M sms) (p0 : 17 ≤ M) (p1 : n ≤ 6) : px_wp 14 [.ref (M), .int (nI n)] h (fun h1 r => r = none ∧ h1.2.2 M = some (2, [.int ((-1)), .int ((-1)), .int ((-1)), .int (nI 0), .ref (M + 1)]) ∧ px_rs h1 (M + 1) 55 6 (fun k => M + 5 * k + 2) ∧ pSt h1 M (List.replicate n sm0) ∧ px_fi M 32 h h1) := by
  have fr0 : px_fi M 32 h h := fi_rf _ _ _
  show px_to 14 0 [some (.ref (M)), some (.int (nI n)), none] [] h _
  refine e_aload_n f_14_0 rfl rfl ?_
  refine e_iconst (v := (-1)) f_14_1 (by decide) rfl ?_
  refine e_putp (vs' := [.int ((-1)), .int (B), .int (W), .int (S), .ref (M + 1)]) f_14_2 H0 (Nat.le_of_ble_eq_true rfl) (rfl) (rfl) rfl rfl (fun h1 g2 fx3 => ?_)
  have fr4 : px_fi M 32 h h1 := fi_tr fr0 fx3 (by omega)
  refine e_aload_n f_14_5 rfl rfl ?_
  refine e_iconst (v := (-1)) f_14_6 (by decide) rfl ?_
  refine e_putp (vs' := [.int ((-1)), .int ((-1)), .int (W), .int (S), .ref (M + 1)]) f_14_7 g2 (Nat.le_of_ble_eq_true rfl) (rfl) (rfl) rfl rfl (fun h5 g6 fx7 => ?_)
  have fr8 : px_fi M 32 h h5 := fi_tr fr4 fx7 (by omega)
  refine e_aload_n f_14_10 rfl rfl ?_
  refine e_iconst (v := (-1)) f_14_11 (by decide) rfl ?_
  refine e_putp (vs' := [.int ((-1)), .int ((-1)), .int ((-1)), .int (S), .ref (M + 1)]) f_14_12 g6 (Nat.le_of_ble_eq_true rfl) (rfl) (rfl) rfl rfl (fun h9 g10 fx11 => ?_)
  have fr12 : px_fi M 32 h h9 := fi_tr fr8 fx11 (by omega)
  refine e_aload_n f_14_15 rfl rfl ?_
  refine e_iconst (v := nI 0) f_14_16 (by decide) rfl ?_
  refine e_putp (vs' := [.int ((-1)), .int ((-1)), .int ((-1)), .int (nI 0), .ref (M + 1)]) f_14_17 g10 (Nat.le_of_ble_eq_true rfl) (rfl) (rfl) rfl rfl (fun h13 g14 fx15 => ?_)
  have fr16 : px_fi M 32 h h13 := fi_tr fr12 fx15 (by omega)
  refine e_iconst (v := nI 0) f_14_20 (by decide) rfl ?_
  refine e_istore_n (L' := [some (.ref (M)), some (.int (nI n)), some (.int (nI 0))]) f_14_21 (Nat.le_of_ble_eq_true rfl) rfl rfl ?_
  have g17 : px_rs h1 (M + 1) 55 6 (fun k => M + 5 * k + 2) := rs_fi H1 fx3 (by omega)
  have g18 : px_rs h5 (M + 1) 55 6 (fun k => M + 5 * k + 2) := rs_fi g17 fx7 (by omega)
  have g19 : px_rs h9 (M + 1) 55 6 (fun k => M + 5 * k + 2) := rs_fi g18 fx11 (by omega)
  have g20 : px_rs h13 (M + 1) 55 6 (fun k => M + 5 * k + 2) := rs_fi g19 fx15 (by omega)
  have g21 : pSt h1 M sms := pSt_fi H2 fx3 (by omega)
  have g22 : pSt h5 M sms := pSt_fi g21 fx7 (by omega)
  have g23 : pSt h9 M sms := pSt_fi g22 fx11 (by omega)
  have g24 : pSt h13 M sms := pSt_fi g23 fx15 (by omega)
  exact ll_Mem_clear (h0 := h) p0 p1 n 0 h13 (by omega) (by omega) g14 g20 (pSt_nil g24) fr16

set_option maxRecDepth 20000 in
set_option maxHeartbeats 4000000 in
theorem ll_Mem_copy {h0 : px_H} {M n : Nat} {M2 : Nat} {A2 B2 W2 S2 : Int32} {sm2 : List SM} (p0 : 17 ≤ M) (p1 : n ≤ 6) (p2 : M + 32 ≤ M2 ∨ M2 + 32 ≤ M) (p3 : sm2.length = n) (p4 : ∀ k, k < sm2.length → (sm2.getD k sm0).2.2.2.2.length ≤ (sm2.getD k sm0).2.2.2.1.length) (H3 : h0.2.2 M2 = some (2, [.int (A2), .int (B2), .int (W2), .int (S2), .ref (M2 + 1)])) (H4 : px_rs h0 (M2 + 1) 55 6 (fun k => M2 + 5 * k + 2)) (H5 : pSt h0 M2 sm2) : ∀ (d : Nat) (i : Nat) (g : px_H), (n ≤ i + d) → (i ≤ n) → g.2.2 M = some (2, [.int (A2), .int (B2), .int (W2), .int (S2), .ref (M + 1)]) → px_rs g (M + 1) 55 6 (fun k => M + 5 * k + 2) → pSt g M (sm2.take i) → px_fi M 32 h0 g → px_to 15 34 [some (.ref (M)), some (.ref (M2)), some (.int (nI n)), some (.int (nI i))] [] g (fun h1 r => r = none ∧ h1.2.2 M = some (2, [.int (A2), .int (B2), .int (W2), .int (S2), .ref (M + 1)]) ∧ px_rs h1 (M + 1) 55 6 (fun k => M + 5 * k + 2) ∧ pSt h1 M sm2 ∧ px_fi M 32 h0 h1) := by
  intro d
  induction d using Nat.strongRecOn with
  | ind d ih =>
    intro i g q0 q1 G0 G1 G2 frg
    refine e_iload_n f_15_34 rfl rfl ?_
    refine e_iload_n f_15_35 rfl rfl ?_
    refine e_icmp_ge f_15_36 rfl (fun c_36 => ?_) (fun c_36 => ?_)
    · skip
      have c_36 : n ≤ i := cv_le (by omega) (by omega) c_36
      refine e_vret f_15_66 rfl ?_
      have e : i = n := by omega
      subst e
      exact ⟨rfl, G0, G1, pSt_eq G2 (take_all p3), frg⟩
    · skip
      have c_36 : i < n := cv_nle (by omega) (by omega) c_36
      refine e_iload_n f_15_39 rfl rfl ?_
      refine e_bipush (v := nI 6) f_15_40 (by decide) rfl ?_
      refine e_icmp_ge f_15_42 rfl (fun c_42 => ?_) (fun c_42 => ?_)
      · skip
        have c_42 : 6 ≤ i := cv_le (by omega) (by omega) c_42
        refine e_vret f_15_66 rfl ?_
        have e : i = n := by omega
        subst e
        exact ⟨rfl, G0, G1, pSt_eq G2 (take_all p3), frg⟩
      · skip
        have c_42 : i < 6 := cv_nle (by omega) (by omega) c_42
        refine e_aload_n f_15_45 rfl rfl ?_
        refine e_getf f_15_46 G0 rfl rfl ?_
        refine e_iload_n f_15_49 rfl rfl ?_
        refine e_aaload_r f_15_50 (by decide) G1 (by first | omega | (simp only [List.length_set]; omega)) (by decide) rfl ?_
        show px_to 15 51 [some (.ref (M)), some (.ref (M2)), some (.int (nI n)), some (.int (nI i))] [.ref (M + 5 * i + 2)] g _
        refine e_aload_n f_15_51 rfl rfl ?_
        have g1 : g.2.2 M2 = some (2, [.int (A2), .int (B2), .int (W2), .int (S2), .ref (M2 + 1)]) := fi_at H3 frg (by omega)
        refine e_getf f_15_52 g1 rfl rfl ?_
        refine e_iload_n f_15_55 rfl rfl ?_
        have g2 : px_rs g (M2 + 1) 55 6 (fun k => M2 + 5 * k + 2) := rs_fi H4 frg (by omega)
        refine e_aaload_r f_15_56 (by decide) g2 (by first | omega | (simp only [List.length_set]; omega)) (by decide) rfl ?_
        show px_to 15 57 [some (.ref (M)), some (.ref (M2)), some (.int (nI n)), some (.int (nI i))] [.ref (M2 + 5 * i + 2), .ref (M + 5 * i + 2)] g _
        obtain ⟨⟨⟨to, su, ti, ms, cs⟩, g3, _⟩, g4⟩ := pSt_out (k := i) G2 (by omega)
        have g5 : pSt g M2 sm2 := pSt_fi H5 frg (by omega)
        have g6 : pSM g (M2 + 5 * i + 2) ((sm2.getD i sm0).1, (sm2.getD i sm0).2.1, (sm2.getD i sm0).2.2.1, (sm2.getD i sm0).2.2.2.1, (sm2.getD i sm0).2.2.2.2) := (pSt_get (k := i) g5 (by omega) (by omega)).1
        refine e_callV (As := [.ref (M2 + 5 * i + 2)]) (rest := []) f_15_57 rfl rfl rfl (Nat.le_of_ble_eq_true rfl) (Nat.le_of_ble_eq_true rfl) g3.1 rfl (Nat.le_of_ble_eq_true rfl) (cc_SM_copy (a := M + 5 * i + 2) (to := to) (su := su) (ti := ti) (ms := ms) (cs := cs) (b := M2 + 5 * i + 2) (t2 := (sm2.getD i sm0).1) (u2 := (sm2.getD i sm0).2.1) (i2 := (sm2.getD i sm0).2.2.1) (m2 := (sm2.getD i sm0).2.2.2.1) (c2 := (sm2.getD i sm0).2.2.2.2) g3 g6 (by omega) (by omega) (p4 i (by omega))) rfl (fun h7 r8 q9 => ?_)
        obtain ⟨rfl, g10, fx11⟩ := q9
        have fr12 : px_fi M 32 h0 h7 := fi_tr frg fx11 (by omega)
        show px_to 15 60 [some (.ref (M)), some (.ref (M2)), some (.int (nI n)), some (.int (nI i))] [] h7 _
        refine e_iinc (y := nI (i + 1)) (L' := [some (.ref (M)), some (.ref (M2)), some (.int (nI n)), some (.int (nI (i + 1)))]) f_15_60 rfl (by rw [show Int32.ofInt 1 = nI 1 by decide]; exact (nI_add _ _)) rfl rfl ?_
        refine e_goto f_15_63 ?_
        have g13 : pStx h7 M (sm2.take i) i := pStx_fi g4 fx11 (by omega)
        have g14 : pSt h7 M ((sm2.take i) ++ [(sm2.getD i sm0)]) := pSt_app g13 g10 (by rw [List.length_take]; omega)
        have g15 : pSt h7 M (sm2.take (i + 1)) := pSt_eq g14 (take_s sm0 (by omega)).symm
        have g16 : h7.2.2 M = some (2, [.int (A2), .int (B2), .int (W2), .int (S2), .ref (M + 1)]) := fi_at G0 fx11 (by omega)
        have g17 : px_rs h7 (M + 1) 55 6 (fun k => M + 5 * k + 2) := rs_fi G1 fx11 (by omega)
        first | (exfalso; omega) | exact ih (d - 1) (by omega) (i + 1) h7 (by omega) (by omega) g16 g17 g15 fr12

set_option maxRecDepth 20000 in
set_option maxHeartbeats 4000000 in
theorem cc_Mem_copy {h : px_H} {n : Nat} {M : Nat} {A B W S : Int32} {sms : List SM} {M2 : Nat} {A2 B2 W2 S2 : Int32} {sm2 : List SM} (H0 : h.2.2 M = some (2, [.int (A), .int (B), .int (W), .int (S), .ref (M + 1)])) (H1 : px_rs h (M + 1) 55 6 (fun k => M + 5 * k + 2)) (H2 : pSt h M sms) (H3 : h.2.2 M2 = some (2, [.int (A2), .int (B2), .int (W2), .int (S2), .ref (M2 + 1)])) (H4 : px_rs h (M2 + 1) 55 6 (fun k => M2 + 5 * k + 2)) (H5 : pSt h M2 sm2) (p0 : 17 ≤ M) (p1 : n ≤ 6) (p2 : M + 32 ≤ M2 ∨ M2 + 32 ≤ M) (p3 : sm2.length = n) (p4 : ∀ k, k < sm2.length → (sm2.getD k sm0).2.2.2.2.length ≤ (sm2.getD k sm0).2.2.2.1.length) : px_wp 15 [.ref (M), .ref (M2), .int (nI n)] h (fun h1 r => r = none ∧ h1.2.2 M = some (2, [.int (A2), .int (B2), .int (W2), .int (S2), .ref (M + 1)]) ∧ px_rs h1 (M + 1) 55 6 (fun k => M + 5 * k + 2) ∧ pSt h1 M sm2 ∧ px_fi M 32 h h1) := by
  have fr0 : px_fi M 32 h h := fi_rf _ _ _
  show px_to 15 0 [some (.ref (M)), some (.ref (M2)), some (.int (nI n)), none] [] h _
  refine e_aload_n f_15_0 rfl rfl ?_
  refine e_aload_n f_15_1 rfl rfl ?_
  refine e_getf f_15_2 H3 rfl rfl ?_
  refine e_putp (vs' := [.int (A2), .int (B), .int (W), .int (S), .ref (M + 1)]) f_15_5 H0 (Nat.le_of_ble_eq_true rfl) (rfl) (rfl) rfl rfl (fun h1 g2 fx3 => ?_)
  have fr4 : px_fi M 32 h h1 := fi_tr fr0 fx3 (by omega)
  refine e_aload_n f_15_8 rfl rfl ?_
  refine e_aload_n f_15_9 rfl rfl ?_
  have g5 : h1.2.2 M2 = some (2, [.int (A2), .int (B2), .int (W2), .int (S2), .ref (M2 + 1)]) := fi_at H3 fr4 (by omega)
  refine e_getf f_15_10 g5 rfl rfl ?_
  refine e_putp (vs' := [.int (A2), .int (B2), .int (W), .int (S), .ref (M + 1)]) f_15_13 g2 (Nat.le_of_ble_eq_true rfl) (rfl) (rfl) rfl rfl (fun h6 g7 fx8 => ?_)
  have fr9 : px_fi M 32 h h6 := fi_tr fr4 fx8 (by omega)
  refine e_aload_n f_15_16 rfl rfl ?_
  refine e_aload_n f_15_17 rfl rfl ?_
  have g10 : h6.2.2 M2 = some (2, [.int (A2), .int (B2), .int (W2), .int (S2), .ref (M2 + 1)]) := fi_at H3 fr9 (by omega)
  refine e_getf f_15_18 g10 rfl rfl ?_
  refine e_putp (vs' := [.int (A2), .int (B2), .int (W2), .int (S), .ref (M + 1)]) f_15_21 g7 (Nat.le_of_ble_eq_true rfl) (rfl) (rfl) rfl rfl (fun h11 g12 fx13 => ?_)
  have fr14 : px_fi M 32 h h11 := fi_tr fr9 fx13 (by omega)
  refine e_aload_n f_15_24 rfl rfl ?_
  refine e_aload_n f_15_25 rfl rfl ?_
  have g15 : h11.2.2 M2 = some (2, [.int (A2), .int (B2), .int (W2), .int (S2), .ref (M2 + 1)]) := fi_at H3 fr14 (by omega)
  refine e_getf f_15_26 g15 rfl rfl ?_
  refine e_putp (vs' := [.int (A2), .int (B2), .int (W2), .int (S2), .ref (M + 1)]) f_15_29 g12 (Nat.le_of_ble_eq_true rfl) (rfl) (rfl) rfl rfl (fun h16 g17 fx18 => ?_)
  have fr19 : px_fi M 32 h h16 := fi_tr fr14 fx18 (by omega)
  refine e_iconst (v := nI 0) f_15_32 (by decide) rfl ?_
  refine e_istore_n (L' := [some (.ref (M)), some (.ref (M2)), some (.int (nI n)), some (.int (nI 0))]) f_15_33 (Nat.le_of_ble_eq_true rfl) rfl rfl ?_
  have g20 : px_rs h1 (M + 1) 55 6 (fun k => M + 5 * k + 2) := rs_fi H1 fx3 (by omega)
  have g21 : px_rs h6 (M + 1) 55 6 (fun k => M + 5 * k + 2) := rs_fi g20 fx8 (by omega)
  have g22 : px_rs h11 (M + 1) 55 6 (fun k => M + 5 * k + 2) := rs_fi g21 fx13 (by omega)
  have g23 : px_rs h16 (M + 1) 55 6 (fun k => M + 5 * k + 2) := rs_fi g22 fx18 (by omega)
  have g24 : pSt h1 M sms := pSt_fi H2 fx3 (by omega)
  have g25 : pSt h6 M sms := pSt_fi g24 fx8 (by omega)
  have g26 : pSt h11 M sms := pSt_fi g25 fx13 (by omega)
  have g27 : pSt h16 M sms := pSt_fi g26 fx18 (by omega)
  exact ll_Mem_copy (h0 := h) p0 p1 p2 p3 p4 H3 H4 H5 n 0 h16 (by omega) (by omega) g17 g23 (pSt_nil g27) fr19

set_option maxRecDepth 20000 in
set_option maxHeartbeats 4000000 in
theorem cc_Mem_raise {h : px_H} {b : Bool} {t : Int32} {M : Nat} {A B W S : Int32} (H0 : h.2.2 M = some (2, [.int (A), .int (B), .int (W), .int (S), .ref (M + 1)])) (p0 : 17 ≤ M) : px_wp 16 [.ref (M), .int (bI b), .int (t)] h (fun h1 r => r = none ∧ h1.2.2 M = some (2, [.int (if b = true then A else iMax A t), .int (if b = true then iMax B t else B), .int (W), .int (S), .ref (M + 1)]) ∧ px_fi M 1 h h1) := by
  have fr0 : px_fi M 1 h h := fi_rf _ _ _
  show px_to 16 0 [some (.ref (M)), some (.int (bI b)), some (.int (t))] [] h _
  refine e_iload_n f_16_0 rfl rfl ?_
  refine e_if_eq f_16_1 rfl (fun c_1 => ?_) (fun c_1 => ?_)
  · skip
    have c_1 : b = false := bI_f c_1
    refine e_aload_n f_16_19 rfl rfl ?_
    refine e_aload_n f_16_20 rfl rfl ?_
    refine e_getf f_16_21 H0 rfl rfl ?_
    refine e_iload_n f_16_24 rfl rfl ?_
    refine e_max f_16_25 (Nat.le_of_ble_eq_true rfl) rfl ?_
    refine e_putp (vs' := [.int ((if A < t then t else A)), .int (B), .int (W), .int (S), .ref (M + 1)]) f_16_28 H0 (Nat.le_of_ble_eq_true rfl) (rfl) (rfl) rfl rfl (fun h1 g2 fx3 => ?_)
    have fr4 : px_fi M 1 h h1 := fi_tr fr0 fx3 (by omega)
    refine e_vret f_16_31 rfl ?_
    rw [c_1]
    exact ⟨rfl, g2, fr4⟩
  · skip
    have c_1 : b = true := bI_t' c_1
    refine e_aload_n f_16_4 rfl rfl ?_
    refine e_aload_n f_16_5 rfl rfl ?_
    refine e_getf f_16_6 H0 rfl rfl ?_
    refine e_iload_n f_16_9 rfl rfl ?_
    refine e_max f_16_10 (Nat.le_of_ble_eq_true rfl) rfl ?_
    refine e_putp (vs' := [.int (A), .int ((if B < t then t else B)), .int (W), .int (S), .ref (M + 1)]) f_16_13 H0 (Nat.le_of_ble_eq_true rfl) (rfl) (rfl) rfl rfl (fun h5 g6 fx7 => ?_)
    have fr8 : px_fi M 1 h h5 := fi_tr fr0 fx7 (by omega)
    refine e_goto f_16_16 ?_
    refine e_vret f_16_31 rfl ?_
    rw [c_1]
    exact ⟨rfl, g6, fr8⟩

set_option maxRecDepth 20000 in
set_option maxHeartbeats 4000000 in
theorem cc_Mem_lesser {h : px_H} {a b : Bool} {M : Nat} {A B W S : Int32} (H0 : h.2.2 M = some (2, [.int (A), .int (B), .int (W), .int (S), .ref (M + 1)]))  : px_wp 17 [.ref (M), .int (bI a), .int (bI b)] h (fun h1 r => r = some (.int (if a = true then (if b = true then iMin A B else A) else (if b = true then B else (-1)))) ∧ h1 = h) := by
  show px_to 17 0 [some (.ref (M)), some (.int (bI a)), some (.int (bI b))] [] h _
  refine e_iload_n f_17_0 rfl rfl ?_
  refine e_if_eq f_17_1 rfl (fun c_1 => ?_) (fun c_1 => ?_)
  · skip
    have c_1 : a = false := bI_f c_1
    refine e_iload_n f_17_20 rfl rfl ?_
    refine e_if_eq f_17_21 rfl (fun c_21 => ?_) (fun c_21 => ?_)
    · skip
      have c_21 : a = false := bI_f c_21
      refine e_iload_n f_17_31 rfl rfl ?_
      refine e_if_eq f_17_32 rfl (fun c_32 => ?_) (fun c_32 => ?_)
      · skip
        have c_32 : b = false := bI_f c_32
        refine e_iconst (v := (-1)) f_17_42 (by decide) rfl ?_
        refine e_iret f_17_43 rfl (rfl) ?_
        first | exact ⟨by rw [c_1, c_5]; rfl, rfl⟩ | exact ⟨by rw [c_1, c_32]; rfl, rfl⟩ | (exfalso; rw [c_1] at c_21; exact absurd c_21 (by decide))
      · skip
        have c_32 : b = true := bI_t' c_32
        refine e_aload_n f_17_35 rfl rfl ?_
        refine e_getf f_17_36 H0 rfl rfl ?_
        refine e_goto f_17_39 ?_
        refine e_iret f_17_43 rfl (rfl) ?_
        first | exact ⟨by rw [c_1, c_5]; rfl, rfl⟩ | exact ⟨by rw [c_1, c_32]; rfl, rfl⟩ | (exfalso; rw [c_1] at c_21; exact absurd c_21 (by decide))
    · skip
      have c_21 : a = true := bI_t' c_21
      refine e_aload_n f_17_24 rfl rfl ?_
      refine e_getf f_17_25 H0 rfl rfl ?_
      refine e_goto f_17_28 ?_
      refine e_iret f_17_43 rfl (rfl) ?_
      first | exact ⟨by rw [c_1, c_5]; rfl, rfl⟩ | exact ⟨by rw [c_1, c_32]; rfl, rfl⟩ | (exfalso; rw [c_1] at c_21; exact absurd c_21 (by decide))
  · skip
    have c_1 : a = true := bI_t' c_1
    refine e_iload_n f_17_4 rfl rfl ?_
    refine e_if_eq f_17_5 rfl (fun c_5 => ?_) (fun c_5 => ?_)
    · skip
      have c_5 : b = false := bI_f c_5
      refine e_iload_n f_17_20 rfl rfl ?_
      refine e_if_eq f_17_21 rfl (fun c_21 => ?_) (fun c_21 => ?_)
      · skip
        have c_21 : a = false := bI_f c_21
        refine e_iload_n f_17_31 rfl rfl ?_
        refine e_if_eq f_17_32 rfl (fun c_32 => ?_) (fun c_32 => ?_)
        · skip
          have c_32 : b = false := bI_f c_32
          refine e_iconst (v := (-1)) f_17_42 (by decide) rfl ?_
          refine e_iret f_17_43 rfl (rfl) ?_
          first | exact ⟨by rw [c_1, c_5]; rfl, rfl⟩ | exact ⟨by rw [c_1, c_32]; rfl, rfl⟩ | (exfalso; rw [c_1] at c_21; exact absurd c_21 (by decide))
        · skip
          have c_32 : b = true := bI_t' c_32
          refine e_aload_n f_17_35 rfl rfl ?_
          refine e_getf f_17_36 H0 rfl rfl ?_
          refine e_goto f_17_39 ?_
          refine e_iret f_17_43 rfl (rfl) ?_
          first | exact ⟨by rw [c_1, c_5]; rfl, rfl⟩ | exact ⟨by rw [c_1, c_32]; rfl, rfl⟩ | (exfalso; rw [c_1] at c_21; exact absurd c_21 (by decide))
      · skip
        have c_21 : a = true := bI_t' c_21
        refine e_aload_n f_17_24 rfl rfl ?_
        refine e_getf f_17_25 H0 rfl rfl ?_
        refine e_goto f_17_28 ?_
        refine e_iret f_17_43 rfl (rfl) ?_
        first | exact ⟨by rw [c_1, c_5]; rfl, rfl⟩ | exact ⟨by rw [c_1, c_32]; rfl, rfl⟩ | (exfalso; rw [c_1] at c_21; exact absurd c_21 (by decide))
    · skip
      have c_5 : b = true := bI_t' c_5
      refine e_aload_n f_17_8 rfl rfl ?_
      refine e_getf f_17_9 H0 rfl rfl ?_
      refine e_aload_n f_17_12 rfl rfl ?_
      refine e_getf f_17_13 H0 rfl rfl ?_
      refine e_min f_17_16 (Nat.le_of_ble_eq_true rfl) rfl ?_
      refine e_iret f_17_19 rfl (rfl) ?_
      first | exact ⟨by rw [c_1, c_5]; rfl, rfl⟩ | exact ⟨by rw [c_1, c_32]; rfl, rfl⟩ | (exfalso; rw [c_1] at c_21; exact absurd c_21 (by decide))
