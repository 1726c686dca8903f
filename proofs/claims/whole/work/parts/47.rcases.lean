abbrev CT7 := List Ev × List Row × Nat × Int32 × List Nat × Nat × List Nat
def ct0 : CT7 := ([], [], 61, -4, [], 0, [])
def pCT (h : px_H) (a : Nat) (t : CT7) : Prop := pCase h a t.1 t.2.1 t.2.2.1 t.2.2.2.1 t.2.2.2.2.1 t.2.2.2.2.2.1 t.2.2.2.2.2.2
def pCs (h : px_H) (S : Nat) (cs : List CT7) : Prop := ∀ k, k < 8 → ∃ t, pCT h (S + 9 * k + 6) t ∧ (k < cs.length → t = cs.getD k ct0)
def pCsx (h : px_H) (S : Nat) (cs : List CT7) (k : Nat) : Prop := ∀ q, q < 8 → q ≠ k → ∃ t, pCT h (S + 9 * q + 6) t ∧ (q < cs.length → t = cs.getD q ct0)
theorem pCs_fi {h h1 : px_H} {S lo n : Nat} {cs : List CT7} (p : pCs h S cs) (f : px_fi lo n h h1) (d : S + 78 ≤ lo ∨ lo + n ≤ S + 6) : pCs h1 S cs := fun k hk => by
  obtain ⟨s, h2, h3⟩ := p k hk
  exact ⟨s, pCase_fi h2 f (by omega), h3⟩
theorem pCsx_fi {h h1 : px_H} {S lo n k : Nat} {cs : List CT7} (p : pCsx h S cs k) (f : px_fi lo n h h1) (d : S + 78 ≤ lo ∨ lo + n ≤ S + 6 ∨ (S + 9 * k + 6 ≤ lo ∧ lo + n ≤ S + 9 * k + 15)) : pCsx h1 S cs k := fun q hq hn => by
  obtain ⟨s, h2, h3⟩ := p q hq hn
  exact ⟨s, pCase_fi h2 f (by omega), h3⟩
theorem pCs_out {h : px_H} {S k : Nat} {cs : List CT7} (p : pCs h S cs) (hk : k < 8) : (∃ t, pCT h (S + 9 * k + 6) t ∧ (k < cs.length → t = cs.getD k ct0)) ∧ pCsx h S cs k := ⟨p k hk, fun q hq _ => p q hq⟩
theorem pCs_get {h : px_H} {S k : Nat} {cs : List CT7} (p : pCs h S cs) (hk : k < 8) (hl : k < cs.length) : pCT h (S + 9 * k + 6) (cs.getD k ct0) ∧ pCsx h S cs k := by
  obtain ⟨⟨s, h1, h2⟩, h3⟩ := pCs_out p hk
  exact ⟨h2 hl ▸ h1, h3⟩
theorem pCs_in {h : px_H} {S k : Nat} {cs : List CT7} {t : CT7} (p : pCsx h S cs k) (q : pCT h (S + 9 * k + 6) t) : pCs h S (cs.set k t) := fun i hi => by
  by_cases e : i = k
  · subst e
    exact ⟨t, q, fun hl => (getD_set_same (by rw [List.length_set] at hl; exact hl)).symm⟩
  · obtain ⟨s2, h2, h3⟩ := p i hi e
    exact ⟨s2, h2, fun hl => by rw [getD_set_ne (fun z => e z.symm)]; exact h3 (by rw [List.length_set] at hl; exact hl)⟩
theorem pCs_any {h : px_H} {S k : Nat} {cs : List CT7} {t : CT7} (p : pCsx h S cs k) (q : pCT h (S + 9 * k + 6) t) (hk : cs.length ≤ k) : pCs h S cs := fun i hi => by
  by_cases e : i = k
  · subst e
    exact ⟨t, q, fun hl => absurd hl (by omega)⟩
  · exact p i hi e
theorem pCs_app {h : px_H} {S k : Nat} {cs : List CT7} {t : CT7} (p : pCsx h S cs k) (q : pCT h (S + 9 * k + 6) t) (hk : cs.length = k) : pCs h S (cs ++ [t]) := fun i hi => by
  by_cases e : i = k
  · subst e
    refine ⟨t, q, fun hl => ?_⟩
    rw [List.getD_eq_getElem?_getD, List.getElem?_append_right (by omega), hk, Nat.sub_self]
    rfl
  · obtain ⟨s2, h2, h3⟩ := p i hi e
    refine ⟨s2, h2, fun hl => ?_⟩
    rw [List.length_append, List.length_singleton] at hl
    rw [getD_app (by omega)]
    exact h3 (by omega)
theorem pCs_nil {h : px_H} {S : Nat} {cs : List CT7} (p : pCs h S cs) : pCs h S [] := fun k hk => by
  obtain ⟨s, h2, h3⟩ := p k hk
  exact ⟨s, h2, fun z => absurd z (by simp)⟩
theorem pCs_eq {h : px_H} {S : Nat} {x y : List CT7} (p : pCs h S x) (e : x = y) : pCs h S y := e ▸ p
abbrev CS3 := List Ev × List Row × Nat
def mkC (x : CS3) : CT7 := (x.1, x.2.1, x.2.2, -4, [], 0, [])
def caE (tx : List Nat) (p : Nat) : Bool × Nat × List Ev := rdEvs tx 24 p []
def caT (tx : List Nat) (p : Nat) : Bool × Nat × List Row := rdTold tx 16 (skp tx (caE tx p).2.1 + 1) []
def rdCase (tx : List Nat) (p : Nat) : Bool × Nat × CS3 :=
  if (caE tx p).1 = true then
    (if sgn tx (caE tx p).2.1 = 58 then
      (if (caT tx p).1 = true then
        (if sgn tx (caT tx p).2.1 ∈ ordL then
          (if sgn tx (skp tx (caT tx p).2.1 + 1) = 59 then (true, skp tx (skp tx (caT tx p).2.1 + 1) + 1, ((caE tx p).2.2, (caT tx p).2.2, sgn tx (caT tx p).2.1))
          else (false, skp tx (skp tx (caT tx p).2.1 + 1), ([], [], 0)))
        else (false, skp tx (caT tx p).2.1, ([], [], 0)))
      else (false, (caT tx p).2.1, ([], [], 0)))
    else (false, skp tx (caE tx p).2.1, ([], [], 0)))
  else (false, (caE tx p).2.1, ([], [], 0))
def rdCs (tx : List Nat) : Nat → Nat → List CS3 → Bool × Nat × List CS3
  | 0, p, cs => (true, p, cs)
  | f + 1, p, cs => if sgn tx p = 67 then (if (rdCase tx (skp tx p + 1)).1 = true then rdCs tx f (rdCase tx (skp tx p + 1)).2.1 (cs ++ [(rdCase tx (skp tx p + 1)).2.2]) else (false, (rdCase tx (skp tx p + 1)).2.1, cs)) else (true, skp tx p, cs)
theorem sgn_nx {tx : List Nat} {p c : Nat} (h : sgn tx p = c) (hc : c ≠ 0) : skp tx p + 1 ≤ tx.length := sgn_in (by rw [h]; exact hc)
theorem caE_le {tx : List Nat} {p : Nat} (h : p ≤ tx.length) : (caE tx p).2.1 ≤ tx.length := rdEvs_le _ _ _ h
theorem caT_le {tx : List Nat} {p : Nat} (h : sgn tx (caE tx p).2.1 = 58) : (caT tx p).2.1 ≤ tx.length := rdTold_le _ _ _ (sgn_nx h (by decide))
theorem rdCase_le {tx : List Nat} {p : Nat} (h : p ≤ tx.length) : (rdCase tx p).2.1 ≤ tx.length := by
  unfold rdCase
  split
  · split
    · rename_i c
      split
      · split
        · rename_i c2
          have h2 := sgn_next c2 (by decide)
          split
          · exact sgn_nx (by assumption) (by decide)
          · exact skp_le h2
        · exact skp_le (caT_le c)
      · exact caT_le c
    · exact skp_le (caE_le h)
  · exact caE_le h
theorem rdCs_le {tx : List Nat} : ∀ (f p : Nat) (cs : List CS3), p ≤ tx.length → (rdCs tx f p cs).2.1 ≤ tx.length
  | 0, _, _, h => h
  | f + 1, p, cs, h => by
    rw [rdCs]
    split
    · rename_i c
      split
      · exact rdCs_le f _ _ (rdCase_le (sgn_nx c (by decide)))
      · exact rdCase_le (sgn_nx c (by decide))
    · exact skp_le h
def okC3 (x : CS3) : Prop := x.1.length ≤ 24 ∧ (∀ e ∈ x.1, okEv e) ∧ x.2.1.length ≤ 16 ∧ (∀ r ∈ x.2.1, rwOk r) ∧ x.2.2 < 128
theorem rdCase_ok {tx : List Nat} {p : Nat} (ht : okTx tx) : okC3 (rdCase tx p).2.2 := by
  have h0 : okC3 ([], [], 0) := ⟨by decide, fun e he => absurd he (by simp), by decide, fun e he => absurd he (by simp), by decide⟩
  unfold rdCase
  repeat' split
  · have h1 := rdEvs_ok (tx := tx) 24 p [] (by decide) (fun e he => absurd he (by simp))
    have h2 := rdTold_ok (tx := tx) 16 (skp tx (caE tx p).2.1 + 1) [] (by decide) (fun e he => absurd he (by simp))
    exact ⟨h1.1, h1.2, h2.1, h2.2, by have := tx_lt ht (skp tx (caT tx p).2.1); show sgn tx (caT tx p).2.1 < 128; unfold sgn; omega⟩
  all_goals exact h0
theorem rdCs_ok {tx : List Nat} (ht : okTx tx) : ∀ (f p : Nat) (cs : List CS3), cs.length + f ≤ 8 → (∀ x ∈ cs, okC3 x) → (rdCs tx f p cs).2.2.length ≤ 8 ∧ ∀ x ∈ (rdCs tx f p cs).2.2, okC3 x
  | 0, _, cs, hl, h => ⟨by show cs.length ≤ 8; omega, h⟩
  | f + 1, p, cs, hl, h => by
    rw [rdCs]
    split
    · split
      · refine rdCs_ok ht f _ _ (by rw [List.length_append, List.length_singleton]; omega) (fun e he => ?_)
        rw [List.mem_append, List.mem_singleton] at he
        rcases he with z | z
        · exact h e z
        · rw [z]; exact rdCase_ok ht
      · exact ⟨by show cs.length ≤ 8; omega, h⟩
    · exact ⟨by show cs.length ≤ 8; omega, h⟩
def aJ (tx : List Nat) : Bool × Nat × List St := rdSteps tx 6 0 (skp tx 0 + 1) []
def aC (tx : List Nat) : Bool × Nat × List CS3 := rdCs tx 8 (skp tx (aJ tx).2.1 + 1) []
def rdAll (tx : List Nat) : Bool × Nat × List St × List CS3 :=
  if sgn tx 0 = 74 then
    (if (aJ tx).1 = true then
      (if sgn tx (aJ tx).2.1 = 59 then
        (if (aC tx).1 = true then (decide (sgn tx (aC tx).2.1 = 0), skp tx (aC tx).2.1, (aJ tx).2.2, (aC tx).2.2)
        else (false, (aC tx).2.1, (aJ tx).2.2, (aC tx).2.2))
      else (false, skp tx (aJ tx).2.1, (aJ tx).2.2, []))
    else (false, (aJ tx).2.1, (aJ tx).2.2, []))
  else (false, skp tx 0, [], [])
theorem rdAll_ok {tx : List Nat} (ht : okTx tx) : okJ (rdAll tx).2.2.1 ∧ (rdAll tx).2.2.2.length ≤ 8 ∧ ∀ x ∈ (rdAll tx).2.2.2, okC3 x := by
  have h0 : okJ [] := ⟨by decide, fun e he => absurd he (by simp)⟩
  have h1 : okJ (aJ tx).2.2 := rdSteps_ok ht 6 0 _ [] (by decide) h0
  have h2 := rdCs_ok ht 8 (skp tx (aJ tx).2.1 + 1) [] (by decide) (fun e he => absurd he (by simp))
  have h3 : ([] : List CS3).length ≤ 8 ∧ ∀ x ∈ ([] : List CS3), okC3 x := ⟨by decide, fun e he => absurd he (by simp)⟩
  unfold rdAll
  repeat' split
  · exact ⟨h1, h2⟩
  · exact ⟨h1, h2⟩
  · exact ⟨h1, h3⟩
  · exact ⟨h1, h3⟩
  · exact ⟨h0, h3⟩

set_option maxRecDepth 20000 in
set_option maxHeartbeats 4000000 in
theorem cc_Scr_clear {h : px_H} {S n : Nat} {j : List St} (H0 : h.2.2 S = some (8, [.ref (S + 1), .ref (S + 5), .int (nI n)])) (H1 : pJob h (S + 1) j) (p0 : 17 ≤ S) : px_wp 67 [.ref (S)] h (fun h1 r => r = none ∧ h1.2.2 S = some (8, [.ref (S + 1), .ref (S + 5), .int (nI 0)]) ∧ pJob h1 (S + 1) ([] : List St) ∧ px_fi S 5 h h1) := by
  have fr0 : px_fi S 5 h h := fi_rf _ _ _
  show px_to 67 0 [some (.ref (S))] [] h _
  refine e_aload_n f_67_0 rfl rfl ?_
  refine e_getf f_67_1 H0 rfl rfl ?_
  refine e_iconst (v := nI 0) f_67_4 (by decide) rfl ?_
  have g1 : h.2.2 (S + 1) = some (0, [.int (nI j.length), .ref (S + 2), .ref (S + 3), .ref (S + 4)]) := H1.1
  have g2 : px_pa h (S + 2) 50 6 stS j := H1.2.1
  have g3 : px_pa h (S + 3) 50 6 stA j := H1.2.2.1
  have g4 : px_pa h (S + 4) 50 6 stN j := H1.2.2.2
  refine e_putp (vs' := [.int (nI 0), .ref (S + 2), .ref (S + 3), .ref (S + 4)]) f_67_5 g1 (Nat.le_of_ble_eq_true rfl) (rfl) (rfl) rfl rfl (fun h5 g6 fx7 => ?_)
  have fr8 : px_fi S 5 h h5 := fi_tr fr0 fx7 (by omega)
  refine e_aload_n f_67_8 rfl rfl ?_
  refine e_iconst (v := nI 0) f_67_9 (by decide) rfl ?_
  have g9 : h5.2.2 S = some (8, [.ref (S + 1), .ref (S + 5), .int (nI n)]) := fi_at H0 fx7 (by omega)
  refine e_putp (vs' := [.ref (S + 1), .ref (S + 5), .int (nI 0)]) f_67_10 g9 (Nat.le_of_ble_eq_true rfl) (rfl) (rfl) rfl rfl (fun h10 g11 fx12 => ?_)
  have fr13 : px_fi S 5 h h10 := fi_tr fr8 fx12 (by omega)
  refine e_vret f_67_13 rfl ?_
  have g14 : h10.2.2 (S + 1) = some (0, [.int (nI 0), .ref (S + 2), .ref (S + 3), .ref (S + 4)]) := fi_at g6 fx12 (by omega)
  have g15 : px_pa h5 (S + 2) 50 6 stS j := pa_fi g2 fx7 (by omega)
  have g16 : px_pa h10 (S + 2) 50 6 stS j := pa_fi g15 fx12 (by omega)
  have g17 : px_pa h5 (S + 3) 50 6 stA j := pa_fi g3 fx7 (by omega)
  have g18 : px_pa h10 (S + 3) 50 6 stA j := pa_fi g17 fx12 (by omega)
  have g19 : px_pa h5 (S + 4) 50 6 stN j := pa_fi g4 fx7 (by omega)
  have g20 : px_pa h10 (S + 4) 50 6 stN j := pa_fi g19 fx12 (by omega)
  exact ⟨rfl, g11, ⟨g14, pa_nil g16, pa_nil g18, pa_nil g20⟩, fr13⟩

set_option maxRecDepth 20000 in
set_option maxHeartbeats 4000000 in
theorem ll_Rd_cases {h0 : px_H} {tx : List Nat} {S : Nat} {j : List St} {y : Bool × Nat × List CS3} (HT : px_pa h0 18 52 500 vN tx) (H6 : pStr h0 6 evSigns) (H7 : pStr h0 7 keyL) (H8 : pStr h0 8 ordL) (p1 : okTx tx) (p2 : 18 < S ∧ S + 78 ≤ 175) : ∀ (d : Nat) (c : Nat) (p : Nat) (cs : List CS3) (g : px_H), (8 ≤ c + d) → (c ≤ 8) → (p ≤ tx.length) → (cs.length = c) → (rdCs tx (8 - c) p cs = y) → pRd g tx p → g.2.2 S = some (8, [.ref (S + 1), .ref (S + 5), .int (nI cs.length)]) → pCs g S (cs.map mkC) → px_rs g (S + 5) 56 8 (fun k => S + 9 * k + 6) → pJob g (S + 1) j → px_fj S 78 175 1 h0 g → px_to 30 2 [some (.ref (175)), some (.ref (S)), some (.int (nI c)), none] [] g (fun h1 r => r = some (.int (bI y.1)) ∧ pRd h1 tx y.2.1 ∧ h1.2.2 S = some (8, [.ref (S + 1), .ref (S + 5), .int (nI y.2.2.length)]) ∧ pCs h1 S (y.2.2.map mkC) ∧ px_rs h1 (S + 5) 56 8 (fun k => S + 9 * k + 6) ∧ pJob h1 (S + 1) j ∧ px_fj S 78 175 1 h0 h1) := by
  intro d
  induction d using Nat.strongRecOn with
  | ind d ih =>
    intro c p cs g q0 q1 q2 q3 q4 G0 G1 G2 G3 G4 frg
    have le := pa_len HT
    have hsl : sgn tx p < 127 := tx_lt p1 _
    have hsk := skp_le q2
    refine e_iload_n f_30_2 rfl rfl ?_
    refine e_bipush (v := nI 8) f_30_3 (by decide) rfl ?_
    refine e_icmp_ge f_30_5 rfl (fun c_5 => ?_) (fun c_5 => ?_)
    · skip
      have c_5 : 8 ≤ c := cv_le (by omega) (by omega) c_5
      refine e_iconst (v := nI 1) f_30_87 (by decide) rfl ?_
      refine e_iret f_30_88 rfl (rfl) ?_
      rw [show 8 - c = 0 by omega, rdCs] at q4
      subst q4
      exact ⟨rfl, G0, G1, G2, G3, G4, frg⟩
    · skip
      have c_5 : c < 8 := cv_nle (by omega) (by omega) c_5
      refine e_aload_n f_30_8 rfl rfl ?_
      refine e_bipush (v := nI 67) f_30_9 (by decide) rfl ?_
      obtain ⟨n1, g2⟩ := G0
      obtain ⟨hm4, fa5, fb6⟩ := fj_mid frg
      have g3 : px_pa g 18 52 500 vN tx := pa_fi (pa_fi HT fa5 (by omega)) fb6 (by omega)
      refine e_callV (As := [.int (nI 67)]) (rest := []) f_30_11 rfl rfl rfl (Nat.le_of_ble_eq_true rfl) (Nat.le_of_ble_eq_true rfl) g2 rfl (Nat.le_of_ble_eq_true rfl) (cc_Rd_take (c := 67) (tx := tx) (p := p) (n := n1) g2 g3 (by omega) (p1) (by omega) (by omega)) rfl (fun h7 r8 q9 => ?_)
      obtain ⟨rfl, g10, fx11⟩ := q9
      have fr12 : px_fj S 78 175 1 h0 h7 := fj_tr frg fx11 (by omega)
      show px_to 30 14 [some (.ref (175)), some (.ref (S)), some (.int (nI c)), none] [.int (bI (decide (sgn tx p = 67)))] h7 _
      refine e_if_ne f_30_14 rfl (fun c_14 => ?_) (fun c_14 => ?_)
      · skip
        have c_14 : (decide (sgn tx p = 67)) = true := bI_t c_14
        refine e_aload_n f_30_19 rfl rfl ?_
        have g13 : h7.2.2 S = some (8, [.ref (S + 1), .ref (S + 5), .int (nI cs.length)]) := fi_at G1 fx11 (by omega)
        refine e_getf f_30_20 g13 rfl rfl ?_
        refine e_iload_n f_30_23 rfl rfl ?_
        have g14 : px_rs h7 (S + 5) 56 8 (fun k => S + 9 * k + 6) := rs_fi G3 fx11 (by omega)
        refine e_aaload_r f_30_24 (by decide) g14 (by first | omega | (simp only [List.length_set]; omega)) (by decide) rfl ?_
        show px_to 30 25 [some (.ref (175)), some (.ref (S)), some (.int (nI c)), none] [.ref (S + 9 * c + 6)] h7 _
        refine e_astore_n (L' := [some (.ref (175)), some (.ref (S)), some (.int (nI c)), some (.ref (S + 9 * c + 6))]) f_30_25 (Nat.le_of_ble_eq_true rfl) rfl rfl ?_
        refine e_aload_n f_30_26 rfl rfl ?_
        have g15 : pCs h7 S (cs.map mkC) := pCs_fi G2 fx11 (by omega)
        have htk : sgn tx p = 67 := of_decide_eq_true c_14
        have hsl2 : skp tx p + 1 ≤ tx.length := sgn_nx htk (by decide)
        obtain ⟨⟨⟨ev0, to0, os0, ks0, kp0, ck0, un0⟩, g16, _⟩, g17⟩ := pCs_out g15 (show c < 8 by omega)
        have g18 : h7.2.2 175 = some (4, [.ref (18), .int (nI tx.length), .int (n1), .int (nI (skp tx p + 1))]) := by have z := g10; rw [if_pos htk] at z; exact z
        refine e_callV (As := []) (rest := []) f_30_27 rfl rfl rfl (Nat.le_of_ble_eq_true rfl) (Nat.le_of_ble_eq_true rfl) g16.1 rfl (Nat.le_of_ble_eq_true rfl) (cc_Case_clear (a := S + 9 * c + 6) (ev := ev0) (told := to0) (os := os0) (ks := ks0) (kept := kp0) (ck := ck0) (un := un0) g16 (by omega)) rfl (fun h19 r20 q21 => ?_)
        obtain ⟨rfl, g22, fx23⟩ := q21
        have fr24 : px_fj S 78 175 1 h0 h19 := fj_tr fr12 fx23 (by omega)
        show px_to 30 30 [some (.ref (175)), some (.ref (S)), some (.int (nI c)), some (.ref (S + 9 * c + 6))] [] h19 _
        refine e_aload_n f_30_30 rfl rfl ?_
        refine e_aload_n f_30_31 rfl rfl ?_
        have g25 : h19.2.2 175 = some (4, [.ref (18), .int (nI tx.length), .int (n1), .int (nI (skp tx p + 1))]) := fi_at g18 fx23 (by omega)
        have g26 : pRd h19 tx (skp tx p + 1) := ⟨_, g25⟩
        obtain ⟨hm28, fa29, fb30⟩ := fj_mid fr24
        have g27 : px_pa h19 18 52 500 vN tx := pa_fi (pa_fi HT fa29 (by omega)) fb30 (by omega)
        obtain ⟨hm32, fa33, fb34⟩ := fj_mid fr24
        have g31 : pStr h19 6 evSigns := pStr_fi (pStr_fi H6 fa33 (by omega)) fb34 (by omega)
        obtain ⟨hm36, fa37, fb38⟩ := fj_mid fr24
        have g35 : pStr h19 7 keyL := pStr_fi (pStr_fi H7 fa37 (by omega)) fb38 (by omega)
        refine e_callV (As := [.ref (S + 9 * c + 6)]) (rest := []) f_30_32 rfl rfl rfl (Nat.le_of_ble_eq_true rfl) (Nat.le_of_ble_eq_true rfl) g25 rfl (Nat.le_of_ble_eq_true rfl) (cc_Rd_evs (tx := tx) (p := skp tx p + 1) (a := S + 9 * c + 6) (ev := []) (told := []) (os := 61) (ks := (-4)) (kept := []) (ck := 0) (un := []) g26 g22 g27 g31 g35 (hsl2) (p1) (rfl) (by omega)) rfl (fun h39 r40 q41 => ?_)
        obtain ⟨rfl, g42, g43, fx44⟩ := q41
        obtain ⟨hm45, fa46, fb47⟩ := fj_mid fx44
        have fr48 : px_fj S 78 175 1 h0 hm45 := fj_tr fr24 fa46 (by omega)
        have fr49 : px_fj S 78 175 1 h0 h39 := fj_tr fr48 fb47 (by omega)
        show px_to 30 35 [some (.ref (175)), some (.ref (S)), some (.int (nI c)), some (.ref (S + 9 * c + 6))] [.int (bI ((rdEvs tx 24 (skp tx p + 1) []).1))] h39 _
        refine e_if_eq f_30_35 rfl (fun c_35 => ?_) (fun c_35 => ?_)
        · skip
          have c_35 : ((rdEvs tx 24 (skp tx p + 1) []).1) = false := bI_f c_35
          refine e_iconst (v := nI 0) f_30_72 (by decide) rfl ?_
          refine e_iret f_30_73 rfl (rfl) ?_
          obtain ⟨n50, g51⟩ := g42
          have g52 : h39.2.2 175 = some (4, [.ref (18), .int (nI tx.length), .int (n50), .int (nI ((caE tx (skp tx p + 1)).2.1))]) := g51
          have g53 : pCsx h19 S (cs.map mkC) c := pCsx_fi g17 fx23 (by omega)
          have g54 : pCsx hm45 S (cs.map mkC) c := pCsx_fi g53 fa46 (by omega)
          have g55 : pCsx h39 S (cs.map mkC) c := pCsx_fi g54 fb47 (by omega)
          have g56 : pRd h39 tx ((caE tx (skp tx p + 1)).2.1) := ⟨_, g52⟩
          have er : rdCase tx (skp tx p + 1) = (false, (caE tx (skp tx p + 1)).2.1, ([], [], 0)) := by unfold rdCase; rw [if_neg (by unfold caE; rw [c_35]; decide)]
          rw [show 8 - c = (8 - (c + 1)) + 1 by omega, rdCs, if_pos htk, er] at q4
          simp only [Bool.false_eq_true, if_false] at q4
          subst q4
          have g57 : h19.2.2 S = some (8, [.ref (S + 1), .ref (S + 5), .int (nI cs.length)]) := fi_at g13 fx23 (by omega)
          have g58 : hm45.2.2 S = some (8, [.ref (S + 1), .ref (S + 5), .int (nI cs.length)]) := fi_at g57 fa46 (by omega)
          have g59 : h39.2.2 S = some (8, [.ref (S + 1), .ref (S + 5), .int (nI cs.length)]) := fi_at g58 fb47 (by omega)
          have g60 : px_rs h19 (S + 5) 56 8 (fun k => S + 9 * k + 6) := rs_fi g14 fx23 (by omega)
          have g61 : px_rs hm45 (S + 5) 56 8 (fun k => S + 9 * k + 6) := rs_fi g60 fa46 (by omega)
          have g62 : px_rs h39 (S + 5) 56 8 (fun k => S + 9 * k + 6) := rs_fi g61 fb47 (by omega)
          have g63 : pJob h7 (S + 1) j := pJob_fi G4 fx11 (by omega)
          have g64 : pJob h19 (S + 1) j := pJob_fi g63 fx23 (by omega)
          have g65 : pJob hm45 (S + 1) j := pJob_fi g64 fa46 (by omega)
          have g66 : pJob h39 (S + 1) j := pJob_fi g65 fb47 (by omega)
          exact ⟨rfl, g56, g59, pCs_any g55 (t := ((rdEvs tx 24 (skp tx p + 1) []).2.2, [], 61, (-4), [], 0, [])) g43 (by show (cs.map mkC).length ≤ c; rw [List.length_map]; omega), g62, g66, fr49⟩
        · skip
          have c_35 : ((rdEvs tx 24 (skp tx p + 1) []).1) = true := bI_t' c_35
          obtain ⟨n67, g68⟩ := g42
          have g69 : h39.2.2 175 = some (4, [.ref (18), .int (nI tx.length), .int (n67), .int (nI ((caE tx (skp tx p + 1)).2.1))]) := g68
          have h35 : (caE tx (skp tx p + 1)).1 = true := c_35
          have hle := caE_le hsl2
          refine e_aload_n f_30_38 rfl rfl ?_
          refine e_bipush (v := nI 58) f_30_39 (by decide) rfl ?_
          obtain ⟨hm71, fa72, fb73⟩ := fj_mid fr49
          have g70 : px_pa h39 18 52 500 vN tx := pa_fi (pa_fi HT fa72 (by omega)) fb73 (by omega)
          refine e_callV (As := [.int (nI 58)]) (rest := []) f_30_41 rfl rfl rfl (Nat.le_of_ble_eq_true rfl) (Nat.le_of_ble_eq_true rfl) g69 rfl (Nat.le_of_ble_eq_true rfl) (cc_Rd_take (c := 58) (tx := tx) (p := (caE tx (skp tx p + 1)).2.1) (n := n67) g69 g70 (hle) (p1) (by omega) (by omega)) rfl (fun h74 r75 q76 => ?_)
          obtain ⟨rfl, g77, fx78⟩ := q76
          have fr79 : px_fj S 78 175 1 h0 h74 := fj_tr fr49 fx78 (by omega)
          show px_to 30 44 [some (.ref (175)), some (.ref (S)), some (.int (nI c)), some (.ref (S + 9 * c + 6))] [.int (bI (decide (sgn tx ((caE tx (skp tx p + 1)).2.1) = 58)))] h74 _
          refine e_if_eq f_30_44 rfl (fun c_44 => ?_) (fun c_44 => ?_)
          · skip
            have c_44 : (decide (sgn tx ((caE tx (skp tx p + 1)).2.1) = 58)) = false := bI_f c_44
            refine e_iconst (v := nI 0) f_30_72 (by decide) rfl ?_
            refine e_iret f_30_73 rfl (rfl) ?_
            have h44 : ¬ sgn tx (caE tx (skp tx p + 1)).2.1 = 58 := of_decide_eq_false c_44
            have g80 : h74.2.2 175 = some (4, [.ref (18), .int (nI tx.length), .int (n67), .int (nI (skp tx (caE tx (skp tx p + 1)).2.1))]) := by have z := g77; rw [if_neg h44] at z; exact z
            have g81 : pCsx h19 S (cs.map mkC) c := pCsx_fi g17 fx23 (by omega)
            have g82 : pCsx hm45 S (cs.map mkC) c := pCsx_fi g81 fa46 (by omega)
            have g83 : pCsx h39 S (cs.map mkC) c := pCsx_fi g82 fb47 (by omega)
            have g84 : pCsx h74 S (cs.map mkC) c := pCsx_fi g83 fx78 (by omega)
            have g85 : pCase h74 (S + 9 * c + 6) ((rdEvs tx 24 (skp tx p + 1) []).2.2) ([]) 61 (-4) ([]) 0 ([]) := pCase_fi g43 fx78 (by omega)
            have g86 : pRd h74 tx (skp tx (caE tx (skp tx p + 1)).2.1) := ⟨_, g80⟩
            have er : rdCase tx (skp tx p + 1) = (false, skp tx (caE tx (skp tx p + 1)).2.1, ([], [], 0)) := by unfold rdCase; rw [if_pos h35, if_neg h44]
            rw [show 8 - c = (8 - (c + 1)) + 1 by omega, rdCs, if_pos htk, er] at q4
            simp only [Bool.false_eq_true, if_false] at q4
            subst q4
            have g87 : h19.2.2 S = some (8, [.ref (S + 1), .ref (S + 5), .int (nI cs.length)]) := fi_at g13 fx23 (by omega)
            have g88 : hm45.2.2 S = some (8, [.ref (S + 1), .ref (S + 5), .int (nI cs.length)]) := fi_at g87 fa46 (by omega)
            have g89 : h39.2.2 S = some (8, [.ref (S + 1), .ref (S + 5), .int (nI cs.length)]) := fi_at g88 fb47 (by omega)
            have g90 : h74.2.2 S = some (8, [.ref (S + 1), .ref (S + 5), .int (nI cs.length)]) := fi_at g89 fx78 (by omega)
            have g91 : px_rs h19 (S + 5) 56 8 (fun k => S + 9 * k + 6) := rs_fi g14 fx23 (by omega)
            have g92 : px_rs hm45 (S + 5) 56 8 (fun k => S + 9 * k + 6) := rs_fi g91 fa46 (by omega)
            have g93 : px_rs h39 (S + 5) 56 8 (fun k => S + 9 * k + 6) := rs_fi g92 fb47 (by omega)
            have g94 : px_rs h74 (S + 5) 56 8 (fun k => S + 9 * k + 6) := rs_fi g93 fx78 (by omega)
            have g95 : pJob h7 (S + 1) j := pJob_fi G4 fx11 (by omega)
            have g96 : pJob h19 (S + 1) j := pJob_fi g95 fx23 (by omega)
            have g97 : pJob hm45 (S + 1) j := pJob_fi g96 fa46 (by omega)
            have g98 : pJob h39 (S + 1) j := pJob_fi g97 fb47 (by omega)
            have g99 : pJob h74 (S + 1) j := pJob_fi g98 fx78 (by omega)
            exact ⟨rfl, g86, g90, pCs_any g84 (t := ((rdEvs tx 24 (skp tx p + 1) []).2.2, [], 61, (-4), [], 0, [])) g85 (by show (cs.map mkC).length ≤ c; rw [List.length_map]; omega), g94, g99, fr79⟩
          · skip
            have c_44 : (decide (sgn tx ((caE tx (skp tx p + 1)).2.1) = 58)) = true := bI_t' c_44
            have h44 : sgn tx (caE tx (skp tx p + 1)).2.1 = 58 := of_decide_eq_true c_44
            have hl2 := sgn_nx h44 (by decide)
            have g100 : h74.2.2 175 = some (4, [.ref (18), .int (nI tx.length), .int (n67), .int (nI (skp tx (caE tx (skp tx p + 1)).2.1 + 1))]) := by have z := g77; rw [if_pos h44] at z; exact z
            refine e_aload_n f_30_47 rfl rfl ?_
            refine e_aload_n f_30_48 rfl rfl ?_
            have g101 : pRd h74 tx (skp tx (caE tx (skp tx p + 1)).2.1 + 1) := ⟨_, g100⟩
            have g102 : pCase h74 (S + 9 * c + 6) ((rdEvs tx 24 (skp tx p + 1) []).2.2) ([]) 61 (-4) ([]) 0 ([]) := pCase_fi g43 fx78 (by omega)
            obtain ⟨hm104, fa105, fb106⟩ := fj_mid fr79
            have g103 : px_pa h74 18 52 500 vN tx := pa_fi (pa_fi HT fa105 (by omega)) fb106 (by omega)
            obtain ⟨hm108, fa109, fb110⟩ := fj_mid fr79
            have g107 : pStr h74 7 keyL := pStr_fi (pStr_fi H7 fa109 (by omega)) fb110 (by omega)
            refine e_callV (As := [.ref (S + 9 * c + 6)]) (rest := []) f_30_49 rfl rfl rfl (Nat.le_of_ble_eq_true rfl) (Nat.le_of_ble_eq_true rfl) g100 rfl (Nat.le_of_ble_eq_true rfl) (cc_Rd_told (tx := tx) (p := skp tx (caE tx (skp tx p + 1)).2.1 + 1) (a := S + 9 * c + 6) (ev := (rdEvs tx 24 (skp tx p + 1) []).2.2) (told := []) (os := 61) (ks := (-4)) (kept := []) (ck := 0) (un := []) g101 g102 g103 g107 (hl2) (p1) (rfl) (by omega)) rfl (fun h111 r112 q113 => ?_)
            obtain ⟨rfl, g114, g115, fx116⟩ := q113
            obtain ⟨hm117, fa118, fb119⟩ := fj_mid fx116
            have fr120 : px_fj S 78 175 1 h0 hm117 := fj_tr fr79 fa118 (by omega)
            have fr121 : px_fj S 78 175 1 h0 h111 := fj_tr fr120 fb119 (by omega)
            show px_to 30 52 [some (.ref (175)), some (.ref (S)), some (.int (nI c)), some (.ref (S + 9 * c + 6))] [.int (bI ((rdTold tx 16 (skp tx (caE tx (skp tx p + 1)).2.1 + 1) []).1))] h111 _
            refine e_if_eq f_30_52 rfl (fun c_52 => ?_) (fun c_52 => ?_)
            · skip
              have c_52 : ((rdTold tx 16 (skp tx (caE tx (skp tx p + 1)).2.1 + 1) []).1) = false := bI_f c_52
              refine e_iconst (v := nI 0) f_30_72 (by decide) rfl ?_
              refine e_iret f_30_73 rfl (rfl) ?_
              obtain ⟨n122, g123⟩ := g114
              have g124 : h111.2.2 175 = some (4, [.ref (18), .int (nI tx.length), .int (n122), .int (nI ((caT tx (skp tx p + 1)).2.1))]) := g123
              have g125 : pCsx h19 S (cs.map mkC) c := pCsx_fi g17 fx23 (by omega)
              have g126 : pCsx hm45 S (cs.map mkC) c := pCsx_fi g125 fa46 (by omega)
              have g127 : pCsx h39 S (cs.map mkC) c := pCsx_fi g126 fb47 (by omega)
              have g128 : pCsx h74 S (cs.map mkC) c := pCsx_fi g127 fx78 (by omega)
              have g129 : pCsx hm117 S (cs.map mkC) c := pCsx_fi g128 fa118 (by omega)
              have g130 : pCsx h111 S (cs.map mkC) c := pCsx_fi g129 fb119 (by omega)
              have g131 : pRd h111 tx ((caT tx (skp tx p + 1)).2.1) := ⟨_, g124⟩
              have er : rdCase tx (skp tx p + 1) = (false, (caT tx (skp tx p + 1)).2.1, ([], [], 0)) := by unfold rdCase; rw [if_pos h35, if_pos h44, if_neg (by unfold caT; rw [c_52]; decide)]
              rw [show 8 - c = (8 - (c + 1)) + 1 by omega, rdCs, if_pos htk, er] at q4
              simp only [Bool.false_eq_true, if_false] at q4
              subst q4
              have g132 : h19.2.2 S = some (8, [.ref (S + 1), .ref (S + 5), .int (nI cs.length)]) := fi_at g13 fx23 (by omega)
              have g133 : hm45.2.2 S = some (8, [.ref (S + 1), .ref (S + 5), .int (nI cs.length)]) := fi_at g132 fa46 (by omega)
              have g134 : h39.2.2 S = some (8, [.ref (S + 1), .ref (S + 5), .int (nI cs.length)]) := fi_at g133 fb47 (by omega)
              have g135 : h74.2.2 S = some (8, [.ref (S + 1), .ref (S + 5), .int (nI cs.length)]) := fi_at g134 fx78 (by omega)
              have g136 : hm117.2.2 S = some (8, [.ref (S + 1), .ref (S + 5), .int (nI cs.length)]) := fi_at g135 fa118 (by omega)
              have g137 : h111.2.2 S = some (8, [.ref (S + 1), .ref (S + 5), .int (nI cs.length)]) := fi_at g136 fb119 (by omega)
              have g138 : px_rs h19 (S + 5) 56 8 (fun k => S + 9 * k + 6) := rs_fi g14 fx23 (by omega)
              have g139 : px_rs hm45 (S + 5) 56 8 (fun k => S + 9 * k + 6) := rs_fi g138 fa46 (by omega)
              have g140 : px_rs h39 (S + 5) 56 8 (fun k => S + 9 * k + 6) := rs_fi g139 fb47 (by omega)
              have g141 : px_rs h74 (S + 5) 56 8 (fun k => S + 9 * k + 6) := rs_fi g140 fx78 (by omega)
              have g142 : px_rs hm117 (S + 5) 56 8 (fun k => S + 9 * k + 6) := rs_fi g141 fa118 (by omega)
              have g143 : px_rs h111 (S + 5) 56 8 (fun k => S + 9 * k + 6) := rs_fi g142 fb119 (by omega)
              have g144 : pJob h7 (S + 1) j := pJob_fi G4 fx11 (by omega)
              have g145 : pJob h19 (S + 1) j := pJob_fi g144 fx23 (by omega)
              have g146 : pJob hm45 (S + 1) j := pJob_fi g145 fa46 (by omega)
              have g147 : pJob h39 (S + 1) j := pJob_fi g146 fb47 (by omega)
              have g148 : pJob h74 (S + 1) j := pJob_fi g147 fx78 (by omega)
              have g149 : pJob hm117 (S + 1) j := pJob_fi g148 fa118 (by omega)
              have g150 : pJob h111 (S + 1) j := pJob_fi g149 fb119 (by omega)
              exact ⟨rfl, g131, g137, pCs_any g130 (t := ((rdEvs tx 24 (skp tx p + 1) []).2.2, (rdTold tx 16 (skp tx (caE tx (skp tx p + 1)).2.1 + 1) []).2.2, 61, (-4), [], 0, [])) g115 (by show (cs.map mkC).length ≤ c; rw [List.length_map]; omega), g143, g150, fr121⟩
            · skip
              have c_52 : ((rdTold tx 16 (skp tx (caE tx (skp tx p + 1)).2.1 + 1) []).1) = true := bI_t' c_52
              obtain ⟨n151, g152⟩ := g114
              have g153 : h111.2.2 175 = some (4, [.ref (18), .int (nI tx.length), .int (n151), .int (nI ((caT tx (skp tx p + 1)).2.1))]) := g152
              have h52 : (caT tx (skp tx p + 1)).1 = true := c_52
              have hlt := caT_le h44
              refine e_aload_n f_30_55 rfl rfl ?_
              refine e_aload_n f_30_56 rfl rfl ?_
              obtain ⟨hm155, fa156, fb157⟩ := fj_mid fr121
              have g154 : px_pa h111 18 52 500 vN tx := pa_fi (pa_fi HT fa156 (by omega)) fb157 (by omega)
              obtain ⟨hm159, fa160, fb161⟩ := fj_mid fr121
              have g158 : pStr h111 8 ordL := pStr_fi (pStr_fi H8 fa160 (by omega)) fb161 (by omega)
              refine e_callV (As := [.ref (S + 9 * c + 6)]) (rest := []) f_30_57 rfl rfl rfl (Nat.le_of_ble_eq_true rfl) (Nat.le_of_ble_eq_true rfl) g153 rfl (Nat.le_of_ble_eq_true rfl) (cc_Rd_ord (n := n151) (tx := tx) (p := (caT tx (skp tx p + 1)).2.1) (a := S + 9 * c + 6) (ev := (rdEvs tx 24 (skp tx p + 1) []).2.2) (told := (rdTold tx 16 (skp tx (caE tx (skp tx p + 1)).2.1 + 1) []).2.2) (os := 61) (ks := (-4)) (kept := []) (ck := 0) (un := []) g153 g115 g154 g158 (hlt) (p1) (by omega)) rfl (fun h162 r163 q164 => ?_)
              obtain ⟨rfl, g165, g166, fx167⟩ := q164
              obtain ⟨hm168, fa169, fb170⟩ := fj_mid fx167
              have fr171 : px_fj S 78 175 1 h0 hm168 := fj_tr fr121 fa169 (by omega)
              have fr172 : px_fj S 78 175 1 h0 h162 := fj_tr fr171 fb170 (by omega)
              show px_to 30 60 [some (.ref (175)), some (.ref (S)), some (.int (nI c)), some (.ref (S + 9 * c + 6))] [.int (bI (decide (sgn tx ((caT tx (skp tx p + 1)).2.1) ∈ ordL)))] h162 _
              refine e_if_eq f_30_60 rfl (fun c_60 => ?_) (fun c_60 => ?_)
              · skip
                have c_60 : (decide (sgn tx ((caT tx (skp tx p + 1)).2.1) ∈ ordL)) = false := bI_f c_60
                refine e_iconst (v := nI 0) f_30_72 (by decide) rfl ?_
                refine e_iret f_30_73 rfl (rfl) ?_
                have h60 : ¬ sgn tx (caT tx (skp tx p + 1)).2.1 ∈ ordL := of_decide_eq_false c_60
                have g173 : h162.2.2 175 = some (4, [.ref (18), .int (nI tx.length), .int (n151), .int (nI (skp tx (caT tx (skp tx p + 1)).2.1))]) := by have z := g165; rw [if_neg h60] at z; exact z
                have g174 : pCsx h19 S (cs.map mkC) c := pCsx_fi g17 fx23 (by omega)
                have g175 : pCsx hm45 S (cs.map mkC) c := pCsx_fi g174 fa46 (by omega)
                have g176 : pCsx h39 S (cs.map mkC) c := pCsx_fi g175 fb47 (by omega)
                have g177 : pCsx h74 S (cs.map mkC) c := pCsx_fi g176 fx78 (by omega)
                have g178 : pCsx hm117 S (cs.map mkC) c := pCsx_fi g177 fa118 (by omega)
                have g179 : pCsx h111 S (cs.map mkC) c := pCsx_fi g178 fb119 (by omega)
                have g180 : pCsx hm168 S (cs.map mkC) c := pCsx_fi g179 fa169 (by omega)
                have g181 : pCsx h162 S (cs.map mkC) c := pCsx_fi g180 fb170 (by omega)
                have g182 : pRd h162 tx (skp tx (caT tx (skp tx p + 1)).2.1) := ⟨_, g173⟩
                have er : rdCase tx (skp tx p + 1) = (false, skp tx (caT tx (skp tx p + 1)).2.1, ([], [], 0)) := by unfold rdCase; rw [if_pos h35, if_pos h44, if_pos h52, if_neg h60]
                rw [show 8 - c = (8 - (c + 1)) + 1 by omega, rdCs, if_pos htk, er] at q4
                simp only [Bool.false_eq_true, if_false] at q4
                subst q4
                have g183 : h19.2.2 S = some (8, [.ref (S + 1), .ref (S + 5), .int (nI cs.length)]) := fi_at g13 fx23 (by omega)
                have g184 : hm45.2.2 S = some (8, [.ref (S + 1), .ref (S + 5), .int (nI cs.length)]) := fi_at g183 fa46 (by omega)
                have g185 : h39.2.2 S = some (8, [.ref (S + 1), .ref (S + 5), .int (nI cs.length)]) := fi_at g184 fb47 (by omega)
                have g186 : h74.2.2 S = some (8, [.ref (S + 1), .ref (S + 5), .int (nI cs.length)]) := fi_at g185 fx78 (by omega)
                have g187 : hm117.2.2 S = some (8, [.ref (S + 1), .ref (S + 5), .int (nI cs.length)]) := fi_at g186 fa118 (by omega)
                have g188 : h111.2.2 S = some (8, [.ref (S + 1), .ref (S + 5), .int (nI cs.length)]) := fi_at g187 fb119 (by omega)
                have g189 : hm168.2.2 S = some (8, [.ref (S + 1), .ref (S + 5), .int (nI cs.length)]) := fi_at g188 fa169 (by omega)
                have g190 : h162.2.2 S = some (8, [.ref (S + 1), .ref (S + 5), .int (nI cs.length)]) := fi_at g189 fb170 (by omega)
                have g191 : px_rs h19 (S + 5) 56 8 (fun k => S + 9 * k + 6) := rs_fi g14 fx23 (by omega)
                have g192 : px_rs hm45 (S + 5) 56 8 (fun k => S + 9 * k + 6) := rs_fi g191 fa46 (by omega)
                have g193 : px_rs h39 (S + 5) 56 8 (fun k => S + 9 * k + 6) := rs_fi g192 fb47 (by omega)
                have g194 : px_rs h74 (S + 5) 56 8 (fun k => S + 9 * k + 6) := rs_fi g193 fx78 (by omega)
                have g195 : px_rs hm117 (S + 5) 56 8 (fun k => S + 9 * k + 6) := rs_fi g194 fa118 (by omega)
                have g196 : px_rs h111 (S + 5) 56 8 (fun k => S + 9 * k + 6) := rs_fi g195 fb119 (by omega)
                have g197 : px_rs hm168 (S + 5) 56 8 (fun k => S + 9 * k + 6) := rs_fi g196 fa169 (by omega)
                have g198 : px_rs h162 (S + 5) 56 8 (fun k => S + 9 * k + 6) := rs_fi g197 fb170 (by omega)
                have g199 : pJob h7 (S + 1) j := pJob_fi G4 fx11 (by omega)
                have g200 : pJob h19 (S + 1) j := pJob_fi g199 fx23 (by omega)
                have g201 : pJob hm45 (S + 1) j := pJob_fi g200 fa46 (by omega)
                have g202 : pJob h39 (S + 1) j := pJob_fi g201 fb47 (by omega)
                have g203 : pJob h74 (S + 1) j := pJob_fi g202 fx78 (by omega)
                have g204 : pJob hm117 (S + 1) j := pJob_fi g203 fa118 (by omega)
                have g205 : pJob h111 (S + 1) j := pJob_fi g204 fb119 (by omega)
                have g206 : pJob hm168 (S + 1) j := pJob_fi g205 fa169 (by omega)
                have g207 : pJob h162 (S + 1) j := pJob_fi g206 fb170 (by omega)
                exact ⟨rfl, g182, g190, pCs_any g181 (t := ((rdEvs tx 24 (skp tx p + 1) []).2.2, (rdTold tx 16 (skp tx (caE tx (skp tx p + 1)).2.1 + 1) []).2.2, if sgn tx ((caT tx (skp tx p + 1)).2.1) ∈ ordL then sgn tx ((caT tx (skp tx p + 1)).2.1) else 61, (-4), [], 0, [])) g166 (by show (cs.map mkC).length ≤ c; rw [List.length_map]; omega), g198, g207, fr172⟩
              · skip
                have c_60 : (decide (sgn tx ((caT tx (skp tx p + 1)).2.1) ∈ ordL)) = true := bI_t' c_60
                have h60 : sgn tx (caT tx (skp tx p + 1)).2.1 ∈ ordL := of_decide_eq_true c_60
                have hl3 := sgn_next h60 (by decide)
                have g208 : h162.2.2 175 = some (4, [.ref (18), .int (nI tx.length), .int (n151), .int (nI (skp tx (caT tx (skp tx p + 1)).2.1 + 1))]) := by have z := g165; rw [if_pos h60] at z; exact z
                have g209 : pCase h162 (S + 9 * c + 6) ((rdEvs tx 24 (skp tx p + 1) []).2.2) ((rdTold tx 16 (skp tx (caE tx (skp tx p + 1)).2.1 + 1) []).2.2) (sgn tx (caT tx (skp tx p + 1)).2.1) (-4) ([]) 0 ([]) := by have z := g166; rw [if_pos h60] at z; exact z
                refine e_aload_n f_30_63 rfl rfl ?_
                refine e_bipush (v := nI 59) f_30_64 (by decide) rfl ?_
                obtain ⟨hm211, fa212, fb213⟩ := fj_mid fr172
                have g210 : px_pa h162 18 52 500 vN tx := pa_fi (pa_fi HT fa212 (by omega)) fb213 (by omega)
                refine e_callV (As := [.int (nI 59)]) (rest := []) f_30_66 rfl rfl rfl (Nat.le_of_ble_eq_true rfl) (Nat.le_of_ble_eq_true rfl) g208 rfl (Nat.le_of_ble_eq_true rfl) (cc_Rd_take (c := 59) (tx := tx) (p := skp tx (caT tx (skp tx p + 1)).2.1 + 1) (n := n151) g208 g210 (hl3) (p1) (by omega) (by omega)) rfl (fun h214 r215 q216 => ?_)
                obtain ⟨rfl, g217, fx218⟩ := q216
                have fr219 : px_fj S 78 175 1 h0 h214 := fj_tr fr172 fx218 (by omega)
                show px_to 30 69 [some (.ref (175)), some (.ref (S)), some (.int (nI c)), some (.ref (S + 9 * c + 6))] [.int (bI (decide (sgn tx (skp tx (caT tx (skp tx p + 1)).2.1 + 1) = 59)))] h214 _
                refine e_if_ne f_30_69 rfl (fun c_69 => ?_) (fun c_69 => ?_)
                · skip
                  have c_69 : (decide (sgn tx (skp tx (caT tx (skp tx p + 1)).2.1 + 1) = 59)) = true := bI_t c_69
                  have h69 : sgn tx (skp tx (caT tx (skp tx p + 1)).2.1 + 1) = 59 := of_decide_eq_true c_69
                  have g220 : h214.2.2 175 = some (4, [.ref (18), .int (nI tx.length), .int (n151), .int (nI (skp tx (skp tx (caT tx (skp tx p + 1)).2.1 + 1) + 1))]) := by have z := g217; rw [if_pos h69] at z; exact z
                  refine e_aload_n f_30_74 rfl rfl ?_
                  refine e_iload_n f_30_75 rfl rfl ?_
                  refine e_iconst (v := nI 1) f_30_76 (by decide) rfl ?_
                  refine e_iadd (z := nI (c + 1)) f_30_77 (nI_add _ _) rfl ?_
                  have g221 : h19.2.2 S = some (8, [.ref (S + 1), .ref (S + 5), .int (nI cs.length)]) := fi_at g13 fx23 (by omega)
                  have g222 : hm45.2.2 S = some (8, [.ref (S + 1), .ref (S + 5), .int (nI cs.length)]) := fi_at g221 fa46 (by omega)
                  have g223 : h39.2.2 S = some (8, [.ref (S + 1), .ref (S + 5), .int (nI cs.length)]) := fi_at g222 fb47 (by omega)
                  have g224 : h74.2.2 S = some (8, [.ref (S + 1), .ref (S + 5), .int (nI cs.length)]) := fi_at g223 fx78 (by omega)
                  have g225 : hm117.2.2 S = some (8, [.ref (S + 1), .ref (S + 5), .int (nI cs.length)]) := fi_at g224 fa118 (by omega)
                  have g226 : h111.2.2 S = some (8, [.ref (S + 1), .ref (S + 5), .int (nI cs.length)]) := fi_at g225 fb119 (by omega)
                  have g227 : hm168.2.2 S = some (8, [.ref (S + 1), .ref (S + 5), .int (nI cs.length)]) := fi_at g226 fa169 (by omega)
                  have g228 : h162.2.2 S = some (8, [.ref (S + 1), .ref (S + 5), .int (nI cs.length)]) := fi_at g227 fb170 (by omega)
                  have g229 : h214.2.2 S = some (8, [.ref (S + 1), .ref (S + 5), .int (nI cs.length)]) := fi_at g228 fx218 (by omega)
                  refine e_putp (vs' := [.ref (S + 1), .ref (S + 5), .int (nI (c + 1))]) f_30_78 g229 (Nat.le_of_ble_eq_true rfl) (rfl) (rfl) rfl rfl (fun h230 g231 fx232 => ?_)
                  have fr233 : px_fj S 78 175 1 h0 h230 := fj_tr fr219 fx232 (by omega)
                  refine e_iinc (y := nI (c + 1)) (L' := [some (.ref (175)), some (.ref (S)), some (.int (nI (c + 1))), some (.ref (S + 9 * c + 6))]) f_30_81 rfl (by rw [show Int32.ofInt 1 = nI 1 by decide]; exact (nI_add _ _)) rfl rfl ?_
                  refine e_goto f_30_84 ?_
                  have g234 : pCsx h19 S (cs.map mkC) c := pCsx_fi g17 fx23 (by omega)
                  have g235 : pCsx hm45 S (cs.map mkC) c := pCsx_fi g234 fa46 (by omega)
                  have g236 : pCsx h39 S (cs.map mkC) c := pCsx_fi g235 fb47 (by omega)
                  have g237 : pCsx h74 S (cs.map mkC) c := pCsx_fi g236 fx78 (by omega)
                  have g238 : pCsx hm117 S (cs.map mkC) c := pCsx_fi g237 fa118 (by omega)
                  have g239 : pCsx h111 S (cs.map mkC) c := pCsx_fi g238 fb119 (by omega)
                  have g240 : pCsx hm168 S (cs.map mkC) c := pCsx_fi g239 fa169 (by omega)
                  have g241 : pCsx h162 S (cs.map mkC) c := pCsx_fi g240 fb170 (by omega)
                  have g242 : pCsx h214 S (cs.map mkC) c := pCsx_fi g241 fx218 (by omega)
                  have g243 : pCsx h230 S (cs.map mkC) c := pCsx_fi g242 fx232 (by omega)
                  have g244 : pCase h214 (S + 9 * c + 6) ((rdEvs tx 24 (skp tx p + 1) []).2.2) ((rdTold tx 16 (skp tx (caE tx (skp tx p + 1)).2.1 + 1) []).2.2) (sgn tx (caT tx (skp tx p + 1)).2.1) (-4) ([]) 0 ([]) := pCase_fi g209 fx218 (by omega)
                  have g245 : pCase h230 (S + 9 * c + 6) ((rdEvs tx 24 (skp tx p + 1) []).2.2) ((rdTold tx 16 (skp tx (caE tx (skp tx p + 1)).2.1 + 1) []).2.2) (sgn tx (caT tx (skp tx p + 1)).2.1) (-4) ([]) 0 ([]) := pCase_fi g244 fx232 (by omega)
                  have er : rdCase tx (skp tx p + 1) = (true, skp tx (skp tx (caT tx (skp tx p + 1)).2.1 + 1) + 1, ((caE tx (skp tx p + 1)).2.2, (caT tx (skp tx p + 1)).2.2, sgn tx (caT tx (skp tx p + 1)).2.1)) := by unfold rdCase; rw [if_pos h35, if_pos h44, if_pos h52, if_pos h60, if_pos h69]
                  rw [show 8 - c = (8 - (c + 1)) + 1 by omega, rdCs, if_pos htk, er, if_pos rfl] at q4
                  dsimp only at q4
                  have g246 : pCs h230 S ((cs ++ [((caE tx (skp tx p + 1)).2.2, (caT tx (skp tx p + 1)).2.2, sgn tx (caT tx (skp tx p + 1)).2.1)]).map mkC) := by rw [List.map_append]; exact pCs_app g243 (t := mkC ((caE tx (skp tx p + 1)).2.2, (caT tx (skp tx p + 1)).2.2, sgn tx (caT tx (skp tx p + 1)).2.1)) g245 (by rw [List.length_map]; omega)
                  have g247 : h230.2.2 S = some (8, [.ref (S + 1), .ref (S + 5), .int (nI ((cs ++ [((caE tx (skp tx p + 1)).2.2, (caT tx (skp tx p + 1)).2.2, sgn tx (caT tx (skp tx p + 1)).2.1)]).length))]) := by rw [List.length_append, List.length_singleton, q3]; exact g231
                  refine px_to_L (L := [some (.ref (175)), some (.ref (S)), some (.int (nI (c + 1))), none]) ⟨Or.inr rfl, Or.inr rfl, Or.inr rfl, Or.inl rfl, trivial⟩ ?_
                  have g248 : h230.2.2 175 = some (4, [.ref (18), .int (nI tx.length), .int (n151), .int (nI (skp tx (skp tx (caT tx (skp tx p + 1)).2.1 + 1) + 1))]) := fi_at g220 fx232 (by omega)
                  have g249 : pRd h230 tx (skp tx (skp tx (caT tx (skp tx p + 1)).2.1 + 1) + 1) := ⟨_, g248⟩
                  have g250 : px_rs h19 (S + 5) 56 8 (fun k => S + 9 * k + 6) := rs_fi g14 fx23 (by omega)
                  have g251 : px_rs hm45 (S + 5) 56 8 (fun k => S + 9 * k + 6) := rs_fi g250 fa46 (by omega)
                  have g252 : px_rs h39 (S + 5) 56 8 (fun k => S + 9 * k + 6) := rs_fi g251 fb47 (by omega)
                  have g253 : px_rs h74 (S + 5) 56 8 (fun k => S + 9 * k + 6) := rs_fi g252 fx78 (by omega)
                  have g254 : px_rs hm117 (S + 5) 56 8 (fun k => S + 9 * k + 6) := rs_fi g253 fa118 (by omega)
                  have g255 : px_rs h111 (S + 5) 56 8 (fun k => S + 9 * k + 6) := rs_fi g254 fb119 (by omega)
                  have g256 : px_rs hm168 (S + 5) 56 8 (fun k => S + 9 * k + 6) := rs_fi g255 fa169 (by omega)
                  have g257 : px_rs h162 (S + 5) 56 8 (fun k => S + 9 * k + 6) := rs_fi g256 fb170 (by omega)
                  have g258 : px_rs h214 (S + 5) 56 8 (fun k => S + 9 * k + 6) := rs_fi g257 fx218 (by omega)
                  have g259 : px_rs h230 (S + 5) 56 8 (fun k => S + 9 * k + 6) := rs_fi g258 fx232 (by omega)
                  have g260 : pJob h7 (S + 1) j := pJob_fi G4 fx11 (by omega)
                  have g261 : pJob h19 (S + 1) j := pJob_fi g260 fx23 (by omega)
                  have g262 : pJob hm45 (S + 1) j := pJob_fi g261 fa46 (by omega)
                  have g263 : pJob h39 (S + 1) j := pJob_fi g262 fb47 (by omega)
                  have g264 : pJob h74 (S + 1) j := pJob_fi g263 fx78 (by omega)
                  have g265 : pJob hm117 (S + 1) j := pJob_fi g264 fa118 (by omega)
                  have g266 : pJob h111 (S + 1) j := pJob_fi g265 fb119 (by omega)
                  have g267 : pJob hm168 (S + 1) j := pJob_fi g266 fa169 (by omega)
                  have g268 : pJob h162 (S + 1) j := pJob_fi g267 fb170 (by omega)
                  have g269 : pJob h214 (S + 1) j := pJob_fi g268 fx218 (by omega)
                  have g270 : pJob h230 (S + 1) j := pJob_fi g269 fx232 (by omega)
                  first | (exfalso; omega) | exact ih (d - 1) (by omega) (c + 1) (skp tx (skp tx (caT tx (skp tx p + 1)).2.1 + 1) + 1) (cs ++ [((caE tx (skp tx p + 1)).2.2, (caT tx (skp tx p + 1)).2.2, sgn tx (caT tx (skp tx p + 1)).2.1)]) h230 (by omega) (by omega) (sgn_nx h69 (by decide)) (by rw [List.length_append, List.length_singleton]; omega) (q4) g249 g247 g246 g259 g270 fr233
                · skip
                  have c_69 : (decide (sgn tx (skp tx (caT tx (skp tx p + 1)).2.1 + 1) = 59)) = false := bI_f' c_69
                  refine e_iconst (v := nI 0) f_30_72 (by decide) rfl ?_
                  refine e_iret f_30_73 rfl (rfl) ?_
                  have h69 : ¬ sgn tx (skp tx (caT tx (skp tx p + 1)).2.1 + 1) = 59 := of_decide_eq_false c_69
                  have g271 : h214.2.2 175 = some (4, [.ref (18), .int (nI tx.length), .int (n151), .int (nI (skp tx (skp tx (caT tx (skp tx p + 1)).2.1 + 1)))]) := by have z := g217; rw [if_neg h69] at z; exact z
                  have g272 : pCsx h19 S (cs.map mkC) c := pCsx_fi g17 fx23 (by omega)
                  have g273 : pCsx hm45 S (cs.map mkC) c := pCsx_fi g272 fa46 (by omega)
                  have g274 : pCsx h39 S (cs.map mkC) c := pCsx_fi g273 fb47 (by omega)
                  have g275 : pCsx h74 S (cs.map mkC) c := pCsx_fi g274 fx78 (by omega)
                  have g276 : pCsx hm117 S (cs.map mkC) c := pCsx_fi g275 fa118 (by omega)
                  have g277 : pCsx h111 S (cs.map mkC) c := pCsx_fi g276 fb119 (by omega)
                  have g278 : pCsx hm168 S (cs.map mkC) c := pCsx_fi g277 fa169 (by omega)
                  have g279 : pCsx h162 S (cs.map mkC) c := pCsx_fi g278 fb170 (by omega)
                  have g280 : pCsx h214 S (cs.map mkC) c := pCsx_fi g279 fx218 (by omega)
                  have g281 : pCase h214 (S + 9 * c + 6) ((rdEvs tx 24 (skp tx p + 1) []).2.2) ((rdTold tx 16 (skp tx (caE tx (skp tx p + 1)).2.1 + 1) []).2.2) (sgn tx (caT tx (skp tx p + 1)).2.1) (-4) ([]) 0 ([]) := pCase_fi g209 fx218 (by omega)
                  have g282 : pRd h214 tx (skp tx (skp tx (caT tx (skp tx p + 1)).2.1 + 1)) := ⟨_, g271⟩
                  have er : rdCase tx (skp tx p + 1) = (false, skp tx (skp tx (caT tx (skp tx p + 1)).2.1 + 1), ([], [], 0)) := by unfold rdCase; rw [if_pos h35, if_pos h44, if_pos h52, if_pos h60, if_neg h69]
                  rw [show 8 - c = (8 - (c + 1)) + 1 by omega, rdCs, if_pos htk, er] at q4
                  simp only [Bool.false_eq_true, if_false] at q4
                  subst q4
                  have g283 : h19.2.2 S = some (8, [.ref (S + 1), .ref (S + 5), .int (nI cs.length)]) := fi_at g13 fx23 (by omega)
                  have g284 : hm45.2.2 S = some (8, [.ref (S + 1), .ref (S + 5), .int (nI cs.length)]) := fi_at g283 fa46 (by omega)
                  have g285 : h39.2.2 S = some (8, [.ref (S + 1), .ref (S + 5), .int (nI cs.length)]) := fi_at g284 fb47 (by omega)
                  have g286 : h74.2.2 S = some (8, [.ref (S + 1), .ref (S + 5), .int (nI cs.length)]) := fi_at g285 fx78 (by omega)
                  have g287 : hm117.2.2 S = some (8, [.ref (S + 1), .ref (S + 5), .int (nI cs.length)]) := fi_at g286 fa118 (by omega)
                  have g288 : h111.2.2 S = some (8, [.ref (S + 1), .ref (S + 5), .int (nI cs.length)]) := fi_at g287 fb119 (by omega)
                  have g289 : hm168.2.2 S = some (8, [.ref (S + 1), .ref (S + 5), .int (nI cs.length)]) := fi_at g288 fa169 (by omega)
                  have g290 : h162.2.2 S = some (8, [.ref (S + 1), .ref (S + 5), .int (nI cs.length)]) := fi_at g289 fb170 (by omega)
                  have g291 : h214.2.2 S = some (8, [.ref (S + 1), .ref (S + 5), .int (nI cs.length)]) := fi_at g290 fx218 (by omega)
                  have g292 : px_rs h19 (S + 5) 56 8 (fun k => S + 9 * k + 6) := rs_fi g14 fx23 (by omega)
                  have g293 : px_rs hm45 (S + 5) 56 8 (fun k => S + 9 * k + 6) := rs_fi g292 fa46 (by omega)
                  have g294 : px_rs h39 (S + 5) 56 8 (fun k => S + 9 * k + 6) := rs_fi g293 fb47 (by omega)
                  have g295 : px_rs h74 (S + 5) 56 8 (fun k => S + 9 * k + 6) := rs_fi g294 fx78 (by omega)
                  have g296 : px_rs hm117 (S + 5) 56 8 (fun k => S + 9 * k + 6) := rs_fi g295 fa118 (by omega)
                  have g297 : px_rs h111 (S + 5) 56 8 (fun k => S + 9 * k + 6) := rs_fi g296 fb119 (by omega)
                  have g298 : px_rs hm168 (S + 5) 56 8 (fun k => S + 9 * k + 6) := rs_fi g297 fa169 (by omega)
                  have g299 : px_rs h162 (S + 5) 56 8 (fun k => S + 9 * k + 6) := rs_fi g298 fb170 (by omega)
                  have g300 : px_rs h214 (S + 5) 56 8 (fun k => S + 9 * k + 6) := rs_fi g299 fx218 (by omega)
                  have g301 : pJob h7 (S + 1) j := pJob_fi G4 fx11 (by omega)
                  have g302 : pJob h19 (S + 1) j := pJob_fi g301 fx23 (by omega)
                  have g303 : pJob hm45 (S + 1) j := pJob_fi g302 fa46 (by omega)
                  have g304 : pJob h39 (S + 1) j := pJob_fi g303 fb47 (by omega)
                  have g305 : pJob h74 (S + 1) j := pJob_fi g304 fx78 (by omega)
                  have g306 : pJob hm117 (S + 1) j := pJob_fi g305 fa118 (by omega)
                  have g307 : pJob h111 (S + 1) j := pJob_fi g306 fb119 (by omega)
                  have g308 : pJob hm168 (S + 1) j := pJob_fi g307 fa169 (by omega)
                  have g309 : pJob h162 (S + 1) j := pJob_fi g308 fb170 (by omega)
                  have g310 : pJob h214 (S + 1) j := pJob_fi g309 fx218 (by omega)
                  exact ⟨rfl, g282, g291, pCs_any g280 (t := ((rdEvs tx 24 (skp tx p + 1) []).2.2, (rdTold tx 16 (skp tx (caE tx (skp tx p + 1)).2.1 + 1) []).2.2, sgn tx (caT tx (skp tx p + 1)).2.1, (-4), [], 0, [])) g281 (by show (cs.map mkC).length ≤ c; rw [List.length_map]; omega), g300, g310, fr219⟩
      · skip
        have c_14 : (decide (sgn tx p = 67)) = false := bI_f' c_14
        refine e_iconst (v := nI 1) f_30_17 (by decide) rfl ?_
        refine e_iret f_30_18 rfl (rfl) ?_
        have htk : ¬ sgn tx p = 67 := of_decide_eq_false c_14
        have g311 : h7.2.2 175 = some (4, [.ref (18), .int (nI tx.length), .int (n1), .int (nI (skp tx p))]) := by have z := g10; rw [if_neg htk] at z; exact z
        have g312 : pRd h7 tx (skp tx p) := ⟨_, g311⟩
        have g313 : h7.2.2 S = some (8, [.ref (S + 1), .ref (S + 5), .int (nI cs.length)]) := fi_at G1 fx11 (by omega)
        have g314 : pCs h7 S (cs.map mkC) := pCs_fi G2 fx11 (by omega)
        have g315 : px_rs h7 (S + 5) 56 8 (fun k => S + 9 * k + 6) := rs_fi G3 fx11 (by omega)
        have g316 : pJob h7 (S + 1) j := pJob_fi G4 fx11 (by omega)
        rw [show 8 - c = (8 - (c + 1)) + 1 by omega, rdCs, if_neg htk] at q4
        subst q4
        exact ⟨rfl, g312, g313, g314, g315, g316, fr12⟩

set_option maxRecDepth 20000 in
set_option maxHeartbeats 4000000 in
theorem cc_Rd_cases {h : px_H} {S n : Nat} {cs : List CT7} {j : List St} {tx : List Nat} {p : Nat} (H0 : pRd h tx p) (H1 : h.2.2 S = some (8, [.ref (S + 1), .ref (S + 5), .int (nI n)])) (H2 : pCs h S cs) (H3 : px_rs h (S + 5) 56 8 (fun k => S + 9 * k + 6)) (H4 : px_pa h 18 52 500 vN tx) (H5 : pStr h 6 evSigns) (H6 : pStr h 7 keyL) (H7 : pStr h 8 ordL) (H8 : pJob h (S + 1) j) (p0 : p ≤ tx.length) (p1 : okTx tx) (p2 : 18 < S ∧ S + 78 ≤ 175) (p3 : n = 0) : px_wp 30 [.ref (175), .ref (S)] h (fun h1 r => r = some (.int (bI ((rdCs tx 8 p []).1))) ∧ pRd h1 tx ((rdCs tx 8 p []).2.1) ∧ h1.2.2 S = some (8, [.ref (S + 1), .ref (S + 5), .int (nI ((rdCs tx 8 p []).2.2.length))]) ∧ pCs h1 S ((rdCs tx 8 p []).2.2.map mkC) ∧ px_rs h1 (S + 5) 56 8 (fun k => S + 9 * k + 6) ∧ pJob h1 (S + 1) j ∧ px_fj S 78 175 1 h h1) := by
  have fr0 : px_fj S 78 175 1 h h := fj_rf _ _ _ _ _
  show px_to 30 0 [some (.ref (175)), some (.ref (S)), none, none] [] h _
  refine e_iconst (v := nI 0) f_30_0 (by decide) rfl ?_
  refine e_istore_n (L' := [some (.ref (175)), some (.ref (S)), some (.int (nI 0)), none]) f_30_1 (Nat.le_of_ble_eq_true rfl) rfl rfl ?_
  subst p3
  exact ll_Rd_cases (h0 := h) H4 H5 H6 H7 p1 p2 8 0 p [] h (by omega) (by omega) p0 rfl rfl H0 H1 (pCs_nil H2) H3 H8 fr0

set_option maxRecDepth 20000 in
set_option maxHeartbeats 4000000 in
theorem cc_Rd_read {h : px_H} {S n : Nat} {j : List St} {cs : List CT7} {tx : List Nat} {r0 : Nat} {l0 n0 q0 : Int32} (H0 : h.2.2 175 = some (4, [.ref (r0), .int (l0), .int (n0), .int (q0)])) (H1 : h.2.2 S = some (8, [.ref (S + 1), .ref (S + 5), .int (nI n)])) (H2 : pJob h (S + 1) j) (H3 : pCs h S cs) (H4 : px_rs h (S + 5) 56 8 (fun k => S + 9 * k + 6)) (H5 : px_pa h 18 52 500 vN tx) (H6 : pStr h 3 stepSigns) (H7 : pStr h 4 ([60, 61, 62])) (H8 : pStr h 5 ([43, 45, 42, 47])) (H9 : pStr h 6 evSigns) (H10 : pStr h 7 keyL) (H11 : pStr h 8 ordL) (p0 : okTx tx) (p1 : 18 < S ∧ S + 78 ≤ 175) : px_wp 25 [.ref (175), .ref (18), .int (nI tx.length), .ref (S)] h (fun h1 r => r = some (.int (bI ((rdAll tx).1))) ∧ pRd h1 tx ((rdAll tx).2.1) ∧ h1.2.2 S = some (8, [.ref (S + 1), .ref (S + 5), .int (nI ((rdAll tx).2.2.2.length))]) ∧ pJob h1 (S + 1) ((rdAll tx).2.2.1) ∧ pCs h1 S ((rdAll tx).2.2.2.map mkC) ∧ px_rs h1 (S + 5) 56 8 (fun k => S + 9 * k + 6) ∧ px_fj S 78 175 1 h h1) := by
  have fr0 : px_fj S 78 175 1 h h := fj_rf _ _ _ _ _
  have le := pa_len H5
  show px_to 25 0 [some (.ref (175)), some (.ref (18)), some (.int (nI tx.length)), some (.ref (S))] [] h _
  refine e_aload_n f_25_0 rfl rfl ?_
  refine e_aload_n f_25_1 rfl rfl ?_
  refine e_putp (vs' := [.ref (18), .int (l0), .int (n0), .int (q0)]) f_25_2 H0 (Nat.le_of_ble_eq_true rfl) (rfl) (rfl) rfl rfl (fun h1 g2 fx3 => ?_)
  have fr4 : px_fj S 78 175 1 h h1 := fj_tr fr0 fx3 (by omega)
  refine e_aload_n f_25_5 rfl rfl ?_
  refine e_iload_n f_25_6 rfl rfl ?_
  refine e_aload_n f_25_7 rfl rfl ?_
  obtain ⟨hm6, fa7, fb8⟩ := fj_mid fr4
  have g5 : px_pa h1 18 52 500 vN tx := pa_fi (pa_fi H5 fa7 (by omega)) fb8 (by omega)
  refine e_alen_p f_25_8 (Nat.le_of_ble_eq_true rfl) g5 rfl ?_
  refine e_minN f_25_9 (by omega) (by omega) (Nat.le_of_ble_eq_true rfl) rfl ?_
  rw [show min tx.length 500 = tx.length by omega]
  refine e_putp (vs' := [.ref (18), .int (nI tx.length), .int (n0), .int (q0)]) f_25_12 g2 (Nat.le_of_ble_eq_true rfl) (rfl) (rfl) rfl rfl (fun h9 g10 fx11 => ?_)
  have fr12 : px_fj S 78 175 1 h h9 := fj_tr fr4 fx11 (by omega)
  refine e_aload_n f_25_15 rfl rfl ?_
  refine e_iconst (v := nI 0) f_25_16 (by decide) rfl ?_
  refine e_putp (vs' := [.ref (18), .int (nI tx.length), .int (n0), .int (nI 0)]) f_25_17 g10 (Nat.le_of_ble_eq_true rfl) (rfl) (rfl) rfl rfl (fun h13 g14 fx15 => ?_)
  have fr16 : px_fj S 78 175 1 h h13 := fj_tr fr12 fx15 (by omega)
  refine e_aload_n f_25_20 rfl rfl ?_
  have g17 : h1.2.2 S = some (8, [.ref (S + 1), .ref (S + 5), .int (nI n)]) := fi_at H1 fx3 (by omega)
  have g18 : h9.2.2 S = some (8, [.ref (S + 1), .ref (S + 5), .int (nI n)]) := fi_at g17 fx11 (by omega)
  have g19 : h13.2.2 S = some (8, [.ref (S + 1), .ref (S + 5), .int (nI n)]) := fi_at g18 fx15 (by omega)
  have g20 : pJob h1 (S + 1) j := pJob_fi H2 fx3 (by omega)
  have g21 : pJob h9 (S + 1) j := pJob_fi g20 fx11 (by omega)
  have g22 : pJob h13 (S + 1) j := pJob_fi g21 fx15 (by omega)
  refine e_callV (As := []) (rest := []) f_25_21 rfl rfl rfl (Nat.le_of_ble_eq_true rfl) (Nat.le_of_ble_eq_true rfl) g19 rfl (Nat.le_of_ble_eq_true rfl) (cc_Scr_clear (S := S) (n := n) (j := j) g19 g22 (by omega)) rfl (fun h23 r24 q25 => ?_)
  obtain ⟨rfl, g26, g27, fx28⟩ := q25
  have fr29 : px_fj S 78 175 1 h h23 := fj_tr fr16 fx28 (by omega)
  show px_to 25 24 [some (.ref (175)), some (.ref (18)), some (.int (nI tx.length)), some (.ref (S))] [] h23 _
  refine e_aload_n f_25_24 rfl rfl ?_
  refine e_bipush (v := nI 74) f_25_25 (by decide) rfl ?_
  have g30 : h23.2.2 175 = some (4, [.ref (18), .int (nI tx.length), .int (n0), .int (nI 0)]) := fi_at g14 fx28 (by omega)
  obtain ⟨hm32, fa33, fb34⟩ := fj_mid fr29
  have g31 : px_pa h23 18 52 500 vN tx := pa_fi (pa_fi H5 fa33 (by omega)) fb34 (by omega)
  refine e_callV (As := [.int (nI 74)]) (rest := []) f_25_27 rfl rfl rfl (Nat.le_of_ble_eq_true rfl) (Nat.le_of_ble_eq_true rfl) g30 rfl (Nat.le_of_ble_eq_true rfl) (cc_Rd_take (c := 74) (tx := tx) (p := 0) (n := n0) g30 g31 (by omega) (p0) (by omega) (by omega)) rfl (fun h35 r36 q37 => ?_)
  obtain ⟨rfl, g38, fx39⟩ := q37
  have fr40 : px_fj S 78 175 1 h h35 := fj_tr fr29 fx39 (by omega)
  show px_to 25 30 [some (.ref (175)), some (.ref (18)), some (.int (nI tx.length)), some (.ref (S))] [.int (bI (decide (sgn tx 0 = 74)))] h35 _
  refine e_if_eq f_25_30 rfl (fun c_30 => ?_) (fun c_30 => ?_)
  · skip
    have c_30 : (decide (sgn tx 0 = 74)) = false := bI_f c_30
    refine e_iconst (v := nI 0) f_25_72 (by decide) rfl ?_
    refine e_iret f_25_73 rfl (rfl) ?_
    have h30 : ¬ sgn tx 0 = 74 := of_decide_eq_false c_30
    have g41 : h35.2.2 175 = some (4, [.ref (18), .int (nI tx.length), .int (n0), .int (nI (skp tx 0))]) := by have z := g38; rw [if_neg h30] at z; exact z
    have g42 : pRd h35 tx (skp tx 0) := ⟨_, g41⟩
    have g43 : pCs h1 S cs := pCs_fi H3 fx3 (by omega)
    have g44 : pCs h9 S cs := pCs_fi g43 fx11 (by omega)
    have g45 : pCs h13 S cs := pCs_fi g44 fx15 (by omega)
    have g46 : pCs h23 S cs := pCs_fi g45 fx28 (by omega)
    have g47 : pCs h35 S cs := pCs_fi g46 fx39 (by omega)
    have er : rdAll tx = (false, skp tx 0, [], []) := by unfold rdAll; rw [if_neg h30]
    rw [er]
    have g48 : h35.2.2 S = some (8, [.ref (S + 1), .ref (S + 5), .int (nI 0)]) := fi_at g26 fx39 (by omega)
    have g49 : pJob h35 (S + 1) ([] : List St) := pJob_fi g27 fx39 (by omega)
    have g50 : px_rs h1 (S + 5) 56 8 (fun k => S + 9 * k + 6) := rs_fi H4 fx3 (by omega)
    have g51 : px_rs h9 (S + 5) 56 8 (fun k => S + 9 * k + 6) := rs_fi g50 fx11 (by omega)
    have g52 : px_rs h13 (S + 5) 56 8 (fun k => S + 9 * k + 6) := rs_fi g51 fx15 (by omega)
    have g53 : px_rs h23 (S + 5) 56 8 (fun k => S + 9 * k + 6) := rs_fi g52 fx28 (by omega)
    have g54 : px_rs h35 (S + 5) 56 8 (fun k => S + 9 * k + 6) := rs_fi g53 fx39 (by omega)
    exact ⟨rfl, g42, g48, g49, pCs_nil g47, g54, fr40⟩
  · skip
    have c_30 : (decide (sgn tx 0 = 74)) = true := bI_t' c_30
    have h30 : sgn tx 0 = 74 := of_decide_eq_true c_30
    have hl0 := sgn_nx h30 (by decide)
    have g55 : h35.2.2 175 = some (4, [.ref (18), .int (nI tx.length), .int (n0), .int (nI (skp tx 0 + 1))]) := by have z := g38; rw [if_pos h30] at z; exact z
    refine e_aload_n f_25_33 rfl rfl ?_
    refine e_aload_n f_25_34 rfl rfl ?_
    have g56 : h35.2.2 S = some (8, [.ref (S + 1), .ref (S + 5), .int (nI 0)]) := fi_at g26 fx39 (by omega)
    refine e_getf f_25_35 g56 rfl rfl ?_
    have g57 : pRd h35 tx (skp tx 0 + 1) := ⟨_, g55⟩
    have g58 : pJob h35 (S + 1) ([] : List St) := pJob_fi g27 fx39 (by omega)
    obtain ⟨hm60, fa61, fb62⟩ := fj_mid fr40
    have g59 : px_pa h35 18 52 500 vN tx := pa_fi (pa_fi H5 fa61 (by omega)) fb62 (by omega)
    obtain ⟨hm64, fa65, fb66⟩ := fj_mid fr40
    have g63 : pStr h35 3 stepSigns := pStr_fi (pStr_fi H6 fa65 (by omega)) fb66 (by omega)
    obtain ⟨hm68, fa69, fb70⟩ := fj_mid fr40
    have g67 : pStr h35 4 ([60, 61, 62]) := pStr_fi (pStr_fi H7 fa69 (by omega)) fb70 (by omega)
    obtain ⟨hm72, fa73, fb74⟩ := fj_mid fr40
    have g71 : pStr h35 5 ([43, 45, 42, 47]) := pStr_fi (pStr_fi H8 fa73 (by omega)) fb74 (by omega)
    refine e_callV (As := [.ref (S + 1)]) (rest := []) f_25_38 rfl rfl rfl (Nat.le_of_ble_eq_true rfl) (Nat.le_of_ble_eq_true rfl) g55 rfl (Nat.le_of_ble_eq_true rfl) (cc_Rd_steps (b := S + 1) (j := ([] : List St)) (tx := tx) (p := skp tx 0 + 1) g57 g58 g59 g63 g67 g71 (hl0) (p0) (rfl) (by omega) (by omega)) rfl (fun h75 r76 q77 => ?_)
    obtain ⟨rfl, g78, g79, fx80⟩ := q77
    obtain ⟨hm81, fa82, fb83⟩ := fj_mid fx80
    have fr84 : px_fj S 78 175 1 h hm81 := fj_tr fr40 fa82 (by omega)
    have fr85 : px_fj S 78 175 1 h h75 := fj_tr fr84 fb83 (by omega)
    show px_to 25 41 [some (.ref (175)), some (.ref (18)), some (.int (nI tx.length)), some (.ref (S))] [.int (bI ((rdSteps tx 6 0 (skp tx 0 + 1) ([] : List St)).1))] h75 _
    refine e_if_eq f_25_41 rfl (fun c_41 => ?_) (fun c_41 => ?_)
    · skip
      have c_41 : ((rdSteps tx 6 0 (skp tx 0 + 1) ([] : List St)).1) = false := bI_f c_41
      refine e_iconst (v := nI 0) f_25_72 (by decide) rfl ?_
      refine e_iret f_25_73 rfl (rfl) ?_
      obtain ⟨n86, g87⟩ := g78
      have g88 : h75.2.2 175 = some (4, [.ref (18), .int (nI tx.length), .int (n86), .int (nI ((aJ tx).2.1))]) := g87
      have g89 : pRd h75 tx ((aJ tx).2.1) := ⟨_, g88⟩
      have g90 : pCs h1 S cs := pCs_fi H3 fx3 (by omega)
      have g91 : pCs h9 S cs := pCs_fi g90 fx11 (by omega)
      have g92 : pCs h13 S cs := pCs_fi g91 fx15 (by omega)
      have g93 : pCs h23 S cs := pCs_fi g92 fx28 (by omega)
      have g94 : pCs h35 S cs := pCs_fi g93 fx39 (by omega)
      have g95 : pCs hm81 S cs := pCs_fi g94 fa82 (by omega)
      have g96 : pCs h75 S cs := pCs_fi g95 fb83 (by omega)
      have er : rdAll tx = (false, (aJ tx).2.1, (aJ tx).2.2, []) := by unfold rdAll; rw [if_pos h30, if_neg (by unfold aJ; rw [c_41]; decide)]
      rw [er]
      have g97 : hm81.2.2 S = some (8, [.ref (S + 1), .ref (S + 5), .int (nI 0)]) := fi_at g56 fa82 (by omega)
      have g98 : h75.2.2 S = some (8, [.ref (S + 1), .ref (S + 5), .int (nI 0)]) := fi_at g97 fb83 (by omega)
      have g99 : px_rs h1 (S + 5) 56 8 (fun k => S + 9 * k + 6) := rs_fi H4 fx3 (by omega)
      have g100 : px_rs h9 (S + 5) 56 8 (fun k => S + 9 * k + 6) := rs_fi g99 fx11 (by omega)
      have g101 : px_rs h13 (S + 5) 56 8 (fun k => S + 9 * k + 6) := rs_fi g100 fx15 (by omega)
      have g102 : px_rs h23 (S + 5) 56 8 (fun k => S + 9 * k + 6) := rs_fi g101 fx28 (by omega)
      have g103 : px_rs h35 (S + 5) 56 8 (fun k => S + 9 * k + 6) := rs_fi g102 fx39 (by omega)
      have g104 : px_rs hm81 (S + 5) 56 8 (fun k => S + 9 * k + 6) := rs_fi g103 fa82 (by omega)
      have g105 : px_rs h75 (S + 5) 56 8 (fun k => S + 9 * k + 6) := rs_fi g104 fb83 (by omega)
      exact ⟨rfl, g89, g98, g79, pCs_nil g96, g105, fr85⟩
    · skip
      have c_41 : ((rdSteps tx 6 0 (skp tx 0 + 1) ([] : List St)).1) = true := bI_t' c_41
      obtain ⟨n106, g107⟩ := g78
      have g108 : h75.2.2 175 = some (4, [.ref (18), .int (nI tx.length), .int (n106), .int (nI ((aJ tx).2.1))]) := g107
      have h41 : (aJ tx).1 = true := c_41
      have hlj : (aJ tx).2.1 ≤ tx.length := rdSteps_le _ _ _ _ hl0
      refine e_aload_n f_25_44 rfl rfl ?_
      refine e_bipush (v := nI 59) f_25_45 (by decide) rfl ?_
      obtain ⟨hm110, fa111, fb112⟩ := fj_mid fr85
      have g109 : px_pa h75 18 52 500 vN tx := pa_fi (pa_fi H5 fa111 (by omega)) fb112 (by omega)
      refine e_callV (As := [.int (nI 59)]) (rest := []) f_25_47 rfl rfl rfl (Nat.le_of_ble_eq_true rfl) (Nat.le_of_ble_eq_true rfl) g108 rfl (Nat.le_of_ble_eq_true rfl) (cc_Rd_take (c := 59) (tx := tx) (p := (aJ tx).2.1) (n := n106) g108 g109 (hlj) (p0) (by omega) (by omega)) rfl (fun h113 r114 q115 => ?_)
      obtain ⟨rfl, g116, fx117⟩ := q115
      have fr118 : px_fj S 78 175 1 h h113 := fj_tr fr85 fx117 (by omega)
      show px_to 25 50 [some (.ref (175)), some (.ref (18)), some (.int (nI tx.length)), some (.ref (S))] [.int (bI (decide (sgn tx ((aJ tx).2.1) = 59)))] h113 _
      refine e_if_eq f_25_50 rfl (fun c_50 => ?_) (fun c_50 => ?_)
      · skip
        have c_50 : (decide (sgn tx ((aJ tx).2.1) = 59)) = false := bI_f c_50
        refine e_iconst (v := nI 0) f_25_72 (by decide) rfl ?_
        refine e_iret f_25_73 rfl (rfl) ?_
        have h50 : ¬ sgn tx (aJ tx).2.1 = 59 := of_decide_eq_false c_50
        have g119 : h113.2.2 175 = some (4, [.ref (18), .int (nI tx.length), .int (n106), .int (nI (skp tx (aJ tx).2.1))]) := by have z := g116; rw [if_neg h50] at z; exact z
        have g120 : pRd h113 tx (skp tx (aJ tx).2.1) := ⟨_, g119⟩
        have g121 : pCs h1 S cs := pCs_fi H3 fx3 (by omega)
        have g122 : pCs h9 S cs := pCs_fi g121 fx11 (by omega)
        have g123 : pCs h13 S cs := pCs_fi g122 fx15 (by omega)
        have g124 : pCs h23 S cs := pCs_fi g123 fx28 (by omega)
        have g125 : pCs h35 S cs := pCs_fi g124 fx39 (by omega)
        have g126 : pCs hm81 S cs := pCs_fi g125 fa82 (by omega)
        have g127 : pCs h75 S cs := pCs_fi g126 fb83 (by omega)
        have g128 : pCs h113 S cs := pCs_fi g127 fx117 (by omega)
        have er : rdAll tx = (false, skp tx (aJ tx).2.1, (aJ tx).2.2, []) := by unfold rdAll; rw [if_pos h30, if_pos h41, if_neg h50]
        rw [er]
        have g129 : hm81.2.2 S = some (8, [.ref (S + 1), .ref (S + 5), .int (nI 0)]) := fi_at g56 fa82 (by omega)
        have g130 : h75.2.2 S = some (8, [.ref (S + 1), .ref (S + 5), .int (nI 0)]) := fi_at g129 fb83 (by omega)
        have g131 : h113.2.2 S = some (8, [.ref (S + 1), .ref (S + 5), .int (nI 0)]) := fi_at g130 fx117 (by omega)
        have g132 : pJob h113 (S + 1) ((rdSteps tx 6 0 (skp tx 0 + 1) ([] : List St)).2.2) := pJob_fi g79 fx117 (by omega)
        have g133 : px_rs h1 (S + 5) 56 8 (fun k => S + 9 * k + 6) := rs_fi H4 fx3 (by omega)
        have g134 : px_rs h9 (S + 5) 56 8 (fun k => S + 9 * k + 6) := rs_fi g133 fx11 (by omega)
        have g135 : px_rs h13 (S + 5) 56 8 (fun k => S + 9 * k + 6) := rs_fi g134 fx15 (by omega)
        have g136 : px_rs h23 (S + 5) 56 8 (fun k => S + 9 * k + 6) := rs_fi g135 fx28 (by omega)
        have g137 : px_rs h35 (S + 5) 56 8 (fun k => S + 9 * k + 6) := rs_fi g136 fx39 (by omega)
        have g138 : px_rs hm81 (S + 5) 56 8 (fun k => S + 9 * k + 6) := rs_fi g137 fa82 (by omega)
        have g139 : px_rs h75 (S + 5) 56 8 (fun k => S + 9 * k + 6) := rs_fi g138 fb83 (by omega)
        have g140 : px_rs h113 (S + 5) 56 8 (fun k => S + 9 * k + 6) := rs_fi g139 fx117 (by omega)
        exact ⟨rfl, g120, g131, g132, pCs_nil g128, g140, fr118⟩
      · skip
        have c_50 : (decide (sgn tx ((aJ tx).2.1) = 59)) = true := bI_t' c_50
        have h50 : sgn tx (aJ tx).2.1 = 59 := of_decide_eq_true c_50
        have hl1 := sgn_nx h50 (by decide)
        have g141 : h113.2.2 175 = some (4, [.ref (18), .int (nI tx.length), .int (n106), .int (nI (skp tx (aJ tx).2.1 + 1))]) := by have z := g116; rw [if_pos h50] at z; exact z
        refine e_aload_n f_25_53 rfl rfl ?_
        refine e_aload_n f_25_54 rfl rfl ?_
        have g142 : pRd h113 tx (skp tx (aJ tx).2.1 + 1) := ⟨_, g141⟩
        have g143 : hm81.2.2 S = some (8, [.ref (S + 1), .ref (S + 5), .int (nI 0)]) := fi_at g56 fa82 (by omega)
        have g144 : h75.2.2 S = some (8, [.ref (S + 1), .ref (S + 5), .int (nI 0)]) := fi_at g143 fb83 (by omega)
        have g145 : h113.2.2 S = some (8, [.ref (S + 1), .ref (S + 5), .int (nI 0)]) := fi_at g144 fx117 (by omega)
        have g146 : pCs h1 S cs := pCs_fi H3 fx3 (by omega)
        have g147 : pCs h9 S cs := pCs_fi g146 fx11 (by omega)
        have g148 : pCs h13 S cs := pCs_fi g147 fx15 (by omega)
        have g149 : pCs h23 S cs := pCs_fi g148 fx28 (by omega)
        have g150 : pCs h35 S cs := pCs_fi g149 fx39 (by omega)
        have g151 : pCs hm81 S cs := pCs_fi g150 fa82 (by omega)
        have g152 : pCs h75 S cs := pCs_fi g151 fb83 (by omega)
        have g153 : pCs h113 S cs := pCs_fi g152 fx117 (by omega)
        have g154 : px_rs h1 (S + 5) 56 8 (fun k => S + 9 * k + 6) := rs_fi H4 fx3 (by omega)
        have g155 : px_rs h9 (S + 5) 56 8 (fun k => S + 9 * k + 6) := rs_fi g154 fx11 (by omega)
        have g156 : px_rs h13 (S + 5) 56 8 (fun k => S + 9 * k + 6) := rs_fi g155 fx15 (by omega)
        have g157 : px_rs h23 (S + 5) 56 8 (fun k => S + 9 * k + 6) := rs_fi g156 fx28 (by omega)
        have g158 : px_rs h35 (S + 5) 56 8 (fun k => S + 9 * k + 6) := rs_fi g157 fx39 (by omega)
        have g159 : px_rs hm81 (S + 5) 56 8 (fun k => S + 9 * k + 6) := rs_fi g158 fa82 (by omega)
        have g160 : px_rs h75 (S + 5) 56 8 (fun k => S + 9 * k + 6) := rs_fi g159 fb83 (by omega)
        have g161 : px_rs h113 (S + 5) 56 8 (fun k => S + 9 * k + 6) := rs_fi g160 fx117 (by omega)
        obtain ⟨hm163, fa164, fb165⟩ := fj_mid fr118
        have g162 : px_pa h113 18 52 500 vN tx := pa_fi (pa_fi H5 fa164 (by omega)) fb165 (by omega)
        obtain ⟨hm167, fa168, fb169⟩ := fj_mid fr118
        have g166 : pStr h113 6 evSigns := pStr_fi (pStr_fi H9 fa168 (by omega)) fb169 (by omega)
        obtain ⟨hm171, fa172, fb173⟩ := fj_mid fr118
        have g170 : pStr h113 7 keyL := pStr_fi (pStr_fi H10 fa172 (by omega)) fb173 (by omega)
        obtain ⟨hm175, fa176, fb177⟩ := fj_mid fr118
        have g174 : pStr h113 8 ordL := pStr_fi (pStr_fi H11 fa176 (by omega)) fb177 (by omega)
        have g178 : pJob h113 (S + 1) ((rdSteps tx 6 0 (skp tx 0 + 1) ([] : List St)).2.2) := pJob_fi g79 fx117 (by omega)
        refine e_callV (As := [.ref (S)]) (rest := []) f_25_55 rfl rfl rfl (Nat.le_of_ble_eq_true rfl) (Nat.le_of_ble_eq_true rfl) g141 rfl (Nat.le_of_ble_eq_true rfl) (cc_Rd_cases (S := S) (n := 0) (cs := cs) (tx := tx) (p := skp tx (aJ tx).2.1 + 1) (j := (rdSteps tx 6 0 (skp tx 0 + 1) ([] : List St)).2.2) g142 g145 g153 g161 g162 g166 g170 g174 g178 (hl1) (p0) (by omega) (rfl)) rfl (fun h179 r180 q181 => ?_)
        obtain ⟨rfl, g182, g183, g184, g185, g186, fx187⟩ := q181
        obtain ⟨hm188, fa189, fb190⟩ := fj_mid fx187
        have fr191 : px_fj S 78 175 1 h hm188 := fj_tr fr118 fa189 (by omega)
        have fr192 : px_fj S 78 175 1 h h179 := fj_tr fr191 fb190 (by omega)
        show px_to 25 58 [some (.ref (175)), some (.ref (18)), some (.int (nI tx.length)), some (.ref (S))] [.int (bI ((rdCs tx 8 (skp tx (aJ tx).2.1 + 1) []).1))] h179 _
        refine e_if_eq f_25_58 rfl (fun c_58 => ?_) (fun c_58 => ?_)
        · skip
          have c_58 : ((rdCs tx 8 (skp tx (aJ tx).2.1 + 1) []).1) = false := bI_f c_58
          refine e_iconst (v := nI 0) f_25_72 (by decide) rfl ?_
          refine e_iret f_25_73 rfl (rfl) ?_
          obtain ⟨n193, g194⟩ := g182
          have g195 : h179.2.2 175 = some (4, [.ref (18), .int (nI tx.length), .int (n193), .int (nI ((aC tx).2.1))]) := g194
          have g196 : pRd h179 tx ((aC tx).2.1) := ⟨_, g195⟩
          have er : rdAll tx = (false, (aC tx).2.1, (aJ tx).2.2, (aC tx).2.2) := by unfold rdAll; rw [if_pos h30, if_pos h41, if_pos h50, if_neg (by unfold aC; rw [c_58]; decide)]
          rw [er]
          exact ⟨rfl, g196, g183, g186, g184, g185, fr192⟩
        · skip
          have c_58 : ((rdCs tx 8 (skp tx (aJ tx).2.1 + 1) []).1) = true := bI_t' c_58
          obtain ⟨n197, g198⟩ := g182
          have g199 : h179.2.2 175 = some (4, [.ref (18), .int (nI tx.length), .int (n197), .int (nI ((aC tx).2.1))]) := g198
          have h58 : (aC tx).1 = true := c_58
          have hlc : (aC tx).2.1 ≤ tx.length := rdCs_le _ _ _ hl1
          have hsc : sgn tx (aC tx).2.1 < 127 := tx_lt p0 _
          refine e_aload_n f_25_61 rfl rfl ?_
          obtain ⟨hm201, fa202, fb203⟩ := fj_mid fr192
          have g200 : px_pa h179 18 52 500 vN tx := pa_fi (pa_fi H5 fa202 (by omega)) fb203 (by omega)
          refine e_callV (As := []) (rest := []) f_25_62 rfl rfl rfl (Nat.le_of_ble_eq_true rfl) (Nat.le_of_ble_eq_true rfl) g199 rfl (Nat.le_of_ble_eq_true rfl) (cc_Rd_next (tx := tx) (p := (aC tx).2.1) (n := n197) g199 g200 (hlc) (p0)) rfl (fun h204 r205 q206 => ?_)
          obtain ⟨rfl, g207, fx208⟩ := q206
          have fr209 : px_fj S 78 175 1 h h204 := fj_tr fr192 fx208 (by omega)
          show px_to 25 65 [some (.ref (175)), some (.ref (18)), some (.int (nI tx.length)), some (.ref (S))] [.int (nI (sgn tx ((aC tx).2.1)))] h204 _
          refine e_if_ne f_25_65 rfl (fun c_65 => ?_) (fun c_65 => ?_)
          · skip
            rw [← nI_0] at c_65
            have c_65 : sgn tx ((aC tx).2.1) ≠ 0 := cv_ne c_65
            refine e_iconst (v := nI 0) f_25_72 (by decide) rfl ?_
            refine e_iret f_25_73 rfl (rfl) ?_
            have g210 : pRd h204 tx (skp tx ((aC tx).2.1)) := ⟨_, g207⟩
            have g211 : pCs h204 S ((rdCs tx 8 (skp tx (aJ tx).2.1 + 1) []).2.2.map mkC) := pCs_fi g184 fx208 (by omega)
            have er : rdAll tx = (false, skp tx (aC tx).2.1, (aJ tx).2.2, (aC tx).2.2) := by unfold rdAll; rw [if_pos h30, if_pos h41, if_pos h50, if_pos h58, decide_eq_false c_65]
            rw [er]
            have g212 : h204.2.2 S = some (8, [.ref (S + 1), .ref (S + 5), .int (nI ((rdCs tx 8 (skp tx (aJ tx).2.1 + 1) []).2.2.length))]) := fi_at g183 fx208 (by omega)
            have g213 : pJob h204 (S + 1) ((rdSteps tx 6 0 (skp tx 0 + 1) ([] : List St)).2.2) := pJob_fi g186 fx208 (by omega)
            have g214 : px_rs h204 (S + 5) 56 8 (fun k => S + 9 * k + 6) := rs_fi g185 fx208 (by omega)
            exact ⟨rfl, g210, g212, g213, g211, g214, fr209⟩
          · skip
            rw [← nI_0] at c_65
            have c_65 : sgn tx ((aC tx).2.1) = 0 := cv_nne (by omega) (by omega) c_65
            refine e_iconst (v := nI 1) f_25_68 (by decide) rfl ?_
            refine e_goto f_25_69 ?_
            refine e_iret f_25_73 rfl (rfl) ?_
            have g215 : pRd h204 tx (skp tx ((aC tx).2.1)) := ⟨_, g207⟩
            have g216 : pCs h204 S ((rdCs tx 8 (skp tx (aJ tx).2.1 + 1) []).2.2.map mkC) := pCs_fi g184 fx208 (by omega)
            have er : rdAll tx = (true, skp tx (aC tx).2.1, (aJ tx).2.2, (aC tx).2.2) := by unfold rdAll; rw [if_pos h30, if_pos h41, if_pos h50, if_pos h58, decide_eq_true c_65]
            rw [er]
            have g217 : h204.2.2 S = some (8, [.ref (S + 1), .ref (S + 5), .int (nI ((rdCs tx 8 (skp tx (aJ tx).2.1 + 1) []).2.2.length))]) := fi_at g183 fx208 (by omega)
            have g218 : pJob h204 (S + 1) ((rdSteps tx 6 0 (skp tx 0 + 1) ([] : List St)).2.2) := pJob_fi g186 fx208 (by omega)
            have g219 : px_rs h204 (S + 5) 56 8 (fun k => S + 9 * k + 6) := rs_fi g185 fx208 (by omega)
            exact ⟨rfl, g215, g217, g218, g216, g219, fr209⟩
