/-- an array of L ints, the first of which are those of cs -/
def px_pz (h : px_H) (a L : Nat) (cs : List Int32) : Prop := ∃ ws : List Int32, px_pa h a 50 L Value.int (cs ++ ws) ∧ (cs ++ ws).length = L
theorem pz_fi {lo n a L : Nat} {cs : List Int32} {h h1 : px_H} (hc : px_pz h a L cs) (fr : px_fi lo n h h1) (d : a + 1 ≤ lo ∨ lo + n ≤ a) : px_pz h1 a L cs := by
  obtain ⟨ws, h1, h2⟩ := hc
  exact ⟨ws, pa_fi h1 fr d, h2⟩
theorem pz_take {a L : Nat} {cs : List Int32} {h : px_H} (hc : px_pz h a L cs) (k : Nat) : px_pz h a L (cs.take k) := by
  obtain ⟨ws, h1, h2⟩ := hc
  refine ⟨cs.drop k ++ ws, ?_, ?_⟩
  · rw [← List.append_assoc, List.take_append_drop]
    exact h1
  · rw [← List.append_assoc, List.take_append_drop]
    exact h2
theorem pz_nil {a L : Nat} {cs : List Int32} {h : px_H} (hc : px_pz h a L cs) : px_pz h a L [] := pz_take hc 0
theorem pz_len {a L : Nat} {cs : List Int32} {h : px_H} (hc : px_pz h a L cs) : cs.length ≤ L := by
  obtain ⟨ws, h1, h2⟩ := hc
  rw [List.length_append] at h2
  omega
theorem pz_of {a L : Nat} {xs : List Int32} {h : px_H} (hc : px_pa h a 50 L Value.int xs) (hl : xs.length = L) (k : Nat) : px_pz h a L (xs.take k) := ⟨xs.drop k, by rw [List.take_append_drop]; exact hc, by rw [List.take_append_drop]; exact hl⟩
theorem pz_of' {a L : Nat} {xs cs ws : List Int32} {h : px_H} (hc : px_pa h a 50 L Value.int xs) (hl : xs.length = L) (e : xs = cs ++ ws) : px_pz h a L cs := ⟨ws, e ▸ hc, e ▸ hl⟩
/-- what a step knows: the last w told, sums, timers, marks, counts -/
abbrev SM := Int32 × List Int32 × List Int32 × List Int64 × List Int32
def pSM (h : px_H) (a : Nat) (s : SM) : Prop := h.2.2 a = some (9, [.int s.1, .ref (a + 1), .ref (a + 2), .ref (a + 3), .ref (a + 4), .int (nI s.2.2.2.1.length)]) ∧ px_pa h (a + 1) 50 4 Value.int s.2.1 ∧ px_pa h (a + 2) 50 4 Value.int s.2.2.1 ∧ px_pa h (a + 3) 51 96 Value.long s.2.2.2.1 ∧ px_pz h (a + 4) 96 s.2.2.2.2 ∧ s.2.1.length = 4 ∧ s.2.2.1.length = 4
theorem pSM_fi {h h1 : px_H} {a lo n : Nat} {s : SM} (p : pSM h a s) (f : px_fi lo n h h1) (d : a + 5 ≤ lo ∨ lo + n ≤ a) : pSM h1 a s := ⟨fi_at p.1 f (by omega), pa_fi p.2.1 f (by omega), pa_fi p.2.2.1 f (by omega), pa_fi p.2.2.2.1 f (by omega), pz_fi p.2.2.2.2.1 f (by omega), p.2.2.2.2.2⟩
def sm0 : SM := (-1, [0, 0, 0, 0], [-1, -1, -1, -1], [], [])
def mkM (k : Nat) (x : Int32) : Int64 := x.toInt64 * 4 + (nI k).toInt64

theorem getD_set_same {α : Type} {xs : List α} {k : Nat} {x d : α} (h : k < xs.length) : (xs.set k x).getD k d = x := by
  rw [List.getD_eq_getElem?_getD, List.getElem?_set_self h]
  rfl
theorem getD_set_ne {α : Type} {xs : List α} {k i : Nat} {x d : α} (h : k ≠ i) : (xs.set k x).getD i d = xs.getD i d := by
  rw [List.getD_eq_getElem?_getD, List.getElem?_set_ne h, List.getD_eq_getElem?_getD]

set_option maxRecDepth 20000 in
set_option maxHeartbeats 4000000 in
theorem cc_SM_addToSum {h : px_H} {k : Nat} {v : Int32} {a : Nat} {to : Int32} {su ti : List Int32} {ms : List Int64} {cs : List Int32} (H0 : pSM h a (to, su, ti, ms, cs)) (p0 : 17 ≤ a) (p1 : k < 4) : px_wp 72 [.ref (a), .int (nI k), .int (v)] h (fun h1 r => r = some (.int (su.getD k 0 + v)) ∧ pSM h1 a (to, su.set k (su.getD k 0 + v), ti, ms, cs) ∧ px_fi a 5 h h1) := by
  have fr0 : px_fi a 5 h h := fi_rf _ _ _
  have l1 : su.length = 4 := H0.2.2.2.2.2.1
  have l2 : ti.length = 4 := H0.2.2.2.2.2.2
  have l3 : ms.length ≤ 96 := pa_len H0.2.2.2.1
  show px_to 72 0 [some (.ref (a)), some (.int (nI k)), some (.int (v))] [] h _
  have g1 : h.2.2 a = some (9, [.int (to), .ref (a + 1), .ref (a + 2), .ref (a + 3), .ref (a + 4), .int (nI ms.length)]) := H0.1
  have g2 : px_pa h (a + 1) 50 4 Value.int su := H0.2.1
  have g3 : px_pa h (a + 2) 50 4 Value.int ti := H0.2.2.1
  have g4 : px_pa h (a + 3) 51 96 Value.long ms := H0.2.2.2.1
  have g5 : px_pz h (a + 4) 96 cs := H0.2.2.2.2.1
  refine e_aload_n f_72_0 rfl rfl ?_
  refine e_getf f_72_1 g1 rfl rfl ?_
  refine e_iload_n f_72_4 rfl rfl ?_
  refine e_dup2 f_72_5 rfl rfl rfl ?_
  refine e_iaload_p (xs := su) f_72_6 g2 (d := 0) (by first | omega | (simp only [List.length_set]; omega)) rfl ?_
  show px_to 72 7 [some (.ref (a)), some (.int (nI k)), some (.int (v))] [.int (su.getD k 0), .int (nI k), .ref (a + 1)] h _
  refine e_iload_n f_72_7 rfl rfl ?_
  refine e_iadd (z := (su.getD k 0) + v) f_72_8 rfl rfl ?_
  refine e_iastore_p (xs := su) (x := (su.getD k 0) + v) f_72_9 g2 (by omega) (by first | omega | (simp only [List.length_set]; omega)) (rfl) rfl (fun h6 g7 fx8 => ?_)
  have fr9 : px_fi a 5 h h6 := fi_tr fr0 fx8 (by omega)
  refine e_aload_n f_72_10 rfl rfl ?_
  have g10 : h6.2.2 a = some (9, [.int (to), .ref (a + 1), .ref (a + 2), .ref (a + 3), .ref (a + 4), .int (nI ms.length)]) := fi_at g1 fx8 (by omega)
  refine e_getf f_72_11 g10 rfl rfl ?_
  refine e_iload_n f_72_14 rfl rfl ?_
  refine e_iaload_p (xs := su.set k ((su.getD k 0) + v)) f_72_15 g7 (d := 0) (by rw [List.length_set]; omega) rfl ?_
  show px_to 72 16 [some (.ref (a)), some (.int (nI k)), some (.int (v))] [.int ((su.set k ((su.getD k 0) + v)).getD k 0)] h6 _
  refine e_iret f_72_16 rfl (rfl) ?_
  have g11 : px_pa h6 (a + 2) 50 4 Value.int ti := pa_fi g3 fx8 (by omega)
  have g12 : px_pa h6 (a + 3) 51 96 Value.long ms := pa_fi g4 fx8 (by omega)
  have g13 : px_pz h6 (a + 4) 96 cs := pz_fi g5 fx8 (by omega)
  exact ⟨congrArg (fun z => some (Value.int z)) (getD_set_same (by omega)), ⟨g10, g7, g11, g12, g13, by rw [List.length_set]; exact l1, l2⟩, fr9⟩

set_option maxRecDepth 20000 in
set_option maxHeartbeats 4000000 in
theorem cc_SM_dropTimer {h : px_H} {k : Nat} {a : Nat} {to : Int32} {su ti : List Int32} {ms : List Int64} {cs : List Int32} (H0 : pSM h a (to, su, ti, ms, cs)) (p0 : 17 ≤ a) (p1 : k < 4) : px_wp 80 [.ref (a), .int (nI k)] h (fun h1 r => r = none ∧ pSM h1 a (to, su, ti.set k (-1), ms, cs) ∧ px_fi a 5 h h1) := by
  have fr0 : px_fi a 5 h h := fi_rf _ _ _
  have l1 : su.length = 4 := H0.2.2.2.2.2.1
  have l2 : ti.length = 4 := H0.2.2.2.2.2.2
  have l3 : ms.length ≤ 96 := pa_len H0.2.2.2.1
  show px_to 80 0 [some (.ref (a)), some (.int (nI k))] [] h _
  have g1 : h.2.2 a = some (9, [.int (to), .ref (a + 1), .ref (a + 2), .ref (a + 3), .ref (a + 4), .int (nI ms.length)]) := H0.1
  have g2 : px_pa h (a + 1) 50 4 Value.int su := H0.2.1
  have g3 : px_pa h (a + 2) 50 4 Value.int ti := H0.2.2.1
  have g4 : px_pa h (a + 3) 51 96 Value.long ms := H0.2.2.2.1
  have g5 : px_pz h (a + 4) 96 cs := H0.2.2.2.2.1
  refine e_aload_n f_80_0 rfl rfl ?_
  refine e_getf f_80_1 g1 rfl rfl ?_
  refine e_iload_n f_80_4 rfl rfl ?_
  refine e_iconst (v := (-1)) f_80_5 (by decide) rfl ?_
  refine e_iastore_p (xs := ti) (x := (-1)) f_80_6 g3 (by omega) (by first | omega | (simp only [List.length_set]; omega)) (rfl) rfl (fun h6 g7 fx8 => ?_)
  have fr9 : px_fi a 5 h h6 := fi_tr fr0 fx8 (by omega)
  refine e_vret f_80_7 rfl ?_
  have g10 : h6.2.2 a = some (9, [.int (to), .ref (a + 1), .ref (a + 2), .ref (a + 3), .ref (a + 4), .int (nI ms.length)]) := fi_at g1 fx8 (by omega)
  have g11 : px_pa h6 (a + 1) 50 4 Value.int su := pa_fi g2 fx8 (by omega)
  have g12 : px_pa h6 (a + 3) 51 96 Value.long ms := pa_fi g4 fx8 (by omega)
  have g13 : px_pz h6 (a + 4) 96 cs := pz_fi g5 fx8 (by omega)
  exact ⟨rfl, ⟨g10, g11, g7, g12, g13, l1, by rw [List.length_set]; exact l2⟩, fr9⟩

theorem set_last {α : Type} {xs : List α} {i n : Nat} {x d : α} (hi : i < n) (h : xs.length = n) (e : xs.take i = List.replicate i x) : (xs.set i x).take (i + 1) = List.replicate (i + 1) x := by
  rw [take_s d (by rw [List.length_set]; omega), getD_set_same (by omega), List.take_set_of_le (by omega), e, List.replicate_succ']
theorem take_all {α : Type} {xs : List α} {n : Nat} (h : xs.length = n) : xs.take n = xs := by rw [← h, List.take_length]

set_option maxRecDepth 20000 in
set_option maxHeartbeats 4000000 in
theorem ll_SM_clear {h0 : px_H} {a : Nat} {ms : List Int64} {cs : List Int32} (p0 : 17 ≤ a) : ∀ (d : Nat) (i : Nat) (su : List Int32) (ti : List Int32) (g : px_H), (4 ≤ i + d) → (i ≤ 4) → (su.length = 4) → (ti.length = 4) → (su.take i = List.replicate i (nI 0)) → (ti.take i = List.replicate i (-1)) → g.2.2 a = some (9, [.int ((-1)), .ref (a + 1), .ref (a + 2), .ref (a + 3), .ref (a + 4), .int (nI 0)]) → px_pa g (a + 1) 50 4 Value.int su → px_pa g (a + 2) 50 4 Value.int ti → px_pa g (a + 3) 51 96 Value.long ms → px_pz g (a + 4) 96 cs → px_fi a 5 h0 g → px_to 69 12 [some (.ref (a)), some (.int (nI i))] [] g (fun h1 r => r = none ∧ pSM h1 a (-1, [0, 0, 0, 0], [-1, -1, -1, -1], [], []) ∧ px_fi a 5 h0 h1) := by
  intro d
  induction d using Nat.strongRecOn with
  | ind d ih =>
    intro i su ti g q0 q1 q2 q3 q4 q5 G0 G1 G2 G3 G4 frg
    refine e_iload_n f_69_12 rfl rfl ?_
    refine e_iconst (v := nI 4) f_69_13 (by decide) rfl ?_
    refine e_icmp_ge f_69_14 rfl (fun c_14 => ?_) (fun c_14 => ?_)
    · skip
      have c_14 : 4 ≤ i := cv_le (by omega) (by omega) c_14
      refine e_vret f_69_37 rfl ?_
      have e : i = 4 := by omega
      subst e
      rw [take_all q2] at q4
      rw [take_all q3] at q5
      exact ⟨rfl, ⟨G0, pa_eq G1 q4, pa_eq G2 q5, pa_nil G3, pz_nil G4, rfl, rfl⟩, frg⟩
    · skip
      have c_14 : i < 4 := cv_nle (by omega) (by omega) c_14
      refine e_aload_n f_69_17 rfl rfl ?_
      refine e_getf f_69_18 G0 rfl rfl ?_
      refine e_iload_n f_69_21 rfl rfl ?_
      refine e_iconst (v := nI 0) f_69_22 (by decide) rfl ?_
      refine e_iastore_p (xs := su) (x := nI 0) f_69_23 G1 (by omega) (by first | omega | (simp only [List.length_set]; omega)) (rfl) rfl (fun h1 g2 fx3 => ?_)
      have fr4 : px_fi a 5 h0 h1 := fi_tr frg fx3 (by omega)
      refine e_aload_n f_69_24 rfl rfl ?_
      have g5 : h1.2.2 a = some (9, [.int ((-1)), .ref (a + 1), .ref (a + 2), .ref (a + 3), .ref (a + 4), .int (nI 0)]) := fi_at G0 fx3 (by omega)
      refine e_getf f_69_25 g5 rfl rfl ?_
      refine e_iload_n f_69_28 rfl rfl ?_
      refine e_iconst (v := (-1)) f_69_29 (by decide) rfl ?_
      have g6 : px_pa h1 (a + 2) 50 4 Value.int ti := pa_fi G2 fx3 (by omega)
      refine e_iastore_p (xs := ti) (x := (-1)) f_69_30 g6 (by omega) (by first | omega | (simp only [List.length_set]; omega)) (rfl) rfl (fun h7 g8 fx9 => ?_)
      have fr10 : px_fi a 5 h0 h7 := fi_tr fr4 fx9 (by omega)
      refine e_iinc (y := nI (i + 1)) (L' := [some (.ref (a)), some (.int (nI (i + 1)))]) f_69_31 rfl (by rw [show Int32.ofInt 1 = nI 1 by decide]; exact (nI_add _ _)) rfl rfl ?_
      refine e_goto f_69_34 ?_
      have g11 : h7.2.2 a = some (9, [.int ((-1)), .ref (a + 1), .ref (a + 2), .ref (a + 3), .ref (a + 4), .int (nI 0)]) := fi_at g5 fx9 (by omega)
      have g12 : px_pa h7 (a + 1) 50 4 Value.int (su.set i (nI 0)) := pa_fi g2 fx9 (by omega)
      have g13 : px_pa h1 (a + 3) 51 96 Value.long ms := pa_fi G3 fx3 (by omega)
      have g14 : px_pa h7 (a + 3) 51 96 Value.long ms := pa_fi g13 fx9 (by omega)
      have g15 : px_pz h1 (a + 4) 96 cs := pz_fi G4 fx3 (by omega)
      have g16 : px_pz h7 (a + 4) 96 cs := pz_fi g15 fx9 (by omega)
      first | (exfalso; omega) | exact ih (d - 1) (by omega) (i + 1) (su.set i (nI 0)) (ti.set i (-1)) h7 (by omega) (by omega) (by rw [List.length_set]; exact q2) (by rw [List.length_set]; exact q3) (set_last (d := 0) (show i < 4 by omega) q2 q4) (set_last (d := 0) (show i < 4 by omega) q3 q5) g11 g12 g8 g14 g16 fr10

set_option maxRecDepth 20000 in
set_option maxHeartbeats 4000000 in
theorem cc_SM_clear {h : px_H} {a : Nat} {to : Int32} {su ti : List Int32} {ms : List Int64} {cs : List Int32} (H0 : pSM h a (to, su, ti, ms, cs)) (p0 : 17 ≤ a) : px_wp 69 [.ref (a)] h (fun h1 r => r = none ∧ pSM h1 a (-1, [0, 0, 0, 0], [-1, -1, -1, -1], [], []) ∧ px_fi a 5 h h1) := by
  have fr0 : px_fi a 5 h h := fi_rf _ _ _
  have l1 : su.length = 4 := H0.2.2.2.2.2.1
  have l2 : ti.length = 4 := H0.2.2.2.2.2.2
  have l3 : ms.length ≤ 96 := pa_len H0.2.2.2.1
  show px_to 69 0 [some (.ref (a)), none] [] h _
  have g1 : h.2.2 a = some (9, [.int (to), .ref (a + 1), .ref (a + 2), .ref (a + 3), .ref (a + 4), .int (nI ms.length)]) := H0.1
  have g2 : px_pa h (a + 1) 50 4 Value.int su := H0.2.1
  have g3 : px_pa h (a + 2) 50 4 Value.int ti := H0.2.2.1
  have g4 : px_pa h (a + 3) 51 96 Value.long ms := H0.2.2.2.1
  have g5 : px_pz h (a + 4) 96 cs := H0.2.2.2.2.1
  refine e_aload_n f_69_0 rfl rfl ?_
  refine e_iconst (v := (-1)) f_69_1 (by decide) rfl ?_
  refine e_putp (vs' := [.int ((-1)), .ref (a + 1), .ref (a + 2), .ref (a + 3), .ref (a + 4), .int (nI ms.length)]) f_69_2 g1 (Nat.le_of_ble_eq_true rfl) (rfl) (rfl) rfl rfl (fun h6 g7 fx8 => ?_)
  have fr9 : px_fi a 5 h h6 := fi_tr fr0 fx8 (by omega)
  refine e_aload_n f_69_5 rfl rfl ?_
  refine e_iconst (v := nI 0) f_69_6 (by decide) rfl ?_
  refine e_putp (vs' := [.int ((-1)), .ref (a + 1), .ref (a + 2), .ref (a + 3), .ref (a + 4), .int (nI 0)]) f_69_7 g7 (Nat.le_of_ble_eq_true rfl) (rfl) (rfl) rfl rfl (fun h10 g11 fx12 => ?_)
  have fr13 : px_fi a 5 h h10 := fi_tr fr9 fx12 (by omega)
  refine e_iconst (v := nI 0) f_69_10 (by decide) rfl ?_
  refine e_istore_n (L' := [some (.ref (a)), some (.int (nI 0))]) f_69_11 (Nat.le_of_ble_eq_true rfl) rfl rfl ?_
  have g14 : px_pa h6 (a + 1) 50 4 Value.int su := pa_fi g2 fx8 (by omega)
  have g15 : px_pa h10 (a + 1) 50 4 Value.int su := pa_fi g14 fx12 (by omega)
  have g16 : px_pa h6 (a + 2) 50 4 Value.int ti := pa_fi g3 fx8 (by omega)
  have g17 : px_pa h10 (a + 2) 50 4 Value.int ti := pa_fi g16 fx12 (by omega)
  have g18 : px_pa h6 (a + 3) 51 96 Value.long ms := pa_fi g4 fx8 (by omega)
  have g19 : px_pa h10 (a + 3) 51 96 Value.long ms := pa_fi g18 fx12 (by omega)
  have g20 : px_pz h6 (a + 4) 96 cs := pz_fi g5 fx8 (by omega)
  have g21 : px_pz h10 (a + 4) 96 cs := pz_fi g20 fx12 (by omega)
  exact ll_SM_clear (h0 := h) p0 4 0 su ti h10 (by omega) (by omega) l1 l2 rfl rfl g11 g15 g17 g19 g21 fr13

set_option maxRecDepth 20000 in
set_option maxHeartbeats 4000000 in
theorem cc_SM_endAt {h : px_H} {i : Nat} {a : Nat} {to : Int32} {su ti : List Int32} {ms : List Int64} {cs : List Int32} (H0 : pSM h a (to, su, ti, ms, cs)) (p0 : i < ms.length) : px_wp 75 [.ref (a), .int (nI i)] h (fun h1 r => r = some (.int (((ms.getD i 0) / 4).toInt32)) ∧ h1 = h) := by
  have l1 : su.length = 4 := H0.2.2.2.2.2.1
  have l2 : ti.length = 4 := H0.2.2.2.2.2.2
  have l3 : ms.length ≤ 96 := pa_len H0.2.2.2.1
  show px_to 75 0 [some (.ref (a)), some (.int (nI i))] [] h _
  refine e_iload_n f_75_0 rfl rfl ?_
  refine e_if_lt_f f_75_1 (nI_pos (by omega)) rfl ?_
  refine e_iload_n f_75_4 rfl rfl ?_
  refine e_aload_n f_75_5 rfl rfl ?_
  refine e_getf f_75_6 H0.1 rfl rfl ?_
  refine e_icmp_lt f_75_9 rfl (fun c_9 => ?_) (fun c_9 => ?_)
  · skip
    have c_9 : i < ms.length := cv_lt (by omega) (by omega) c_9
    refine e_aload_n f_75_16 rfl rfl ?_
    refine e_getf f_75_17 H0.1 rfl rfl ?_
    refine e_iload_n f_75_20 rfl rfl ?_
    refine e_laload_p (xs := ms) f_75_21 H0.2.2.2.1 (d := 0) (by first | omega | (simp only [List.length_set]; omega)) rfl ?_
    show px_to 75 22 [some (.ref (a)), some (.int (nI i))] [.long (ms.getD i 0)] h _
    refine e_ldc2 f_75_22 rfl ?_
    refine e_ldiv (z := (ms.getD i 0) / 4) f_75_25 (by decide) rfl rfl ?_
    refine e_l2i (z := ((ms.getD i 0) / 4).toInt32) f_75_26 rfl rfl ?_
    refine e_iret f_75_27 rfl (rfl) ?_
    first | (exfalso; omega) | exact ⟨rfl, rfl⟩
  · skip
    have c_9 : ms.length ≤ i := cv_nlt (by omega) (by omega) c_9
    refine e_iconst (v := nI 0) f_75_12 (by decide) rfl ?_
    refine e_goto f_75_13 ?_
    refine e_iret f_75_27 rfl (rfl) ?_
    first | (exfalso; omega) | exact ⟨rfl, rfl⟩

set_option maxRecDepth 20000 in
set_option maxHeartbeats 4000000 in
theorem cc_SM_keyAt {h : px_H} {i : Nat} {a : Nat} {to : Int32} {su ti : List Int32} {ms : List Int64} {cs : List Int32} (H0 : pSM h a (to, su, ti, ms, cs)) (p0 : i < ms.length) : px_wp 76 [.ref (a), .int (nI i)] h (fun h1 r => r = some (.int (((ms.getD i 0) - (ms.getD i 0) / 4 * 4).toInt32)) ∧ h1 = h) := by
  have l1 : su.length = 4 := H0.2.2.2.2.2.1
  have l2 : ti.length = 4 := H0.2.2.2.2.2.2
  have l3 : ms.length ≤ 96 := pa_len H0.2.2.2.1
  show px_to 76 0 [some (.ref (a)), some (.int (nI i))] [] h _
  refine e_iload_n f_76_0 rfl rfl ?_
  refine e_if_lt_f f_76_1 (nI_pos (by omega)) rfl ?_
  refine e_iload_n f_76_4 rfl rfl ?_
  refine e_aload_n f_76_5 rfl rfl ?_
  refine e_getf f_76_6 H0.1 rfl rfl ?_
  refine e_icmp_lt f_76_9 rfl (fun c_9 => ?_) (fun c_9 => ?_)
  · skip
    have c_9 : i < ms.length := cv_lt (by omega) (by omega) c_9
    refine e_aload_n f_76_16 rfl rfl ?_
    refine e_getf f_76_17 H0.1 rfl rfl ?_
    refine e_iload_n f_76_20 rfl rfl ?_
    refine e_laload_p (xs := ms) f_76_21 H0.2.2.2.1 (d := 0) (by first | omega | (simp only [List.length_set]; omega)) rfl ?_
    show px_to 76 22 [some (.ref (a)), some (.int (nI i))] [.long (ms.getD i 0)] h _
    refine e_ldc2 f_76_22 rfl ?_
    refine e_lrem (z := (ms.getD i 0) - (ms.getD i 0) / 4 * 4) f_76_25 (by decide) rfl rfl ?_
    refine e_l2i (z := ((ms.getD i 0) - (ms.getD i 0) / 4 * 4).toInt32) f_76_26 rfl rfl ?_
    refine e_iret f_76_27 rfl (rfl) ?_
    first | (exfalso; omega) | exact ⟨rfl, rfl⟩
  · skip
    have c_9 : ms.length ≤ i := cv_nlt (by omega) (by omega) c_9
    refine e_iconst (v := nI 0) f_76_12 (by decide) rfl ?_
    refine e_goto f_76_13 ?_
    refine e_iret f_76_27 rfl (rfl) ?_
    first | (exfalso; omega) | exact ⟨rfl, rfl⟩

theorem getD_app {α : Type} {xs ys : List α} {i : Nat} {d : α} (h : i < xs.length) : (xs ++ ys).getD i d = xs.getD i d := by
  rw [List.getD_eq_getElem?_getD, List.getElem?_append_left h, List.getD_eq_getElem?_getD]

set_option maxRecDepth 20000 in
set_option maxHeartbeats 4000000 in
theorem cc_SM_countAt {h : px_H} {i : Nat} {a : Nat} {to : Int32} {su ti : List Int32} {ms : List Int64} {cs : List Int32} (H0 : pSM h a (to, su, ti, ms, cs)) (p0 : i < ms.length) (p1 : i < cs.length) : px_wp 77 [.ref (a), .int (nI i)] h (fun h1 r => r = some (.int (cs.getD i 0)) ∧ h1 = h) := by
  have l1 : su.length = 4 := H0.2.2.2.2.2.1
  have l2 : ti.length = 4 := H0.2.2.2.2.2.2
  have l3 : ms.length ≤ 96 := pa_len H0.2.2.2.1
  show px_to 77 0 [some (.ref (a)), some (.int (nI i))] [] h _
  obtain ⟨ws, hz, hzl⟩ : px_pz h (a + 4) 96 cs := H0.2.2.2.2.1
  refine e_iload_n f_77_0 rfl rfl ?_
  refine e_if_lt_f f_77_1 (nI_pos (by omega)) rfl ?_
  refine e_iload_n f_77_4 rfl rfl ?_
  refine e_aload_n f_77_5 rfl rfl ?_
  refine e_getf f_77_6 H0.1 rfl rfl ?_
  refine e_icmp_lt f_77_9 rfl (fun c_9 => ?_) (fun c_9 => ?_)
  · skip
    have c_9 : i < ms.length := cv_lt (by omega) (by omega) c_9
    refine e_aload_n f_77_16 rfl rfl ?_
    refine e_getf f_77_17 H0.1 rfl rfl ?_
    refine e_iload_n f_77_20 rfl rfl ?_
    refine e_iaload_p (xs := cs ++ ws) f_77_21 hz (d := 0) (by rw [List.length_append]; omega) rfl ?_
    show px_to 77 22 [some (.ref (a)), some (.int (nI i))] [.int ((cs ++ ws).getD i 0)] h _
    refine e_iret f_77_22 rfl (rfl) ?_
    first | (exfalso; omega) | exact ⟨congrArg (fun z => some (Value.int z)) (getD_app p1), rfl⟩
  · skip
    have c_9 : ms.length ≤ i := cv_nlt (by omega) (by omega) c_9
    refine e_iconst (v := nI 0) f_77_12 (by decide) rfl ?_
    refine e_goto f_77_13 ?_
    refine e_iret f_77_22 rfl (rfl) ?_
    first | (exfalso; omega) | exact ⟨congrArg (fun z => some (Value.int z)) (getD_app p1), rfl⟩

/-- how many of the first spans end by w -/
def spUp (w : Int32) : List Int64 → Nat
  | [] => 0
  | x :: r => if (x / 4).toInt32 ≤ w then spUp w r + 1 else 0
theorem spUp_le (w : Int32) : ∀ ms : List Int64, spUp w ms ≤ ms.length
  | [] => Nat.le_refl _
  | x :: r => by
    have := spUp_le w r
    rw [spUp, List.length_cons]
    split <;> omega

set_option maxRecDepth 20000 in
set_option maxHeartbeats 4000000 in
theorem ll_SM_spansUpTo {P : px_H → Option Value → Prop} {h : px_H} {w : Int32} {n : Nat} {a : Nat} {to : Int32} {su ti : List Int32} {ms : List Int64} {cs : List Int32} (H0 : pSM h a (to, su, ti, ms, cs)) (hk : ∀ {r}, r = some (.int (nI n)) → P h r) : ∀ (d : Nat) (i : Nat), (ms.length ≤ i + d) → (i ≤ ms.length) → (i + spUp w (ms.drop i) = n) → px_to 74 2 [some (.ref (a)), some (.int (w)), some (.int (nI i))] [] h P := by
  intro d
  induction d using Nat.strongRecOn with
  | ind d ih =>
    intro i q0 q1 q2
    have l3 : ms.length ≤ 96 := pa_len H0.2.2.2.1
    refine e_iload_n f_74_2 rfl rfl ?_
    refine e_aload_n f_74_3 rfl rfl ?_
    refine e_getf f_74_4 H0.1 rfl rfl ?_
    refine e_icmp_ge f_74_7 rfl (fun c_7 => ?_) (fun c_7 => ?_)
    · skip
      have c_7 : ms.length ≤ i := cv_le (by omega) (by omega) c_7
      refine e_iload_n f_74_25 rfl rfl ?_
      refine e_iret f_74_26 rfl (rfl) ?_
      first | (rw [List.drop_eq_nil_of_le (by omega), spUp] at q2; exact hk (by rw [← q2]; rfl)) | (rw [drop_step 0 (show i < ms.length by omega), spUp, if_neg (fun z => Int32.not_le.mpr c_16 z)] at q2; exact hk (by rw [← q2]; rfl))
    · skip
      have c_7 : i < ms.length := cv_nle (by omega) (by omega) c_7
      refine e_aload_n f_74_10 rfl rfl ?_
      refine e_iload_n f_74_11 rfl rfl ?_
      refine e_callV (As := [.int (nI i)]) (rest := []) f_74_12 rfl rfl rfl (Nat.le_of_ble_eq_true rfl) (Nat.le_of_ble_eq_true rfl) H0.1 rfl (Nat.le_of_ble_eq_true rfl) (cc_SM_endAt (i := i) (a := a) (to := to) (su := su) (ti := ti) (ms := ms) (cs := cs) H0 (by omega)) rfl (fun h1 r2 q3 => ?_)
      obtain ⟨rfl, qe⟩ := q3
      have qe := qe.symm
      subst qe
      show px_to 74 15 [some (.ref (a)), some (.int (w)), some (.int (nI i))] [.int (((ms.getD i 0) / 4).toInt32)] h _
      refine e_iload_n f_74_15 rfl rfl ?_
      refine e_icmp_gt f_74_16 rfl (fun c_16 => ?_) (fun c_16 => ?_)
      · skip
        refine e_iload_n f_74_25 rfl rfl ?_
        refine e_iret f_74_26 rfl (rfl) ?_
        first | (rw [List.drop_eq_nil_of_le (by omega), spUp] at q2; exact hk (by rw [← q2]; rfl)) | (rw [drop_step 0 (show i < ms.length by omega), spUp, if_neg (fun z => Int32.not_le.mpr c_16 z)] at q2; exact hk (by rw [← q2]; rfl))
      · skip
        refine e_iinc (y := nI (i + 1)) (L' := [some (.ref (a)), some (.int (w)), some (.int (nI (i + 1)))]) f_74_19 rfl (by rw [show Int32.ofInt 1 = nI 1 by decide]; exact (nI_add _ _)) rfl rfl ?_
        refine e_goto f_74_22 ?_
        first | (exfalso; omega) | exact ih (d - 1) (by omega) (i + 1)  (by omega) (by omega) (by rw [drop_step 0 (show i < ms.length by omega), spUp, if_pos (Int32.not_lt.mp c_16)] at q2; omega)  

set_option maxRecDepth 20000 in
set_option maxHeartbeats 4000000 in
theorem cc_SM_spansUpTo {h : px_H} {w : Int32} {a : Nat} {to : Int32} {su ti : List Int32} {ms : List Int64} {cs : List Int32} (H0 : pSM h a (to, su, ti, ms, cs))  : px_wp 74 [.ref (a), .int (w)] h (fun h1 r => r = some (.int (nI (spUp w ms))) ∧ h1 = h) := by
  show px_to 74 0 [some (.ref (a)), some (.int (w)), none] [] h _
  refine e_iconst (v := nI 0) f_74_0 (by decide) rfl ?_
  refine e_istore_n (L' := [some (.ref (a)), some (.int (w)), some (.int (nI 0))]) f_74_1 (Nat.le_of_ble_eq_true rfl) rfl rfl ?_
  exact ll_SM_spansUpTo H0 (fun e => ⟨e, rfl⟩) ms.length 0 (by omega) (by omega) (Nat.zero_add _)
