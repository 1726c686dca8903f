/-- a mark comes to those that came -/
def dAdd (m : Int64) (ms : List Int64) : List Int64 := if m ∈ ms ∨ 96 ≤ ms.length then ms else ms ++ [m]

set_option maxRecDepth 20000 in
set_option maxHeartbeats 4000000 in
theorem ll_SM_noteNew {P : px_H → Option Value → Prop} {h : px_H} {k : Nat} {v : Int32} {a : Nat} {to : Int32} {su ti : List Int32} {ms : List Int64} {cs : List Int32} (H0 : pSM h a (to, su, ti, ms, cs)) (hk0 : mkM k v ∈ ms → P h (some (.int (nI 0)))) (hk1 : mkM k v ∉ ms → px_to 71 42 [some (.ref (a)), some (.int (nI k)), some (.int (v)), some (.long (mkM k v)), none, some (.int (nI ms.length))] [] h P) : ∀ (d : Nat) (i : Nat), (ms.length ≤ i + d) → (i ≤ ms.length) → (∀ x ∈ ms.take i, x ≠ mkM k v) → px_to 71 13 [some (.ref (a)), some (.int (nI k)), some (.int (v)), some (.long (mkM k v)), none, some (.int (nI i))] [] h P := by
  intro d
  induction d using Nat.strongRecOn with
  | ind d ih =>
    intro i q0 q1 q2
    have l3 : ms.length ≤ 96 := pa_len H0.2.2.2.1
    refine e_iload f_71_13 rfl rfl ?_
    refine e_aload_n f_71_15 rfl rfl ?_
    refine e_getf f_71_16 H0.1 rfl rfl ?_
    refine e_icmp_ge f_71_19 rfl (fun c_19 => ?_) (fun c_19 => ?_)
    · skip
      have c_19 : ms.length ≤ i := cv_le (by omega) (by omega) c_19
      have e : i = ms.length := by omega
      subst e
      rw [List.take_length] at q2
      exact hk1 (fun z => q2 _ z rfl)
    · skip
      have c_19 : i < ms.length := cv_nle (by omega) (by omega) c_19
      refine e_aload_n f_71_22 rfl rfl ?_
      refine e_getf f_71_23 H0.1 rfl rfl ?_
      refine e_iload f_71_26 rfl rfl ?_
      refine e_laload_p (xs := ms) f_71_28 H0.2.2.2.1 (d := 0) (by first | omega | (simp only [List.length_set]; omega)) rfl ?_
      show px_to 71 29 [some (.ref (a)), some (.int (nI k)), some (.int (v)), some (.long (mkM k v)), none, some (.int (nI i))] [.long (ms.getD i 0)] h _
      refine e_lload_n f_71_29 rfl rfl ?_
      refine e_lcmp f_71_30 rfl ?_
      refine e_if_ne f_71_31 rfl (fun c_31 => ?_) (fun c_31 => ?_)
      · skip
        refine e_iinc (y := nI (i + 1)) (L' := [some (.ref (a)), some (.int (nI k)), some (.int (v)), some (.long (mkM k v)), none, some (.int (nI (i + 1)))]) f_71_36 rfl (by rw [show Int32.ofInt 1 = nI 1 by decide]; exact (nI_add _ _)) rfl rfl ?_
        refine e_goto f_71_39 ?_
        first | (exfalso; omega) | exact ih (d - 1) (by omega) (i + 1)  (by omega) (by omega) (by rw [take_s 0 (show i < ms.length by omega)]; intro x hx; rw [List.mem_append, List.mem_singleton] at hx; exact hx.elim (q2 x) (fun e z => c_31 ((lg_cmp0 _ _).mpr (e.symm.trans z))))  
      · skip
        refine e_iconst (v := nI 0) f_71_34 (by decide) rfl ?_
        refine e_iret f_71_35 rfl (rfl) ?_
        exact hk0 ((lg_cmp0 _ _).mp (Classical.not_not.mp c_31) ▸ getD_mem 0 (by omega))

set_option maxRecDepth 20000 in
set_option maxHeartbeats 4000000 in
theorem cc_SM_noteNew {h : px_H} {k : Nat} {v : Int32} {a : Nat} {to : Int32} {su ti : List Int32} {ms : List Int64} {cs : List Int32} (H0 : pSM h a (to, su, ti, ms, cs)) (p0 : 17 ≤ a) : px_wp 71 [.ref (a), .int (nI k), .int (v)] h (fun h1 r => r = some (.int (bI (!decide (mkM k v ∈ ms)))) ∧ pSM h1 a (to, su, ti, dAdd (mkM k v) ms, cs) ∧ px_fi a 5 h h1) := by
  have fr0 : px_fi a 5 h h := fi_rf _ _ _
  have l1 : su.length = 4 := H0.2.2.2.2.2.1
  have l2 : ti.length = 4 := H0.2.2.2.2.2.2
  have l3 : ms.length ≤ 96 := pa_len H0.2.2.2.1
  show px_to 71 0 [some (.ref (a)), some (.int (nI k)), some (.int (v)), none, none, none] [] h _
  refine e_iload_n f_71_0 rfl rfl ?_
  refine e_i2l (z := v.toInt64) f_71_1 rfl rfl ?_
  refine e_ldc2 f_71_2 rfl ?_
  refine e_lmul (z := v.toInt64 * 4) f_71_5 rfl rfl ?_
  refine e_iload_n f_71_6 rfl rfl ?_
  refine e_i2l (z := (nI k).toInt64) f_71_7 rfl rfl ?_
  refine e_ladd (z := mkM k v) f_71_8 (rfl) rfl ?_
  refine e_lstore_n (L' := [some (.ref (a)), some (.int (nI k)), some (.int (v)), some (.long (mkM k v)), none, none]) f_71_9 (Nat.le_of_ble_eq_true rfl) rfl rfl ?_
  refine e_iconst (v := nI 0) f_71_10 (by decide) rfl ?_
  refine e_istore (L' := [some (.ref (a)), some (.int (nI k)), some (.int (v)), some (.long (mkM k v)), none, some (.int (nI 0))]) f_71_11 (Nat.le_of_ble_eq_true rfl) rfl rfl ?_
  refine ll_SM_noteNew H0 (fun hin => ?_) (fun hno => ?_) ms.length 0 (by omega) (by omega) (fun x hx => absurd hx (by simp))
  · exact ⟨congrArg (fun z => some (Value.int z)) (b0 (by simp [hin])), by unfold dAdd; rw [if_pos (Or.inl hin)]; exact H0, fr0⟩
  have g1 : h.2.2 a = some (9, [.int (to), .ref (a + 1), .ref (a + 2), .ref (a + 3), .ref (a + 4), .int (nI ms.length)]) := H0.1
  have g2 : px_pa h (a + 1) 50 4 Value.int su := H0.2.1
  have g3 : px_pa h (a + 2) 50 4 Value.int ti := H0.2.2.1
  have g4 : px_pa h (a + 3) 51 96 Value.long ms := H0.2.2.2.1
  have g5 : px_pz h (a + 4) 96 cs := H0.2.2.2.2.1
  refine e_aload_n f_71_42 rfl rfl ?_
  refine e_getf f_71_43 g1 rfl rfl ?_
  refine e_bipush (v := nI 96) f_71_46 (by decide) rfl ?_
  refine e_icmp_ge f_71_48 rfl (fun c_48 => ?_) (fun c_48 => ?_)
  · skip
    have c_48 : 96 ≤ ms.length := cv_le (by omega) (by omega) c_48
    refine e_iconst (v := nI 1) f_71_71 (by decide) rfl ?_
    refine e_iret f_71_72 rfl (rfl) ?_
    exact ⟨congrArg (fun z => some (Value.int z)) (b1 (by simp [hno])), by unfold dAdd; rw [if_pos (Or.inr (by omega))]; exact H0, fr0⟩
  · skip
    have c_48 : ms.length < 96 := cv_nle (by omega) (by omega) c_48
    refine e_aload_n f_71_51 rfl rfl ?_
    refine e_getf f_71_52 g1 rfl rfl ?_
    refine e_aload_n f_71_55 rfl rfl ?_
    refine e_getf f_71_56 g1 rfl rfl ?_
    refine e_lload_n f_71_59 rfl rfl ?_
    refine e_lastore_a (xs := ms) (x := mkM k v) f_71_60 g4 (by omega) (rfl) (by omega) (rfl) rfl (fun h6 g7 fx8 => ?_)
    have fr9 : px_fi a 5 h h6 := fi_tr fr0 fx8 (by omega)
    refine e_aload_n f_71_61 rfl rfl ?_
    refine e_dup f_71_62 rfl rfl ?_
    have g10 : h6.2.2 a = some (9, [.int (to), .ref (a + 1), .ref (a + 2), .ref (a + 3), .ref (a + 4), .int (nI ms.length)]) := fi_at g1 fx8 (by omega)
    refine e_getf f_71_63 g10 rfl rfl ?_
    refine e_iconst (v := nI 1) f_71_66 (by decide) rfl ?_
    refine e_iadd (z := nI (ms.length + 1)) f_71_67 (nI_add _ _) rfl ?_
    refine e_putp (vs' := [.int (to), .ref (a + 1), .ref (a + 2), .ref (a + 3), .ref (a + 4), .int (nI (ms.length + 1))]) f_71_68 g10 (Nat.le_of_ble_eq_true rfl) (rfl) (rfl) rfl rfl (fun h11 g12 fx13 => ?_)
    have fr14 : px_fi a 5 h h11 := fi_tr fr9 fx13 (by omega)
    refine e_iconst (v := nI 1) f_71_71 (by decide) rfl ?_
    refine e_iret f_71_72 rfl (rfl) ?_
    have g15 : px_pa h6 (a + 1) 50 4 Value.int su := pa_fi g2 fx8 (by omega)
    have g16 : px_pa h11 (a + 1) 50 4 Value.int su := pa_fi g15 fx13 (by omega)
    have g17 : px_pa h6 (a + 2) 50 4 Value.int ti := pa_fi g3 fx8 (by omega)
    have g18 : px_pa h11 (a + 2) 50 4 Value.int ti := pa_fi g17 fx13 (by omega)
    have g19 : px_pa h11 (a + 3) 51 96 Value.long (ms ++ [mkM k v]) := pa_fi g7 fx13 (by omega)
    have g20 : px_pz h6 (a + 4) 96 cs := pz_fi g5 fx8 (by omega)
    have g21 : px_pz h11 (a + 4) 96 cs := pz_fi g20 fx13 (by omega)
    exact ⟨congrArg (fun z => some (Value.int z)) (b1 (by simp [hno])), by unfold dAdd; rw [if_neg (fun z => z.elim hno (fun y => by omega))]; exact ⟨by rw [List.length_append]; exact g12, g16, g18, g19, g21, l1, l2⟩, fr14⟩

theorem set_take_eq {α : Type} {xs ys : List α} {i : Nat} {d : α} (hx : i < xs.length) (hy : i < ys.length) (e : xs.take i = ys.take i) : (xs.set i (ys.getD i d)).take (i + 1) = ys.take (i + 1) := by
  rw [take_s d (by rw [List.length_set]; exact hx), getD_set_same hx, List.take_set_of_le (Nat.le_refl _), e, ← take_s d hy]
theorem take_le_of {α : Type} {xs ys : List α} {n k : Nat} (h : k ≤ n) (e : xs.take n = ys.take n) : xs.take k = ys.take k := by
  have h1 : (xs.take n).take k = (ys.take n).take k := by rw [e]
  rw [List.take_take, List.take_take, Nat.min_eq_left h] at h1
  exact h1

set_option maxRecDepth 20000 in
set_option maxHeartbeats 4000000 in
theorem ll_SM_copy1 {P : px_H → Option Value → Prop} {h0 : px_H} {a : Nat} {ms : List Int64} {cf wb : List Int32} {b : Nat} {t2 : Int32} {u2 i2 : List Int32} {m2 : List Int64} {c2 : List Int32} (H1 : pSM h0 b (t2, u2, i2, m2, c2)) (hzb : px_pa h0 (b + 4) 50 96 Value.int (c2 ++ wb)) (lb : (c2 ++ wb).length = 96) (p0 : 17 ≤ a) (p1 : a + 5 ≤ b ∨ b + 5 ≤ a) (kx : ∀ g, g.2.2 a = some (9, [.int (t2), .ref (a + 1), .ref (a + 2), .ref (a + 3), .ref (a + 4), .int (nI m2.length)]) → px_pa g (a + 1) 50 4 Value.int u2 → px_pa g (a + 2) 50 4 Value.int i2 → px_pa g (a + 3) 51 96 Value.long ms → px_pa g (a + 4) 50 96 Value.int cf → px_fi a 5 h0 g → px_to 70 53 [some (.ref a), some (.ref b), none] [] g P) : ∀ (d : Nat) (i : Nat) (su : List Int32) (ti : List Int32) (g : px_H), (4 ≤ i + d) → (i ≤ 4) → (su.length = 4) → (ti.length = 4) → (su.take i = u2.take i) → (ti.take i = i2.take i) → g.2.2 a = some (9, [.int (t2), .ref (a + 1), .ref (a + 2), .ref (a + 3), .ref (a + 4), .int (nI m2.length)]) → px_pa g (a + 1) 50 4 Value.int su → px_pa g (a + 2) 50 4 Value.int ti → px_pa g (a + 3) 51 96 Value.long ms → px_pa g (a + 4) 50 96 Value.int cf → px_fi a 5 h0 g → px_to 70 18 [some (.ref (a)), some (.ref (b)), some (.int (nI i))] [] g P := by
  intro d
  induction d using Nat.strongRecOn with
  | ind d ih =>
    intro i su ti g q0 q1 q2 q3 q4 q5 G0 G1 G2 G3 G4 frg
    have k1 : u2.length = 4 := H1.2.2.2.2.2.1
    have k2 : i2.length = 4 := H1.2.2.2.2.2.2
    have k3 : m2.length ≤ 96 := pa_len H1.2.2.2.1
    refine e_iload_n f_70_18 rfl rfl ?_
    refine e_iconst (v := nI 4) f_70_19 (by decide) rfl ?_
    refine e_icmp_ge f_70_20 rfl (fun c_20 => ?_) (fun c_20 => ?_)
    · skip
      have c_20 : 4 ≤ i := cv_le (by omega) (by omega) c_20
      have e : i = 4 := by omega
      subst e
      rw [take_all q2, take_all k1] at q4
      rw [take_all q3, take_all k2] at q5
      subst q4
      subst q5
      refine px_to_L (L := [some (.ref (a)), some (.ref (b)), none]) ⟨Or.inr rfl, Or.inr rfl, Or.inl rfl, trivial⟩ ?_
      exact kx g G0 G1 G2 G3 G4 frg
    · skip
      have c_20 : i < 4 := cv_nle (by omega) (by omega) c_20
      refine e_aload_n f_70_23 rfl rfl ?_
      refine e_getf f_70_24 G0 rfl rfl ?_
      refine e_iload_n f_70_27 rfl rfl ?_
      refine e_aload_n f_70_28 rfl rfl ?_
      have g1 : pSM g b (t2, u2, i2, m2, c2) := pSM_fi H1 frg (by omega)
      refine e_getf f_70_29 g1.1 rfl rfl ?_
      refine e_iload_n f_70_32 rfl rfl ?_
      refine e_iaload_p (xs := u2) f_70_33 g1.2.1 (d := 0) (by first | omega | (simp only [List.length_set]; omega)) rfl ?_
      show px_to 70 34 [some (.ref (a)), some (.ref (b)), some (.int (nI i))] [.int (u2.getD i 0), .int (nI i), .ref (a + 1)] g _
      refine e_iastore_p (xs := su) (x := u2.getD i 0) f_70_34 G1 (by omega) (by first | omega | (simp only [List.length_set]; omega)) (rfl) rfl (fun h2 g3 fx4 => ?_)
      have fr5 : px_fi a 5 h0 h2 := fi_tr frg fx4 (by omega)
      refine e_aload_n f_70_35 rfl rfl ?_
      have g6 : h2.2.2 a = some (9, [.int (t2), .ref (a + 1), .ref (a + 2), .ref (a + 3), .ref (a + 4), .int (nI m2.length)]) := fi_at G0 fx4 (by omega)
      refine e_getf f_70_36 g6 rfl rfl ?_
      refine e_iload_n f_70_39 rfl rfl ?_
      refine e_aload_n f_70_40 rfl rfl ?_
      have g7 : pSM h2 b (t2, u2, i2, m2, c2) := pSM_fi H1 fr5 (by omega)
      refine e_getf f_70_41 g7.1 rfl rfl ?_
      refine e_iload_n f_70_44 rfl rfl ?_
      refine e_iaload_p (xs := i2) f_70_45 g7.2.2.1 (d := 0) (by first | omega | (simp only [List.length_set]; omega)) rfl ?_
      show px_to 70 46 [some (.ref (a)), some (.ref (b)), some (.int (nI i))] [.int (i2.getD i 0), .int (nI i), .ref (a + 2)] h2 _
      have g8 : px_pa h2 (a + 2) 50 4 Value.int ti := pa_fi G2 fx4 (by omega)
      refine e_iastore_p (xs := ti) (x := i2.getD i 0) f_70_46 g8 (by omega) (by first | omega | (simp only [List.length_set]; omega)) (rfl) rfl (fun h9 g10 fx11 => ?_)
      have fr12 : px_fi a 5 h0 h9 := fi_tr fr5 fx11 (by omega)
      refine e_iinc (y := nI (i + 1)) (L' := [some (.ref (a)), some (.ref (b)), some (.int (nI (i + 1)))]) f_70_47 rfl (by rw [show Int32.ofInt 1 = nI 1 by decide]; exact (nI_add _ _)) rfl rfl ?_
      refine e_goto f_70_50 ?_
      have g13 : h9.2.2 a = some (9, [.int (t2), .ref (a + 1), .ref (a + 2), .ref (a + 3), .ref (a + 4), .int (nI m2.length)]) := fi_at g6 fx11 (by omega)
      have g14 : px_pa h9 (a + 1) 50 4 Value.int (su.set i (u2.getD i 0)) := pa_fi g3 fx11 (by omega)
      have g15 : px_pa h2 (a + 3) 51 96 Value.long ms := pa_fi G3 fx4 (by omega)
      have g16 : px_pa h9 (a + 3) 51 96 Value.long ms := pa_fi g15 fx11 (by omega)
      have g17 : px_pa h2 (a + 4) 50 96 Value.int cf := pa_fi G4 fx4 (by omega)
      have g18 : px_pa h9 (a + 4) 50 96 Value.int cf := pa_fi g17 fx11 (by omega)
      first | (exfalso; omega) | exact ih (d - 1) (by omega) (i + 1) (su.set i (u2.getD i 0)) (ti.set i (i2.getD i 0)) h9 (by omega) (by omega) (by rw [List.length_set]; exact q2) (by rw [List.length_set]; exact q3) (set_take_eq (by omega) (by omega) q4) (set_take_eq (by omega) (by omega) q5) g13 g14 g10 g16 g18 fr12

set_option maxRecDepth 20000 in
set_option maxHeartbeats 4000000 in
theorem ll_SM_copy2 {h0 : px_H} {a : Nat} {wb : List Int32} {b : Nat} {t2 : Int32} {u2 i2 : List Int32} {m2 : List Int64} {c2 : List Int32} (H1 : pSM h0 b (t2, u2, i2, m2, c2)) (hzb : px_pa h0 (b + 4) 50 96 Value.int (c2 ++ wb)) (lb : (c2 ++ wb).length = 96) (p0 : 17 ≤ a) (p1 : a + 5 ≤ b ∨ b + 5 ≤ a) (p2 : c2.length ≤ m2.length) : ∀ (d : Nat) (i : Nat) (x : List Int32) (g : px_H), (m2.length ≤ i + d) → (i ≤ m2.length) → (x.length = 96) → (x.take i = (c2 ++ wb).take i) → g.2.2 a = some (9, [.int (t2), .ref (a + 1), .ref (a + 2), .ref (a + 3), .ref (a + 4), .int (nI m2.length)]) → px_pa g (a + 1) 50 4 Value.int u2 → px_pa g (a + 2) 50 4 Value.int i2 → px_pa g (a + 3) 51 96 Value.long (m2.take i) → px_pa g (a + 4) 50 96 Value.int x → px_fi a 5 h0 g → px_to 70 55 [some (.ref (a)), some (.ref (b)), some (.int (nI i))] [] g (fun h1 r => r = none ∧ pSM h1 a (t2, u2, i2, m2, c2) ∧ px_fi a 5 h0 h1) := by
  intro d
  induction d using Nat.strongRecOn with
  | ind d ih =>
    intro i x g q0 q1 q2 q3 G0 G1 G2 G3 G4 frg
    have k1 : u2.length = 4 := H1.2.2.2.2.2.1
    have k2 : i2.length = 4 := H1.2.2.2.2.2.2
    have k3 : m2.length ≤ 96 := pa_len H1.2.2.2.1
    refine e_iload_n f_70_55 rfl rfl ?_
    refine e_aload_n f_70_56 rfl rfl ?_
    refine e_getf f_70_57 G0 rfl rfl ?_
    refine e_icmp_ge f_70_60 rfl (fun c_60 => ?_) (fun c_60 => ?_)
    · skip
      have c_60 : m2.length ≤ i := cv_le (by omega) (by omega) c_60
      refine e_vret f_70_93 rfl ?_
      have e : i = m2.length := by omega
      subst e
      rw [List.take_length] at G3
      exact ⟨rfl, ⟨G0, G1, G2, G3, pz_of' (ws := x.drop c2.length) G4 q2 (by conv => lhs; rw [← List.take_append_drop c2.length x, take_le_of p2 q3, List.take_left]), k1, k2⟩, frg⟩
    · skip
      have c_60 : i < m2.length := cv_nle (by omega) (by omega) c_60
      refine e_aload_n f_70_63 rfl rfl ?_
      refine e_getf f_70_64 G0 rfl rfl ?_
      refine e_iload_n f_70_67 rfl rfl ?_
      refine e_aload_n f_70_68 rfl rfl ?_
      have g1 : pSM g b (t2, u2, i2, m2, c2) := pSM_fi H1 frg (by omega)
      refine e_getf f_70_69 g1.1 rfl rfl ?_
      refine e_iload_n f_70_72 rfl rfl ?_
      refine e_laload_p (xs := m2) f_70_73 g1.2.2.2.1 (d := 0) (by first | omega | (simp only [List.length_set]; omega)) rfl ?_
      show px_to 70 74 [some (.ref (a)), some (.ref (b)), some (.int (nI i))] [.long (m2.getD i 0), .int (nI i), .ref (a + 3)] g _
      refine e_lastore_a (xs := m2.take i) (x := m2.getD i 0) f_70_74 G3 (by omega) (by rw [List.length_take]; omega) (by omega) (rfl) rfl (fun h2 g3 fx4 => ?_)
      have fr5 : px_fi a 5 h0 h2 := fi_tr frg fx4 (by omega)
      refine e_aload_n f_70_75 rfl rfl ?_
      have g6 : h2.2.2 a = some (9, [.int (t2), .ref (a + 1), .ref (a + 2), .ref (a + 3), .ref (a + 4), .int (nI m2.length)]) := fi_at G0 fx4 (by omega)
      refine e_getf f_70_76 g6 rfl rfl ?_
      refine e_iload_n f_70_79 rfl rfl ?_
      refine e_aload_n f_70_80 rfl rfl ?_
      have g7 : pSM h2 b (t2, u2, i2, m2, c2) := pSM_fi H1 fr5 (by omega)
      refine e_getf f_70_81 g7.1 rfl rfl ?_
      refine e_iload_n f_70_84 rfl rfl ?_
      have g8 : px_pa h2 (b + 4) 50 96 Value.int (c2 ++ wb) := pa_fi hzb fr5 (by omega)
      refine e_iaload_p (xs := c2 ++ wb) f_70_85 g8 (d := 0) (by omega) rfl ?_
      show px_to 70 86 [some (.ref (a)), some (.ref (b)), some (.int (nI i))] [.int ((c2 ++ wb).getD i 0), .int (nI i), .ref (a + 4)] h2 _
      have g9 : px_pa h2 (a + 4) 50 96 Value.int x := pa_fi G4 fx4 (by omega)
      refine e_iastore_p (xs := x) (x := (c2 ++ wb).getD i 0) f_70_86 g9 (by omega) (by first | omega | (simp only [List.length_set]; omega)) (rfl) rfl (fun h10 g11 fx12 => ?_)
      have fr13 : px_fi a 5 h0 h10 := fi_tr fr5 fx12 (by omega)
      refine e_iinc (y := nI (i + 1)) (L' := [some (.ref (a)), some (.ref (b)), some (.int (nI (i + 1)))]) f_70_87 rfl (by rw [show Int32.ofInt 1 = nI 1 by decide]; exact (nI_add _ _)) rfl rfl ?_
      refine e_goto f_70_90 ?_
      have g14 : px_pa h10 (a + 3) 51 96 Value.long ((m2.take i) ++ [m2.getD i 0]) := pa_fi g3 fx12 (by omega)
      have g15 : px_pa h10 (a + 3) 51 96 Value.long (m2.take (i + 1)) := pa_eq g14 (take_s 0 (show i < m2.length by omega)).symm
      have g16 : h10.2.2 a = some (9, [.int (t2), .ref (a + 1), .ref (a + 2), .ref (a + 3), .ref (a + 4), .int (nI m2.length)]) := fi_at g6 fx12 (by omega)
      have g17 : px_pa h2 (a + 1) 50 4 Value.int u2 := pa_fi G1 fx4 (by omega)
      have g18 : px_pa h10 (a + 1) 50 4 Value.int u2 := pa_fi g17 fx12 (by omega)
      have g19 : px_pa h2 (a + 2) 50 4 Value.int i2 := pa_fi G2 fx4 (by omega)
      have g20 : px_pa h10 (a + 2) 50 4 Value.int i2 := pa_fi g19 fx12 (by omega)
      first | (exfalso; omega) | exact ih (d - 1) (by omega) (i + 1) (x.set i ((c2 ++ wb).getD i 0)) h10 (by omega) (by omega) (by rw [List.length_set]; exact q2) (set_take_eq (by omega) (by omega) q3) g16 g18 g20 g15 g11 fr13

set_option maxRecDepth 20000 in
set_option maxHeartbeats 4000000 in
theorem cc_SM_copy {h : px_H} {a : Nat} {to : Int32} {su ti : List Int32} {ms : List Int64} {cs : List Int32} {b : Nat} {t2 : Int32} {u2 i2 : List Int32} {m2 : List Int64} {c2 : List Int32} (H0 : pSM h a (to, su, ti, ms, cs)) (H1 : pSM h b (t2, u2, i2, m2, c2)) (p0 : 17 ≤ a) (p1 : a + 5 ≤ b ∨ b + 5 ≤ a) (p2 : c2.length ≤ m2.length) : px_wp 70 [.ref (a), .ref (b)] h (fun h1 r => r = none ∧ pSM h1 a (t2, u2, i2, m2, c2) ∧ px_fi a 5 h h1) := by
  have fr0 : px_fi a 5 h h := fi_rf _ _ _
  have l1 : su.length = 4 := H0.2.2.2.2.2.1
  have l2 : ti.length = 4 := H0.2.2.2.2.2.2
  have l3 : ms.length ≤ 96 := pa_len H0.2.2.2.1
  show px_to 70 0 [some (.ref (a)), some (.ref (b)), none] [] h _
  have g1 : h.2.2 a = some (9, [.int (to), .ref (a + 1), .ref (a + 2), .ref (a + 3), .ref (a + 4), .int (nI ms.length)]) := H0.1
  have g2 : px_pa h (a + 1) 50 4 Value.int su := H0.2.1
  have g3 : px_pa h (a + 2) 50 4 Value.int ti := H0.2.2.1
  have g4 : px_pa h (a + 3) 51 96 Value.long ms := H0.2.2.2.1
  have g5 : px_pz h (a + 4) 96 cs := H0.2.2.2.2.1
  obtain ⟨wa, hza, hla⟩ : px_pz h (a + 4) 96 cs := H0.2.2.2.2.1
  obtain ⟨wb, hzb, hlb⟩ : px_pz h (b + 4) 96 c2 := H1.2.2.2.2.1
  refine e_aload_n f_70_0 rfl rfl ?_
  refine e_aload_n f_70_1 rfl rfl ?_
  refine e_getf f_70_2 H1.1 rfl rfl ?_
  refine e_putp (vs' := [.int (t2), .ref (a + 1), .ref (a + 2), .ref (a + 3), .ref (a + 4), .int (nI ms.length)]) f_70_5 g1 (Nat.le_of_ble_eq_true rfl) (rfl) (rfl) rfl rfl (fun h6 g7 fx8 => ?_)
  have fr9 : px_fi a 5 h h6 := fi_tr fr0 fx8 (by omega)
  refine e_aload_n f_70_8 rfl rfl ?_
  refine e_aload_n f_70_9 rfl rfl ?_
  have g10 : pSM h6 b (t2, u2, i2, m2, c2) := pSM_fi H1 fr9 (by omega)
  refine e_getf f_70_10 g10.1 rfl rfl ?_
  refine e_putp (vs' := [.int (t2), .ref (a + 1), .ref (a + 2), .ref (a + 3), .ref (a + 4), .int (nI m2.length)]) f_70_13 g7 (Nat.le_of_ble_eq_true rfl) (rfl) (rfl) rfl rfl (fun h11 g12 fx13 => ?_)
  have fr14 : px_fi a 5 h h11 := fi_tr fr9 fx13 (by omega)
  refine e_iconst (v := nI 0) f_70_16 (by decide) rfl ?_
  refine e_istore_n (L' := [some (.ref (a)), some (.ref (b)), some (.int (nI 0))]) f_70_17 (Nat.le_of_ble_eq_true rfl) rfl rfl ?_
  have g15 : px_pa h6 (a + 1) 50 4 Value.int su := pa_fi g2 fx8 (by omega)
  have g16 : px_pa h11 (a + 1) 50 4 Value.int su := pa_fi g15 fx13 (by omega)
  have g17 : px_pa h6 (a + 2) 50 4 Value.int ti := pa_fi g3 fx8 (by omega)
  have g18 : px_pa h11 (a + 2) 50 4 Value.int ti := pa_fi g17 fx13 (by omega)
  have g19 : px_pa h6 (a + 3) 51 96 Value.long ms := pa_fi g4 fx8 (by omega)
  have g20 : px_pa h11 (a + 3) 51 96 Value.long ms := pa_fi g19 fx13 (by omega)
  have g21 : px_pa h6 (a + 4) 50 96 Value.int (cs ++ wa) := pa_fi hza fx8 (by omega)
  have g22 : px_pa h11 (a + 4) 50 96 Value.int (cs ++ wa) := pa_fi g21 fx13 (by omega)
  refine ll_SM_copy1 (h0 := h) (ms := ms) (cf := cs ++ wa) H1 hzb hlb p0 p1 (fun g1 z0 z1 z2 z3 z4 z5 => ?_) 4 0 su ti h11 (by omega) (by omega) l1 l2 rfl rfl g12 g16 g18 g20 g22 fr14
  refine e_iconst (v := nI 0) f_70_53 (by decide) rfl ?_
  refine e_istore_n (L' := [some (.ref (a)), some (.ref (b)), some (.int (nI 0))]) f_70_54 (Nat.le_of_ble_eq_true rfl) rfl rfl ?_
  exact ll_SM_copy2 (h0 := h) H1 hzb hlb p0 p1 p2 m2.length 0 (cs ++ wa) g1 (by omega) (by omega) hla rfl z0 z1 z2 (pa_nil z3) z4 z5

def oI : Option Nat → Int32
  | none => -3
  | some k => nI k
/-- is k a better timer than the one found -/
def tmBet (ti : List Int32) (w : Int32) (nx : Option Nat) (k : Nat) : Bool := decide (¬ ti.getD k 0 = -1) && decide (ti.getD k 0 ≤ w) && (match nx with
  | none => true
  | some q => decide (ti.getD k 0 < ti.getD q 0))
def tmGo (ti : List Int32) (w : Int32) : Nat → Nat → Option Nat → Option Nat
  | 0, _, nx => nx
  | d + 1, k, nx => tmGo ti w d (k + 1) (if tmBet ti w nx k = true then some k else nx)
def tmNext (ti : List Int32) (w : Int32) : Option Nat := tmGo ti w 4 0 none
theorem tmGo_lt {ti : List Int32} {w : Int32} : ∀ (d k : Nat) (nx : Option Nat), k + d ≤ 4 → (∀ q, nx = some q → q < 4) → ∀ q, tmGo ti w d k nx = some q → q < 4
  | 0, k, nx, _, h => h
  | d + 1, k, nx, hk, h => by
    rw [tmGo]
    refine tmGo_lt d (k + 1) _ (by omega) (fun q hq => ?_)
    split at hq
    · cases hq
      omega
    · exact h q hq
theorem tmNext_lt {ti : List Int32} {w : Int32} {q : Nat} (h : tmNext ti w = some q) : q < 4 := tmGo_lt 4 0 none (by omega) (fun q hq => nomatch hq) q h
theorem oI_ne {nx : Option Nat} (h : ¬ oI nx = -3) : ∃ k, nx = some k := by
  cases nx with
  | none => exact absurd rfl h
  | some k => exact ⟨k, rfl⟩
theorem oI_eq {nx : Option Nat} (h : oI nx = -3) (hb : ∀ q, nx = some q → q < 4) : nx = none := by
  cases nx with
  | none => rfl
  | some k =>
    exfalso
    have hk := hb k rfl
    have h1 : (nI k).toInt = (-3 : Int32).toInt := congrArg Int32.toInt h
    rw [nI_toInt (by omega)] at h1
    have h2 : (-3 : Int32).toInt = -3 := by decide
    omega

set_option maxRecDepth 20000 in
set_option maxHeartbeats 4000000 in
theorem ll_SM_nextTimer {P : px_H → Option Value → Prop} {h : px_H} {w : Int32} {res : Option Nat} {a : Nat} {to : Int32} {su ti : List Int32} {ms : List Int64} {cs : List Int32} (H0 : pSM h a (to, su, ti, ms, cs)) (hk : ∀ {r}, r = some (.int (oI res)) → P h r) : ∀ (d : Nat) (i : Nat) (nx : Option Nat), (4 = i + d) → (i ≤ 4) → (∀ q, nx = some q → q < 4) → (tmGo ti w d i nx = res) → px_to 79 5 [some (.ref (a)), some (.int (w)), some (.int (oI nx)), some (.int (nI i)), none] [] h P := by
  intro d
  induction d using Nat.strongRecOn with
  | ind d ih =>
    intro i nx q0 q1 q2 q3
    have l2 : ti.length = 4 := H0.2.2.2.2.2.2
    refine e_iload_n f_79_5 rfl rfl ?_
    refine e_iconst (v := nI 4) f_79_6 (by decide) rfl ?_
    refine e_icmp_ge f_79_7 rfl (fun c_7 => ?_) (fun c_7 => ?_)
    · skip
      have c_7 : 4 ≤ i := cv_le (by omega) (by omega) c_7
      refine e_iload_n f_79_71 rfl rfl ?_
      refine e_iret f_79_72 rfl (rfl) ?_
      have e : d = 0 := by omega
      subst e
      exact hk (by rw [← q3]; rfl)
    · skip
      have c_7 : i < 4 := cv_nle (by omega) (by omega) c_7
      refine e_aload_n f_79_10 rfl rfl ?_
      refine e_getf f_79_11 H0.1 rfl rfl ?_
      refine e_iload_n f_79_14 rfl rfl ?_
      refine e_iaload_p (xs := ti) f_79_15 H0.2.2.1 (d := 0) (by first | omega | (simp only [List.length_set]; omega)) rfl ?_
      show px_to 79 16 [some (.ref (a)), some (.int (w)), some (.int (oI nx)), some (.int (nI i)), none] [.int (ti.getD i 0)] h _
      refine e_iconst (v := (-1)) f_79_16 (by decide) rfl ?_
      refine e_icmp_eq f_79_17 rfl (fun c_17 => ?_) (fun c_17 => ?_)
      · skip
        refine e_iconst (v := nI 0) f_79_34 (by decide) rfl ?_
        refine e_istore (L' := [some (.ref (a)), some (.int (w)), some (.int (oI nx)), some (.int (nI i)), some (.int (nI 0))]) f_79_35 (Nat.le_of_ble_eq_true rfl) rfl rfl ?_
        refine e_iload f_79_37 rfl rfl ?_
        refine e_if_eq_t f_79_39 (by decide) ?_
        refine e_iinc (y := nI (i + 1)) (L' := [some (.ref (a)), some (.int (w)), some (.int (oI nx)), some (.int (nI (i + 1))), some (.int (nI 0))]) f_79_65 rfl (by rw [show Int32.ofInt 1 = nI 1 by decide]; exact (nI_add _ _)) rfl rfl ?_
        refine e_goto f_79_68 ?_
        have hbt : tmBet ti w nx i = false := by simp only [tmBet]; rw [decide_eq_false (fun z => z c_17)]; rfl
        obtain ⟨d, rfl⟩ : ∃ x, d = x + 1 := ⟨d - 1, by omega⟩
        refine px_to_L (L := [some (.ref (a)), some (.int (w)), some (.int (oI nx)), some (.int (nI (i + 1))), none]) ⟨Or.inr rfl, Or.inr rfl, Or.inr rfl, Or.inr rfl, Or.inl rfl, trivial⟩ ?_
        first | (exfalso; omega) | exact ih (d) (by omega) (i + 1) nx  (by omega) (by omega) (fun q hq => q2 q hq) (by rw [tmGo, hbt, if_neg Bool.false_ne_true] at q3; exact q3)  
      · skip
        refine e_aload_n f_79_20 rfl rfl ?_
        refine e_getf f_79_21 H0.1 rfl rfl ?_
        refine e_iload_n f_79_24 rfl rfl ?_
        refine e_iaload_p (xs := ti) f_79_25 H0.2.2.1 (d := 0) (by first | omega | (simp only [List.length_set]; omega)) rfl ?_
        show px_to 79 26 [some (.ref (a)), some (.int (w)), some (.int (oI nx)), some (.int (nI i)), none] [.int (ti.getD i 0)] h _
        refine e_iload_n f_79_26 rfl rfl ?_
        refine e_icmp_gt f_79_27 rfl (fun c_27 => ?_) (fun c_27 => ?_)
        · skip
          refine e_iconst (v := nI 0) f_79_34 (by decide) rfl ?_
          refine e_istore (L' := [some (.ref (a)), some (.int (w)), some (.int (oI nx)), some (.int (nI i)), some (.int (nI 0))]) f_79_35 (Nat.le_of_ble_eq_true rfl) rfl rfl ?_
          refine e_iload f_79_37 rfl rfl ?_
          refine e_if_eq_t f_79_39 (by decide) ?_
          refine e_iinc (y := nI (i + 1)) (L' := [some (.ref (a)), some (.int (w)), some (.int (oI nx)), some (.int (nI (i + 1))), some (.int (nI 0))]) f_79_65 rfl (by rw [show Int32.ofInt 1 = nI 1 by decide]; exact (nI_add _ _)) rfl rfl ?_
          refine e_goto f_79_68 ?_
          have hbt : tmBet ti w nx i = false := by simp only [tmBet]; rw [decide_eq_false (p := ti.getD i 0 ≤ w) (fun z => Int32.not_le.mpr c_27 z), Bool.and_false, Bool.false_and]
          obtain ⟨d, rfl⟩ : ∃ x, d = x + 1 := ⟨d - 1, by omega⟩
          refine px_to_L (L := [some (.ref (a)), some (.int (w)), some (.int (oI nx)), some (.int (nI (i + 1))), none]) ⟨Or.inr rfl, Or.inr rfl, Or.inr rfl, Or.inr rfl, Or.inl rfl, trivial⟩ ?_
          first | (exfalso; omega) | exact ih (d) (by omega) (i + 1) nx  (by omega) (by omega) (fun q hq => q2 q hq) (by rw [tmGo, hbt, if_neg Bool.false_ne_true] at q3; exact q3)  
        · skip
          refine e_iconst (v := nI 1) f_79_30 (by decide) rfl ?_
          refine e_goto f_79_31 ?_
          refine e_istore (L' := [some (.ref (a)), some (.int (w)), some (.int (oI nx)), some (.int (nI i)), some (.int (nI 1))]) f_79_35 (Nat.le_of_ble_eq_true rfl) rfl rfl ?_
          refine e_iload f_79_37 rfl rfl ?_
          refine e_if_eq_f f_79_39 (by decide) rfl ?_
          refine e_iload_n f_79_42 rfl rfl ?_
          refine e_bipush (v := (-3)) f_79_43 (by decide) rfl ?_
          refine e_icmp_eq f_79_45 rfl (fun c_45 => ?_) (fun c_45 => ?_)
          · skip
            refine e_iload_n f_79_63 rfl rfl ?_
            refine e_istore_n (L' := [some (.ref (a)), some (.int (w)), some (.int (nI i)), some (.int (nI i)), some (.int (nI 1))]) f_79_64 (Nat.le_of_ble_eq_true rfl) rfl rfl ?_
            refine e_iinc (y := nI (i + 1)) (L' := [some (.ref (a)), some (.int (w)), some (.int (nI i)), some (.int (nI (i + 1))), some (.int (nI 1))]) f_79_65 rfl (by rw [show Int32.ofInt 1 = nI 1 by decide]; exact (nI_add _ _)) rfl rfl ?_
            refine e_goto f_79_68 ?_
            have hbt : tmBet ti w nx i = true := by rw [oI_eq c_45 q2]; simp only [tmBet]; rw [decide_eq_true c_17, decide_eq_true (Int32.not_lt.mp c_27)]; rfl
            obtain ⟨d, rfl⟩ : ∃ x, d = x + 1 := ⟨d - 1, by omega⟩
            refine px_to_L (L := [some (.ref (a)), some (.int (w)), some (.int (oI (some i))), some (.int (nI (i + 1))), none]) ⟨Or.inr rfl, Or.inr rfl, Or.inr rfl, Or.inr rfl, Or.inl rfl, trivial⟩ ?_
            first | (exfalso; omega) | exact ih (d) (by omega) (i + 1) (some i)  (by omega) (by omega) (fun q hq => by cases hq; omega) (by rw [tmGo, hbt, if_pos rfl] at q3; exact q3)  
          · skip
            obtain ⟨k, rfl⟩ := oI_ne c_45
            have hk4 := q2 k rfl
            refine e_aload_n f_79_48 rfl rfl ?_
            refine e_getf f_79_49 H0.1 rfl rfl ?_
            refine e_iload_n f_79_52 rfl rfl ?_
            refine e_iaload_p (xs := ti) f_79_53 H0.2.2.1 (d := 0) (by first | omega | (simp only [List.length_set]; omega)) rfl ?_
            show px_to 79 54 [some (.ref (a)), some (.int (w)), some (.int (nI k)), some (.int (nI i)), some (.int (nI 1))] [.int (ti.getD i 0)] h _
            refine e_aload_n f_79_54 rfl rfl ?_
            refine e_getf f_79_55 H0.1 rfl rfl ?_
            refine e_iload_n f_79_58 rfl rfl ?_
            refine e_iaload_p (xs := ti) f_79_59 H0.2.2.1 (d := 0) (by first | omega | (simp only [List.length_set]; omega)) rfl ?_
            show px_to 79 60 [some (.ref (a)), some (.int (w)), some (.int (nI k)), some (.int (nI i)), some (.int (nI 1))] [.int (ti.getD k 0), .int (ti.getD i 0)] h _
            refine e_icmp_ge f_79_60 rfl (fun c_60 => ?_) (fun c_60 => ?_)
            · skip
              refine e_iinc (y := nI (i + 1)) (L' := [some (.ref (a)), some (.int (w)), some (.int (nI k)), some (.int (nI (i + 1))), some (.int (nI 1))]) f_79_65 rfl (by rw [show Int32.ofInt 1 = nI 1 by decide]; exact (nI_add _ _)) rfl rfl ?_
              refine e_goto f_79_68 ?_
              have hbt : tmBet ti w (some k) i = false := by simp only [tmBet]; rw [decide_eq_false (p := ti.getD i 0 < ti.getD k 0) (fun z => Int32.not_lt.mpr c_60 z), Bool.and_false]
              obtain ⟨d, rfl⟩ : ∃ x, d = x + 1 := ⟨d - 1, by omega⟩
              refine px_to_L (L := [some (.ref (a)), some (.int (w)), some (.int (oI (some k))), some (.int (nI (i + 1))), none]) ⟨Or.inr rfl, Or.inr rfl, Or.inr rfl, Or.inr rfl, Or.inl rfl, trivial⟩ ?_
              first | (exfalso; omega) | exact ih (d) (by omega) (i + 1) (some k)  (by omega) (by omega) (fun q hq => q2 q hq) (by rw [tmGo, hbt, if_neg Bool.false_ne_true] at q3; exact q3)  
            · skip
              refine e_iload_n f_79_63 rfl rfl ?_
              refine e_istore_n (L' := [some (.ref (a)), some (.int (w)), some (.int (nI i)), some (.int (nI i)), some (.int (nI 1))]) f_79_64 (Nat.le_of_ble_eq_true rfl) rfl rfl ?_
              refine e_iinc (y := nI (i + 1)) (L' := [some (.ref (a)), some (.int (w)), some (.int (nI i)), some (.int (nI (i + 1))), some (.int (nI 1))]) f_79_65 rfl (by rw [show Int32.ofInt 1 = nI 1 by decide]; exact (nI_add _ _)) rfl rfl ?_
              refine e_goto f_79_68 ?_
              have hbt : tmBet ti w (some k) i = true := by simp only [tmBet]; rw [decide_eq_true c_17, decide_eq_true (Int32.not_lt.mp c_27), decide_eq_true (Int32.not_le.mp c_60)]; rfl
              obtain ⟨d, rfl⟩ : ∃ x, d = x + 1 := ⟨d - 1, by omega⟩
              refine px_to_L (L := [some (.ref (a)), some (.int (w)), some (.int (oI (some i))), some (.int (nI (i + 1))), none]) ⟨Or.inr rfl, Or.inr rfl, Or.inr rfl, Or.inr rfl, Or.inl rfl, trivial⟩ ?_
              first | (exfalso; omega) | exact ih (d) (by omega) (i + 1) (some i)  (by omega) (by omega) (fun q hq => by cases hq; omega) (by rw [tmGo, hbt, if_pos rfl] at q3; exact q3)  

set_option maxRecDepth 20000 in
set_option maxHeartbeats 4000000 in
theorem cc_SM_nextTimer {h : px_H} {w : Int32} {a : Nat} {to : Int32} {su ti : List Int32} {ms : List Int64} {cs : List Int32} (H0 : pSM h a (to, su, ti, ms, cs))  : px_wp 79 [.ref (a), .int (w)] h (fun h1 r => r = some (.int (oI (tmNext ti w))) ∧ h1 = h) := by
  show px_to 79 0 [some (.ref (a)), some (.int (w)), none, none, none] [] h _
  refine e_bipush (v := (-3)) f_79_0 (by decide) rfl ?_
  refine e_istore_n (L' := [some (.ref (a)), some (.int (w)), some (.int ((-3))), none, none]) f_79_2 (Nat.le_of_ble_eq_true rfl) rfl rfl ?_
  refine e_iconst (v := nI 0) f_79_3 (by decide) rfl ?_
  refine e_istore_n (L' := [some (.ref (a)), some (.int (w)), some (.int ((-3))), some (.int (nI 0)), none]) f_79_4 (Nat.le_of_ble_eq_true rfl) rfl rfl ?_
  exact ll_SM_nextTimer H0 (fun e => ⟨e, rfl⟩) 4 0 none rfl (by omega) (fun q hq => nomatch hq) rfl
