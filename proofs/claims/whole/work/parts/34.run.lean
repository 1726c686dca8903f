def lets (act : Nat) (v n : Int32) : Bool := if act = 60 then decide (v < n) else if act = 61 then decide (v = n) else decide (n < v)
def acted (act : Nat) (v n : Int32) : Int32 := if act = 43 then v + n else if act = 45 then v - n else if act = 42 then v * n else if n = 0 then 0 else v / n
def isZ (s : St) (v : Int32) : Bool := if s.1 = 113 then decide (v = 0) else decide (s.1 = 109 ∧ s.2.1 = 47 ∧ s.2.2 = 0)
def nN (x : Int32) : Nat := x.toInt.toNat
theorem nN_nI {n : Nat} (h : n < 2 ^ 31) : nN (nI n) = n := by
  unfold nN
  rw [nI_toInt h]
  rfl
/-- what a step makes of a row: the value that goes on, if it does; what the step knows then; was it late -/
def stepDo (s : St) (m : SM) (key : Nat) (v : Int32) (t : Nat) : Option Int32 × SM × Bool :=
  if s.1 = 102 then (if lets s.2.1 v s.2.2 = true then some v else none, m, false)
  else if s.1 = 109 then (some (acted s.2.1 v s.2.2), m, false)
  else if s.1 = 113 then (some (acted 47 s.2.2 v), m, false)
  else if s.1 = 100 then (if mkM key v ∈ m.2.2.2.1 then none else some v, (m.1, m.2.1, m.2.2.1, dAdd (mkM key v) m.2.2.2.1, m.2.2.2.2), false)
  else if s.1 = 115 then (some (m.2.1.getD key 0 + v), (m.1, m.2.1.set key (m.2.1.getD key 0 + v), m.2.2.1, m.2.2.2.1, m.2.2.2.2), false)
  else if s.1 = 119 then (none, (m.1, m.2.1, m.2.2.1, if nI ((t / nN s.2.2 + 1) * nN s.2.2) ≤ m.1 then m.2.2.2.1 else (spAdd (mkM key (nI ((t / nN s.2.2 + 1) * nN s.2.2))) m.2.2.2.1 m.2.2.2.2).1, if nI ((t / nN s.2.2 + 1) * nN s.2.2) ≤ m.1 then m.2.2.2.2 else (spAdd (mkM key (nI ((t / nN s.2.2 + 1) * nN s.2.2))) m.2.2.2.1 m.2.2.2.2).2), decide (nI ((t / nN s.2.2 + 1) * nN s.2.2) ≤ m.1))
  else (some v, (m.1, m.2.1, m.2.2.1.set key (nI t + s.2.2), m.2.2.2.1, m.2.2.2.2), false)
/-- side, steps, rows out, tally, zero -/
abbrev RX := Int32 × List SM × List Row × List Int32 × Option Nat
def tinc (tl : List Int32) (i : Nat) : List Int32 := tl.set i (tl.getD i 0 + nI 1)
/-- a row comes to step k -/
def pass (j : List St) : Nat → Nat → Nat → Int32 → Nat → RX → RX
  | 0, _, _, _, _, x => x
  | d + 1, k, key, v, t, x =>
    if k < j.length then
      if isZ (j.getD k (0, 0, 0)) v = true then (x.1, x.2.1, x.2.2.1, tinc (tinc x.2.2.2.1 (k * 5)) (k * 5 + 4), some k)
      else match stepDo (j.getD k (0, 0, 0)) (x.2.1.getD k sm0) key v t with
        | (none, m, late) => (if late = true then x.1 + nI 1 else x.1, x.2.1.set k m, x.2.2.1, if late = true then tinc (tinc x.2.2.2.1 (k * 5)) (k * 5 + 3) else tinc x.2.2.2.1 (k * 5), x.2.2.2.2)
        | (some w, m, _) => pass j d (k + 1) key w t (x.1, x.2.1.set k m, x.2.2.1, tinc (tinc x.2.2.2.1 (k * 5)) (k * 5 + 1), x.2.2.2.2)
    else (x.1, x.2.1, radd 96 x.2.2.1 (key, v, t), x.2.2.2.1, x.2.2.2.2)
def okSt (s : St) : Prop := (s.1 = 102 ∨ s.1 = 109 ∨ s.1 = 113 ∨ s.1 = 100 ∨ s.1 = 115 ∨ s.1 = 119 ∨ s.1 = 116) ∧ s.2.1 < 65536 ∧ (s.1 = 119 ∨ s.1 = 116 → ∃ n, 0 < n ∧ n ≤ 1000 ∧ s.2.2 = nI n)
def okJ (j : List St) : Prop := j.length ≤ 6 ∧ ∀ s ∈ j, okSt s
def okS (s : St) (m : SM) : Prop := m.2.1.length = 4 ∧ m.2.2.1.length = 4 ∧ (s.1 = 119 → m.2.2.2.2.length = m.2.2.2.1.length ∧ ∀ x ∈ m.2.2.2.1, ∃ e k, k < 4 ∧ 1 ≤ e ∧ e ≤ 6000 ∧ x = mkM k (nI e)) ∧ (s.1 ≠ 119 → m.2.2.2.2 = []) ∧ (s.1 = 116 → ∀ q, q < 4 → m.2.2.1.getD q 0 = -1 ∨ ∃ t, t ≤ 6000 ∧ m.2.2.1.getD q 0 = nI t)
def okM (j : List St) (sms : List SM) : Prop := sms.length = j.length ∧ ∀ k, k < j.length → okS (j.getD k (0, 0, 0)) (sms.getD k sm0)
theorem okM_set {j : List St} {sms : List SM} {k : Nat} {m : SM} (h : okM j sms) (hm : okS (j.getD k (0, 0, 0)) m) : okM j (sms.set k m) := by
  refine ⟨by rw [List.length_set]; exact h.1, fun q hq => ?_⟩
  by_cases e : k = q
  · subst e
    rw [getD_set_same (by rw [h.1]; exact hq)]
    exact hm
  · rw [getD_set_ne e]
    exact h.2 q hq
theorem spAdd_len {m : Int64} {ms : List Int64} {cs : List Int32} (h : cs.length = ms.length) : (spAdd m ms cs).2.length = (spAdd m ms cs).1.length := by
  have := spPos_le m ms
  unfold spAdd
  split
  · rw [List.length_set]; exact h
  · split
    · exact h
    · simp [h]
theorem spAdd_mem {m x : Int64} {ms : List Int64} {cs : List Int32} (h : x ∈ (spAdd m ms cs).1) : x = m ∨ x ∈ ms := by
  unfold spAdd at h
  split at h
  · exact Or.inr h
  · split at h
    · exact Or.inr h
    · rw [List.mem_append, List.mem_cons] at h
      rcases h with z | z | z
      · exact Or.inr (List.mem_of_mem_take z)
      · exact Or.inl z
      · exact Or.inr (List.mem_of_mem_drop z)
theorem stepDo_ok {s : St} {m : SM} {key t : Nat} {v : Int32} (hs : okSt s) (h : okS s m) (hk : key < 4) (ht : t ≤ 5000) : okS s (stepDo s m key v t).2.1 := by
  obtain ⟨h1, h2, h3, h4, h5⟩ := h
  obtain ⟨hs1, hs2, hs3⟩ := hs
  unfold stepDo
  by_cases c1 : s.1 = 102
  · rw [if_pos c1]; exact ⟨h1, h2, h3, h4, h5⟩
  rw [if_neg c1]
  by_cases c2 : s.1 = 109
  · rw [if_pos c2]; exact ⟨h1, h2, h3, h4, h5⟩
  rw [if_neg c2]
  by_cases c3 : s.1 = 113
  · rw [if_pos c3]; exact ⟨h1, h2, h3, h4, h5⟩
  rw [if_neg c3]
  by_cases c4 : s.1 = 100
  · rw [if_pos c4]; exact ⟨h1, h2, fun z => by omega, fun z => h4 z, fun z => by omega⟩
  rw [if_neg c4]
  by_cases c5 : s.1 = 115
  · rw [if_pos c5]; exact ⟨by dsimp only; rw [List.length_set]; exact h1, h2, fun z => by omega, fun z => h4 z, fun z => by omega⟩
  rw [if_neg c5]
  by_cases c6 : s.1 = 119
  · rw [if_pos c6]
    obtain ⟨n, hn0, hn1, hn2⟩ := hs3 (Or.inl c6)
    refine ⟨h1, h2, fun _ => ?_, fun z => absurd c6 z, fun z => by omega⟩
    dsimp only
    rw [hn2, nN_nI (by omega)]
    have hE : (t / n + 1) * n ≤ t + n := by rw [Nat.add_mul, Nat.one_mul]; have := Nat.div_mul_le_self t n; omega
    have hE1 : n ≤ (t / n + 1) * n := by rw [Nat.add_mul, Nat.one_mul]; omega
    by_cases c7 : nI ((t / n + 1) * n) ≤ m.1
    · rw [if_pos c7, if_pos c7]; exact h3 c6
    · rw [if_neg c7, if_neg c7]
      refine ⟨spAdd_len (h3 c6).1, fun x hx => ?_⟩
      rcases spAdd_mem hx with z | z
      · exact ⟨_, key, hk, by omega, by omega, z⟩
      · exact (h3 c6).2 x z
  · rw [if_neg c6]
    have c7 : s.1 = 116 := by clear hs3 h3 h4 h5; omega
    obtain ⟨n, hn0, hn1, hn2⟩ := hs3 (Or.inr c7)
    refine ⟨h1, by dsimp only; rw [List.length_set]; exact h2, fun z => by omega, fun z => h4 z, fun _ q hq => ?_⟩
    dsimp only
    by_cases e : key = q
    · subst e
      rw [getD_set_same (by omega), hn2]
      exact Or.inr ⟨t + n, by omega, nI_add _ _⟩
    · rw [getD_set_ne e]
      exact h5 c7 q hq
theorem set_self {α : Type} {xs : List α} {k : Nat} {d : α} (h : k < xs.length) : xs.set k (xs.getD k d) = xs := by
  rw [getD_lt d h, List.set_getElem_self]
def pMm (h : px_H) (M : Nat) (A B W S : Int32) (sms : List SM) : Prop := h.2.2 M = some (2, [.int A, .int B, .int W, .int S, .ref (M + 1)]) ∧ px_rs h (M + 1) 55 6 (fun k => M + 5 * k + 2) ∧ pSt h M sms
theorem pMm_fi {h h1 : px_H} {M lo n : Nat} {A B W S : Int32} {sms : List SM} (p : pMm h M A B W S sms) (f : px_fi lo n h h1) (d : M + 32 ≤ lo ∨ lo + n ≤ M) : pMm h1 M A B W S sms := ⟨fi_at p.1 f (by omega), rs_fi p.2.1 f (by omega), pSt_fi p.2.2 f (by omega)⟩

set_option maxRecDepth 20000 in
set_option maxHeartbeats 4000000 in
theorem cc_Run_lets {h : px_H} {ac : Nat} {v n : Int32}  (p0 : ac < 65536) : px_wp 58 [.int (nI ac), .int (v), .int (n)] h (fun h1 r => r = some (.int (bI (lets ac v n))) ∧ h1 = h) := by
  show px_to 58 0 [some (.int (nI ac)), some (.int (v)), some (.int (n))] [] h _
  refine e_iload_n f_58_0 rfl rfl ?_
  by_cases c_1_60 : ac = 60
  · skip
    refine e_sw_l f_58_1 (t := 28) (by rw [c_1_60]; rfl) ?_
    refine e_iload_n f_58_28 rfl rfl ?_
    refine e_iload_n f_58_29 rfl rfl ?_
    refine e_icmp_ge f_58_30 rfl (fun c_30 => ?_) (fun c_30 => ?_)
    · skip
      refine e_iconst (v := nI 0) f_58_37 (by decide) rfl ?_
      refine e_iret f_58_38 rfl (rfl) ?_
      refine ⟨congrArg (fun z => some (Value.int z)) (b0 ?_), rfl⟩
      unfold lets
      rw [if_pos c_1_60, decide_eq_false (Int32.not_lt.mpr c_30)]
    · skip
      refine e_iconst (v := nI 1) f_58_33 (by decide) rfl ?_
      refine e_goto f_58_34 ?_
      refine e_iret f_58_38 rfl (rfl) ?_
      refine ⟨congrArg (fun z => some (Value.int z)) (b1 ?_), rfl⟩
      unfold lets
      rw [if_pos c_1_60, decide_eq_true (Int32.not_le.mp c_30)]
  · skip
    by_cases c_1_61 : ac = 61
    · skip
      refine e_sw_l f_58_1 (t := 39) (by rw [c_1_61]; rfl) ?_
      refine e_iload_n f_58_39 rfl rfl ?_
      refine e_iload_n f_58_40 rfl rfl ?_
      refine e_icmp_ne f_58_41 rfl (fun c_41 => ?_) (fun c_41 => ?_)
      · skip
        refine e_iconst (v := nI 0) f_58_48 (by decide) rfl ?_
        refine e_iret f_58_49 rfl (rfl) ?_
        refine ⟨congrArg (fun z => some (Value.int z)) (b0 ?_), rfl⟩
        unfold lets
        rw [if_neg c_1_60, if_pos c_1_61, decide_eq_false c_41]
      · skip
        refine e_iconst (v := nI 1) f_58_44 (by decide) rfl ?_
        refine e_goto f_58_45 ?_
        refine e_iret f_58_49 rfl (rfl) ?_
        refine ⟨congrArg (fun z => some (Value.int z)) (b1 ?_), rfl⟩
        unfold lets
        rw [if_neg c_1_60, if_pos c_1_61, decide_eq_true (Classical.not_not.mp c_41)]
    · skip
      refine e_sw_l f_58_1 (t := 50) (lsw_df (List.forall_mem_cons.mpr ⟨lsw_neN (by omega) c_1_60, List.forall_mem_cons.mpr ⟨lsw_neN (by omega) c_1_61, by simp⟩⟩) rfl) ?_
      refine e_iload_n f_58_50 rfl rfl ?_
      refine e_iload_n f_58_51 rfl rfl ?_
      refine e_icmp_le f_58_52 rfl (fun c_52 => ?_) (fun c_52 => ?_)
      · skip
        refine e_iconst (v := nI 0) f_58_59 (by decide) rfl ?_
        refine e_iret f_58_60 rfl (rfl) ?_
        refine ⟨congrArg (fun z => some (Value.int z)) (b0 ?_), rfl⟩
        unfold lets
        rw [if_neg c_1_60, if_neg c_1_61, decide_eq_false (Int32.not_lt.mpr c_52)]
      · skip
        refine e_iconst (v := nI 1) f_58_55 (by decide) rfl ?_
        refine e_goto f_58_56 ?_
        refine e_iret f_58_60 rfl (rfl) ?_
        refine ⟨congrArg (fun z => some (Value.int z)) (b1 ?_), rfl⟩
        unfold lets
        rw [if_neg c_1_60, if_neg c_1_61, decide_eq_true (Int32.not_le.mp c_52)]

theorem sw44 {n : Nat} (h1 : ¬ n = 42) (h2 : ¬ n = 43) (h3 : ¬ n = 45) (hn : n < 2 ^ 31) {r : List Value} : px_tsw 1 43 42 45 #[39, 31, 43, 35] (.int (nI n) :: r) = some (44, r) := by
  by_cases z : n = 44
  · subst z
    rfl
  · exact tsw_dfN hn (by omega) rfl

set_option maxRecDepth 20000 in
set_option maxHeartbeats 4000000 in
theorem cc_Run_acted {h : px_H} {ac : Nat} {v n : Int32}  (p0 : ac < 65536) : px_wp 59 [.int (nI ac), .int (v), .int (n)] h (fun h1 r => r = some (.int (acted ac v n)) ∧ h1 = h) := by
  show px_to 59 0 [some (.int (nI ac)), some (.int (v)), some (.int (n))] [] h _
  refine e_iload_n f_59_0 rfl rfl ?_
  by_cases c_1_42 : ac = 42
  · skip
    refine e_sw_t f_59_1 (t := 40) (by rw [c_1_42]; rfl) ?_
    refine e_iload_n f_59_40 rfl rfl ?_
    refine e_iload_n f_59_41 rfl rfl ?_
    refine e_imul (z := v * n) f_59_42 rfl rfl ?_
    refine e_iret f_59_43 rfl (rfl) ?_
    exact ⟨congrArg (fun z => some (Value.int z)) (by unfold acted; rw [if_neg (by omega), if_neg (by omega), if_pos c_1_42]), rfl⟩
  · skip
    by_cases c_1_43 : ac = 43
    · skip
      refine e_sw_t f_59_1 (t := 32) (by rw [c_1_43]; rfl) ?_
      refine e_iload_n f_59_32 rfl rfl ?_
      refine e_iload_n f_59_33 rfl rfl ?_
      refine e_iadd (z := v + n) f_59_34 rfl rfl ?_
      refine e_iret f_59_35 rfl (rfl) ?_
      exact ⟨congrArg (fun z => some (Value.int z)) (by unfold acted; rw [if_pos c_1_43]), rfl⟩
    · skip
      by_cases c_1_45 : ac = 45
      · skip
        refine e_sw_t f_59_1 (t := 36) (by rw [c_1_45]; rfl) ?_
        refine e_iload_n f_59_36 rfl rfl ?_
        refine e_iload_n f_59_37 rfl rfl ?_
        refine e_isub (z := v - n) f_59_38 rfl rfl ?_
        refine e_iret f_59_39 rfl (rfl) ?_
        exact ⟨congrArg (fun z => some (Value.int z)) (by unfold acted; rw [if_neg c_1_43, if_pos c_1_45]), rfl⟩
      · skip
        refine e_sw_t f_59_1 (t := 44) (sw44 c_1_42 c_1_43 c_1_45 (by omega)) ?_
        refine e_iload_n f_59_44 rfl rfl ?_
        refine e_if_ne f_59_45 rfl (fun c_45 => ?_) (fun c_45 => ?_)
        · skip
          refine e_iload_n f_59_52 rfl rfl ?_
          refine e_iload_n f_59_53 rfl rfl ?_
          refine e_idiv (z := v / n) f_59_54 (c_45) rfl rfl ?_
          refine e_iret f_59_55 rfl (rfl) ?_
          exact ⟨congrArg (fun z => some (Value.int z)) (by unfold acted; rw [if_neg c_1_43, if_neg c_1_45, if_neg c_1_42, if_neg c_45]), rfl⟩
        · skip
          refine e_iconst (v := nI 0) f_59_48 (by decide) rfl ?_
          refine e_goto f_59_49 ?_
          refine e_iret f_59_55 rfl (rfl) ?_
          exact ⟨congrArg (fun z => some (Value.int z)) (by unfold acted; rw [if_neg c_1_43, if_neg c_1_45, if_neg c_1_42, if_pos (Classical.not_not.mp c_45)]; rfl), rfl⟩

set_option maxRecDepth 20000 in
set_option maxHeartbeats 4000000 in
theorem cc_Run_zero {h : px_H} {k : Nat} {v : Int32} {j : List St} {jb gv : Nat} {la lb : Bool} {z : Option Nat} {dn wo : Int32} (H0 : h.2.2 177 = some (6, [.ref (jb), .ref (182), .ref (214), .ref (246), .int (nI gv), .int (bI la), .int (bI lb), .int (oI z), .int (dn), .int (wo), .ref (248)])) (H1 : pJob h jb j) (p0 : k < j.length) (p1 : (j.getD k (0, 0, 0)).1 < 65536) (p2 : (j.getD k (0, 0, 0)).2.1 < 65536) : px_wp 57 [.ref (177), .int (nI k), .int (v)] h (fun h1 r => r = some (.int (bI (isZ (j.getD k (0, 0, 0)) v))) ∧ h1 = h) := by
  show px_to 57 0 [some (.ref (177)), some (.int (nI k)), some (.int (v))] [] h _
  refine e_aload_n f_57_0 rfl rfl ?_
  refine e_getf f_57_1 H0 rfl rfl ?_
  refine e_getf f_57_4 H1.1 rfl rfl ?_
  refine e_iload_n f_57_7 rfl rfl ?_
  refine e_iaload_p (xs := j) f_57_8 H1.2.1 (d := (0, 0, 0)) (by first | omega | (simp only [List.length_set]; omega)) rfl ?_
  show px_to 57 9 [some (.ref (177)), some (.int (nI k)), some (.int (v))] [.int (nI ((j.getD k (0, 0, 0)).1))] h _
  refine e_bipush (v := nI 113) f_57_9 (by decide) rfl ?_
  refine e_icmp_ne f_57_11 rfl (fun c_11 => ?_) (fun c_11 => ?_)
  · skip
    have c_11 : (j.getD k (0, 0, 0)).1 ≠ 113 := cv_ne c_11
    refine e_aload_n f_57_24 rfl rfl ?_
    refine e_getf f_57_25 H0 rfl rfl ?_
    refine e_getf f_57_28 H1.1 rfl rfl ?_
    refine e_iload_n f_57_31 rfl rfl ?_
    refine e_iaload_p (xs := j) f_57_32 H1.2.1 (d := (0, 0, 0)) (by first | omega | (simp only [List.length_set]; omega)) rfl ?_
    show px_to 57 33 [some (.ref (177)), some (.int (nI k)), some (.int (v))] [.int (nI ((j.getD k (0, 0, 0)).1))] h _
    refine e_bipush (v := nI 109) f_57_33 (by decide) rfl ?_
    refine e_icmp_ne f_57_35 rfl (fun c_35 => ?_) (fun c_35 => ?_)
    · skip
      have c_35 : (j.getD k (0, 0, 0)).1 ≠ 109 := cv_ne c_35
      refine e_iconst (v := nI 0) f_57_68 (by decide) rfl ?_
      refine e_iret f_57_69 rfl (rfl) ?_
      exact ⟨congrArg (fun z => some (Value.int z)) (b0 (by unfold isZ; rw [if_neg c_11, decide_eq_false (fun z => c_35 z.1)])), rfl⟩
    · skip
      have c_35 : (j.getD k (0, 0, 0)).1 = 109 := cv_nne (by omega) (by omega) c_35
      refine e_aload_n f_57_38 rfl rfl ?_
      refine e_getf f_57_39 H0 rfl rfl ?_
      refine e_getf f_57_42 H1.1 rfl rfl ?_
      refine e_iload_n f_57_45 rfl rfl ?_
      refine e_iaload_p (xs := j) f_57_46 H1.2.2.1 (d := (0, 0, 0)) (by first | omega | (simp only [List.length_set]; omega)) rfl ?_
      show px_to 57 47 [some (.ref (177)), some (.int (nI k)), some (.int (v))] [.int (nI ((j.getD k (0, 0, 0)).2.1))] h _
      refine e_bipush (v := nI 47) f_57_47 (by decide) rfl ?_
      refine e_icmp_ne f_57_49 rfl (fun c_49 => ?_) (fun c_49 => ?_)
      · skip
        have c_49 : (j.getD k (0, 0, 0)).2.1 ≠ 47 := cv_ne c_49
        refine e_iconst (v := nI 0) f_57_68 (by decide) rfl ?_
        refine e_iret f_57_69 rfl (rfl) ?_
        exact ⟨congrArg (fun z => some (Value.int z)) (b0 (by unfold isZ; rw [if_neg c_11, decide_eq_false (fun z => c_49 z.2.1)])), rfl⟩
      · skip
        have c_49 : (j.getD k (0, 0, 0)).2.1 = 47 := cv_nne (by omega) (by omega) c_49
        refine e_aload_n f_57_52 rfl rfl ?_
        refine e_getf f_57_53 H0 rfl rfl ?_
        refine e_getf f_57_56 H1.1 rfl rfl ?_
        refine e_iload_n f_57_59 rfl rfl ?_
        refine e_iaload_p (xs := j) f_57_60 H1.2.2.2 (d := (0, 0, 0)) (by first | omega | (simp only [List.length_set]; omega)) rfl ?_
        show px_to 57 61 [some (.ref (177)), some (.int (nI k)), some (.int (v))] [.int ((j.getD k (0, 0, 0)).2.2)] h _
        refine e_if_ne f_57_61 rfl (fun c_61 => ?_) (fun c_61 => ?_)
        · skip
          refine e_iconst (v := nI 0) f_57_68 (by decide) rfl ?_
          refine e_iret f_57_69 rfl (rfl) ?_
          exact ⟨congrArg (fun z => some (Value.int z)) (b0 (by unfold isZ; rw [if_neg c_11, decide_eq_false (fun z => c_61 z.2.2)])), rfl⟩
        · skip
          refine e_iconst (v := nI 1) f_57_64 (by decide) rfl ?_
          refine e_goto f_57_65 ?_
          refine e_iret f_57_69 rfl (rfl) ?_
          exact ⟨congrArg (fun z => some (Value.int z)) (b1 (by unfold isZ; rw [if_neg c_11, decide_eq_true ⟨c_35, c_49, Classical.not_not.mp c_61⟩])), rfl⟩
  · skip
    have c_11 : (j.getD k (0, 0, 0)).1 = 113 := cv_nne (by omega) (by omega) c_11
    refine e_iload_n f_57_14 rfl rfl ?_
    refine e_if_ne f_57_15 rfl (fun c_15 => ?_) (fun c_15 => ?_)
    · skip
      refine e_iconst (v := nI 0) f_57_22 (by decide) rfl ?_
      refine e_iret f_57_23 rfl (rfl) ?_
      exact ⟨congrArg (fun z => some (Value.int z)) (b0 (by unfold isZ; rw [if_pos c_11, decide_eq_false c_15])), rfl⟩
    · skip
      refine e_iconst (v := nI 1) f_57_18 (by decide) rfl ?_
      refine e_goto f_57_19 ?_
      refine e_iret f_57_23 rfl (rfl) ?_
      exact ⟨congrArg (fun z => some (Value.int z)) (b1 (by unfold isZ; rw [if_pos c_11, decide_eq_true (Classical.not_not.mp c_15)])), rfl⟩

set_option maxRecDepth 20000 in
set_option maxHeartbeats 4000000 in
theorem cc_Run_note {h : px_H} {k : Nat} {tl : List Int32} {jb gv : Nat} {la lb : Bool} {z : Option Nat} {dn wo : Int32} (H0 : h.2.2 177 = some (6, [.ref (jb), .ref (182), .ref (214), .ref (246), .int (nI gv), .int (bI la), .int (bI lb), .int (oI z), .int (dn), .int (wo), .ref (248)])) (H1 : px_pa h 248 50 30 Value.int tl) (p0 : k < 6) (p1 : tl.length = 30) : px_wp 55 [.ref (177), .int (nI k)] h (fun h1 r => r = none ∧ px_pa h1 248 50 30 Value.int (tinc (tinc tl (k * 5 + 1)) (k * 5 + 2)) ∧ px_fi 248 1 h h1) := by
  have fr0 : px_fi 248 1 h h := fi_rf _ _ _
  show px_to 55 0 [some (.ref (177)), some (.int (nI k))] [] h _
  refine e_aload_n f_55_0 rfl rfl ?_
  refine e_getf f_55_1 H0 rfl rfl ?_
  refine e_iload_n f_55_4 rfl rfl ?_
  refine e_iconst (v := nI 5) f_55_5 (by decide) rfl ?_
  refine e_imul (z := nI (k * 5)) f_55_6 (pk_mul _ _) rfl ?_
  refine e_iconst (v := nI 1) f_55_7 (by decide) rfl ?_
  refine e_iadd (z := nI (k * 5 + 1)) f_55_8 (nI_add _ _) rfl ?_
  refine e_dup2 f_55_9 rfl rfl rfl ?_
  refine e_iaload_p (xs := tl) f_55_10 H1 (d := 0) (by first | omega | (simp only [List.length_set]; omega)) rfl ?_
  show px_to 55 11 [some (.ref (177)), some (.int (nI k))] [.int (tl.getD (k * 5 + 1) 0), .int (nI (k * 5 + 1)), .ref (248)] h _
  refine e_iconst (v := nI 1) f_55_11 (by decide) rfl ?_
  refine e_iadd (z := (tl.getD (k * 5 + 1) 0) + (nI 1)) f_55_12 rfl rfl ?_
  refine e_iastore_p (xs := tl) (x := (tl.getD (k * 5 + 1) 0) + (nI 1)) f_55_13 H1 (by omega) (by first | omega | (simp only [List.length_set]; omega)) (rfl) rfl (fun h1 g2 fx3 => ?_)
  have fr4 : px_fi 248 1 h h1 := fi_tr fr0 fx3 (by omega)
  refine e_aload_n f_55_14 rfl rfl ?_
  have g5 : h1.2.2 177 = some (6, [.ref (jb), .ref (182), .ref (214), .ref (246), .int (nI gv), .int (bI la), .int (bI lb), .int (oI z), .int (dn), .int (wo), .ref (248)]) := fi_at H0 fx3 (by omega)
  refine e_getf f_55_15 g5 rfl rfl ?_
  refine e_iload_n f_55_18 rfl rfl ?_
  refine e_iconst (v := nI 5) f_55_19 (by decide) rfl ?_
  refine e_imul (z := nI (k * 5)) f_55_20 (pk_mul _ _) rfl ?_
  refine e_iconst (v := nI 2) f_55_21 (by decide) rfl ?_
  refine e_iadd (z := nI (k * 5 + 2)) f_55_22 (nI_add _ _) rfl ?_
  refine e_dup2 f_55_23 rfl rfl rfl ?_
  refine e_iaload_p (xs := tl.set (k * 5 + 1) ((tl.getD (k * 5 + 1) 0) + (nI 1))) f_55_24 g2 (d := 0) (by first | omega | (simp only [List.length_set]; omega)) rfl ?_
  show px_to 55 25 [some (.ref (177)), some (.int (nI k))] [.int ((tl.set (k * 5 + 1) ((tl.getD (k * 5 + 1) 0) + (nI 1))).getD (k * 5 + 2) 0), .int (nI (k * 5 + 2)), .ref (248)] h1 _
  refine e_iconst (v := nI 1) f_55_25 (by decide) rfl ?_
  refine e_iadd (z := ((tl.set (k * 5 + 1) ((tl.getD (k * 5 + 1) 0) + (nI 1))).getD (k * 5 + 2) 0) + (nI 1)) f_55_26 rfl rfl ?_
  refine e_iastore_p (xs := tl.set (k * 5 + 1) ((tl.getD (k * 5 + 1) 0) + (nI 1))) (x := ((tl.set (k * 5 + 1) ((tl.getD (k * 5 + 1) 0) + (nI 1))).getD (k * 5 + 2) 0) + (nI 1)) f_55_27 g2 (by omega) (by first | omega | (simp only [List.length_set]; omega)) (rfl) rfl (fun h6 g7 fx8 => ?_)
  have fr9 : px_fi 248 1 h h6 := fi_tr fr4 fx8 (by omega)
  refine e_vret f_55_28 rfl ?_
  first | (exfalso; omega) | exact ⟨rfl, g7, fr9⟩
