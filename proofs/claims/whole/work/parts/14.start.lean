def px_txt : List (List Int32) := [[], [60, 61, 62], [43, 45, 42, 47], [102, 109, 113, 100, 115, 119, 116], [60, 61, 62], [43, 45, 42, 47], [114, 82, 104, 72, 107, 120], [97, 98, 99, 100], [61, 126, 33]]
def px_m0 (xs : List Int32) : Nat → Option px_C := fun a => if a = 0 then some (50, xs.map Value.int) else if a < 9 then some (40, [.ref (a + 8), .int 0]) else if a < 17 then some (54, (px_txt.getD (a - 8) []).map Value.int) else none
def px_h0 (xs : List Int32) : px_H := (17, 0, px_m0 xs)
def px_LAW : Prop := ∀ xs : List Int32, xs.length ≤ 2048 → ∃ (n : Nat) (h1 : px_H), px_run n 220 0 (px_ent 220 [.ref 0]) [] (px_h0 xs) = some (h1, some (.int 1)) ∧ h1.1 ≤ 600017 ∧ h1.2.1 ≤ 7302250
def px_SA (A : Nat → Prop) (s : State) (q : Nat) (a t : Nat) : Prop := va_O "java/lang/String" a A s s.heap ∧ va_OF "java/lang/String" "coder" "B" (.int 0) a A s s.heap ∧ va_OF "java/lang/String" "value" "[B" (.ref t) a A s s.heap ∧ va_T .byte t (px_txt.getD q []).length (fun j => .int ((px_txt.getD q []).getD j 0)) A s s.heap
set_option maxRecDepth 100000 in
theorem px_s1 {args : Array Value} {s : State} {A : Nat → Prop} (hgv : (Jvm.Cond.and given_1 narrow_1).before args s = true) (hA : ∀ a : Nat, a < s.heap.size → ¬ A a) : ∃ a t : Nat, (Term.string "JobTests$Job" 46).eval args s none [] s = some (.ref a) ∧ px_SA A s 1 a t := by
  have hs := flat_of_before _ hgv
  obtain ⟨adK, adV, h1, h2⟩ := vk_Sof (N := 1) (tm := fun _ => .string "JobTests$Job" 46) (len := [3]) (byt := [[60, 61, 62]]) (A := A) (args := args) (s := s)
    (fun i hi => by rcases (show i = 0 by omega) with rfl; decide) (fun _ _ => hs _ (by decide +kernel)) (fun _ _ => hs _ (by decide +kernel)) (fun _ _ => hs _ (by decide +kernel))
    (fun i hi => by rcases (show i = 0 by omega) with rfl; exact hs _ (by decide +kernel))
    (fun i hi => by
      rcases (show i = 0 by omega) with rfl
      exact fun j hj => match j, hj with
      | 0, _ => hs _ (by decide +kernel)
      | 1, _ => hs _ (by decide +kernel)
      | 2, _ => hs _ (by decide +kernel)
      | j + 3, hj => absurd hj (by show ¬ j + 3 < 3; omega))
    (fun i j hi hj hij => absurd (show i = j by omega) hij) hA
  obtain ⟨g1, g2, g3, g4⟩ := h1.1 0 (by decide)
  exact ⟨adK 0, adV 0, h2 0 (by decide), g1, g2, g3, g4⟩
set_option maxRecDepth 100000 in
theorem px_s2 {args : Array Value} {s : State} {A : Nat → Prop} (hgv : (Jvm.Cond.and given_1 narrow_1).before args s = true) (hA : ∀ a : Nat, a < s.heap.size → ¬ A a) : ∃ a t : Nat, (Term.string "JobTests$Job" 48).eval args s none [] s = some (.ref a) ∧ px_SA A s 2 a t := by
  have hs := flat_of_before _ hgv
  obtain ⟨adK, adV, h1, h2⟩ := vk_Sof (N := 1) (tm := fun _ => .string "JobTests$Job" 48) (len := [4]) (byt := [[43, 45, 42, 47]]) (A := A) (args := args) (s := s)
    (fun i hi => by rcases (show i = 0 by omega) with rfl; decide) (fun _ _ => hs _ (by decide +kernel)) (fun _ _ => hs _ (by decide +kernel)) (fun _ _ => hs _ (by decide +kernel))
    (fun i hi => by rcases (show i = 0 by omega) with rfl; exact hs _ (by decide +kernel))
    (fun i hi => by
      rcases (show i = 0 by omega) with rfl
      exact fun j hj => match j, hj with
      | 0, _ => hs _ (by decide +kernel)
      | 1, _ => hs _ (by decide +kernel)
      | 2, _ => hs _ (by decide +kernel)
      | 3, _ => hs _ (by decide +kernel)
      | j + 4, hj => absurd hj (by show ¬ j + 4 < 4; omega))
    (fun i j hi hj hij => absurd (show i = j by omega) hij) hA
  obtain ⟨g1, g2, g3, g4⟩ := h1.1 0 (by decide)
  exact ⟨adK 0, adV 0, h2 0 (by decide), g1, g2, g3, g4⟩
set_option maxRecDepth 100000 in
theorem px_s3 {args : Array Value} {s : State} {A : Nat → Prop} (hgv : (Jvm.Cond.and given_1 narrow_1).before args s = true) (hA : ∀ a : Nat, a < s.heap.size → ¬ A a) : ∃ a t : Nat, (Term.string "JobTests$Reader" 56).eval args s none [] s = some (.ref a) ∧ px_SA A s 3 a t := by
  have hs := flat_of_before _ hgv
  obtain ⟨adK, adV, h1, h2⟩ := vk_Sof (N := 1) (tm := fun _ => .string "JobTests$Reader" 56) (len := [7]) (byt := [[102, 109, 113, 100, 115, 119, 116]]) (A := A) (args := args) (s := s)
    (fun i hi => by rcases (show i = 0 by omega) with rfl; decide) (fun _ _ => hs _ (by decide +kernel)) (fun _ _ => hs _ (by decide +kernel)) (fun _ _ => hs _ (by decide +kernel))
    (fun i hi => by rcases (show i = 0 by omega) with rfl; exact hs _ (by decide +kernel))
    (fun i hi => by
      rcases (show i = 0 by omega) with rfl
      exact fun j hj => match j, hj with
      | 0, _ => hs _ (by decide +kernel)
      | 1, _ => hs _ (by decide +kernel)
      | 2, _ => hs _ (by decide +kernel)
      | 3, _ => hs _ (by decide +kernel)
      | 4, _ => hs _ (by decide +kernel)
      | 5, _ => hs _ (by decide +kernel)
      | 6, _ => hs _ (by decide +kernel)
      | j + 7, hj => absurd hj (by show ¬ j + 7 < 7; omega))
    (fun i j hi hj hij => absurd (show i = j by omega) hij) hA
  obtain ⟨g1, g2, g3, g4⟩ := h1.1 0 (by decide)
  exact ⟨adK 0, adV 0, h2 0 (by decide), g1, g2, g3, g4⟩
set_option maxRecDepth 100000 in
theorem px_s4 {args : Array Value} {s : State} {A : Nat → Prop} (hgv : (Jvm.Cond.and given_1 narrow_1).before args s = true) (hA : ∀ a : Nat, a < s.heap.size → ¬ A a) : ∃ a t : Nat, (Term.string "JobTests$Reader" 68).eval args s none [] s = some (.ref a) ∧ px_SA A s 4 a t := by
  have hs := flat_of_before _ hgv
  obtain ⟨adK, adV, h1, h2⟩ := vk_Sof (N := 1) (tm := fun _ => .string "JobTests$Reader" 68) (len := [3]) (byt := [[60, 61, 62]]) (A := A) (args := args) (s := s)
    (fun i hi => by rcases (show i = 0 by omega) with rfl; decide) (fun _ _ => hs _ (by decide +kernel)) (fun _ _ => hs _ (by decide +kernel)) (fun _ _ => hs _ (by decide +kernel))
    (fun i hi => by rcases (show i = 0 by omega) with rfl; exact hs _ (by decide +kernel))
    (fun i hi => by
      rcases (show i = 0 by omega) with rfl
      exact fun j hj => match j, hj with
      | 0, _ => hs _ (by decide +kernel)
      | 1, _ => hs _ (by decide +kernel)
      | 2, _ => hs _ (by decide +kernel)
      | j + 3, hj => absurd hj (by show ¬ j + 3 < 3; omega))
    (fun i j hi hj hij => absurd (show i = j by omega) hij) hA
  obtain ⟨g1, g2, g3, g4⟩ := h1.1 0 (by decide)
  exact ⟨adK 0, adV 0, h2 0 (by decide), g1, g2, g3, g4⟩
set_option maxRecDepth 100000 in
theorem px_s5 {args : Array Value} {s : State} {A : Nat → Prop} (hgv : (Jvm.Cond.and given_1 narrow_1).before args s = true) (hA : ∀ a : Nat, a < s.heap.size → ¬ A a) : ∃ a t : Nat, (Term.string "JobTests$Reader" 70).eval args s none [] s = some (.ref a) ∧ px_SA A s 5 a t := by
  have hs := flat_of_before _ hgv
  obtain ⟨adK, adV, h1, h2⟩ := vk_Sof (N := 1) (tm := fun _ => .string "JobTests$Reader" 70) (len := [4]) (byt := [[43, 45, 42, 47]]) (A := A) (args := args) (s := s)
    (fun i hi => by rcases (show i = 0 by omega) with rfl; decide) (fun _ _ => hs _ (by decide +kernel)) (fun _ _ => hs _ (by decide +kernel)) (fun _ _ => hs _ (by decide +kernel))
    (fun i hi => by rcases (show i = 0 by omega) with rfl; exact hs _ (by decide +kernel))
    (fun i hi => by
      rcases (show i = 0 by omega) with rfl
      exact fun j hj => match j, hj with
      | 0, _ => hs _ (by decide +kernel)
      | 1, _ => hs _ (by decide +kernel)
      | 2, _ => hs _ (by decide +kernel)
      | 3, _ => hs _ (by decide +kernel)
      | j + 4, hj => absurd hj (by show ¬ j + 4 < 4; omega))
    (fun i j hi hj hij => absurd (show i = j by omega) hij) hA
  obtain ⟨g1, g2, g3, g4⟩ := h1.1 0 (by decide)
  exact ⟨adK 0, adV 0, h2 0 (by decide), g1, g2, g3, g4⟩
set_option maxRecDepth 100000 in
theorem px_s6 {args : Array Value} {s : State} {A : Nat → Prop} (hgv : (Jvm.Cond.and given_1 narrow_1).before args s = true) (hA : ∀ a : Nat, a < s.heap.size → ¬ A a) : ∃ a t : Nat, (Term.string "JobTests$Reader" 105).eval args s none [] s = some (.ref a) ∧ px_SA A s 6 a t := by
  have hs := flat_of_before _ hgv
  obtain ⟨adK, adV, h1, h2⟩ := vk_Sof (N := 1) (tm := fun _ => .string "JobTests$Reader" 105) (len := [6]) (byt := [[114, 82, 104, 72, 107, 120]]) (A := A) (args := args) (s := s)
    (fun i hi => by rcases (show i = 0 by omega) with rfl; decide) (fun _ _ => hs _ (by decide +kernel)) (fun _ _ => hs _ (by decide +kernel)) (fun _ _ => hs _ (by decide +kernel))
    (fun i hi => by rcases (show i = 0 by omega) with rfl; exact hs _ (by decide +kernel))
    (fun i hi => by
      rcases (show i = 0 by omega) with rfl
      exact fun j hj => match j, hj with
      | 0, _ => hs _ (by decide +kernel)
      | 1, _ => hs _ (by decide +kernel)
      | 2, _ => hs _ (by decide +kernel)
      | 3, _ => hs _ (by decide +kernel)
      | 4, _ => hs _ (by decide +kernel)
      | 5, _ => hs _ (by decide +kernel)
      | j + 6, hj => absurd hj (by show ¬ j + 6 < 6; omega))
    (fun i j hi hj hij => absurd (show i = j by omega) hij) hA
  obtain ⟨g1, g2, g3, g4⟩ := h1.1 0 (by decide)
  exact ⟨adK 0, adV 0, h2 0 (by decide), g1, g2, g3, g4⟩
set_option maxRecDepth 100000 in
theorem px_s7 {args : Array Value} {s : State} {A : Nat → Prop} (hgv : (Jvm.Cond.and given_1 narrow_1).before args s = true) (hA : ∀ a : Nat, a < s.heap.size → ¬ A a) : ∃ a t : Nat, (Term.string "JobTests$Reader" 111).eval args s none [] s = some (.ref a) ∧ px_SA A s 7 a t := by
  have hs := flat_of_before _ hgv
  obtain ⟨adK, adV, h1, h2⟩ := vk_Sof (N := 1) (tm := fun _ => .string "JobTests$Reader" 111) (len := [4]) (byt := [[97, 98, 99, 100]]) (A := A) (args := args) (s := s)
    (fun i hi => by rcases (show i = 0 by omega) with rfl; decide) (fun _ _ => hs _ (by decide +kernel)) (fun _ _ => hs _ (by decide +kernel)) (fun _ _ => hs _ (by decide +kernel))
    (fun i hi => by rcases (show i = 0 by omega) with rfl; exact hs _ (by decide +kernel))
    (fun i hi => by
      rcases (show i = 0 by omega) with rfl
      exact fun j hj => match j, hj with
      | 0, _ => hs _ (by decide +kernel)
      | 1, _ => hs _ (by decide +kernel)
      | 2, _ => hs _ (by decide +kernel)
      | 3, _ => hs _ (by decide +kernel)
      | j + 4, hj => absurd hj (by show ¬ j + 4 < 4; omega))
    (fun i j hi hj hij => absurd (show i = j by omega) hij) hA
  obtain ⟨g1, g2, g3, g4⟩ := h1.1 0 (by decide)
  exact ⟨adK 0, adV 0, h2 0 (by decide), g1, g2, g3, g4⟩
set_option maxRecDepth 100000 in
theorem px_s8 {args : Array Value} {s : State} {A : Nat → Prop} (hgv : (Jvm.Cond.and given_1 narrow_1).before args s = true) (hA : ∀ a : Nat, a < s.heap.size → ¬ A a) : ∃ a t : Nat, (Term.string "JobTests$Reader" 126).eval args s none [] s = some (.ref a) ∧ px_SA A s 8 a t := by
  have hs := flat_of_before _ hgv
  obtain ⟨adK, adV, h1, h2⟩ := vk_Sof (N := 1) (tm := fun _ => .string "JobTests$Reader" 126) (len := [3]) (byt := [[61, 126, 33]]) (A := A) (args := args) (s := s)
    (fun i hi => by rcases (show i = 0 by omega) with rfl; decide) (fun _ _ => hs _ (by decide +kernel)) (fun _ _ => hs _ (by decide +kernel)) (fun _ _ => hs _ (by decide +kernel))
    (fun i hi => by rcases (show i = 0 by omega) with rfl; exact hs _ (by decide +kernel))
    (fun i hi => by
      rcases (show i = 0 by omega) with rfl
      exact fun j hj => match j, hj with
      | 0, _ => hs _ (by decide +kernel)
      | 1, _ => hs _ (by decide +kernel)
      | 2, _ => hs _ (by decide +kernel)
      | j + 3, hj => absurd hj (by show ¬ j + 3 < 3; omega))
    (fun i j hi hj hij => absurd (show i = j by omega) hij) hA
  obtain ⟨g1, g2, g3, g4⟩ := h1.1 0 (by decide)
  exact ⟨adK 0, adV 0, h2 0 (by decide), g1, g2, g3, g4⟩
theorem px_inst_ok : vwCl.all (fun r => px_w (.instantiable r.1 r.2.2)) = true := by decide +kernel
theorem px_arrc_ok : [FieldType.int, .long, .char, .short, .byte].all (fun t => px_w (.arrayClass t)) = true := by decide +kernel
theorem px_nest_ok : px_nests.all (fun q => decide (Cond.methodLinkNest q.1 q.2.1 q.2.2.1 q.2.2.2 ∈ lw_tbl)) = true := by decide +kernel
theorem px_sref_ok : px_strs.all (fun q => decide (Cond.stringRef q.1 q.2.1 q.2.2.1 ∈ lw_tbl)) = true := by decide +kernel
theorem px_over_ok : (decide (Cond.arrayOver (.object "JobTests$StepMemory") ∈ lw_tbl) && (decide (Cond.arrayOver (.object "JobTests$TestCase") ∈ lw_tbl) && (decide (Cond.laysStatic "java/lang/String" "COMPACT_STRINGS" "Z" ∈ lw_tbl) && (decide (Cond.initialized "java/lang/String" ∈ lw_tbl) && (decide (Cond.laysStatic "jdk/internal/util/Preconditions" "SIOOBE_FORMATTER" "Ljava/util/function/BiFunction;" ∈ lw_tbl) && decide (Cond.initialized "jdk/internal/util/Preconditions" ∈ lw_tbl)))))) = true := by decide +kernel
theorem px_arr_of {args : Array Value} {s : State} (hts : px_T args s) (ho1 : va_AO "JobTests$StepMemory" s) (ho2 : va_AO "JobTests$TestCase" s) : ∃ dA : Nat → ClassId, ∀ (t : Nat) (ty : FieldType), px_atys[t]? = some ty → ArrOfT s (dA t) ty ∧ va_RA s (dA t) ty := by
  have hp : ∀ ty ∈ [FieldType.int, .long, .char, .short, .byte], ∃ cA : ClassId, ArrOfT s cA ty ∧ va_RA s cA ty := by
    intro ty hty
    obtain ⟨cA, k, comp, h1, h2, h3⟩ := Cond.arrayClass_spec (px_w_use hts (List.all_eq_true.mp px_arrc_ok ty hty))
    refine ⟨cA, fun n z => ⟨(fun k h => by cases h), k, h2, comp, h3⟩, ?_⟩
    simp only [List.mem_cons, List.not_mem_nil, or_false] at hty
    rcases hty with rfl | rfl | rfl | rfl | rfl <;> exact h1
  have ho : ∀ C : String, va_AO C s → ∃ cA : ClassId, ArrOfT s cA (.object C) ∧ va_RA s cA (.object C) := by
    intro C hC
    obtain ⟨comp, cA, k, h1, -, h3, h4, h5⟩ := Cond.arrayOver_spec (va_AO.use (A := #[]) hC)
    exact ⟨cA, fun n z => ⟨(fun k h => by cases h), k, h3, comp, h4⟩, k, comp, h3, h4, h1, h5⟩
  obtain ⟨c0, h0⟩ := hp .int (by decide)
  obtain ⟨c1, h1⟩ := hp .long (by decide)
  obtain ⟨c2, h2⟩ := hp .char (by decide)
  obtain ⟨c3, h3⟩ := hp .short (by decide)
  obtain ⟨c4, h4⟩ := hp .byte (by decide)
  obtain ⟨c5, h5⟩ := ho _ ho1
  obtain ⟨c6, h6⟩ := ho _ ho2
  refine ⟨fun t => if t = 0 then c0 else if t = 1 then c1 else if t = 2 then c2 else if t = 3 then c3 else if t = 4 then c4 else if t = 5 then c5 else c6, fun t ty ht => ?_⟩
  match t, ht with
  | 0, ht => cases ht; exact h0
  | 1, ht => cases ht; exact h1
  | 2, ht => cases ht; exact h2
  | 3, ht => cases ht; exact h3
  | 4, ht => cases ht; exact h4
  | 5, ht => cases ht; exact h5
  | 6, ht => cases ht; exact h6
  | t + 7, ht => simp [px_atys] at ht
theorem px_cls_of {args : Array Value} {s : State} (hts : px_T args s) : ∃ (dC : Nat → ClassId) (dI : Nat → Nat → Nat), ∀ (c : Nat) (q : vw_C), vwCl[c]? = some q → u_Kn s q.1 q.2.1 q.2.2 (dC c) (dI c) := by
  have hk : ∀ c : Nat, ∃ z : ClassId × (Nat → Nat), ∀ q : vw_C, vwCl[c]? = some q → u_Kn s q.1 q.2.1 q.2.2 z.1 z.2 := by
    intro c
    cases hc : vwCl[c]? with
    | none => exact ⟨(0, fun _ => 0), fun q h => by cases h⟩
    | some r =>
      obtain ⟨cC, iS, h⟩ := u_known (px_lays hts hc) (fun _ z => z) (px_w_use hts (List.all_eq_true.mp px_inst_ok r (List.mem_of_getElem? hc)))
      exact ⟨(cC, iS), fun q hq => by cases hq; exact h⟩
  obtain ⟨z, hz⟩ := Classical.axiomOfChoice hk
  exact ⟨fun c => (z c).1, fun c => (z c).2, hz⟩
theorem px_str_cell {G : px_G} {s : State} {a q : Nat} {A : Nat → Prop} {x t : Nat} (hA : A = px_A G) (hx : px_f G a = x) (ht : px_f G (a + 8) = t) (h : px_SA A s q x t) : px_cell G s s.heap a (40, [.ref (a + 8), .int 0]) := by
  subst hA
  subst hx
  subst ht
  exact Or.inr (Or.inr ⟨rfl, h.1, fun v hv => by cases hv; exact h.2.2.1, fun v hv => by cases hv; exact h.2.1⟩)
theorem px_byt_cell {G : px_G} {s : State} {a q : Nat} {A : Nat → Prop} {x t : Nat} (ha : ¬ 17 ≤ a) (ht : px_f G a = t) (h : px_SA A s q x t) : px_cell G s s.heap a (54, (px_txt.getD q []).map Value.int) := by
  subst ht
  obtain ⟨cell, h1, h2, h3, h4, h5, h6, h7⟩ := h.2.2.2
  refine Or.inr (Or.inl ⟨(show 50 ≤ 54 by decide), cell, h1, h2, h3, ⟨fun j v hv => ?_, ?_⟩, fun z => absurd z ha⟩)
  · have hv : ((px_txt.getD q []).map Value.int)[j]? = some v := hv
    rw [List.getElem?_map] at hv
    obtain ⟨y, hy, rfl⟩ := Option.map_eq_some_iff.mp hv
    rw [h6 j (List.getElem?_eq_some_iff.mp hy).1]
    show some (Value.int ((px_txt.getD q []).getD j 0)) = some (Value.int y)
    clear h6 h5 h4 h hv
    generalize px_txt.getD q [] = l9 at hy ⊢
    rw [List.getD_eq_getElem?_getD, hy]
    rfl
  · rw [h5]
    show _ = Int32.ofNat ((px_txt.getD q []).map Value.int).length
    rw [List.length_map]
theorem px_scr_cell {G : px_G} {s : State} {xs : List Int32} {f : Nat → Int32} (hx : va_X (px_f G 0) xs.length f s s.heap) (hf : ∀ j v, xs[j]? = some v → f j = v) : px_cell G s s.heap 0 (50, xs.map Value.int) := by
  obtain ⟨scr, h1, h2, h3, h4, h5⟩ := hx
  refine Or.inr (Or.inl ⟨Nat.le_refl 50, scr, h1, h2, h3, ⟨fun j v hv => ?_, ?_⟩, fun z => absurd z (by decide)⟩)
  · have hv : (xs.map Value.int)[j]? = some v := hv
    rw [List.getElem?_map] at hv
    obtain ⟨y, hy, rfl⟩ := Option.map_eq_some_iff.mp hv
    rw [h5 j (List.getElem?_eq_some_iff.mp hy).1, hf j y hy]
    rfl
  · rw [h4]
    show _ = Int32.ofNat (xs.map Value.int).length
    rw [List.length_map]
set_option maxRecDepth 100000 in
theorem px_begin {args : Array Value} {s : State} {b : Nat} {xs : List Int32} {f : Nat → Int32} (hgv : (Jvm.Cond.and given_1 narrow_1).before args s = true) (hts0 : ∀ w ∈ lw_tbl, w.before args s = true) (hX : va_X b xs.length f s s.heap) (hf : ∀ j v, xs[j]? = some v → f j = v) (hbl : b < s.heap.size) :
    ∃ G : px_G, px_f G 0 = b ∧ px_A G = (fun q => s.heap.size ≤ q) ∧ px_K G s ∧ px_rel G s (px_h0 xs) s.heap := by
  have hts : px_T args s := fun w hw _ => hts0 w hw
  have hA : ∀ a : Nat, a < s.heap.size → ¬ (fun q => s.heap.size ≤ q) a := fun a h => Nat.not_le.mpr h
  have hs := flat_of_before _ hgv
  obtain ⟨w1, ho⟩ := px_and px_over_ok
  obtain ⟨w2, ho⟩ := px_and ho
  obtain ⟨w3, ho⟩ := px_and ho
  obtain ⟨w4, ho⟩ := px_and ho
  obtain ⟨w5, w6⟩ := px_and ho
  have ho1 : va_AO "JobTests$StepMemory" s := va_AO.of (hts0 _ (of_decide_eq_true w1))
  have ho2 : va_AO "JobTests$TestCase" s := va_AO.of (hts0 _ (of_decide_eq_true w2))
  have hz1 := va_Zof (A := fun q => s.heap.size ≤ q) (hts0 _ (of_decide_eq_true w3)) (hts0 _ (of_decide_eq_true w4)) (va_eqt (z := 1) (hs _ (by decide +kernel))) hA
  obtain ⟨O, hz2⟩ : ∃ O : Option Nat, va_Z "jdk/internal/util/Preconditions" "SIOOBE_FORMATTER" "Ljava/util/function/BiFunction;" (va_rf O) (fun q => s.heap.size ≤ q) s s.heap := by
    rcases va_Zqof (A := fun q => s.heap.size ≤ q) (hts0 _ (of_decide_eq_true w5)) (hts0 _ (of_decide_eq_true w6)) (hs _ (by decide +kernel)) hA with h | ⟨t, h⟩
    · exact ⟨none, h⟩
    · exact ⟨some t, h⟩
  obtain ⟨dA, hdA⟩ := px_arr_of hts ho1 ho2
  obtain ⟨dC, dI, hdC⟩ := px_cls_of hts
  obtain ⟨a1, t1, e1, s1⟩ := px_s1 hgv hA
  obtain ⟨a2, t2, e2, s2⟩ := px_s2 hgv hA
  obtain ⟨a3, t3, e3, s3⟩ := px_s3 hgv hA
  obtain ⟨a4, t4, e4, s4⟩ := px_s4 hgv hA
  obtain ⟨a5, t5, e5, s5⟩ := px_s5 hgv hA
  obtain ⟨a6, t6, e6, s6⟩ := px_s6 hgv hA
  obtain ⟨a7, t7, e7, s7⟩ := px_s7 hgv hA
  obtain ⟨a8, t8, e8, s8⟩ := px_s8 hgv hA
  refine ⟨(fun k => if k = 0 then b else if k = 1 then a1 else if k = 2 then a2 else if k = 3 then a3 else if k = 4 then a4 else if k = 5 then a5 else if k = 6 then a6 else if k = 7 then a7 else if k = 8 then a8 else if k = 9 then t1 else if k = 10 then t2 else if k = 11 then t3 else if k = 12 then t4 else if k = 13 then t5 else if k = 14 then t6 else if k = 15 then t7 else t8, s.heap.size, dC, dI, dA, s.heap, O), rfl, rfl, ⟨hdC, hdA, fun q hq => ?_, ⟨ho1, ho2⟩, fun q hq => ?_, hz1, hz2⟩, rfl, Nat.le_refl 17, ?_, fun q _ => rfl, ?_⟩
  · exact hts0 _ (of_decide_eq_true (List.all_eq_true.mp px_nest_ok q hq))
  · have hq2 := hq
    simp only [px_strs, List.mem_cons, List.not_mem_nil, or_false] at hq2
    rcases hq2 with rfl | rfl | rfl | rfl | rfl | rfl | rfl | rfl
    · exact vk_R.of (hts0 _ (of_decide_eq_true (List.all_eq_true.mp px_sref_ok _ hq))) e1
    · exact vk_R.of (hts0 _ (of_decide_eq_true (List.all_eq_true.mp px_sref_ok _ hq))) e2
    · exact vk_R.of (hts0 _ (of_decide_eq_true (List.all_eq_true.mp px_sref_ok _ hq))) e3
    · exact vk_R.of (hts0 _ (of_decide_eq_true (List.all_eq_true.mp px_sref_ok _ hq))) e4
    · exact vk_R.of (hts0 _ (of_decide_eq_true (List.all_eq_true.mp px_sref_ok _ hq))) e5
    · exact vk_R.of (hts0 _ (of_decide_eq_true (List.all_eq_true.mp px_sref_ok _ hq))) e6
    · exact vk_R.of (hts0 _ (of_decide_eq_true (List.all_eq_true.mp px_sref_ok _ hq))) e7
    · exact vk_R.of (hts0 _ (of_decide_eq_true (List.all_eq_true.mp px_sref_ok _ hq))) e8
  · exact fun a ha => match a, ha with
      | 0, _ => hbl
      | 1, _ => s1.1.elim fun cell g => (Array.getElem?_eq_some_iff.mp g.1).1
      | 2, _ => s2.1.elim fun cell g => (Array.getElem?_eq_some_iff.mp g.1).1
      | 3, _ => s3.1.elim fun cell g => (Array.getElem?_eq_some_iff.mp g.1).1
      | 4, _ => s4.1.elim fun cell g => (Array.getElem?_eq_some_iff.mp g.1).1
      | 5, _ => s5.1.elim fun cell g => (Array.getElem?_eq_some_iff.mp g.1).1
      | 6, _ => s6.1.elim fun cell g => (Array.getElem?_eq_some_iff.mp g.1).1
      | 7, _ => s7.1.elim fun cell g => (Array.getElem?_eq_some_iff.mp g.1).1
      | 8, _ => s8.1.elim fun cell g => (Array.getElem?_eq_some_iff.mp g.1).1
      | 9, _ => s1.2.2.2.elim fun cell g => (Array.getElem?_eq_some_iff.mp g.1).1
      | 10, _ => s2.2.2.2.elim fun cell g => (Array.getElem?_eq_some_iff.mp g.1).1
      | 11, _ => s3.2.2.2.elim fun cell g => (Array.getElem?_eq_some_iff.mp g.1).1
      | 12, _ => s4.2.2.2.elim fun cell g => (Array.getElem?_eq_some_iff.mp g.1).1
      | 13, _ => s5.2.2.2.elim fun cell g => (Array.getElem?_eq_some_iff.mp g.1).1
      | 14, _ => s6.2.2.2.elim fun cell g => (Array.getElem?_eq_some_iff.mp g.1).1
      | 15, _ => s7.2.2.2.elim fun cell g => (Array.getElem?_eq_some_iff.mp g.1).1
      | 16, _ => s8.2.2.2.elim fun cell g => (Array.getElem?_eq_some_iff.mp g.1).1
      | a + 17, h => absurd h (by omega)
  · intro a c hc
    have hc : px_m0 xs a = some c := hc
    exact match a, hc with
      | 0, hd => (by cases hd; exact px_scr_cell (f := f) hX hf)
      | 1, hd => (by cases hd; exact px_str_cell (A := fun q => s.heap.size ≤ q) rfl rfl rfl s1)
      | 2, hd => (by cases hd; exact px_str_cell (A := fun q => s.heap.size ≤ q) rfl rfl rfl s2)
      | 3, hd => (by cases hd; exact px_str_cell (A := fun q => s.heap.size ≤ q) rfl rfl rfl s3)
      | 4, hd => (by cases hd; exact px_str_cell (A := fun q => s.heap.size ≤ q) rfl rfl rfl s4)
      | 5, hd => (by cases hd; exact px_str_cell (A := fun q => s.heap.size ≤ q) rfl rfl rfl s5)
      | 6, hd => (by cases hd; exact px_str_cell (A := fun q => s.heap.size ≤ q) rfl rfl rfl s6)
      | 7, hd => (by cases hd; exact px_str_cell (A := fun q => s.heap.size ≤ q) rfl rfl rfl s7)
      | 8, hd => (by cases hd; exact px_str_cell (A := fun q => s.heap.size ≤ q) rfl rfl rfl s8)
      | 9, hd => (by cases hd; exact px_byt_cell (q := 1) (A := fun q => s.heap.size ≤ q) (by decide) rfl s1)
      | 10, hd => (by cases hd; exact px_byt_cell (q := 2) (A := fun q => s.heap.size ≤ q) (by decide) rfl s2)
      | 11, hd => (by cases hd; exact px_byt_cell (q := 3) (A := fun q => s.heap.size ≤ q) (by decide) rfl s3)
      | 12, hd => (by cases hd; exact px_byt_cell (q := 4) (A := fun q => s.heap.size ≤ q) (by decide) rfl s4)
      | 13, hd => (by cases hd; exact px_byt_cell (q := 5) (A := fun q => s.heap.size ≤ q) (by decide) rfl s5)
      | 14, hd => (by cases hd; exact px_byt_cell (q := 6) (A := fun q => s.heap.size ≤ q) (by decide) rfl s6)
      | 15, hd => (by cases hd; exact px_byt_cell (q := 7) (A := fun q => s.heap.size ≤ q) (by decide) rfl s7)
      | 16, hd => (by cases hd; exact px_byt_cell (q := 8) (A := fun q => s.heap.size ≤ q) (by decide) rfl s8)
      | a + 17, hd => (by
        have e : px_m0 xs (a + 17) = none := by
          unfold px_m0
          rw [if_neg (by omega), if_neg (by omega), if_neg (by omega)]
        rw [e] at hd
        cases hd)
/-- the law, from its entry, out of the pure law -/
theorem px_start (hlaw : px_LAW) {p : Program} {e : Env} {s : State} {m : MethodId} {below : List Frame} {meth : Method} {c : Code} (l : Launch) {b L : Nat} {xs : Nat → Int32} (hL : L ≤ 2048) (C0 : lw_At p s m meth c b L xs) : W p l e room_1 s m #[Value.ref b] below meth c s.heap [] 0 0 (lw_Z below #[Value.ref b] s) (entryFrame m ([Value.ref b] : List Value).toArray 4) := by
  obtain ⟨hx, hb, hr, hml, hown, hts0, hX, hbl, hlocks, hgv⟩ := C0
  have hlen : ((List.range L).map xs).length = L := by rw [List.length_map, List.length_range]
  obtain ⟨G, g1, g2, g3, g4⟩ := px_begin (xs := (List.range L).map xs) (f := xs) hgv hts0 (by rw [hlen]; exact hX) (fun j v hv => by
    rw [List.getElem?_map] at hv
    obtain ⟨y, hy, rfl⟩ := Option.map_eq_some_iff.mp hv
    obtain ⟨h1, h2⟩ := List.getElem?_eq_some_iff.mp hy
    rw [← h2, List.getElem_range]) hbl
  obtain ⟨n, h1, hrun, hc1, hc2⟩ := hlaw ((List.range L).map xs) (by rw [hlen]; exact hL)
  obtain ⟨hl1, hl2⟩ := px_ent_ok (px_g G) 220 [.ref 0] (by decide)
  have he : ([Value.ref 0] : List Value).map (px_tv (px_g G)) = [.ref b] := by
    show [Value.ref (px_f G 0)] = [.ref b]
    rw [g1]
  rw [he] at hl2
  have hB : G.2.1 = s.heap.size := by
    have h3 := g4.1
    have h4 : s.heap.size + 17 = G.2.1 + 17 := h3
    omega
  rw [lg_entry_eq]
  have hW := px_sound px_ok l G n 220 0 (px_ent 220 [.ref 0]) [] (px_h0 ((List.range L).map xs)) h1 (some (.int 1)) hrun p e room_1 s m #[Value.ref b] below meth c (lw_Z below #[Value.ref b] s) 17 0 _ hx hb hown (fun w hw _ => hts0 w hw) g3 (fun z => absurd z (by decide)) (by decide) (by decide) hl2 (hl1.trans hml.symm) (Nat.le_refl 17) (Nat.le_refl 0) (by show h1.1 - 17 ≤ 600000; omega) (by show h1.2.1 - 0 ≤ 7302250; omega) (by
    intro pcr lsr i hd hret H locs hrl hS
    obtain ⟨-, ⟨-, -, hv⟩ | ⟨ty, y, rfl, hrt, hv, hn⟩⟩ := px_ret_inv hret
    · cases hv
    · refine va_forget (fun q hq => ?_) ?_
      · have h5 := hS.2.2 q hq
        rw [g2] at h5
        exact h5
      · refine W.widen (k := 600000) (n := 7302250) (by omega) (by omega) ?_
        exact lw_ret hx hb hr hlocks hd) s.heap [] g4 va_S.rf
  exact hW
