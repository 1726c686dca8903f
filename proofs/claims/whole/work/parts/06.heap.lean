/-! E (script and texts), B, ids of the kinds, slots, ids of arrays, the heap at the start -/
abbrev px_G : Type := (Nat → Nat) × Nat × (Nat → ClassId) × (Nat → Nat → Nat) × (Nat → ClassId) × Heap × Option Nat
def px_f (G : px_G) (a : Nat) : Nat := if a < 17 then G.1 a else G.2.1 + (a - 17)
def px_g (G : px_G) : px_F := (px_f G, G.2.2.2.2.2.2)
theorem px_f_hi {G : px_G} {a : Nat} (h : 17 ≤ a) : px_f G a = G.2.1 + (a - 17) := by
  unfold px_f
  rw [if_neg (by omega)]
def px_A (G : px_G) : Nat → Prop := fun q => G.2.1 ≤ q
def px_aty (k : Nat) : FieldType := px_atys.getD (k - 50) .int
def px_acell (G : px_G) (k : Nat) (vs : List Value) : Cell := { cls := G.2.2.2.2.1 (k - 50), slots := (vs.map (px_tv (px_g G))).toArray, vm := .none }
def px_has (G : px_G) (sl : Array Value) (vs : List Value) : Prop := (∀ (j : Nat) (v : Value), vs[j]? = some v → sl[j]? = some (px_tv (px_g G) v)) ∧ sl.size.toInt32 = Int32.ofNat vs.length
theorem px_has_arr (G : px_G) (vs : List Value) : px_has G (vs.map (px_tv (px_g G))).toArray vs := ⟨fun j v h => by simp [h], by simp⟩
theorem px_has_lt {G : px_G} {sl : Array Value} {vs : List Value} (h : px_has G sl vs) {j : Nat} (hj : j < vs.length) : j < sl.size := (Array.getElem?_eq_some_iff.mp (h.1 j _ (List.getElem?_eq_getElem hj))).1
def px_cell (G : px_G) (s : State) (H : Heap) (a : Nat) (c : px_C) : Prop :=
  (c.1 < 50 ∧ 17 ≤ a ∧ ∃ r : vw_C, vwCl[c.1]? = some r ∧ c.2.length = r.2.2 ∧ t_OB (px_f G a) (G.2.2.1 c.1) r.2.2 (G.2.2.2.1 c.1) H (vp_V (c.2.map (px_tv (px_g G)))))
  ∨ (50 ≤ c.1 ∧ ∃ cell : Cell, H[px_f G a]? = some cell ∧ s.isArrayOf cell (px_aty c.1) ∧ cell.vm ≠ .unknown ∧ px_has G cell.slots c.2 ∧ (17 ≤ a → cell = px_acell G c.1 c.2))
  ∨ (c.1 = 40 ∧ va_O "java/lang/String" (px_f G a) (px_A G) s H ∧ (∀ v, c.2[0]? = some v → va_OF "java/lang/String" "value" "[B" (px_tv (px_g G) v) (px_f G a) (px_A G) s H) ∧ (∀ v, c.2[1]? = some v → va_OF "java/lang/String" "coder" "B" (px_tv (px_g G) v) (px_f G a) (px_A G) s H))
def px_rel (G : px_G) (s : State) (h : px_H) (H : Heap) : Prop :=
  H.size + 17 = G.2.1 + h.1 ∧ 17 ≤ h.1 ∧ (∀ a, a < 17 → G.1 a < G.2.1) ∧ (∀ q : Nat, q < G.2.1 → H[q]? = G.2.2.2.2.2.1[q]?) ∧ ∀ (a : Nat) (c : px_C), h.2.2 a = some c → px_cell G s H a c
theorem px_cell_kept {G : px_G} {s : State} {H H1 : Heap} {a : Nat} {c : px_C} (h : px_cell G s H a c) (e : H1[px_f G a]? = H[px_f G a]?) : px_cell G s H1 a c := by
  rcases h with ⟨h1, h2, r, h3, h4, h5⟩ | ⟨h1, cell, h3, h4⟩ | ⟨h1, ⟨cell, h2, h3⟩, h4, h5⟩
  · exact Or.inl ⟨h1, h2, r, h3, h4, h5.kept e⟩
  · exact Or.inr (Or.inl ⟨h1, cell, by rw [e]; exact h3, h4⟩)
  · refine Or.inr (Or.inr ⟨h1, ⟨cell, by rw [e]; exact h2, h3⟩, fun v hv => ?_, fun v hv => ?_⟩)
    · obtain ⟨cf, k, i, f, cl, g1, g2, g3, g4⟩ := h4 v hv
      exact ⟨cf, k, i, f, cl, g1, g2, by rw [e]; exact g3, g4⟩
    · obtain ⟨cf, k, i, f, cl, g1, g2, g3, g4⟩ := h5 v hv
      exact ⟨cf, k, i, f, cl, g1, g2, by rw [e]; exact g3, g4⟩
theorem px_cell_lt {G : px_G} {s : State} {H : Heap} {a : Nat} {c : px_C} (h : px_cell G s H a c) : px_f G a < H.size := by
  rcases h with ⟨-, -, r, -, -, cell, h5, -⟩ | ⟨-, cell, h3, -⟩ | ⟨-, ⟨cell, h3, -⟩, -⟩
  · exact (Array.getElem?_eq_some_iff.mp h5).1
  · exact (Array.getElem?_eq_some_iff.mp h3).1
  · exact (Array.getElem?_eq_some_iff.mp h3).1
theorem px_cell_moved {G : px_G} {s U : State} {H : Heap} {a : Nat} {c : px_C} (hvm : s.vm.Alike U.vm) (h : px_cell G s H a c) : px_cell G U H a c := by
  rcases h with h | ⟨h1, cell, h3, h4, h5⟩ | ⟨h1, h2, h3, h4⟩
  · exact Or.inl h
  · exact Or.inr (Or.inl ⟨h1, cell, h3, State.isArrayOf_alike hvm h4, h5⟩)
  · exact Or.inr (Or.inr ⟨h1, va_O.moved hvm h2, fun v hv => va_OF.moved hvm (h3 v hv), fun v hv => va_OF.moved hvm (h4 v hv)⟩)
theorem px_rel_moved {G : px_G} {s U : State} {h : px_H} {H : Heap} (hvm : s.vm.Alike U.vm) (hr : px_rel G s h H) : px_rel G U h H :=
  ⟨hr.1, hr.2.1, hr.2.2.1, hr.2.2.2.1, fun a c hc => px_cell_moved hvm (hr.2.2.2.2 a c hc)⟩
theorem px_f_ne {G : px_G} (hE : ∀ a, a < 17 → G.1 a < G.2.1) {a b : Nat} (ha : 17 ≤ a) (hb : b ≠ a) : px_f G b ≠ px_f G a := by
  rw [px_f_hi ha]
  by_cases h : b < 17
  · unfold px_f
    rw [if_pos h]
    have := hE b h
    omega
  · rw [px_f_hi (by omega)]
    omega
theorem px_rel_set {G : px_G} {s : State} {h : px_H} {H H1 : Heap} (hr : px_rel G s h H) {a : Nat} (ha : 17 ≤ a) {c : px_C} (z : H1.size = H.size) (oq : ∀ q : Nat, q ≠ px_f G a → H1[q]? = H[q]?) (hc : px_cell G s H1 a c) : px_rel G s (px_set h a c) H1 := by
  obtain ⟨r1, r2, r3, r4, r5⟩ := hr
  refine ⟨by rw [z]; exact r1, r2, r3, fun q hq => ?_, fun b d hd => ?_⟩
  · rw [oq q (by rw [px_f_hi ha]; omega)]
    exact r4 q hq
  · have hd : (if b = a then some c else h.2.2 b) = some d := hd
    by_cases hb : b = a
    · rw [if_pos hb] at hd
      cases hd
      rw [hb]
      exact hc
    · rw [if_neg hb] at hd
      exact px_cell_kept (r5 b d hd) (oq _ (px_f_ne r3 ha hb))
theorem px_top {G : px_G} {s : State} {h : px_H} {H : Heap} (hr : px_rel G s h H) : px_f G h.1 = H.size := by
  rw [px_f_hi hr.2.1]
  have := hr.1
  have := hr.2.1
  omega
theorem px_rel_new {G : px_G} {s : State} {h : px_H} {H H1 : Heap} (hr : px_rel G s h H) {n : Nat} {c : px_C} (z : H1.size = H.size + 1) (oq : ∀ q : Nat, q < H.size → H1[q]? = H[q]?) (hc : px_cell G s H1 h.1 c) : px_rel G s (px_new h n c) H1 := by
  obtain ⟨r1, r2, r3, r4, r5⟩ := hr
  refine ⟨by rw [z]; show H.size + 1 + 17 = G.2.1 + (h.1 + 1); omega, by show 17 ≤ h.1 + 1; omega, r3, fun q hq => ?_, fun b d hd => ?_⟩
  · rw [oq q (by omega)]
    exact r4 q hq
  · have hd : (if b = h.1 then some c else h.2.2 b) = some d := hd
    by_cases hb : b = h.1
    · rw [if_pos hb] at hd
      cases hd
      rw [hb]
      exact hc
    · rw [if_neg hb] at hd
      exact px_cell_kept (r5 b d hd) (oq _ (px_cell_lt (r5 b d hd)))
def px_T (args : Array Value) (s : State) : Prop := ∀ w ∈ lw_tbl, goodWord w = true → w.before args s = true
theorem px_w_use {args : Array Value} {s : State} (hts : px_T args s) {w : Cond} (h : px_w w = true) : w.before args s = true := by
  unfold px_w at h
  rw [Bool.and_eq_true] at h
  exact hts w (of_decide_eq_true h.1) h.2
theorem px_lay_ok : vwCl.all (fun r => (u_ws r.1 r.2.1 r.2.2).all px_w) = true := by decide +kernel
theorem px_lays {args : Array Value} {s : State} (hts : px_T args s) {ci : Nat} {r : vw_C} (hc : vwCl[ci]? = some r) : ∀ w ∈ u_ws r.1 r.2.1 r.2.2, w.before args s = true := fun w hw =>
  px_w_use hts (List.all_eq_true.mp (List.all_eq_true.mp px_lay_ok r (List.mem_of_getElem? hc)) w hw)
def px_tyb (ci : Nat) : Bool := match vwCl[ci]? with
  | some r => (List.range r.2.2).all (fun k => decide (parseFieldDescriptor (r.2.1 k).2.2.1 = some (px_ty ci k)))
  | none => true
theorem px_tyb_ok : (List.range 13).all px_tyb = true := by decide +kernel
theorem px_cl_lt {ci : Nat} {r : vw_C} (hc : vwCl[ci]? = some r) : ci < 13 := (List.getElem?_eq_some_iff.mp hc).1
theorem px_types {ci : Nat} {r : vw_C} (hc : vwCl[ci]? = some r) : ∀ k, k < r.2.2 → parseFieldDescriptor (r.2.1 k).2.2.1 = some (px_ty ci k) := by
  intro k hk
  have h := List.all_eq_true.mp px_tyb_ok ci (List.mem_range.mpr (px_cl_lt hc))
  unfold px_tyb at h
  rw [hc] at h
  exact of_decide_eq_true (List.all_eq_true.mp h k (List.mem_range.mpr hk))
theorem px_nm_ok : vwCl.all (fun r => (List.range r.2.2).all (fun a => (List.range r.2.2).all (fun b => decide (a = b) || decide ((r.2.1 a).2.1 ≠ (r.2.1 b).2.1)))) = true := by decide +kernel
theorem px_names {ci : Nat} {r : vw_C} (hc : vwCl[ci]? = some r) : ∀ a, a < r.2.2 → ∀ b, b < r.2.2 → a ≠ b → (r.2.1 a).2.1 ≠ (r.2.1 b).2.1 := by
  intro a ha b hb hne
  have h := List.all_eq_true.mp (List.all_eq_true.mp (List.all_eq_true.mp px_nm_ok r (List.mem_of_getElem? hc)) a (List.mem_range.mpr ha)) b (List.mem_range.mpr hb)
  rw [Bool.or_eq_true] at h
  rcases h with h | h
  · exact absurd (of_decide_eq_true h) hne
  · exact of_decide_eq_true h
def px_K (G : px_G) (s : State) : Prop :=
  (∀ (c : Nat) (q : vw_C), vwCl[c]? = some q → u_Kn s q.1 q.2.1 q.2.2 (G.2.2.1 c) (G.2.2.2.1 c)) ∧
  (∀ (t : Nat) (ty : FieldType), px_atys[t]? = some ty → ArrOfT s (G.2.2.2.2.1 t) ty ∧ va_RA s (G.2.2.2.2.1 t) ty) ∧
  (∀ q ∈ px_nests, va_Nw (.methodLinkNest q.1 q.2.1 q.2.2.1 q.2.2.2) s) ∧
  (va_AO "JobTests$StepMemory" s ∧ va_AO "JobTests$TestCase" s) ∧
  (∀ q ∈ px_strs, vk_R q.1 q.2.1 q.2.2.1 (G.1 q.2.2.2) s) ∧
  (va_Z "java/lang/String" "COMPACT_STRINGS" "Z" (.int 1) (px_A G) s G.2.2.2.2.2.1 ∧ va_Z "jdk/internal/util/Preconditions" "SIOOBE_FORMATTER" "Ljava/util/function/BiFunction;" (va_rf G.2.2.2.2.2.2) (px_A G) s G.2.2.2.2.2.1)
theorem px_K_warm {G : px_G} {s U : State} (hW : s.WarmedH U.vm) (h : px_K G s) : px_K G U :=
  ⟨fun c q hq => u_Kn_moved hW.alike (h.1 c q hq), fun t ty ht => ⟨arrOfT_moved hW.alike (h.2.1 t ty ht).1, (h.2.1 t ty ht).2.moved hW.alike⟩, fun q hq => va_Nw.warmM hW (h.2.2.1 q hq), ⟨va_AO.moved hW.alike h.2.2.2.1.1, va_AO.moved hW.alike h.2.2.2.1.2⟩, fun q hq => vk_R.warm hW (h.2.2.2.2.1 q hq), va_Z.moved hW.alike h.2.2.2.2.2.1, va_Z.moved hW.alike h.2.2.2.2.2.2⟩
theorem px_K_same {G : px_G} {u U : State} (hv : U.vm = u.vm) (h : px_K G u) : px_K G U := by
  have hA : u.vm.Alike U.vm := by rw [hv]; exact Vm.Alike.refl _
  exact ⟨fun c q hq => u_Kn_moved hA (h.1 c q hq), fun t ty ht => ⟨arrOfT_moved hA (h.2.1 t ty ht).1, (h.2.1 t ty ht).2.moved hA⟩, fun q hq => va_tabs rfl hv.symm (h.2.2.1 q hq), ⟨va_AO.moved hA h.2.2.2.1.1, va_AO.moved hA h.2.2.2.1.2⟩, fun q hq => vk_R.same hv (h.2.2.2.2.1 q hq), va_Z.moved hA h.2.2.2.2.2.1, va_Z.moved hA h.2.2.2.2.2.2⟩
theorem px_tv_def (f : px_F) (ty : FieldType) : px_tv f (defaultValue ty) = defaultValue ty := by cases ty <;> rfl
theorem px_tv_nar (f : px_F) (ty : FieldType) (x : Int32) : px_tv f (narrow ty (.int x)) = narrow ty (.int x) := by cases ty <;> rfl
theorem px_acell_set (G : px_G) (k i : Nat) (vs : List Value) (v : Value) : (px_acell G k vs).setSlot i (px_tv (px_g G) v) = px_acell G k (vs.set i v) := by
  unfold px_acell Cell.setSlot
  simp only [List.setIfInBounds_toArray, List.map_set]
theorem px_tv_narrow {f : px_F} {ty : FieldType} {v : Value} (h : narrow ty v = v) : narrow ty (px_tv f v) = px_tv f v := by
  obtain ⟨f1, o⟩ := f
  cases v <;> cases ty <;> first | rfl | exact h | (cases o <;> rfl)
theorem px_tv_fits {f : px_F} {ty : FieldType} {v : Value} (h : fits ty v = true) : fits ty (px_tv f v) = true := by
  cases v <;> cases ty <;> first | rfl | exact h | exact absurd h (by simp [fits])
