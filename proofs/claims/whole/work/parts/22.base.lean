/-- only cells from lo on, n of them, have changed -/
def px_fi (lo n : Nat) (h h1 : px_H) : Prop := px_fr (fun q => lo ≤ q ∧ q < lo + n) h h1
theorem fi_rf (lo n : Nat) (h : px_H) : px_fi lo n h h := px_fr_rf _ _
theorem fi_tr {A N lo n : Nat} {h h1 h2 : px_H} (x : px_fi A N h h1) (y : px_fi lo n h1 h2) (z : A ≤ lo ∧ lo + n ≤ A + N) : px_fi A N h h2 := px_fr_tr x y (fun q w => ⟨by have := w.1; omega, by have := w.2; omega⟩)
theorem fi_le {A N lo n : Nat} {h h1 : px_H} (y : px_fi lo n h h1) (z : A ≤ lo ∧ lo + n ≤ A + N) : px_fi A N h h1 := fi_tr (fi_rf _ _ _) y z
theorem fi_set (h : px_H) (a : Nat) (c : px_C) : px_fi a 1 h (px_set h a c) := px_fr_set (S := fun q => a ≤ q ∧ q < a + 1) ⟨Nat.le_refl _, Nat.lt_succ_self _⟩ (px_fr_rf _ _)
theorem fi_nx {lo n a : Nat} {h h1 : px_H} (f : px_fi lo n h h1) (d : a + 1 ≤ lo ∨ lo + n ≤ a) : h1.2.2 a = h.2.2 a := f.2.2 a (fun w => by have := w.1; have := w.2; omega)
theorem fi_at {lo n a : Nat} {h h1 : px_H} {c : px_C} (hc : h.2.2 a = some c) (f : px_fi lo n h h1) (d : a + 1 ≤ lo ∨ lo + n ≤ a) : h1.2.2 a = some c := (fi_nx f d).trans hc
/-- an array with room for L values, whose first ones are those of xs -/
def px_pa (h : px_H) (a kd L : Nat) {α : Type} (f : α → Value) (xs : List α) : Prop := L < 2 ^ 31 ∧ ∃ ws, h.2.2 a = some (kd, xs.map f ++ ws) ∧ xs.length + ws.length = L
def vN (n : Nat) : Value := .int (nI n)
def bI (b : Bool) : Int32 := if b then 1 else 0
theorem nw_bI (b : Bool) : narrow .boolean (.int (bI b)) = .int (bI b) := by cases b <;> rfl
theorem bI_t {b : Bool} (h : ¬ bI b = 0) : b = true := by cases b with
  | true => rfl
  | false => exact absurd rfl h
theorem bI_t' {b : Bool} (h : ¬ bI b = 0) : b = true := bI_t h
theorem bI_f {b : Bool} (h : bI b = 0) : b = false := by cases b with
  | true => exact absurd h (by decide)
  | false => rfl
theorem bI_f' {b : Bool} (h : ¬ ¬ bI b = 0) : b = false := bI_f (Classical.not_not.mp h)
theorem pa_fi {lo n a kd L : Nat} {α : Type} {f : α → Value} {xs : List α} {h h1 : px_H} (hc : px_pa h a kd L f xs) (fr : px_fi lo n h h1) (d : a + 1 ≤ lo ∨ lo + n ≤ a) : px_pa h1 a kd L f xs := by
  obtain ⟨h0, ws, hw, hl⟩ := hc
  exact ⟨h0, ws, fi_at hw fr d, hl⟩
theorem pa_len {a kd L : Nat} {α : Type} {f : α → Value} {xs : List α} {h : px_H} (hc : px_pa h a kd L f xs) : xs.length ≤ L := by
  obtain ⟨h0, ws, hw, hl⟩ := hc
  omega
theorem pa_L {a kd L : Nat} {α : Type} {f : α → Value} {xs : List α} {h : px_H} (hc : px_pa h a kd L f xs) : L < 2 ^ 31 := hc.1
theorem pa_take {a kd L : Nat} {α : Type} {f : α → Value} {xs : List α} {h : px_H} (hc : px_pa h a kd L f xs) (k : Nat) : px_pa h a kd L f (xs.take k) := by
  obtain ⟨h0, ws, hw, hl⟩ := hc
  refine ⟨h0, (xs.drop k).map f ++ ws, ?_, ?_⟩
  · rw [hw, ← List.append_assoc, ← List.map_append, List.take_append_drop]
  · rw [List.length_append, List.length_map, ← Nat.add_assoc, ← List.length_append, List.take_append_drop]
    exact hl
theorem pa_nil {a kd L : Nat} {α : Type} {f : α → Value} {xs : List α} {h : px_H} (hc : px_pa h a kd L f xs) : px_pa h a kd L f ([] : List α) := pa_take hc 0
theorem pa_eq {a kd L : Nat} {α : Type} {f : α → Value} {xs ys : List α} {h : px_H} (hc : px_pa h a kd L f xs) (e : xs = ys) : px_pa h a kd L f ys := e ▸ hc
theorem pa_ld {h : px_H} {a kd L : Nat} {α : Type} {f : α → Value} {xs : List α} (d : α) (hp : px_pa h a kd L f xs) {i : Nat} (hi : i < xs.length) : ∃ vs, h.2.2 a = some (kd, vs) ∧ ¬ nI i < 0 ∧ vs[(nI i).toNatClampNeg]? = some (f (xs.getD i d)) := by
  obtain ⟨h0, ws, hw, hl⟩ := hp
  refine ⟨_, hw, nI_pos (by omega), ?_⟩
  rw [nI_clamp (by omega), List.getElem?_append_left (by rw [List.length_map]; exact hi), List.getElem?_map, List.getD_eq_getElem?_getD, List.getElem?_eq_getElem hi]
  rfl
theorem pa_st {h : px_H} {a kd L : Nat} {α : Type} {f : α → Value} {xs : List α} (hp : px_pa h a kd L f xs) {i : Nat} (hi : i < xs.length) {v : Value} {x : α} (hv : v = f x) : ∃ vs, h.2.2 a = some (kd, vs) ∧ ¬ nI i < 0 ∧ (nI i).toNatClampNeg < vs.length ∧ px_pa (px_set h a (kd, vs.set (nI i).toNatClampNeg v)) a kd L f (xs.set i x) := by
  obtain ⟨h0, ws, hw, hl⟩ := hp
  refine ⟨_, hw, nI_pos (by omega), ?_, h0, ws, ?_, ?_⟩
  · rw [nI_clamp (by omega), List.length_append, List.length_map]
    omega
  · rw [px_set_at, nI_clamp (by omega), List.set_append_left _ _ (by rw [List.length_map]; exact hi), hv, List.map_set]
  · rw [List.length_set]
    exact hl
theorem pa_ap {h : px_H} {a kd L : Nat} {α : Type} {f : α → Value} {xs : List α} (hp : px_pa h a kd L f xs) {i : Nat} (hi : i = xs.length) (hL : i < L) {v : Value} {x : α} (hv : v = f x) : ∃ vs, h.2.2 a = some (kd, vs) ∧ ¬ nI i < 0 ∧ (nI i).toNatClampNeg < vs.length ∧ px_pa (px_set h a (kd, vs.set (nI i).toNatClampNeg v)) a kd L f (xs ++ [x]) := by
  obtain ⟨h0, ws, hw, hl⟩ := hp
  cases ws with
  | nil => exact absurd hl (by simp; omega)
  | cons w ws =>
    refine ⟨_, hw, nI_pos (by omega), ?_, h0, ws, ?_, ?_⟩
    · rw [nI_clamp (by omega), List.length_append, List.length_map, List.length_cons]
      omega
    · rw [px_set_at, nI_clamp (by omega), List.set_append_right _ _ (by rw [List.length_map]; omega), List.length_map, hi, Nat.sub_self, List.set_cons_zero, hv, List.map_append, List.append_assoc]
      rfl
    · rw [List.length_append, List.length_singleton]
      rw [List.length_cons] at hl
      omega
section RP
variable {m pc pc' : Nat} {L : px_L} {st : List Value} {h : px_H} {P : px_H → Option Value → Prop} {ln a0 b0 : Nat} {v0 : Value}
theorem e_putp {idx ci fk a : Nat} {vs vs' : List Value} {v : Value} (hf : px_at m pc = some (.putfield idx, ln, ci, fk, v0)) (ha : h.2.2 a = some (ci, vs)) (hk : fk < vs.length) (hn : narrow (px_ty ci fk) v = v) (hft : fits (px_ty ci fk) v = true) (hvs : vs.set fk v = vs') (hp : pc + 3 = pc') (k : ∀ h' : px_H, h'.2.2 a = some (ci, vs') → px_fi a 1 h h' → px_to m pc' L st h' P) : px_to m pc L (v :: .ref a :: st) h P :=
  e_putf hf ha hk hn hft hvs hp (fun h' e => by rw [e]; exact k _ (px_set_at _ _ _) (fi_set _ _ _))
theorem e_alen_p {a kd La : Nat} {α : Type} {f : α → Value} {xs : List α} (hf : px_at m pc = some (.arraylength, ln, a0, b0, v0)) (hk : 50 ≤ kd) (hq : px_pa h a kd La f xs) (hp : pc + 1 = pc') (k : px_to m pc' L (.int (nI La) :: st) h P) : px_to m pc L (.ref a :: st) h P := by
  obtain ⟨h0, ws, hw, hl⟩ := hq
  refine e_alen hf hw hk (n := nI La) ?_ hp k
  rw [List.length_append, List.length_map, hl]
  rfl
theorem e_iaload_p {a La i : Nat} {α : Type} {f : α → Value} {xs : List α} {d : α} (hf : px_at m pc = some (.iaload, ln, a0, b0, v0)) (hq : px_pa h a 50 La f xs) (hi : i < xs.length) (hp : pc + 1 = pc') (k : px_to m pc' L (f (xs.getD i d) :: st) h P) : px_to m pc L (.int (nI i) :: .ref a :: st) h P := by
  obtain ⟨vs, h1, h2, h3⟩ := pa_ld d hq hi
  exact e_iaload hf h1 h2 h3 hp k
theorem e_laload_p {a La i : Nat} {α : Type} {f : α → Value} {xs : List α} {d : α} (hf : px_at m pc = some (.laload, ln, a0, b0, v0)) (hq : px_pa h a 51 La f xs) (hi : i < xs.length) (hp : pc + 1 = pc') (k : px_to m pc' L (f (xs.getD i d) :: st) h P) : px_to m pc L (.int (nI i) :: .ref a :: st) h P := by
  obtain ⟨vs, h1, h2, h3⟩ := pa_ld d hq hi
  exact e_laload hf h1 h2 h3 hp k
theorem e_caload_p {a La i : Nat} {α : Type} {f : α → Value} {xs : List α} {d : α} (hf : px_at m pc = some (.caload, ln, a0, b0, v0)) (hq : px_pa h a 52 La f xs) (hi : i < xs.length) (hp : pc + 1 = pc') (k : px_to m pc' L (f (xs.getD i d) :: st) h P) : px_to m pc L (.int (nI i) :: .ref a :: st) h P := by
  obtain ⟨vs, h1, h2, h3⟩ := pa_ld d hq hi
  exact e_caload hf h1 h2 h3 hp k
theorem e_saload_p {a La i : Nat} {α : Type} {f : α → Value} {xs : List α} {d : α} (hf : px_at m pc = some (.saload, ln, a0, b0, v0)) (hq : px_pa h a 53 La f xs) (hi : i < xs.length) (hp : pc + 1 = pc') (k : px_to m pc' L (f (xs.getD i d) :: st) h P) : px_to m pc L (.int (nI i) :: .ref a :: st) h P := by
  obtain ⟨vs, h1, h2, h3⟩ := pa_ld d hq hi
  exact e_saload hf h1 h2 h3 hp k
theorem e_baload_p {a La i : Nat} {α : Type} {f : α → Value} {xs : List α} {d : α} (hf : px_at m pc = some (.baload, ln, a0, b0, v0)) (hq : px_pa h a 54 La f xs) (hi : i < xs.length) (hp : pc + 1 = pc') (k : px_to m pc' L (f (xs.getD i d) :: st) h P) : px_to m pc L (.int (nI i) :: .ref a :: st) h P := by
  obtain ⟨vs, h1, h2, h3⟩ := pa_ld d hq hi
  exact e_baload hf h1 h2 h3 hp k
theorem e_aaload_p {a kd La i : Nat} {α : Type} {f : α → Value} {xs : List α} {d : α} (hf : px_at m pc = some (.aaload, ln, a0, b0, v0)) (hq : px_pa h a kd La f xs) (hkd : kd = 55 ∨ kd = 56) (hi : i < xs.length) (hp : pc + 1 = pc') (k : px_to m pc' L (f (xs.getD i d) :: st) h P) : px_to m pc L (.int (nI i) :: .ref a :: st) h P := by
  obtain ⟨vs, h1, h2, h3⟩ := pa_ld d hq hi
  exact e_aaload hf h1 hkd h2 h3 hp k
theorem e_iastore_p {a La i : Nat} {y : Int32} {α : Type} {f : α → Value} {xs : List α} {x : α} (hf : px_at m pc = some (.iastore, ln, a0, b0, v0)) (hq : px_pa h a 50 La f xs) (h9 : 17 ≤ a) (hi : i < xs.length) (hn : narrow .int (.int y) = f x) (hp : pc + 1 = pc') (k : ∀ h' : px_H, px_pa h' a 50 La f (xs.set i x) → px_fi a 1 h h' → px_to m pc' L st h' P) : px_to m pc L (.int y :: .int (nI i) :: .ref a :: st) h P := by
  obtain ⟨vs, h1, h2, h3, h4⟩ := pa_st hq hi hn
  exact e_iastore hf h1 h9 h2 h3 rfl hp (fun h' e => by rw [e]; exact k _ h4 (fi_set _ _ _))
theorem e_iastore_a {a La i : Nat} {y : Int32} {α : Type} {f : α → Value} {xs : List α} {x : α} (hf : px_at m pc = some (.iastore, ln, a0, b0, v0)) (hq : px_pa h a 50 La f xs) (h9 : 17 ≤ a) (hi : i = xs.length) (hL : i < La) (hn : narrow .int (.int y) = f x) (hp : pc + 1 = pc') (k : ∀ h' : px_H, px_pa h' a 50 La f (xs ++ [x]) → px_fi a 1 h h' → px_to m pc' L st h' P) : px_to m pc L (.int y :: .int (nI i) :: .ref a :: st) h P := by
  obtain ⟨vs, h1, h2, h3, h4⟩ := pa_ap hq hi hL hn
  exact e_iastore hf h1 h9 h2 h3 rfl hp (fun h' e => by rw [e]; exact k _ h4 (fi_set _ _ _))
theorem e_castore_p {a La i : Nat} {y : Int32} {α : Type} {f : α → Value} {xs : List α} {x : α} (hf : px_at m pc = some (.castore, ln, a0, b0, v0)) (hq : px_pa h a 52 La f xs) (h9 : 17 ≤ a) (hi : i < xs.length) (hn : narrow .char (.int y) = f x) (hp : pc + 1 = pc') (k : ∀ h' : px_H, px_pa h' a 52 La f (xs.set i x) → px_fi a 1 h h' → px_to m pc' L st h' P) : px_to m pc L (.int y :: .int (nI i) :: .ref a :: st) h P := by
  obtain ⟨vs, h1, h2, h3, h4⟩ := pa_st hq hi hn
  exact e_castore hf h1 h9 h2 h3 rfl hp (fun h' e => by rw [e]; exact k _ h4 (fi_set _ _ _))
theorem e_castore_a {a La i : Nat} {y : Int32} {α : Type} {f : α → Value} {xs : List α} {x : α} (hf : px_at m pc = some (.castore, ln, a0, b0, v0)) (hq : px_pa h a 52 La f xs) (h9 : 17 ≤ a) (hi : i = xs.length) (hL : i < La) (hn : narrow .char (.int y) = f x) (hp : pc + 1 = pc') (k : ∀ h' : px_H, px_pa h' a 52 La f (xs ++ [x]) → px_fi a 1 h h' → px_to m pc' L st h' P) : px_to m pc L (.int y :: .int (nI i) :: .ref a :: st) h P := by
  obtain ⟨vs, h1, h2, h3, h4⟩ := pa_ap hq hi hL hn
  exact e_castore hf h1 h9 h2 h3 rfl hp (fun h' e => by rw [e]; exact k _ h4 (fi_set _ _ _))
theorem e_sastore_p {a La i : Nat} {y : Int32} {α : Type} {f : α → Value} {xs : List α} {x : α} (hf : px_at m pc = some (.sastore, ln, a0, b0, v0)) (hq : px_pa h a 53 La f xs) (h9 : 17 ≤ a) (hi : i < xs.length) (hn : narrow .short (.int y) = f x) (hp : pc + 1 = pc') (k : ∀ h' : px_H, px_pa h' a 53 La f (xs.set i x) → px_fi a 1 h h' → px_to m pc' L st h' P) : px_to m pc L (.int y :: .int (nI i) :: .ref a :: st) h P := by
  obtain ⟨vs, h1, h2, h3, h4⟩ := pa_st hq hi hn
  exact e_sastore hf h1 h9 h2 h3 rfl hp (fun h' e => by rw [e]; exact k _ h4 (fi_set _ _ _))
theorem e_sastore_a {a La i : Nat} {y : Int32} {α : Type} {f : α → Value} {xs : List α} {x : α} (hf : px_at m pc = some (.sastore, ln, a0, b0, v0)) (hq : px_pa h a 53 La f xs) (h9 : 17 ≤ a) (hi : i = xs.length) (hL : i < La) (hn : narrow .short (.int y) = f x) (hp : pc + 1 = pc') (k : ∀ h' : px_H, px_pa h' a 53 La f (xs ++ [x]) → px_fi a 1 h h' → px_to m pc' L st h' P) : px_to m pc L (.int y :: .int (nI i) :: .ref a :: st) h P := by
  obtain ⟨vs, h1, h2, h3, h4⟩ := pa_ap hq hi hL hn
  exact e_sastore hf h1 h9 h2 h3 rfl hp (fun h' e => by rw [e]; exact k _ h4 (fi_set _ _ _))
theorem e_bastore_p {a La i : Nat} {y : Int32} {α : Type} {f : α → Value} {xs : List α} {x : α} (hf : px_at m pc = some (.bastore, ln, a0, b0, v0)) (hq : px_pa h a 54 La f xs) (h9 : 17 ≤ a) (hi : i < xs.length) (hn : narrow .byte (.int y) = f x) (hp : pc + 1 = pc') (k : ∀ h' : px_H, px_pa h' a 54 La f (xs.set i x) → px_fi a 1 h h' → px_to m pc' L st h' P) : px_to m pc L (.int y :: .int (nI i) :: .ref a :: st) h P := by
  obtain ⟨vs, h1, h2, h3, h4⟩ := pa_st hq hi hn
  exact e_bastore hf h1 h9 h2 h3 rfl hp (fun h' e => by rw [e]; exact k _ h4 (fi_set _ _ _))
theorem e_bastore_a {a La i : Nat} {y : Int32} {α : Type} {f : α → Value} {xs : List α} {x : α} (hf : px_at m pc = some (.bastore, ln, a0, b0, v0)) (hq : px_pa h a 54 La f xs) (h9 : 17 ≤ a) (hi : i = xs.length) (hL : i < La) (hn : narrow .byte (.int y) = f x) (hp : pc + 1 = pc') (k : ∀ h' : px_H, px_pa h' a 54 La f (xs ++ [x]) → px_fi a 1 h h' → px_to m pc' L st h' P) : px_to m pc L (.int y :: .int (nI i) :: .ref a :: st) h P := by
  obtain ⟨vs, h1, h2, h3, h4⟩ := pa_ap hq hi hL hn
  exact e_bastore hf h1 h9 h2 h3 rfl hp (fun h' e => by rw [e]; exact k _ h4 (fi_set _ _ _))
theorem e_lastore_p {a La i : Nat} {y : Int64} {α : Type} {f : α → Value} {xs : List α} {x : α} (hf : px_at m pc = some (.lastore, ln, a0, b0, v0)) (hq : px_pa h a 51 La f xs) (h9 : 17 ≤ a) (hi : i < xs.length) (hn : Value.long y = f x) (hp : pc + 1 = pc') (k : ∀ h' : px_H, px_pa h' a 51 La f (xs.set i x) → px_fi a 1 h h' → px_to m pc' L st h' P) : px_to m pc L (.long y :: .int (nI i) :: .ref a :: st) h P := by
  obtain ⟨vs, h1, h2, h3, h4⟩ := pa_st hq hi hn
  exact e_lastore hf h1 h9 h2 h3 rfl hp (fun h' e => by rw [e]; exact k _ h4 (fi_set _ _ _))
theorem e_lastore_a {a La i : Nat} {y : Int64} {α : Type} {f : α → Value} {xs : List α} {x : α} (hf : px_at m pc = some (.lastore, ln, a0, b0, v0)) (hq : px_pa h a 51 La f xs) (h9 : 17 ≤ a) (hi : i = xs.length) (hL : i < La) (hn : Value.long y = f x) (hp : pc + 1 = pc') (k : ∀ h' : px_H, px_pa h' a 51 La f (xs ++ [x]) → px_fi a 1 h h' → px_to m pc' L st h' P) : px_to m pc L (.long y :: .int (nI i) :: .ref a :: st) h P := by
  obtain ⟨vs, h1, h2, h3, h4⟩ := pa_ap hq hi hL hn
  exact e_lastore hf h1 h9 h2 h3 rfl hp (fun h' e => by rw [e]; exact k _ h4 (fi_set _ _ _))
theorem e_sw_t {d lo hi : Int} {offs : Array Int} {x : Int32} {t : Nat} (hf : px_at m pc = some (.tableswitch d lo hi offs, ln, a0, b0, v0)) (ht : px_tsw pc d lo hi offs (.int x :: st) = some (t, st)) (k : px_to m t L st h P) : px_to m pc L (.int x :: st) h P := to_of (fun _ k => ev_br hf rfl rfl rfl ht k) k
theorem e_sw_l {d : Int} {ps : Array (Int × Int)} {x : Int32} {t : Nat} (hf : px_at m pc = some (.lookupswitch d ps, ln, a0, b0, v0)) (ht : px_lsw pc d ps (.int x :: st) = some (t, st)) (k : px_to m t L st h P) : px_to m pc L (.int x :: st) h P := to_of (fun _ k => ev_br hf rfl rfl rfl ht k) k
end RP
theorem drop_step {α : Type} {xs : List α} {i : Nat} (d : α) (hi : i < xs.length) : xs.drop i = xs.getD i d :: xs.drop (i + 1) := by
  rw [List.drop_eq_getElem_cons hi, List.getD_eq_getElem?_getD, List.getElem?_eq_getElem hi]
  rfl
theorem getD_lt {α : Type} {xs : List α} {i : Nat} (d : α) (hi : i < xs.length) : xs.getD i d = xs[i] := by
  rw [List.getD_eq_getElem?_getD, List.getElem?_eq_getElem hi]
  rfl
