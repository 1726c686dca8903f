/-- L' knows what L knows -/
def px_lle : px_L → px_L → Prop
  | [], [] => True
  | x :: r, y :: s => (x = none ∨ x = y) ∧ px_lle r s
  | _, _ => False
theorem lle_len : ∀ {L L' : px_L}, px_lle L L' → L.length = L'.length := by
  intro L
  induction L with
  | nil => intro L' h; cases L' with
    | nil => rfl
    | cons y s => exact h.elim
  | cons x r ih => intro L' h; cases L' with
    | nil => exact h.elim
    | cons y s => rw [List.length_cons, List.length_cons, ih h.2]
theorem lle_get : ∀ {L L' : px_L} {i : Nat} {v : Value}, px_lle L L' → L[i]? = some (some v) → L'[i]? = some (some v) := by
  intro L
  induction L with
  | nil => intro L' i v h e; simp at e
  | cons x r ih => intro L' i v h e; cases L' with
    | nil => exact h.elim
    | cons y s =>
      cases i with
      | zero =>
        rw [List.getElem?_cons_zero] at e ⊢
        rcases h.1 with z | z
        · rw [z] at e
          cases e
        · rw [← z]
          exact e
      | succ i =>
        rw [List.getElem?_cons_succ] at e ⊢
        exact ih h.2 e
theorem lle_set : ∀ {L L' : px_L} (i : Nat) (v : Option Value), px_lle L L' → px_lle (L.set i v) (L'.set i v) := by
  intro L
  induction L with
  | nil => intro L' i v h; cases L' with
    | nil => exact h
    | cons y s => exact h.elim
  | cons x r ih => intro L' i v h; cases L' with
    | nil => exact h.elim
    | cons y s =>
      cases i with
      | zero => exact ⟨Or.inr rfl, h.2⟩
      | succ i => exact ⟨h.1, ih i v h.2⟩
theorem lle_setn : ∀ {L L' : px_L} (i : Nat), px_lle L L' → (∀ v, L[i]? = some (some v) → False) → px_lle L (L'.set i none) := by
  intro L
  induction L with
  | nil => intro L' i h e; cases L' with
    | nil => exact h
    | cons y s => exact h.elim
  | cons x r ih => intro L' i h e; cases L' with
    | nil => exact h.elim
    | cons y s =>
      cases i with
      | zero =>
        refine ⟨?_, h.2⟩
        cases x with
        | none => exact Or.inl rfl
        | some v => exact (e v rfl).elim
      | succ i => exact ⟨h.1, ih i h.2 (fun v z => e v (by rw [List.getElem?_cons_succ]; exact z))⟩
theorem lle_clr {L L' : px_L} (h : px_lle L L') (i : Nat) : px_lle (px_clr L i) (px_clr L' i) := by
  cases i with
  | zero => exact h
  | succ j =>
    show px_lle (if px_isL L[j]? = true then L.set j none else L) (if px_isL L'[j]? = true then L'.set j none else L')
    by_cases c : px_isL L'[j]? = true
    · rw [if_pos c]
      by_cases b : px_isL L[j]? = true
      · rw [if_pos b]
        exact lle_set _ _ h
      · rw [if_neg b]
        refine lle_setn _ h (fun v z => b ?_)
        rw [z, ← lle_get h z]
        exact c
    · rw [if_neg c]
      by_cases b : px_isL L[j]? = true
      · exfalso
        apply c
        cases e : L[j]? with
        | none => rw [e] at b; cases b
        | some o => cases o with
          | none => rw [e] at b; cases b
          | some v => rw [lle_get h e, ← e]; exact b
      · rw [if_neg b]
        exact h
section LM
variable {L L' : px_L} {st st' : List Value} {h : px_H}
theorem lm_ldi (hl : px_lle L L') {k : Nat} (e : px_ldi L k st = some st') : px_ldi L' k st = some st' := by
  unfold px_ldi at e ⊢
  split at e
  · next x z => rw [lle_get hl z]; exact e
  · cases e
theorem lm_ldl (hl : px_lle L L') {k : Nat} (e : px_ldl L k st = some st') : px_ldl L' k st = some st' := by
  unfold px_ldl at e ⊢
  split at e
  · next x z => rw [lle_get hl z]; exact e
  · cases e
theorem lm_lda (hl : px_lle L L') {k : Nat} (e : px_lda L k st = some st') : px_lda L' k st = some st' := by
  unfold px_lda at e ⊢
  split at e
  · next x z => rw [lle_get hl z]; exact e
  · cases e
theorem lm_st1 (hl : px_lle L L') (i : Nat) (v : Value) : px_lle (px_st1 L i v) (px_st1 L' i v) := lle_set _ _ (lle_clr hl i)
theorem lm_st2 (hl : px_lle L L') (i : Nat) (v : Value) : px_lle (px_st2 L i v) (px_st2 L' i v) := lle_set _ _ (lle_set _ _ (lle_clr hl i))
theorem lm_sti (hl : px_lle L L') {k : Nat} {q : px_L × List Value} (e : px_sti L k st = some q) : ∃ L1, px_sti L' k st = some (L1, q.2) ∧ px_lle q.1 L1 := by
  unfold px_sti at e ⊢
  split at e
  · rw [← lle_len hl]
    split at e
    · next x z =>
      cases e
      rw [if_pos z]
      exact ⟨_, rfl, lm_st1 hl _ _⟩
    · cases e
  · cases e
theorem lm_sta (hl : px_lle L L') {k : Nat} {q : px_L × List Value} (e : px_sta L k st = some q) : ∃ L1, px_sta L' k st = some (L1, q.2) ∧ px_lle q.1 L1 := by
  unfold px_sta at e ⊢
  split at e
  · rw [← lle_len hl]
    split at e
    · next x z =>
      cases e
      rw [if_pos z]
      exact ⟨_, rfl, lm_st1 hl _ _⟩
    · cases e
  · cases e
theorem lm_stl (hl : px_lle L L') {k : Nat} {q : px_L × List Value} (e : px_stl L k st = some q) : ∃ L1, px_stl L' k st = some (L1, q.2) ∧ px_lle q.1 L1 := by
  unfold px_stl at e ⊢
  split at e
  · rw [← lle_len hl]
    split at e
    · next x z =>
      cases e
      rw [if_pos z]
      exact ⟨_, rfl, lm_st2 hl _ _⟩
    · cases e
  · cases e
theorem lm_iic (hl : px_lle L L') {k : Nat} {n : Int} {q : px_L × List Value} (e : px_iic L k n st = some q) : ∃ L1, px_iic L' k n st = some (L1, q.2) ∧ px_lle q.1 L1 := by
  unfold px_iic at e ⊢
  split at e
  · next x z =>
    cases e
    rw [lle_get hl z]
    exact ⟨_, rfl, lm_st1 hl _ _⟩
  · cases e
def px_isld : Instr → Bool
  | .iload_n _ => true
  | .iload _ => true
  | .lload_n _ => true
  | .lload _ => true
  | .aload_n _ => true
  | .aload _ => true
  | _ => false
def px_isst : Instr → Bool
  | .istore_n _ => true
  | .istore _ => true
  | .astore_n _ => true
  | .astore _ => true
  | .lstore_n _ => true
  | .lstore _ => true
  | .iinc _ _ => true
  | _ => false
theorem lm_A (i : Instr) (hi : px_isld i = false) (L L' : px_L) (st : List Value) : px_stk i L st = px_stk i L' st := by
  cases i <;> first | rfl | (cases hi; done)
theorem lm_B (i : Instr) (hi : px_isst i = false) (L : px_L) (st : List Value) : px_lop i L st = none := by
  cases i <;> first | rfl | (cases hi; done)
theorem lm_C (i : Instr) (hi : px_isld i = true) (L : px_L) (st : List Value) (h : px_H) (ln a0 b0 : Nat) (v0 : Value) (pc : Nat) : px_lop i L st = none ∧ px_br (i, ln, a0, b0, v0) pc st = none ∧ px_hop (i, ln, a0, b0, v0) st h = none := by
  cases i <;> first | exact ⟨rfl, rfl, rfl⟩ | (cases hi; done)
theorem lm_D (i : Instr) (hi : px_isst i = true) (L : px_L) (st : List Value) (h : px_H) (ln a0 b0 : Nat) (v0 : Value) (pc : Nat) : px_br (i, ln, a0, b0, v0) pc st = none ∧ px_hop (i, ln, a0, b0, v0) st h = none := by
  cases i <;> first | exact ⟨rfl, rfl⟩ | (cases hi; done)
theorem lm_stk (hl : px_lle L L') {i : Instr} (hi : px_isld i = true) (e : px_stk i L st = some st') : px_stk i L' st = some st' := by
  cases i <;> first | (cases hi; done) | exact lm_ldi hl e | exact lm_ldl hl e | exact lm_lda hl e
theorem lm_lop (hl : px_lle L L') {i : Instr} (hi : px_isst i = true) {q : px_L × List Value} (e : px_lop i L st = some q) : ∃ L1, px_lop i L' st = some (L1, q.2) ∧ px_lle q.1 L1 := by
  cases i <;> first | (cases hi; done) | exact lm_sti hl e | exact lm_sta hl e | exact lm_stl hl e | exact lm_iic hl e
theorem lm_op (hl : px_lle L L') {e : px_E} {pc : Nat} {w : Nat × px_L × List Value × px_H} (hq : px_op e pc L st h = some w) : ∃ L1, px_op e pc L' st h = some (w.1, L1, w.2.2.1, w.2.2.2) ∧ px_lle w.2.1 L1 := by
  obtain ⟨i, ln, a0, b0, v0⟩ := e
  unfold px_op at hq ⊢
  try dsimp only at hq ⊢
  cases ld : px_isld i with
  | true =>
    obtain ⟨c1, c2, c3⟩ := lm_C i ld L st h ln a0 b0 v0 pc
    cases h0 : px_stk i L st with
    | some s =>
      rw [h0] at hq
      cases hq
      rw [lm_stk hl ld h0]
      exact ⟨L', rfl, hl⟩
    | none =>
      rw [h0, c1, c2, c3] at hq
      cases hq
  | false =>
    rw [lm_A i ld L' L]
    cases h0 : px_stk i L st with
    | some s =>
      rw [h0] at hq
      cases hq
      exact ⟨L', rfl, hl⟩
    | none =>
      rw [h0] at hq
      try dsimp only at hq ⊢
      cases sd : px_isst i with
      | true =>
        obtain ⟨c2, c3⟩ := lm_D i sd L st h ln a0 b0 v0 pc
        cases h1 : px_lop i L st with
        | some q =>
          rw [h1] at hq
          cases hq
          obtain ⟨L1, e1, e2⟩ := lm_lop hl sd h1
          rw [e1]
          exact ⟨L1, rfl, e2⟩
        | none =>
          rw [h1, c2, c3] at hq
          cases hq
      | false =>
        rw [lm_B i sd] at hq
        rw [lm_B i sd]
        try dsimp only at hq ⊢
        cases h2 : px_br (i, ln, a0, b0, v0) pc st with
        | some q =>
          rw [h2] at hq
          cases hq
          exact ⟨L', rfl, hl⟩
        | none =>
          rw [h2] at hq
          try dsimp only at hq ⊢
          cases h3 : px_hop (i, ln, a0, b0, v0) st h with
          | none => rw [h3] at hq; cases hq
          | some q =>
            rw [h3] at hq
            cases hq
            exact ⟨L', rfl, hl⟩
end LM
theorem lm_run : ∀ (n m pc : Nat) (L L' : px_L) (st : List Value) (h : px_H) (r : px_H × Option Value), px_lle L L' → px_run n m pc L st h = some r → px_run n m pc L' st h = some r := by
  intro n
  induction n with
  | zero => intro m pc L L' st h r hl hq; cases hq
  | succ n ih =>
    intro m pc L L' st h r hl hq
    rw [px_run_succ] at hq ⊢
    cases he : px_at m pc with
    | none => rw [he] at hq; cases hq
    | some e =>
      rw [he] at hq
      try dsimp only at hq ⊢
      generalize px_kd e = kd at hq ⊢
      match kd, hq with
      | 0, hq =>
        try dsimp only at hq ⊢
        cases ho : px_op e pc L st h with
        | none => rw [ho] at hq; cases hq
        | some w =>
          rw [ho] at hq
          try dsimp only at hq ⊢
          obtain ⟨L1, e1, e2⟩ := lm_op hl ho
          rw [e1]
          exact ih _ _ _ _ _ _ _ e2 hq
      | 1, hq =>
        try dsimp only at hq ⊢
        cases ho : px_cut e st h with
        | none => rw [ho] at hq; cases hq
        | some w =>
          rw [ho] at hq
          try dsimp only at hq ⊢
          cases hr : px_run n e.2.2.1 0 (px_ent e.2.2.1 w.1) [] h with
          | none => rw [hr] at hq; cases hq
          | some r1 =>
            rw [hr] at hq
            try dsimp only at hq ⊢
            exact ih _ _ _ _ _ _ _ hl hq
      | k + 2, hq => exact hq
theorem px_to_L {m pc : Nat} {L L' : px_L} {st : List Value} {h : px_H} {P : px_H → Option Value → Prop} (hl : px_lle L L') (k : px_to m pc L st h P) : px_to m pc L' st h P := by
  obtain ⟨h1, v, ⟨n, hn⟩, b⟩ := k
  exact ⟨h1, v, ⟨n, lm_run _ _ _ _ _ _ _ _ hl hn⟩, b⟩
