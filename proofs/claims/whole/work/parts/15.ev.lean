theorem px_run_succ (n m pc : Nat) (L : px_L) (st : List Value) (h : px_H) : px_run (n + 1) m pc L st h = (match px_at m pc with
    | none => none
    | some e => match px_kd e with
      | 0 => (match px_op e pc L st h with
        | some q => px_run n m q.1 q.2.1 q.2.2.1 q.2.2.2
        | none => none)
      | 1 => (match px_cut e st h with
        | some q => (match px_run n e.2.2.1 0 (px_ent e.2.2.1 q.1) [] h with
          | some r => px_run n m (pc + 3) L (r.2.toList ++ q.2) r.1
          | none => none)
        | none => none)
      | _ => (px_ret m e.1 st).map (fun v => (h, v))) := rfl
theorem px_run_mono : ∀ (n m pc : Nat) (L : px_L) (st : List Value) (h : px_H) (r : px_H × Option Value), px_run n m pc L st h = some r → px_run (n + 1) m pc L st h = some r := by
  intro n
  induction n with
  | zero => intro m pc L st h r hq; cases hq
  | succ n ih =>
    intro m pc L st h r hq
    rw [px_run_succ] at hq ⊢
    cases he : px_at m pc with
    | none => rw [he] at hq; cases hq
    | some e =>
      rw [he] at hq
      try dsimp only at hq ⊢
      generalize px_kd e = kd at hq ⊢
      match kd, hq with
      | 0, hq =>
        try dsimp only at hq ⊢
        cases ho : px_op e pc L st h with
        | none => rw [ho] at hq; cases hq
        | some w =>
          rw [ho] at hq
          try dsimp only at hq ⊢
          exact ih _ _ _ _ _ _ hq
      | 1, hq =>
        try dsimp only at hq ⊢
        cases ho : px_cut e st h with
        | none => rw [ho] at hq; cases hq
        | some w =>
          rw [ho] at hq
          try dsimp only at hq ⊢
          cases hr : px_run n e.2.2.1 0 (px_ent e.2.2.1 w.1) [] h with
          | none => rw [hr] at hq; cases hq
          | some r1 =>
            rw [hr] at hq
            try dsimp only at hq
            rw [ih _ _ _ _ _ _ hr]
            try dsimp only
            exact ih _ _ _ _ _ _ hq
      | k + 2, hq => exact hq
theorem px_run_le {n k m pc : Nat} {L : px_L} {st : List Value} {h : px_H} {r : px_H × Option Value} (hk : n ≤ k) (hq : px_run n m pc L st h = some r) : px_run k m pc L st h = some r := by
  induction k with
  | zero =>
    have : n = 0 := by omega
    subst this
    exact hq
  | succ k ih =>
    by_cases he : n = k + 1
    · subst he
      exact hq
    · exact px_run_mono _ _ _ _ _ _ _ (ih (by omega))
/-- the pure machine comes from here to the result r -/
def px_ev (m pc : Nat) (L : px_L) (st : List Value) (h : px_H) (r : px_H × Option Value) : Prop := ∃ n, px_run n m pc L st h = some r
/-- method m, called with as, comes back with v and the heap h1 -/
def px_m (m : Nat) (as : List Value) (h h1 : px_H) (v : Option Value) : Prop := px_ev m 0 (px_ent m as) [] h (h1, v)
section EV
variable {m pc pc' : Nat} {L L' : px_L} {st : List Value} {h : px_H} {r : px_H × Option Value} {ln a0 b0 : Nat} {v0 : Value}
theorem ev_op {e : px_E} (hf : px_at m pc = some e) (hk : px_kd e = 0) {w : Nat × px_L × List Value × px_H} (ho : px_op e pc L st h = some w) (k : px_ev m w.1 w.2.1 w.2.2.1 w.2.2.2 r) : px_ev m pc L st h r := by
  obtain ⟨n, hn⟩ := k
  refine ⟨n + 1, ?_⟩
  rw [px_run_succ, hf]
  try dsimp only
  rw [hk]
  try dsimp only
  rw [ho]
  exact hn
theorem ev_call {e : px_E} (hf : px_at m pc = some e) (hk : px_kd e = 1) {as rest : List Value} (hc : px_cut e st h = some (as, rest)) {h1 : px_H} {v : Option Value} (hm : px_m e.2.2.1 as h h1 v) (k : px_ev m (pc + 3) L (v.toList ++ rest) h1 r) : px_ev m pc L st h r := by
  obtain ⟨n, hn⟩ := k
  obtain ⟨n2, hn2⟩ := hm
  refine ⟨(n + n2) + 1, ?_⟩
  rw [px_run_succ, hf]
  try dsimp only
  rw [hk]
  try dsimp only
  rw [hc]
  try dsimp only
  rw [px_run_le (by omega) hn2]
  exact px_run_le (by omega) hn
theorem ev_ret {e : px_E} (hf : px_at m pc = some e) (hk : px_kd e = 2) {v : Option Value} (hr : px_ret m e.1 st = some v) : px_ev m pc L st h (h, v) := by
  refine ⟨1, ?_⟩
  rw [px_run_succ, hf]
  try dsimp only
  rw [hk]
  try dsimp only
  rw [hr]
  rfl
theorem px_op_stk {i : Instr} {st' : List Value} (hs : px_stk i L st = some st') : px_op (i, ln, a0, b0, v0) pc L st h = some (pc + px_len i, L, st', h) := by
  unfold px_op
  rw [hs]
theorem px_op_lop {i : Instr} {z : px_L × List Value} (h0 : px_stk i L st = none) (hs : px_lop i L st = some z) : px_op (i, ln, a0, b0, v0) pc L st h = some (pc + px_len i, z.1, z.2, h) := by
  unfold px_op
  rw [h0]
  try dsimp only
  rw [hs]
theorem px_op_br {i : Instr} {z : Nat × List Value} (h0 : px_stk i L st = none) (h1 : px_lop i L st = none) (hs : px_br (i, ln, a0, b0, v0) pc st = some z) : px_op (i, ln, a0, b0, v0) pc L st h = some (z.1, L, z.2, h) := by
  unfold px_op
  rw [h0]
  try dsimp only
  rw [h1]
  try dsimp only
  rw [hs]
theorem px_op_hop {i : Instr} {z : List Value × px_H} (h0 : px_stk i L st = none) (h1 : px_lop i L st = none) (h2 : px_br (i, ln, a0, b0, v0) pc st = none) (hs : px_hop (i, ln, a0, b0, v0) st h = some z) : px_op (i, ln, a0, b0, v0) pc L st h = some (pc + px_len i, L, z.1, z.2) := by
  unfold px_op
  rw [h0]
  try dsimp only
  rw [h1]
  try dsimp only
  rw [h2]
  try dsimp only
  rw [hs]
  rfl
theorem ev_stk {i : Instr} {st' : List Value} (hf : px_at m pc = some (i, ln, a0, b0, v0)) (hk : px_kd (i, ln, a0, b0, v0) = 0) (hs : px_stk i L st = some st') (hp : pc + px_len i = pc') (k : px_ev m pc' L st' h r) : px_ev m pc L st h r := ev_op hf hk (px_op_stk hs) (hp ▸ k)
theorem ev_lop {i : Instr} {st' : List Value} (hf : px_at m pc = some (i, ln, a0, b0, v0)) (hk : px_kd (i, ln, a0, b0, v0) = 0) (h0 : px_stk i L st = none) (hs : px_lop i L st = some (L', st')) (hp : pc + px_len i = pc') (k : px_ev m pc' L' st' h r) : px_ev m pc L st h r := ev_op hf hk (px_op_lop h0 hs) (hp ▸ k)
theorem ev_br {i : Instr} {st' : List Value} (hf : px_at m pc = some (i, ln, a0, b0, v0)) (hk : px_kd (i, ln, a0, b0, v0) = 0) (h0 : px_stk i L st = none) (h1 : px_lop i L st = none) (hs : px_br (i, ln, a0, b0, v0) pc st = some (pc', st')) (k : px_ev m pc' L st' h r) : px_ev m pc L st h r := ev_op hf hk (px_op_br h0 h1 hs) k
theorem ev_hop {i : Instr} {st' : List Value} {h' : px_H} (hf : px_at m pc = some (i, ln, a0, b0, v0)) (hk : px_kd (i, ln, a0, b0, v0) = 0) (h0 : px_stk i L st = none) (h1 : px_lop i L st = none) (h2 : px_br (i, ln, a0, b0, v0) pc st = none) (hs : px_hop (i, ln, a0, b0, v0) st h = some (st', h')) (hp : pc + px_len i = pc') (k : px_ev m pc' L st' h' r) : px_ev m pc L st h r := ev_op hf hk (px_op_hop h0 h1 h2 hs) (hp ▸ k)
end EV
