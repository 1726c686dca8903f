/-- f holds all that g holds -/
def px_ext (g f : Nat → Option px_C) : Prop := ∀ (a : Nat) (c : px_C), g a = some c → f a = some c
def px_fx (g g1 f f1 : Nat → Option px_C) : Prop := px_ext g1 f1 ∧ ∀ a : Nat, g1 a = none → f1 a = f a ∧ g a = none
theorem px_fx_rf {g f : Nat → Option px_C} (h : px_ext g f) : px_fx g g f f := ⟨h, fun _ ha => ⟨rfl, ha⟩⟩
theorem px_fx_up {g f : Nat → Option px_C} (h : px_ext g f) (a : Nat) (c : px_C) : px_fx g (px_up g a c) f (px_up f a c) := by
  refine ⟨fun b d hd => ?_, fun b hb => ?_⟩
  · unfold px_up at hd ⊢
    by_cases hba : b = a
    · rw [if_pos hba] at hd ⊢
      exact hd
    · rw [if_neg hba] at hd ⊢
      exact h b d hd
  · unfold px_up at hb ⊢
    by_cases hba : b = a
    · rw [if_pos hba] at hb
      cases hb
    · rw [if_neg hba] at hb ⊢
      exact ⟨rfl, hb⟩
theorem px_fx_tr {g g1 g2 f f1 f2 : Nat → Option px_C} (h1 : px_fx g g1 f f1) (h2 : px_fx g1 g2 f1 f2) : px_fx g g2 f f2 :=
  ⟨h2.1, fun a ha => ⟨(h2.2 a ha).1.trans (h1.2 a (h2.2 a ha).2).1, (h1.2 a (h2.2 a ha).2).2⟩⟩
section FR
variable {c s : Nat} {g f : Nat → Option px_C} {st : List Value} {q : List Value × px_H}
/-- what an act on the heap says of a larger one -/
def px_fq (c s : Nat) (g f : Nat → Option px_C) (q : List Value × px_H) (o : Option (List Value × px_H)) : Prop := ∃ f1, o = some (q.1, (q.2.1, q.2.2.1, f1)) ∧ px_fx g q.2.2.2 f f1
theorem px_fr_getf (he : px_ext g f) {ci k : Nat} (hq : px_getf ci k (c, s, g) st = some q) : px_fq c s g f q (px_getf ci k (c, s, f) st) := by
  unfold px_getf at hq
  split at hq
  · split at hq
    · next c0 vs hv =>
      split at hq
      · next hc =>
        obtain ⟨v, h1, h2⟩ := Option.map_eq_some_iff.mp hq
        subst h2
        refine ⟨f, ?_, px_fx_rf he⟩
        unfold px_getf
        try dsimp only
        rw [he _ _ hv]
        try dsimp only
        rw [if_pos hc, h1]
        rfl
      · cases hq
    · cases hq
  · cases hq
theorem px_fr_ald (he : px_ext g f) {k : Nat} (hq : px_ald k (c, s, g) st = some q) : px_fq c s g f q (px_ald k (c, s, f) st) := by
  unfold px_ald at hq
  split at hq
  · split at hq
    · next c0 vs hv =>
      split at hq
      · next hc =>
        obtain ⟨v, h1, h2⟩ := Option.map_eq_some_iff.mp hq
        subst h2
        refine ⟨f, ?_, px_fx_rf he⟩
        unfold px_ald
        try dsimp only
        rw [he _ _ hv]
        try dsimp only
        rw [if_pos hc, h1]
        rfl
      · cases hq
    · cases hq
  · cases hq
theorem px_fr_aald (he : px_ext g f) (hq : px_aald (c, s, g) st = some q) : px_fq c s g f q (px_aald (c, s, f) st) := by
  unfold px_aald at hq
  split at hq
  · split at hq
    · next c0 vs hv =>
      split at hq
      · next hc =>
        obtain ⟨v, h1, h2⟩ := Option.map_eq_some_iff.mp hq
        subst h2
        refine ⟨f, ?_, px_fx_rf he⟩
        unfold px_aald
        try dsimp only
        rw [he _ _ hv]
        try dsimp only
        rw [if_pos hc, h1]
        rfl
      · cases hq
    · cases hq
  · cases hq
theorem px_fr_putf (he : px_ext g f) {ci k : Nat} (hq : px_putf ci k (c, s, g) st = some q) : px_fq c s g f q (px_putf ci k (c, s, f) st) := by
  unfold px_putf at hq
  split at hq
  · split at hq
    · next c0 vs hv =>
      split at hq
      · next hc =>
        obtain rfl := Option.some.inj hq
        refine ⟨_, ?_, px_fx_up he _ _⟩
        unfold px_putf
        try dsimp only
        rw [he _ _ hv]
        try dsimp only
        rw [if_pos hc]
        rfl
      · cases hq
    · cases hq
  · cases hq
theorem px_fr_ast (he : px_ext g f) {k : Nat} {ty : FieldType} (hq : px_ast k ty (c, s, g) st = some q) : px_fq c s g f q (px_ast k ty (c, s, f) st) := by
  unfold px_ast at hq
  split at hq
  · split at hq
    · next c0 vs hv =>
      split at hq
      · next hc =>
        obtain rfl := Option.some.inj hq
        refine ⟨_, ?_, px_fx_up he _ _⟩
        unfold px_ast
        try dsimp only
        rw [he _ _ hv]
        try dsimp only
        rw [if_pos hc]
        rfl
      · cases hq
    · cases hq
  · cases hq
theorem px_fr_last (he : px_ext g f) (hq : px_last (c, s, g) st = some q) : px_fq c s g f q (px_last (c, s, f) st) := by
  unfold px_last at hq
  split at hq
  · split at hq
    · next c0 vs hv =>
      split at hq
      · next hc =>
        obtain rfl := Option.some.inj hq
        refine ⟨_, ?_, px_fx_up he _ _⟩
        unfold px_last
        try dsimp only
        rw [he _ _ hv]
        try dsimp only
        rw [if_pos hc]
        rfl
      · cases hq
    · cases hq
  · cases hq
theorem px_fr_aast (he : px_ext g f) (hq : px_aast (c, s, g) st = some q) : px_fq c s g f q (px_aast (c, s, f) st) := by
  unfold px_aast at hq
  split at hq
  · split at hq
    · next c0 vs d us hv hw =>
      split at hq
      · next hc =>
        obtain rfl := Option.some.inj hq
        refine ⟨_, ?_, px_fx_up he _ _⟩
        unfold px_aast
        try dsimp only
        rw [he _ _ hv, he _ _ hw]
        try dsimp only
        rw [if_pos hc]
        rfl
      · cases hq
    · cases hq
  · cases hq
theorem px_fr_alen (he : px_ext g f) (hq : px_alen (c, s, g) st = some q) : px_fq c s g f q (px_alen (c, s, f) st) := by
  unfold px_alen at hq
  split at hq
  · split at hq
    · next c0 vs hv =>
      split at hq
      · next hc =>
        obtain rfl := Option.some.inj hq
        refine ⟨f, ?_, px_fx_rf he⟩
        unfold px_alen
        try dsimp only
        rw [he _ _ hv]
        try dsimp only
        rw [if_pos hc]
      · cases hq
    · cases hq
  · cases hq
theorem px_fr_newa (he : px_ext g f) {t : Nat} (hq : px_newa t (c, s, g) st = some q) : px_fq c s g f q (px_newa t (c, s, f) st) := by
  unfold px_newa at hq
  split at hq
  · split at hq
    · next ty ht =>
      split at hq
      · next hc =>
        obtain rfl := Option.some.inj hq
        refine ⟨_, ?_, px_fx_up he _ _⟩
        unfold px_newa
        try dsimp only
        rw [ht]
        try dsimp only
        rw [if_pos hc]
        rfl
      · cases hq
    · cases hq
  · cases hq
theorem px_fr_newo (he : px_ext g f) {t : Nat} (hq : px_newo t (c, s, g) st = some q) : px_fq c s g f q (px_newo t (c, s, f) st) := by
  unfold px_newo at hq
  split at hq
  · next r hr =>
    obtain rfl := Option.some.inj hq
    refine ⟨_, ?_, px_fx_up he _ _⟩
    unfold px_newo
    rw [hr]
    rfl
  · cases hq
theorem px_fr_oin (he : px_ext g f) (hq : px_oin (c, s, g) st = some q) : px_fq c s g f q (px_oin (c, s, f) st) := by
  unfold px_oin at hq
  split at hq
  · split at hq
    · next hc =>
      obtain rfl := Option.some.inj hq
      refine ⟨f, ?_, px_fx_rf he⟩
      unfold px_oin
      try dsimp only
      rw [if_pos hc]
    · cases hq
  · cases hq
theorem px_fr_max (he : px_ext g f) (hq : px_max (c, s, g) st = some q) : px_fq c s g f q (px_max (c, s, f) st) := by
  unfold px_max at hq
  split at hq
  · split at hq
    · next hc =>
      obtain rfl := Option.some.inj hq
      refine ⟨f, ?_, px_fx_rf he⟩
      unfold px_max
      try dsimp only
      rw [if_pos hc]
    · cases hq
  · cases hq
theorem px_fr_min (he : px_ext g f) (hq : px_min (c, s, g) st = some q) : px_fq c s g f q (px_min (c, s, f) st) := by
  unfold px_min at hq
  split at hq
  · split at hq
    · next hc =>
      obtain rfl := Option.some.inj hq
      refine ⟨f, ?_, px_fx_rf he⟩
      unfold px_min
      try dsimp only
      rw [if_pos hc]
    · cases hq
  · cases hq
theorem px_fr_acp (he : px_ext g f) (hq : px_acp (c, s, g) st = some q) : px_fq c s g f q (px_acp (c, s, f) st) := by
  unfold px_acp at hq
  split at hq
  · split at hq
    · next c0 vs d us hv hw =>
      split at hq
      · next xs ys hx hy =>
        split at hq
        · next hc =>
          obtain rfl := Option.some.inj hq
          refine ⟨_, ?_, px_fx_up he _ _⟩
          unfold px_acp
          try dsimp only
          rw [he _ _ hv, he _ _ hw]
          try dsimp only
          rw [hx, hy]
          try dsimp only
          rw [if_pos hc]
          rfl
        · cases hq
      · cases hq
    · cases hq
  · cases hq
theorem px_fr_hop (he : px_ext g f) {en : px_E} (hq : px_hop en st (c, s, g) = some q) : px_fq c s g f q (px_hop en st (c, s, f)) := by
  obtain ⟨i, len, x, y, v⟩ := en
  cases i with
  | getfield _ => exact px_fr_getf he hq
  | putfield _ => exact px_fr_putf he hq
  | iaload => exact px_fr_ald he hq
  | laload => exact px_fr_ald he hq
  | caload => exact px_fr_ald he hq
  | saload => exact px_fr_ald he hq
  | baload => exact px_fr_ald he hq
  | aaload => exact px_fr_aald he hq
  | iastore => exact px_fr_ast he hq
  | castore => exact px_fr_ast he hq
  | sastore => exact px_fr_ast he hq
  | bastore => exact px_fr_ast he hq
  | lastore => exact px_fr_last he hq
  | aastore => exact px_fr_aast he hq
  | arraylength => exact px_fr_alen he hq
  | newarray _ => exact px_fr_newa he hq
  | anewarray _ => exact px_fr_newa he hq
  | new _ => exact px_fr_newo he hq
  | ldc _ => obtain rfl := Option.some.inj hq; exact ⟨f, rfl, px_fx_rf he⟩
  | ldc_w _ => obtain rfl := Option.some.inj hq; exact ⟨f, rfl, px_fx_rf he⟩
  | ldc2_w _ => obtain rfl := Option.some.inj hq; exact ⟨f, rfl, px_fx_rf he⟩
  | invokespecial _ => exact px_fr_oin he hq
  | invokestatic _ =>
    have hq : (if y = 11 then px_max (c, s, g) st else if y = 12 then px_min (c, s, g) st else if y = 16 then px_acp (c, s, g) st else none) = some q := hq
    show px_fq c s g f q (if y = 11 then px_max (c, s, f) st else if y = 12 then px_min (c, s, f) st else if y = 16 then px_acp (c, s, f) st else none)
    by_cases h1 : y = 11
    · rw [if_pos h1] at hq ⊢
      exact px_fr_max he hq
    · rw [if_neg h1] at hq ⊢
      by_cases h2 : y = 12
      · rw [if_pos h2] at hq ⊢
        exact px_fr_min he hq
      · rw [if_neg h2] at hq ⊢
        by_cases h3 : y = 16
        · rw [if_pos h3] at hq ⊢
          exact px_fr_acp he hq
        · rw [if_neg h3] at hq
          cases hq
  | getstatic _ =>
    have hq : (if x < 2 then some (v :: st, (c, s, g)) else none) = some q := hq
    show px_fq c s g f q (if x < 2 then some (v :: st, (c, s, f)) else none)
    by_cases h1 : x < 2
    · rw [if_pos h1] at hq ⊢
      obtain rfl := Option.some.inj hq
      exact ⟨f, rfl, px_fx_rf he⟩
    · rw [if_neg h1] at hq
      cases hq
  | _ => exact absurd hq (by simp [px_hop])
theorem px_fr_op (he : px_ext g f) {en : px_E} {pc : Nat} {L : px_L} {w : Nat × px_L × List Value × px_H} (hq : px_op en pc L st (c, s, g) = some w) : ∃ f1, px_op en pc L st (c, s, f) = some (w.1, w.2.1, w.2.2.1, (w.2.2.2.1, w.2.2.2.2.1, f1)) ∧ px_fx g w.2.2.2.2.2 f f1 := by
  unfold px_op at hq ⊢
  cases h1 : px_stk en.1 L st with
  | some st' =>
    rw [h1] at hq
    try dsimp only at hq ⊢
    obtain rfl := Option.some.inj hq
    exact ⟨f, rfl, px_fx_rf he⟩
  | none =>
    rw [h1] at hq
    try dsimp only at hq ⊢
    cases h2 : px_lop en.1 L st with
    | some z =>
      rw [h2] at hq
      try dsimp only at hq ⊢
      obtain rfl := Option.some.inj hq
      exact ⟨f, rfl, px_fx_rf he⟩
    | none =>
      rw [h2] at hq
      try dsimp only at hq ⊢
      cases h3 : px_br en pc st with
      | some z =>
        rw [h3] at hq
        try dsimp only at hq ⊢
        obtain rfl := Option.some.inj hq
        exact ⟨f, rfl, px_fx_rf he⟩
      | none =>
        rw [h3] at hq
        try dsimp only at hq ⊢
        obtain ⟨z, h4, h5⟩ := Option.map_eq_some_iff.mp hq
        subst h5
        obtain ⟨f1, e1, e2⟩ := px_fr_hop he h4
        refine ⟨f1, ?_, e2⟩
        rw [e1]
        rfl
theorem px_fr_cut (he : px_ext g f) {en : px_E} {w : List Value × List Value} (hq : px_cut en st (c, s, g) = some w) : px_cut en st (c, s, f) = some w := by
  unfold px_cut at hq ⊢
  generalize px_nps.getD en.2.2.1 0 + (if en.2.2.2.1 = 2 then 0 else 1) = k at hq ⊢
  split at hq
  · next hc =>
    rw [if_pos]
    · exact hq
    · refine ⟨hc.1, hc.2.1, hc.2.2.1, ?_⟩
      have h4 := hc.2.2.2
      unfold px_rcv at h4 ⊢
      split at h4
      · dsimp only at h4 ⊢
        split at h4
        · split at h4
          · next b x y c0 vs hv =>
            rw [he _ _ hv]
            exact h4
          · cases h4
        · rfl
        · rfl
        · rfl
        · cases h4
      · exact h4
  · cases hq
end FR
theorem px_frame : ∀ (n m pc : Nat) (L : px_L) (st : List Value) (c s : Nat) (g : Nat → Option px_C) (r : px_H × Option Value), px_run n m pc L st (c, s, g) = some r → ∀ f : Nat → Option px_C, px_ext g f → ∃ f1, px_run n m pc L st (c, s, f) = some ((r.1.1, r.1.2.1, f1), r.2) ∧ px_fx g r.1.2.2 f f1 := by
  intro n
  induction n with
  | zero => intro m pc L st c s g r hq; cases hq
  | succ n ih =>
    intro m pc L st c s g r hq f he
    rw [px_run_succ] at hq
    rw [px_run_succ]
    cases hp : px_at m pc with
    | none => rw [hp] at hq; cases hq
    | some e =>
      rw [hp] at hq
      try dsimp only at hq ⊢
      generalize px_kd e = kd at hq ⊢
      match kd, hq with
      | 0, hq =>
        try dsimp only at hq ⊢
        cases ho : px_op e pc L st (c, s, g) with
        | none => rw [ho] at hq; cases hq
        | some w =>
          rw [ho] at hq
          try dsimp only at hq
          obtain ⟨f1, e1, e2⟩ := px_fr_op he ho
          rw [e1]
          try dsimp only
          obtain ⟨f2, e3, e4⟩ := ih _ _ _ _ _ _ _ _ hq f1 e2.1
          exact ⟨f2, e3, px_fx_tr e2 e4⟩
      | 1, hq =>
        try dsimp only at hq ⊢
        cases ho : px_cut e st (c, s, g) with
        | none => rw [ho] at hq; cases hq
        | some w =>
          rw [ho] at hq
          try dsimp only at hq
          rw [px_fr_cut he ho]
          try dsimp only
          cases hr : px_run n e.2.2.1 0 (px_ent e.2.2.1 w.1) [] (c, s, g) with
          | none => rw [hr] at hq; cases hq
          | some r1 =>
            rw [hr] at hq
            try dsimp only at hq
            obtain ⟨f1, e1, e2⟩ := ih _ _ _ _ _ _ _ _ hr f he
            rw [e1]
            try dsimp only
            obtain ⟨f2, e3, e4⟩ := ih _ _ _ _ _ _ _ _ hq f1 e2.1
            exact ⟨f2, e3, px_fx_tr e2 e4⟩
      | k + 2, hq =>
        try dsimp only at hq ⊢
        obtain ⟨v, h1, h2⟩ := Option.map_eq_some_iff.mp hq
        subst h2
        rw [h1]
        exact ⟨f, rfl, px_fx_rf he⟩
