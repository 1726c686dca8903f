/-- the same but for the tally -/
def eqT (x y : RX) : Prop := x.1 = y.1 ∧ x.2.1 = y.2.1 ∧ x.2.2.1 = y.2.2.1 ∧ x.2.2.2.2 = y.2.2.2.2
def eqS (s u : RS) : Prop := eqT s.1 u.1 ∧ s.2 = u.2
theorem pass_T {j : List St} {key t : Nat} : ∀ (d k : Nat) (v : Int32) (x y : RX), eqT x y → eqT (pass j d k key v t x) (pass j d k key v t y)
  | 0, _, _, _, _, h => h
  | d + 1, k, v, x, y, h => by
    by_cases hl : k < j.length
    · cases hz : isZ (j.getD k (0, 0, 0)) v with
      | true =>
        rw [pass_z hl hz, pass_z hl hz]
        exact ⟨h.1, h.2.1, h.2.2.1, rfl⟩
      | false =>
        rcases hsd : stepDo (j.getD k (0, 0, 0)) (x.2.1.getD k sm0) key v t with ⟨o, m, late⟩
        have hsd2 := hsd
        rw [h.2.1] at hsd2
        cases o with
        | none =>
          rw [pass_no hl hz hsd, pass_no hl hz hsd2]
          exact ⟨by dsimp only; rw [h.1], by dsimp only; rw [h.2.1], h.2.2.1, h.2.2.2⟩
        | some w =>
          rw [pass_on hl hz hsd, pass_on hl hz hsd2]
          exact pass_T d (k + 1) w _ _ ⟨h.1, by dsimp only; rw [h.2.1], h.2.2.1, h.2.2.2⟩
    · rw [pass_out hl, pass_out hl]
      exact ⟨h.1, h.2.1, by dsimp only; rw [h.2.2.1], h.2.2.2⟩
theorem noted_T {k : Nat} {x y : RX} (h : eqT x y) : eqT (noted k x) (noted k y) := h
theorem setS_T {k : Nat} {x y : RX} {m : SM} (h : eqT x y) : eqT (setS x k m) (setS y k m) := ⟨h.1, by unfold setS; dsimp only; rw [h.2.1], h.2.2.1, h.2.2.2⟩
theorem getS_T {x y : RX} (h : eqT x y) (k : Nat) : getS x k = getS y k := by unfold getS; rw [h.2.1]
theorem spanGo_T {j : List St} {k : Nat} {ms : List Int64} {cs : List Int32} : ∀ (d i : Nat) (x y : RX), eqT x y → eqT (spanGo j k ms cs d i x) (spanGo j k ms cs d i y)
  | 0, _, _, _, h => h
  | d + 1, i, x, y, h => by
    rw [spanGo, spanGo, h.2.2.2]
    split
    · exact spanGo_T d (i + 1) _ _ (pass_T _ _ _ _ _ (noted_T h))
    · exact h
theorem endS_T {j : List St} {k w : Nat} {x y : RX} (h : eqT x y) : eqT (endS j k w x) (endS j k w y) := by
  unfold endS
  rw [getS_T h k]
  exact setS_T (spanGo_T _ _ _ _ h)
theorem ringGo_T {j : List St} {k w : Nat} : ∀ (d : Nat) (x y : RX), eqT x y → eqT (ringGo j k w d x) (ringGo j k w d y)
  | 0, _, _, h => h
  | d + 1, x, y, h => by
    rw [ringGo, ringGo, getS_T h k, h.2.2.2]
    split
    · exact h
    · split
      · exact ringGo_T d _ _ (pass_T _ _ _ _ _ (noted_T (setS_T h)))
      · exact h
theorem tellOne_T {j : List St} {k w : Nat} {x y : RX} (h : eqT x y) : eqT (tellOne j k w x) (tellOne j k w y) := by
  unfold tellOne
  split
  · exact endS_T h
  · split
    · exact ringGo_T _ _ _ h
    · exact h
theorem tellGo_T {j : List St} {w : Nat} : ∀ (d k : Nat) (x y : RX), eqT x y → eqT (tellGo j w d k x) (tellGo j w d k y)
  | 0, _, _, _, h => h
  | d + 1, k, x, y, h => by
    rw [tellGo, tellGo, h.2.2.2]
    split
    · have h2 := tellOne_T (j := j) (k := k) (w := w) h
      rw [getS_T h2 k]
      exact tellGo_T d (k + 1) _ _ (setS_T h2)
    · exact h
theorem doEv_T {j : List St} {la lb : Bool} {e : Ev} {s u : RS} (h : eqS s u) : eqS (doEv j la lb e s) (doEv j la lb e u) := by
  unfold doEv
  rw [h.2]
  split
  · exact ⟨pass_T _ _ _ _ _ h.1, rfl⟩
  · split
    · refine ⟨h.1, ?_⟩
      dsimp only
      rw [h.1.2.2.1, h.1.1, h.1.2.1]
    · split
      · split
        · exact ⟨tellGo_T _ _ _ _ h.1, rfl⟩
        · exact ⟨h.1, rfl⟩
      · exact ⟨h.1, rfl⟩
theorem doneS_T {s u : RS} (h : eqS s u) : eqS (doneS s) (doneS u) := ⟨h.1, by unfold doneS; rw [h.2]⟩
theorem backS_T {s u : RS} (h : eqS s u) : eqS (backS s) (backS u) := by
  unfold backS
  rw [h.2]
  exact ⟨⟨rfl, rfl, by dsimp only; rw [h.1.2.2.1], h.1.2.2.2⟩, rfl⟩
theorem redoL_T {j : List St} {la lb : Bool} : ∀ (es : List Ev) (s u : RS), eqS s u → eqS (redoL j la lb es s) (redoL j la lb es u)
  | [], _, _, h => h
  | e :: r, s, u, h => by
    rw [redoL, redoL, h.1.2.2.2]
    split
    · refine redoL_T r _ _ ?_
      split
      · exact h
      · exact doEv_T h
    · exact h
theorem perfL_T {j : List St} {la lb : Bool} : ∀ (es pend : List Ev) (s u : RS), eqS s u → eqS (perfL j la lb es pend s) (perfL j la lb es pend u)
  | [], _, _, _, h => h
  | e :: r, pend, s, u, h => by
    rw [perfL, perfL, h.1.2.2.2]
    split
    · split
      · exact perfL_T r _ _ _ (redoL_T pend _ _ (backS_T (doneS_T h)))
      · exact perfL_T r _ _ _ (doEv_T h)
    · exact h
theorem lastS_T {j : List St} {s u : RS} (h : eqS s u) : eqS (lastS j s) (lastS j u) := by
  unfold lastS
  rw [h.2, h.1.2.2.2]
  split
  · exact ⟨tellGo_T _ _ _ _ h.1, rfl⟩
  · exact h
theorem cutS_T {s u : RS} (h : eqS s u) : eqS (cutS s) (cutS u) := by
  have hg : gvS s = gvS u := by unfold gvS; rw [h.1.2.2.2, h.1.2.2.1, h.2]
  unfold cutS
  rw [hg, h.2]
  exact ⟨⟨h.1.1, h.1.2.1, by dsimp only; rw [h.1.2.2.1], h.1.2.2.2⟩, rfl⟩
theorem runS_T (j : List St) (es : List Ev) (tl ul : List Int32) : eqS (runS j es tl) (runS j es ul) :=
  cutS_T (lastS_T (perfL_T _ _ _ _ ⟨⟨rfl, rfl, rfl, rfl⟩, rfl⟩))
/-- what comes of a run: side, rows out, zero, done -/
abbrev RO := Int32 × List Row × Option Nat × Int32
def outOf (s : RS) : RO := (s.1.1, s.1.2.2.1, s.1.2.2.2.2, s.2.2.2.2)
def tl0 : List Int32 := List.replicate 30 0
def runO (j : List St) (es : List Ev) : RO := outOf (runS j es tl0)
theorem runO_eq (j : List St) (es : List Ev) (tl : List Int32) : outOf (runS j es tl) = runO j es := by
  have h := runS_T j es tl tl0
  unfold runO outOf
  rw [h.1.1, h.1.2.2.1, h.1.2.2.2, h.2]
theorem runO_ok {j : List St} {es : List Ev} (hj : okJ j) (he : ∀ e ∈ es, okEv e) : (∀ r ∈ (runO j es).2.1, rwOk r) ∧ (runO j es).2.1.length ≤ 96 ∧ ∀ q, (runO j es).2.2.1 = some q → q < 6 := by
  have h := runS_ok (tl := tl0) hj he (by decide)
  exact ⟨h.1.2.2.1, h.1.2.2.2.2, h.1.2.2.2.1⟩
