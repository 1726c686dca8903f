theorem getD_set {α : Type} {xs : List α} {k i : Nat} {x d : α} : (xs.set k x).getD i d = if k = i ∧ k < xs.length then x else xs.getD i d := by
  by_cases h : k = i
  · subst h
    by_cases h2 : k < xs.length
    · rw [if_pos ⟨rfl, h2⟩]; exact getD_set_same h2
    · rw [if_neg (fun z => h2 z.2), List.set_eq_of_length_le (by omega)]
  · rw [if_neg (fun z => h z.1)]; exact getD_set_ne h
theorem getD_ap {α : Type} {xs : List α} {i : Nat} {x d : α} : (xs ++ [x]).getD i d = if i = xs.length then x else xs.getD i d := by
  rw [List.getD_eq_getElem?_getD, List.getD_eq_getElem?_getD]
  by_cases h : i < xs.length
  · rw [List.getElem?_append_left h, if_neg (by omega)]
  · rw [List.getElem?_append_right (by omega)]
    by_cases h2 : i = xs.length
    · rw [if_pos h2, h2, Nat.sub_self]; rfl
    · rw [if_neg h2, List.getElem?_eq_none (by simp; omega), List.getElem?_eq_none (by omega)]
/-- outside the room of a step nothing changes -/
def ags (sl sl' : List Int32) (b : Nat) : Prop := sl'.length = sl.length ∧ ∀ i, (i < b ∨ b + 511 ≤ i) → sl'.getD i 0 = sl.getD i 0
theorem ags_rf {sl : List Int32} {b : Nat} : ags sl sl b := ⟨rfl, fun _ _ => rfl⟩
theorem ags_set {sl sl' : List Int32} {b i : Nat} {v : Int32} (q : ags sl sl' b) (h : b ≤ i ∧ i < b + 511) : ags sl (sl'.set i v) b := ⟨by rw [List.length_set]; exact q.1, fun r hr => by rw [getD_set_ne (by omega)]; exact q.2 r hr⟩
/-- rows that came to a step d -/
def dR (sl : List Int32) (b : Nat) (ps : List (Nat × Int32)) : Prop := ps.length ≤ 100 ∧ sl.getD b 0 = nI ps.length ∧ ∀ i, i < ps.length → (ps.getD i (0, 0)).1 < 4 ∧ sl.getD (b + 1 + 2 * i) 0 = nI (ps.getD i (0, 0)).1 ∧ sl.getD (b + 2 + 2 * i) 0 = (ps.getD i (0, 0)).2
def dSet (sl : List Int32) (b n key : Nat) (v : Int32) : List Int32 := ((sl.set (b + 1 + 2 * n) (nI key)).set (b + 2 + 2 * n) v).set b (nI (n + 1))
theorem dR_add {sl : List Int32} {b key : Nat} {v : Int32} {ps : List (Nat × Int32)} (h : dR sl b ps) (hl : b + 511 ≤ sl.length) (hn : ps.length < 100) (hk : key < 4) : dR (dSet sl b ps.length key v) b (ps ++ [(key, v)]) := by
  obtain ⟨h1, h2, h3⟩ := h
  unfold dSet
  refine ⟨by rw [List.length_append, List.length_singleton]; omega, ?_, ?_⟩
  · rw [getD_set_same (by rw [List.length_set, List.length_set]; omega), List.length_append, List.length_singleton]
  · intro i hi
    rw [List.length_append, List.length_singleton] at hi
    by_cases e : i = ps.length
    · subst e
      rw [getD_ap, if_pos rfl]
      refine ⟨hk, ?_, ?_⟩
      · rw [getD_set_ne (by omega), getD_set_ne (by omega), getD_set_same (by omega)]
      · rw [getD_set_ne (by omega), getD_set_same (by rw [List.length_set]; omega)]
    · obtain ⟨a1, a2, a3⟩ := h3 i (by omega)
      rw [getD_ap, if_neg e]
      refine ⟨a1, ?_, ?_⟩
      · rw [getD_set_ne (by omega), getD_set_ne (by omega), getD_set_ne (by omega)]; exact a2
      · rw [getD_set_ne (by omega), getD_set_ne (by omega), getD_set_ne (by omega)]; exact a3
theorem dSet_ags {sl : List Int32} {b n key : Nat} {v : Int32} (hn : n < 100) : ags sl (dSet sl b n key v) b := ags_set (ags_set (ags_set ags_rf (by omega)) (by omega)) (by omega)
abbrev TS := Nat × Nat × Int32
/-- spans of a step w: key, end, count -/
def tR (sl : List Int32) (b : Nat) (ts : List TS) : Prop := ts.length ≤ 100 ∧ sl.getD (b + 206) 0 = nI ts.length ∧ ∀ i, i < ts.length → sl.getD (b + 207 + 3 * i) 0 = nI (ts.getD i (0, 0, 0)).1 ∧ sl.getD (b + 208 + 3 * i) 0 = nI (ts.getD i (0, 0, 0)).2.1 ∧ sl.getD (b + 209 + 3 * i) 0 = (ts.getD i (0, 0, 0)).2.2
def tNew (sl : List Int32) (b n key e : Nat) : List Int32 := ((((sl.set (b + 207 + 3 * n) (nI key)).set (b + 208 + 3 * n) (nI e)).set (b + 209 + 3 * n) (nI 0)).set (b + 206) (nI (n + 1))).set (b + 209 + 3 * n) (nI 1)
theorem tR_new {sl : List Int32} {b key e : Nat} {ts : List TS} (h : tR sl b ts) (hl : b + 511 ≤ sl.length) (hn : ts.length < 100) : tR (tNew sl b ts.length key e) b (ts ++ [(key, e, nI 1)]) := by
  obtain ⟨h1, h2, h3⟩ := h
  unfold tNew
  refine ⟨by rw [List.length_append, List.length_singleton]; omega, ?_, ?_⟩
  · rw [getD_set_ne (by omega), getD_set_same (by simp only [List.length_set]; omega), List.length_append, List.length_singleton]
  · intro i hi
    rw [List.length_append, List.length_singleton] at hi
    by_cases e : i = ts.length
    · subst e
      rw [getD_ap, if_pos rfl]
      refine ⟨?_, ?_, ?_⟩
      · rw [getD_set_ne (by omega), getD_set_ne (by omega), getD_set_ne (by omega), getD_set_ne (by omega), getD_set_same (by omega)]
      · rw [getD_set_ne (by omega), getD_set_ne (by omega), getD_set_ne (by omega), getD_set_same (by simp only [List.length_set]; omega)]
      · rw [getD_set_same (by simp only [List.length_set]; omega)]
    · obtain ⟨a1, a2, a3⟩ := h3 i (by omega)
      rw [getD_ap, if_neg e]
      refine ⟨?_, ?_, ?_⟩
      · rw [getD_set_ne (by omega), getD_set_ne (by omega), getD_set_ne (by omega), getD_set_ne (by omega), getD_set_ne (by omega)]; exact a1
      · rw [getD_set_ne (by omega), getD_set_ne (by omega), getD_set_ne (by omega), getD_set_ne (by omega), getD_set_ne (by omega)]; exact a2
      · rw [getD_set_ne (by omega), getD_set_ne (by omega), getD_set_ne (by omega), getD_set_ne (by omega), getD_set_ne (by omega)]; exact a3
theorem tNew_ags {sl : List Int32} {b n key e : Nat} (hn : n < 100) : ags sl (tNew sl b n key e) b := ags_set (ags_set (ags_set (ags_set (ags_set ags_rf (by omega)) (by omega)) (by omega)) (by omega)) (by omega)
def tInc (ts : List TS) (i : Nat) : List TS := ts.set i ((ts.getD i (0, 0, 0)).1, (ts.getD i (0, 0, 0)).2.1, (ts.getD i (0, 0, 0)).2.2 + nI 1)
theorem tR_inc {sl : List Int32} {b i : Nat} {ts : List TS} (h : tR sl b ts) (hl : b + 511 ≤ sl.length) (hi : i < ts.length) : tR (sl.set (b + 209 + 3 * i) ((ts.getD i (0, 0, 0)).2.2 + nI 1)) b (tInc ts i) := by
  obtain ⟨h1, h2, h3⟩ := h
  unfold tInc
  refine ⟨by rw [List.length_set]; exact h1, ?_, ?_⟩
  · rw [getD_set_ne (by omega), List.length_set]; exact h2
  · intro q hq
    rw [List.length_set] at hq
    obtain ⟨a1, a2, a3⟩ := h3 q hq
    by_cases e : i = q
    · subst e
      rw [getD_set_same hi]
      exact ⟨by rw [getD_set_ne (by omega)]; exact a1, by rw [getD_set_ne (by omega)]; exact a2, by rw [getD_set_same (by omega)]⟩
    · rw [getD_set_ne e]
      exact ⟨by rw [getD_set_ne (by omega)]; exact a1, by rw [getD_set_ne (by omega)]; exact a2, by rw [getD_set_ne (by omega)]; exact a3⟩
/-- the last span goes to the place of the one that is told -/
def tDel (ts : List TS) (i : Nat) : List TS := (ts.set i (ts.getD (ts.length - 1) (0, 0, 0))).take (ts.length - 1)
def tDelS (sl : List Int32) (b i : Nat) (t : TS) (n : Nat) : List Int32 := (((sl.set (b + 206) (nI n)).set (b + 207 + 3 * i) (nI t.1)).set (b + 208 + 3 * i) (nI t.2.1)).set (b + 209 + 3 * i) t.2.2
theorem getD_tk {α : Type} {xs : List α} {i n : Nat} {d : α} (h : i < n) : (xs.take n).getD i d = xs.getD i d := by
  rw [List.getD_eq_getElem?_getD, List.getElem?_take, if_pos h, List.getD_eq_getElem?_getD]
theorem tDel_len {ts : List TS} {i : Nat} : (tDel ts i).length = ts.length - 1 := by
  unfold tDel
  rw [List.length_take, List.length_set]
  omega
theorem tR_del {sl : List Int32} {b i : Nat} {ts : List TS} (h : tR sl b ts) (hl : b + 511 ≤ sl.length) (hi : i < ts.length) : tR (tDelS sl b i (ts.getD (ts.length - 1) (0, 0, 0)) (ts.length - 1)) b (tDel ts i) := by
  obtain ⟨h1, h2, h3⟩ := h
  unfold tDelS
  refine ⟨by rw [tDel_len]; omega, ?_, ?_⟩
  · rw [getD_set_ne (by omega), getD_set_ne (by omega), getD_set_ne (by omega), getD_set_same (by omega), tDel_len]
  · intro q hq
    rw [tDel_len] at hq
    obtain ⟨a1, a2, a3⟩ := h3 q (by omega)
    unfold tDel
    rw [getD_tk hq]
    by_cases e : i = q
    · subst e
      rw [getD_set_same hi]
      refine ⟨?_, ?_, ?_⟩
      · rw [getD_set_ne (by omega), getD_set_ne (by omega), getD_set_same (by simp only [List.length_set]; omega)]
      · rw [getD_set_ne (by omega), getD_set_same (by simp only [List.length_set]; omega)]
      · rw [getD_set_same (by simp only [List.length_set]; omega)]
    · rw [getD_set_ne e]
      refine ⟨?_, ?_, ?_⟩
      · rw [getD_set_ne (by omega), getD_set_ne (by omega), getD_set_ne (by omega), getD_set_ne (by omega)]; exact a1
      · rw [getD_set_ne (by omega), getD_set_ne (by omega), getD_set_ne (by omega), getD_set_ne (by omega)]; exact a2
      · rw [getD_set_ne (by omega), getD_set_ne (by omega), getD_set_ne (by omega), getD_set_ne (by omega)]; exact a3
theorem tDelS_ags {sl : List Int32} {b i n : Nat} {t : TS} (hn : i < 100) : ags sl (tDelS sl b i t n) b := ags_set (ags_set (ags_set (ags_set ags_rf (by omega)) (by omega)) (by omega)) (by omega)
/-- a timer that isn't set is -3 there -/
def tmV (t : Int32) : Int32 := if t = -1 then -3 else t
def fT (t : TS) : Int64 × Int32 := (mkM t.1 (nI t.2.1), t.2.2)
/-- spans in no order against spans in order -/
def spR (ts : List TS) (ms : List Int64) (cs : List Int32) : Prop := (ts.map fT).Perm (ms.zip cs) ∧ cs.length = ms.length ∧ ms.Pairwise (· < ·) ∧ ∀ t ∈ ts, t.1 < 4 ∧ 1 ≤ t.2.1 ∧ t.2.1 ≤ 6000
def stR (sl : List Int32) (b : Nat) (s : St) (m : SM) : Prop := sl.getD (b + 205) 0 = m.1 ∧ (s.1 = 100 → ∃ ps, dR sl b ps ∧ m.2.2.2.1 = ps.map (fun p => mkM p.1 p.2)) ∧ (s.1 = 115 → ∀ q, q < 4 → sl.getD (b + 201 + q) 0 = m.2.1.getD q 0) ∧ (s.1 = 119 → ∃ ts, tR sl b ts ∧ spR ts m.2.2.2.1 m.2.2.2.2) ∧ (s.1 = 116 → ∀ q, q < 4 → sl.getD (b + 507 + q) 0 = tmV (m.2.2.1.getD q 0))
theorem stR_eq {sl sl' : List Int32} {b : Nat} {s : St} {m : SM} (h : stR sl b s m) (e : ∀ i, b ≤ i → i < b + 511 → sl'.getD i 0 = sl.getD i 0) : stR sl' b s m := by
  obtain ⟨h1, h2, h3, h4, h5⟩ := h
  refine ⟨by rw [e _ (by omega) (by omega)]; exact h1, fun z => ?_, fun z q hq => by rw [e _ (by omega) (by omega)]; exact h3 z q hq, fun z => ?_, fun z q hq => by rw [e _ (by omega) (by omega)]; exact h5 z q hq⟩
  · obtain ⟨ps, ⟨a1, a2, a3⟩, a4⟩ := h2 z
    refine ⟨ps, ⟨a1, by rw [e _ (by omega) (by omega)]; exact a2, fun i hi => ?_⟩, a4⟩
    rw [e _ (by omega) (by omega), e _ (by omega) (by omega)]
    exact a3 i hi
  · obtain ⟨ts, ⟨a1, a2, a3⟩, a4⟩ := h4 z
    refine ⟨ts, ⟨a1, by rw [e _ (by omega) (by omega)]; exact a2, fun i hi => ?_⟩, a4⟩
    rw [e _ (by omega) (by omega), e _ (by omega) (by omega), e _ (by omega) (by omega)]
    exact a3 i hi
/-- the state against what the steps know -/
def MSt (sl : List Int32) (j : List St) (sms : List SM) : Prop := ∀ k, k < j.length → stR sl (4 + 511 * k) (j.getD k (0, 0, 0)) (sms.getD k sm0)
theorem MSt_set {sl sl' : List Int32} {j : List St} {sms : List SM} {k : Nat} {m : SM} (h : MSt sl j sms) (hk : k < j.length) (hl : sms.length = j.length) (ha : ags sl sl' (4 + 511 * k)) (hm : stR sl' (4 + 511 * k) (j.getD k (0, 0, 0)) m) : MSt sl' j (sms.set k m) := fun q hq => by
  by_cases e : k = q
  · subst e
    rw [getD_set_same (by omega)]
    exact hm
  · rw [getD_set_ne e]
    exact stR_eq (h q hq) (fun i h1 h2 => ha.2 i (by omega))
theorem MSt_eq {sl sl' : List Int32} {j : List St} {sms : List SM} (h : MSt sl j sms) (e : ∀ i, 4 ≤ i → i < 4 + 511 * j.length → sl'.getD i 0 = sl.getD i 0) : MSt sl' j sms := fun q hq => stR_eq (h q hq) (fun i h1 h2 => e i (by omega) (by omega))
theorem mkM_inj {k k' : Nat} {v v' : Int32} (hk : k < 4) (hk' : k' < 4) (h : mkM k v = mkM k' v') : k = k' ∧ v = v' := by
  have e : ∀ (q : Nat) (u : Int32), q < 4 → (mkM q u).toInt = u.toInt * 4 + q := fun q u hq => by
    unfold mkM
    have h1 := Int32.le_toInt u
    have h2 := Int32.toInt_lt u
    rw [Int64.toInt_add, Int64.toInt_mul, Int32.toInt_toInt64, Int32.toInt_toInt64, nI_toInt (by omega), show (4 : Int64).toInt = 4 by decide]
    rw [show (u.toInt * 4).bmod (2 ^ 64) = u.toInt * 4 from Int.bmod_eq_of_le (by omega) (by omega), Int.bmod_eq_of_le (by omega) (by omega)]
  have h1 := congrArg Int64.toInt h
  rw [e k v hk, e k' v' hk'] at h1
  exact ⟨by omega, Int32.toInt_inj.mp (by omega)⟩
