abbrev RS := RX × (Int32 × Int32 × Int32) × Nat × (Int32 × Int32 × Int32 × Int32 × List SM) × Int32
def lesW (la lb : Bool) (A B : Int32) : Int32 := if la = true then (if lb = true then iMin A B else A) else (if lb = true then B else (-1))
def upA (b : Bool) (A t : Int32) : Int32 := if b = true then A else iMax A t
def upB (b : Bool) (B t : Int32) : Int32 := if b = true then iMax B t else B
def okEv (e : Ev) : Prop := (e.1 = 114 ∨ e.1 = 82 ∨ e.1 = 104 ∨ e.1 = 72 ∨ e.1 = 107 ∨ e.1 = 120) ∧ (e.1 = 114 ∨ e.1 = 82 → ∃ k, k < 4 ∧ e.2.1 = nI k) ∧ (e.1 ≠ 107 ∧ e.1 ≠ 120 → ∃ t, t ≤ 999 ∧ e.2.2.2 = nI t)
/-- one event is done -/
def doEv (j : List St) (la lb : Bool) (e : Ev) (s : RS) : RS :=
  if e.1 = 114 ∨ e.1 = 82 then (pass j 7 0 (nN e.2.1) e.2.2.1 (nN e.2.2.2) s.1, s.2.1, s.2.2.1, s.2.2.2.1, s.2.2.2.2 + nI 1)
  else if e.1 = 107 then (s.1, s.2.1, s.1.2.2.1.length, (s.2.1.1, s.2.1.2.1, s.2.1.2.2, s.1.1, s.1.2.1), s.2.2.2.2 + nI 1)
  else if e.1 = 104 ∨ e.1 = 72 then
    (if s.2.1.2.2 < lesW la lb (upA (decide (e.1 = 72)) s.2.1.1 e.2.2.2) (upB (decide (e.1 = 72)) s.2.1.2.1 e.2.2.2) then
      (tellGo j (nN (lesW la lb (upA (decide (e.1 = 72)) s.2.1.1 e.2.2.2) (upB (decide (e.1 = 72)) s.2.1.2.1 e.2.2.2))) 7 0 s.1, (upA (decide (e.1 = 72)) s.2.1.1 e.2.2.2, upB (decide (e.1 = 72)) s.2.1.2.1 e.2.2.2, lesW la lb (upA (decide (e.1 = 72)) s.2.1.1 e.2.2.2) (upB (decide (e.1 = 72)) s.2.1.2.1 e.2.2.2)), s.2.2.1, s.2.2.2.1, s.2.2.2.2 + nI 1)
    else (s.1, (upA (decide (e.1 = 72)) s.2.1.1 e.2.2.2, upB (decide (e.1 = 72)) s.2.1.2.1 e.2.2.2, s.2.1.2.2), s.2.2.1, s.2.2.2.1, s.2.2.2.2 + nI 1))
  else (s.1, s.2.1, s.2.2.1, s.2.2.2.1, s.2.2.2.2 + nI 1)
/-- the mark is brought back -/
def backS (s : RS) : RS := ((s.2.2.2.1.2.2.2.1, s.2.2.2.1.2.2.2.2, s.1.2.2.1.take s.2.2.1, s.1.2.2.2.1, s.1.2.2.2.2), (s.2.2.2.1.1, s.2.2.2.1.2.1, s.2.2.2.1.2.2.1), s.2.2.1, s.2.2.2.1, s.2.2.2.2)
def doneS (s : RS) : RS := (s.1, s.2.1, s.2.2.1, s.2.2.2.1, s.2.2.2.2 + nI 1)
def redoL (j : List St) (la lb : Bool) : List Ev → RS → RS
  | [], s => s
  | e :: r, s => if s.1.2.2.2.2 = none then redoL j la lb r (if e.1 = 120 then s else doEv j la lb e s) else s
def perfL (j : List St) (la lb : Bool) : List Ev → List Ev → RS → RS
  | [], _, s => s
  | e :: r, pend, s => if s.1.2.2.2.2 = none then (if e.1 = 120 then perfL j la lb r (pend ++ [e]) (redoL j la lb pend (backS (doneS s))) else perfL j la lb r (if e.1 = 107 then [] else pend ++ [e]) (doEv j la lb e s)) else s
def lastS (j : List St) (s : RS) : RS := if s.1.2.2.2.2 = none then (tellGo j 5000 7 0 s.1, (s.2.1.1, s.2.1.2.1, nI 5000), s.2.2.1, s.2.2.2.1, s.2.2.2.2) else s
def gvS (s : RS) : Nat := if s.1.2.2.2.2 = none then s.1.2.2.1.length else s.2.2.1
def cutS (s : RS) : RS := ((s.1.1, s.1.2.1, s.1.2.2.1.take (gvS s), s.1.2.2.2.1, s.1.2.2.2.2), s.2.1, gvS s, s.2.2.2.1, s.2.2.2.2)
def s0 (j : List St) (tl : List Int32) : RS := ((nI 0, List.replicate j.length sm0, [], tl, none), (-1, -1, -1), 0, (-1, -1, -1, nI 0, List.replicate j.length sm0), nI 0)
def lks (b : Bool) (es : List Ev) : Bool := es.any (fun e => evOf e.1 b)
def runS (j : List St) (es : List Ev) (tl : List Int32) : RS := cutS (lastS j (perfL j (lks false es) (lks true es) es [] (s0 j tl)))
def evs (ev : List Ev) (ps : List Nat) : List Ev := ps.map (fun p => ev.getD p (0, 0, 0, 0))
theorem evs_len (ev : List Ev) (ps : List Nat) : (evs ev ps).length = ps.length := List.length_map _
theorem evs_get {ev : List Ev} {ps : List Nat} {i : Nat} (h : i < ps.length) : (evs ev ps).getD i (0, 0, 0, 0) = ev.getD (ps.getD i 0) (0, 0, 0, 0) := by
  unfold evs
  rw [List.getD_eq_getElem?_getD, List.getElem?_map, List.getElem?_eq_getElem h, getD_lt 0 h]
  rfl
def okW (x : Int32) : Prop := x = -1 ∨ ∃ n, n ≤ 5000 ∧ x = nI n
theorem okW_m1 : okW (-1) := Or.inl rfl
theorem okW_N {n : Nat} (h : n ≤ 5000) : okW (nI n) := Or.inr ⟨n, h, rfl⟩
theorem okW_max {x y : Int32} (hx : okW x) (hy : okW y) : okW (iMax x y) := by unfold iMax; split <;> assumption
theorem okW_min {x y : Int32} (hx : okW x) (hy : okW y) : okW (iMin x y) := by unfold iMin; split <;> assumption
theorem okW_upA {b : Bool} {x y : Int32} (hx : okW x) (hy : okW y) : okW (upA b x y) := by unfold upA; split <;> first | exact hx | exact okW_max hx hy
theorem okW_upB {b : Bool} {x y : Int32} (hx : okW x) (hy : okW y) : okW (upB b x y) := by unfold upB; split <;> first | exact hx | exact okW_max hx hy
theorem okW_les {a b : Bool} {x y : Int32} (hx : okW x) (hy : okW y) : okW (lesW a b x y) := by
  unfold lesW
  split
  · split
    · exact okW_min hx hy
    · exact hx
  · split
    · exact hy
    · exact okW_m1
theorem okW_gt {x y : Int32} (hx : okW x) (hy : okW y) (h : x < y) : ∃ n, n ≤ 5000 ∧ y = nI n := by
  rcases hy with e | e
  · exfalso
    have h1 := Int32.lt_iff_toInt_lt.mp h
    rw [e, show (-1 : Int32).toInt = -1 by decide] at h1
    rcases hx with e2 | ⟨n, hn, e2⟩
    · rw [e2, show (-1 : Int32).toInt = -1 by decide] at h1
      omega
    · rw [e2, nI_toInt (by omega)] at h1
      omega
  · exact e
def okR (j : List St) (s : RS) : Prop := okX j s.1 ∧ (okW s.2.1.1 ∧ okW s.2.1.2.1 ∧ okW s.2.1.2.2) ∧ s.2.2.1 ≤ 96 ∧ (okW s.2.2.2.1.1 ∧ okW s.2.2.2.1.2.1 ∧ okW s.2.2.2.1.2.2.1) ∧ okM j s.2.2.2.1.2.2.2.2
theorem doEv_r {j : List St} {la lb : Bool} {e : Ev} {s : RS} {k t : Nat} (h : e.1 = 114 ∨ e.1 = 82) (hk : e.2.1 = nI k) (k4 : k < 4) (ht : e.2.2.2 = nI t) (t9 : t ≤ 999) : doEv j la lb e s = (pass j 7 0 k e.2.2.1 t s.1, s.2.1, s.2.2.1, s.2.2.2.1, s.2.2.2.2 + nI 1) := by
  unfold doEv
  rw [if_pos h, hk, ht, nN_nI (by omega), nN_nI (by omega)]
theorem doEv_k {j : List St} {la lb : Bool} {e : Ev} {s : RS} (h : e.1 = 107) : doEv j la lb e s = (s.1, s.2.1, s.1.2.2.1.length, (s.2.1.1, s.2.1.2.1, s.2.1.2.2, s.1.1, s.1.2.1), s.2.2.2.2 + nI 1) := by
  unfold doEv
  rw [if_neg (by omega), if_pos h]
theorem doEv_h0 {j : List St} {la lb b : Bool} {e : Ev} {s : RS} (h : e.1 = 104 ∨ e.1 = 72) (hb : decide (e.1 = 72) = b) (hw : lesW la lb (upA b s.2.1.1 e.2.2.2) (upB b s.2.1.2.1 e.2.2.2) ≤ s.2.1.2.2) : doEv j la lb e s = (s.1, (upA b s.2.1.1 e.2.2.2, upB b s.2.1.2.1 e.2.2.2, s.2.1.2.2), s.2.2.1, s.2.2.2.1, s.2.2.2.2 + nI 1) := by
  unfold doEv
  rw [if_neg (by omega), if_neg (by omega), if_pos h, hb, if_neg (Int32.not_lt.mpr hw)]
theorem doEv_h1 {j : List St} {la lb b : Bool} {e : Ev} {s : RS} {n : Nat} (h : e.1 = 104 ∨ e.1 = 72) (hb : decide (e.1 = 72) = b) (hw : s.2.1.2.2 < lesW la lb (upA b s.2.1.1 e.2.2.2) (upB b s.2.1.2.1 e.2.2.2)) (hn : lesW la lb (upA b s.2.1.1 e.2.2.2) (upB b s.2.1.2.1 e.2.2.2) = nI n) (n5 : n ≤ 5000) : doEv j la lb e s = (tellGo j n 7 0 s.1, (upA b s.2.1.1 e.2.2.2, upB b s.2.1.2.1 e.2.2.2, nI n), s.2.2.1, s.2.2.2.1, s.2.2.2.2 + nI 1) := by
  unfold doEv
  rw [if_neg (by omega), if_neg (by omega), if_pos h, hb, if_pos hw, hn, nN_nI (by omega)]
theorem doEv_x {j : List St} {la lb : Bool} {e : Ev} {s : RS} (h : e.1 = 120) : doEv j la lb e s = doneS s := by
  unfold doEv
  rw [if_neg (by omega), if_neg (by omega), if_neg (by omega)]
  rfl
theorem doEv_ok {j : List St} {la lb : Bool} {e : Ev} {s : RS} (hj : okJ j) (he : okEv e) (h : okR j s) : okR j (doEv j la lb e s) := by
  by_cases c1 : e.1 = 114 ∨ e.1 = 82
  · obtain ⟨k, k4, hk⟩ := he.2.1 c1
    obtain ⟨t, t9, ht⟩ := he.2.2 (by omega)
    rw [doEv_r c1 hk k4 ht t9]
    exact ⟨pass_ok hj k4 (by omega) _ _ _ _ h.1, h.2⟩
  by_cases c2 : e.1 = 107
  · rw [doEv_k c2]
    exact ⟨h.1, h.2.1, h.1.2.2.2.2, h.2.1, h.1.1⟩
  by_cases c3 : e.1 = 104 ∨ e.1 = 72
  · obtain ⟨t, t9, ht⟩ := he.2.2 (by omega)
    have hA := okW_upA (b := decide (e.1 = 72)) h.2.1.1 (show okW e.2.2.2 by rw [ht]; exact okW_N (by omega))
    have hB := okW_upB (b := decide (e.1 = 72)) h.2.1.2.1 (show okW e.2.2.2 by rw [ht]; exact okW_N (by omega))
    by_cases c4 : s.2.1.2.2 < lesW la lb (upA (decide (e.1 = 72)) s.2.1.1 e.2.2.2) (upB (decide (e.1 = 72)) s.2.1.2.1 e.2.2.2)
    · obtain ⟨n, n5, hn⟩ := okW_gt h.2.1.2.2 (okW_les hA hB) c4
      rw [doEv_h1 c3 rfl c4 hn n5]
      exact ⟨tellGo_ok hj n5 _ _ _ h.1, ⟨hA, hB, okW_N n5⟩, h.2.2⟩
    · rw [doEv_h0 c3 rfl (Int32.not_lt.mp c4)]
      exact ⟨h.1, ⟨hA, hB, h.2.1.2.2⟩, h.2.2⟩
  · rw [doEv_x (by have := he.1; omega)]
    exact h
theorem take_ok {rs : List Row} {n : Nat} (h : ∀ r ∈ rs, rwOk r) : ∀ r ∈ rs.take n, rwOk r := fun r hr => h r (List.mem_of_mem_take hr)
theorem backS_ok {j : List St} {s : RS} (h : okR j s) : okR j (backS s) := ⟨⟨h.2.2.2.2, h.1.2.1, take_ok h.1.2.2.1, h.1.2.2.2.1, Nat.le_trans (List.length_take_le' _ _) h.1.2.2.2.2⟩, h.2.2.2.1, h.2.2.1, h.2.2.2.1, h.2.2.2.2⟩
theorem doneS_ok {j : List St} {s : RS} (h : okR j s) : okR j (doneS s) := h
theorem redoL_ok {j : List St} {la lb : Bool} (hj : okJ j) : ∀ (es : List Ev) (s : RS), (∀ e ∈ es, okEv e) → okR j s → okR j (redoL j la lb es s)
  | [], _, _, h => h
  | e :: r, s, he, h => by
    rw [redoL]
    split
    · refine redoL_ok hj r _ (fun x hx => he x (List.mem_cons_of_mem _ hx)) ?_
      split
      · exact h
      · exact doEv_ok hj (he e List.mem_cons_self) h
    · exact h
theorem perfL_ok {j : List St} {la lb : Bool} (hj : okJ j) : ∀ (es pend : List Ev) (s : RS), (∀ e ∈ es, okEv e) → (∀ e ∈ pend, okEv e) → okR j s → okR j (perfL j la lb es pend s)
  | [], _, _, _, _, h => h
  | e :: r, pend, s, he, hp, h => by
    have h1 := he e List.mem_cons_self
    have h2 : ∀ x ∈ r, okEv x := fun x hx => he x (List.mem_cons_of_mem _ hx)
    have h3 : ∀ x ∈ pend ++ [e], okEv x := fun x hx => by
      rw [List.mem_append, List.mem_singleton] at hx
      rcases hx with z | z
      · exact hp x z
      · rw [z]; exact h1
    rw [perfL]
    split
    · split
      · exact perfL_ok hj r _ _ h2 h3 (redoL_ok hj pend _ hp (backS_ok (doneS_ok h)))
      · refine perfL_ok hj r _ _ h2 ?_ (doEv_ok hj h1 h)
        split
        · exact fun x hx => absurd hx (by simp)
        · exact h3
    · exact h
theorem rep_ok {j : List St} : okM j (List.replicate j.length sm0) := by
  refine ⟨List.length_replicate, fun k hk => ?_⟩
  rw [show (List.replicate j.length sm0).getD k sm0 = sm0 by rw [List.getD_eq_getElem?_getD, List.getElem?_replicate, if_pos hk]; rfl]
  refine ⟨rfl, rfl, fun _ => ⟨rfl, fun x hx => absurd hx (by simp [sm0])⟩, fun _ => rfl, fun _ q hq => Or.inl ?_⟩
  match q, hq with
  | 0, _ => rfl
  | 1, _ => rfl
  | 2, _ => rfl
  | 3, _ => rfl
theorem s0_ok {j : List St} {tl : List Int32} (h : tl.length = 30) : okR j (s0 j tl) := ⟨⟨rep_ok, h, fun r hr => absurd hr (by simp [s0]), fun q hq => (nomatch hq), Nat.zero_le _⟩, ⟨okW_m1, okW_m1, okW_m1⟩, Nat.zero_le _, ⟨okW_m1, okW_m1, okW_m1⟩, rep_ok⟩
theorem lastS_ok {j : List St} {s : RS} (hj : okJ j) (h : okR j s) : okR j (lastS j s) := by
  unfold lastS
  split
  · exact ⟨tellGo_ok hj (by omega) _ _ _ h.1, ⟨h.2.1.1, h.2.1.2.1, okW_N (by omega)⟩, h.2.2⟩
  · exact h
theorem cutS_ok {j : List St} {s : RS} (h : okR j s) : okR j (cutS s) := by
  refine ⟨⟨h.1.1, h.1.2.1, take_ok h.1.2.2.1, h.1.2.2.2.1, Nat.le_trans (List.length_take_le' _ _) h.1.2.2.2.2⟩, h.2.1, ?_, h.2.2.2⟩
  show gvS s ≤ 96
  unfold gvS
  split
  · exact h.1.2.2.2.2
  · exact h.2.2.1
theorem runS_ok {j : List St} {es : List Ev} {tl : List Int32} (hj : okJ j) (he : ∀ e ∈ es, okEv e) (h : tl.length = 30) : okR j (runS j es tl) :=
  cutS_ok (lastS_ok hj (perfL_ok hj es [] _ he (fun x hx => absurd hx (by simp)) (s0_ok h)))
theorem okM_c {j : List St} {sms : List SM} (h : okM j sms) : ∀ k, k < sms.length → (sms.getD k sm0).2.2.2.2.length ≤ (sms.getD k sm0).2.2.2.1.length := fun k hk => by
  have h1 := h.2 k (by rw [← h.1]; exact hk)
  by_cases c : (j.getD k (0, 0, 0)).1 = 119
  · exact Nat.le_of_eq (h1.2.2.1 c).1
  · rw [h1.2.2.2.1 c]; exact Nat.zero_le _

set_option maxRecDepth 20000 in
set_option maxHeartbeats 4000000 in
theorem cc_Run_back {h : px_H} {j : List St} {jb : Nat} {la lb : Bool} {wo : Int32} {s : RS} (H0 : h.2.2 177 = some (6, [.ref (jb), .ref (182), .ref (214), .ref (246), .int (nI s.2.2.1), .int (bI la), .int (bI lb), .int (oI s.1.2.2.2.2), .int (s.2.2.2.2), .int (wo), .ref (248)])) (H1 : h.2.2 182 = some (2, [.int (s.2.1.1), .int (s.2.1.2.1), .int (s.2.1.2.2), .int (s.1.1), .ref (183)])) (H2 : px_rs h 183 55 6 (fun k => 182 + 5 * k + 2)) (H3 : pSt h 182 s.1.2.1) (H4 : pRows h 246 96 s.1.2.2.1) (H5 : px_pa h 248 50 30 Value.int s.1.2.2.2.1) (H6 : pMm h 214 s.2.2.2.1.1 s.2.2.2.1.2.1 s.2.2.2.1.2.2.1 s.2.2.2.1.2.2.2.1 s.2.2.2.1.2.2.2.2) (H7 : pJob h jb j) (p0 : okJ j) (p1 : okR j s) (p2 : jb + 4 ≤ 177 ∨ 249 ≤ jb) : px_wp 50 [.ref (177)] h (fun h1 r => r = none ∧ h1.2.2 177 = some (6, [.ref (jb), .ref (182), .ref (214), .ref (246), .int (nI ((backS s).2.2.1)), .int (bI la), .int (bI lb), .int (oI ((backS s).1.2.2.2.2)), .int ((backS s).2.2.2.2), .int (wo), .ref (248)]) ∧ h1.2.2 182 = some (2, [.int ((backS s).2.1.1), .int ((backS s).2.1.2.1), .int ((backS s).2.1.2.2), .int ((backS s).1.1), .ref (183)]) ∧ px_rs h1 183 55 6 (fun k => 182 + 5 * k + 2) ∧ pSt h1 182 ((backS s).1.2.1) ∧ pRows h1 246 96 ((backS s).1.2.2.1) ∧ px_pa h1 248 50 30 Value.int ((backS s).1.2.2.2.1) ∧ pMm h1 214 ((backS s).2.2.2.1.1) ((backS s).2.2.2.1.2.1) ((backS s).2.2.2.1.2.2.1) ((backS s).2.2.2.1.2.2.2.1) ((backS s).2.2.2.1.2.2.2.2) ∧ px_fi 177 72 h h1) := by
  have fr0 : px_fi 177 72 h h := fi_rf _ _ _
  have lj := p0.1
  show px_to 50 0 [some (.ref (177))] [] h _
  refine e_aload_n f_50_0 rfl rfl ?_
  refine e_getf f_50_1 H0 rfl rfl ?_
  refine e_aload_n f_50_4 rfl rfl ?_
  refine e_getf f_50_5 H0 rfl rfl ?_
  refine e_aload_n f_50_8 rfl rfl ?_
  refine e_getf f_50_9 H0 rfl rfl ?_
  refine e_getf f_50_12 H7.1 rfl rfl ?_
  have g1 : h.2.2 214 = some (2, [.int (s.2.2.2.1.1), .int (s.2.2.2.1.2.1), .int (s.2.2.2.1.2.2.1), .int (s.2.2.2.1.2.2.2.1), .ref (215)]) := H6.1
  have g2 : px_rs h 215 55 6 (fun k => 214 + 5 * k + 2) := H6.2.1
  have g3 : pSt h 214 s.2.2.2.1.2.2.2.2 := H6.2.2
  refine e_callV (As := [.ref (214), .int (nI j.length)]) (rest := []) f_50_15 rfl rfl rfl (Nat.le_of_ble_eq_true rfl) (Nat.le_of_ble_eq_true rfl) H1 rfl (Nat.le_of_ble_eq_true rfl) (cc_Mem_copy (n := j.length) (M := 182) (A := s.2.1.1) (B := s.2.1.2.1) (W := s.2.1.2.2) (S := s.1.1) (sms := s.1.2.1) (M2 := 214) (A2 := s.2.2.2.1.1) (B2 := s.2.2.2.1.2.1) (W2 := s.2.2.2.1.2.2.1) (S2 := s.2.2.2.1.2.2.2.1) (sm2 := s.2.2.2.1.2.2.2.2) H1 H2 H3 g1 g2 g3 (by omega) (by omega) (by omega) (p1.2.2.2.2.1) (okM_c p1.2.2.2.2)) rfl (fun h4 r5 q6 => ?_)
  obtain ⟨rfl, g7, g8, g9, fx10⟩ := q6
  have fr11 : px_fi 177 72 h h4 := fi_tr fr0 fx10 (by omega)
  show px_to 50 18 [some (.ref (177))] [] h4 _
  refine e_aload_n f_50_18 rfl rfl ?_
  have g12 : h4.2.2 177 = some (6, [.ref (jb), .ref (182), .ref (214), .ref (246), .int (nI s.2.2.1), .int (bI la), .int (bI lb), .int (oI s.1.2.2.2.2), .int (s.2.2.2.2), .int (wo), .ref (248)]) := fi_at H0 fx10 (by omega)
  refine e_getf f_50_19 g12 rfl rfl ?_
  refine e_aload_n f_50_22 rfl rfl ?_
  refine e_getf f_50_23 g12 rfl rfl ?_
  have g13 : pRows h4 246 96 s.1.2.2.1 := pRows_fi H4 fx10 (by omega)
  refine e_callV (As := [.int (nI s.2.2.1)]) (rest := []) f_50_26 rfl rfl rfl (Nat.le_of_ble_eq_true rfl) (Nat.le_of_ble_eq_true rfl) g13.1 rfl (Nat.le_of_ble_eq_true rfl) (cc_Rows_cutTo (a := 246) (cap := 96) (k := s.2.2.1) (rs := s.1.2.2.1) g13 (by have := p1.2.2.1; omega)) rfl (fun h14 r15 q16 => ?_)
  obtain ⟨rfl, g17, fx18⟩ := q16
  have fr19 : px_fi 177 72 h h14 := fi_tr fr11 fx18 (by omega)
  show px_to 50 29 [some (.ref (177))] [] h14 _
  refine e_vret f_50_29 rfl ?_
  have g20 : h4.2.2 214 = some (2, [.int (s.2.2.2.1.1), .int (s.2.2.2.1.2.1), .int (s.2.2.2.1.2.2.1), .int (s.2.2.2.1.2.2.2.1), .ref (215)]) := fi_at g1 fx10 (by omega)
  have g21 : h14.2.2 214 = some (2, [.int (s.2.2.2.1.1), .int (s.2.2.2.1.2.1), .int (s.2.2.2.1.2.2.1), .int (s.2.2.2.1.2.2.2.1), .ref (215)]) := fi_at g20 fx18 (by omega)
  have g22 : px_rs h4 215 55 6 (fun k => 214 + 5 * k + 2) := rs_fi g2 fx10 (by omega)
  have g23 : px_rs h14 215 55 6 (fun k => 214 + 5 * k + 2) := rs_fi g22 fx18 (by omega)
  have g24 : pSt h4 214 s.2.2.2.1.2.2.2.2 := pSt_fi g3 fx10 (by omega)
  have g25 : pSt h14 214 s.2.2.2.1.2.2.2.2 := pSt_fi g24 fx18 (by omega)
  have g26 : pMm h14 214 s.2.2.2.1.1 s.2.2.2.1.2.1 s.2.2.2.1.2.2.1 s.2.2.2.1.2.2.2.1 s.2.2.2.1.2.2.2.2 := ⟨g21, g23, g25⟩
  have g27 : h14.2.2 177 = some (6, [.ref (jb), .ref (182), .ref (214), .ref (246), .int (nI s.2.2.1), .int (bI la), .int (bI lb), .int (oI s.1.2.2.2.2), .int (s.2.2.2.2), .int (wo), .ref (248)]) := fi_at g12 fx18 (by omega)
  have g28 : h14.2.2 182 = some (2, [.int (s.2.2.2.1.1), .int (s.2.2.2.1.2.1), .int (s.2.2.2.1.2.2.1), .int (s.2.2.2.1.2.2.2.1), .ref (183)]) := fi_at g7 fx18 (by omega)
  have g29 : px_rs h14 183 55 6 (fun k => 182 + 5 * k + 2) := rs_fi g8 fx18 (by omega)
  have g30 : pSt h14 182 s.2.2.2.1.2.2.2.2 := pSt_fi g9 fx18 (by omega)
  have g31 : px_pa h4 248 50 30 Value.int s.1.2.2.2.1 := pa_fi H5 fx10 (by omega)
  have g32 : px_pa h14 248 50 30 Value.int s.1.2.2.2.1 := pa_fi g31 fx18 (by omega)
  exact ⟨rfl, g27, g28, g29, g30, g17, g32, g26, fr19⟩

set_option maxRecDepth 20000 in
set_option maxHeartbeats 4000000 in
theorem cc_Run_doEv {h : px_H} {p : Nat} {j : List St} {jb : Nat} {la lb : Bool} {wo : Int32} {s : RS} {a : Nat} {ev : List Ev} {told : List Row} {os : Nat} {ks : Int32} {kept : List Nat} {ck : Nat} {un : List Nat} (H0 : h.2.2 177 = some (6, [.ref (jb), .ref (182), .ref (214), .ref (246), .int (nI s.2.2.1), .int (bI la), .int (bI lb), .int (oI s.1.2.2.2.2), .int (s.2.2.2.2), .int (wo), .ref (248)])) (H1 : h.2.2 182 = some (2, [.int (s.2.1.1), .int (s.2.1.2.1), .int (s.2.1.2.2), .int (s.1.1), .ref (183)])) (H2 : px_rs h 183 55 6 (fun k => 182 + 5 * k + 2)) (H3 : pSt h 182 s.1.2.1) (H4 : pRows h 246 96 s.1.2.2.1) (H5 : px_pa h 248 50 30 Value.int s.1.2.2.2.1) (H6 : pMm h 214 s.2.2.2.1.1 s.2.2.2.1.2.1 s.2.2.2.1.2.2.1 s.2.2.2.1.2.2.2.1 s.2.2.2.1.2.2.2.2) (H7 : pJob h jb j) (H8 : pCase h a ev told os ks kept ck un) (p0 : okJ j) (p1 : okR j s) (p2 : jb + 4 ≤ 177 ∨ 249 ≤ jb) (p3 : a + 9 ≤ 177 ∨ 249 ≤ a) (p4 : p < ev.length) (p5 : okEv (ev.getD p (0, 0, 0, 0))) (p6 : s.1.2.2.2.2 = none) : px_wp 51 [.ref (177), .ref (a), .int (nI p)] h (fun h1 r => r = none ∧ h1.2.2 177 = some (6, [.ref (jb), .ref (182), .ref (214), .ref (246), .int (nI ((doEv j la lb (ev.getD p (0, 0, 0, 0)) s).2.2.1)), .int (bI la), .int (bI lb), .int (oI ((doEv j la lb (ev.getD p (0, 0, 0, 0)) s).1.2.2.2.2)), .int ((doEv j la lb (ev.getD p (0, 0, 0, 0)) s).2.2.2.2), .int (wo), .ref (248)]) ∧ h1.2.2 182 = some (2, [.int ((doEv j la lb (ev.getD p (0, 0, 0, 0)) s).2.1.1), .int ((doEv j la lb (ev.getD p (0, 0, 0, 0)) s).2.1.2.1), .int ((doEv j la lb (ev.getD p (0, 0, 0, 0)) s).2.1.2.2), .int ((doEv j la lb (ev.getD p (0, 0, 0, 0)) s).1.1), .ref (183)]) ∧ px_rs h1 183 55 6 (fun k => 182 + 5 * k + 2) ∧ pSt h1 182 ((doEv j la lb (ev.getD p (0, 0, 0, 0)) s).1.2.1) ∧ pRows h1 246 96 ((doEv j la lb (ev.getD p (0, 0, 0, 0)) s).1.2.2.1) ∧ px_pa h1 248 50 30 Value.int ((doEv j la lb (ev.getD p (0, 0, 0, 0)) s).1.2.2.2.1) ∧ pMm h1 214 ((doEv j la lb (ev.getD p (0, 0, 0, 0)) s).2.2.2.1.1) ((doEv j la lb (ev.getD p (0, 0, 0, 0)) s).2.2.2.1.2.1) ((doEv j la lb (ev.getD p (0, 0, 0, 0)) s).2.2.2.1.2.2.1) ((doEv j la lb (ev.getD p (0, 0, 0, 0)) s).2.2.2.1.2.2.2.1) ((doEv j la lb (ev.getD p (0, 0, 0, 0)) s).2.2.2.1.2.2.2.2) ∧ px_fi 177 72 h h1) := by
  have fr0 : px_fi 177 72 h h := fi_rf _ _ _
  have lj := p0.1
  have hsg := p5.1
  show px_to 51 0 [some (.ref (177)), some (.ref (a)), some (.int (nI p)), none, none] [] h _
  refine e_aload_n f_51_0 rfl rfl ?_
  refine e_dup f_51_1 rfl rfl ?_
  refine e_getf f_51_2 H0 rfl rfl ?_
  refine e_iconst (v := nI 1) f_51_5 (by decide) rfl ?_
  refine e_iadd (z := s.2.2.2.2 + (nI 1)) f_51_6 rfl rfl ?_
  refine e_putp (vs' := [.ref (jb), .ref (182), .ref (214), .ref (246), .int (nI s.2.2.1), .int (bI la), .int (bI lb), .int (oI s.1.2.2.2.2), .int (s.2.2.2.2 + (nI 1)), .int (wo), .ref (248)]) f_51_7 H0 (Nat.le_of_ble_eq_true rfl) (rfl) (rfl) rfl rfl (fun h1 g2 fx3 => ?_)
  have fr4 : px_fi 177 72 h h1 := fi_tr fr0 fx3 (by omega)
  refine e_aload_n f_51_10 rfl rfl ?_
  have g5 : pCase h1 a ev told os ks kept ck un := pCase_fi H8 fr4 (by omega)
  refine e_getf f_51_11 g5.1 rfl rfl ?_
  refine e_iload_n f_51_14 rfl rfl ?_
  refine e_iaload_p (xs := ev) f_51_15 g5.2.1 (d := (0, 0, 0, 0)) (by first | omega | (simp only [List.length_set]; omega)) rfl ?_
  show px_to 51 16 [some (.ref (177)), some (.ref (a)), some (.int (nI p)), none, none] [.int (nI ((ev.getD p (0, 0, 0, 0)).1))] h1 _
  refine e_istore_n (L' := [some (.ref (177)), some (.ref (a)), some (.int (nI p)), some (.int (nI ((ev.getD p (0, 0, 0, 0)).1))), none]) f_51_16 (Nat.le_of_ble_eq_true rfl) rfl rfl ?_
  refine e_iload_n f_51_17 rfl rfl ?_
  refine e_bipush (v := nI 114) f_51_18 (by decide) rfl ?_
  refine e_icmp_eq f_51_20 rfl (fun c_20 => ?_) (fun c_20 => ?_)
  · skip
    have c_20 : (ev.getD p (0, 0, 0, 0)).1 = 114 := cv_eq (by omega) (by omega) c_20
    refine e_aload_n f_51_29 rfl rfl ?_
    refine e_iconst (v := nI 0) f_51_30 (by decide) rfl ?_
    refine e_aload_n f_51_31 rfl rfl ?_
    refine e_getf f_51_32 g5.1 rfl rfl ?_
    refine e_iload_n f_51_35 rfl rfl ?_
    refine e_iaload_p (xs := ev) f_51_36 g5.2.2.1 (d := (0, 0, 0, 0)) (by first | omega | (simp only [List.length_set]; omega)) rfl ?_
    show px_to 51 37 [some (.ref (177)), some (.ref (a)), some (.int (nI p)), some (.int (nI ((ev.getD p (0, 0, 0, 0)).1))), none] [.int ((ev.getD p (0, 0, 0, 0)).2.1), .int (nI 0), .ref (177)] h1 _
    refine e_aload_n f_51_37 rfl rfl ?_
    refine e_getf f_51_38 g5.1 rfl rfl ?_
    refine e_iload_n f_51_41 rfl rfl ?_
    refine e_iaload_p (xs := ev) f_51_42 g5.2.2.2.1 (d := (0, 0, 0, 0)) (by first | omega | (simp only [List.length_set]; omega)) rfl ?_
    show px_to 51 43 [some (.ref (177)), some (.ref (a)), some (.int (nI p)), some (.int (nI ((ev.getD p (0, 0, 0, 0)).1))), none] [.int ((ev.getD p (0, 0, 0, 0)).2.2.1), .int ((ev.getD p (0, 0, 0, 0)).2.1), .int (nI 0), .ref (177)] h1 _
    refine e_aload_n f_51_43 rfl rfl ?_
    refine e_getf f_51_44 g5.1 rfl rfl ?_
    refine e_iload_n f_51_47 rfl rfl ?_
    refine e_iaload_p (xs := ev) f_51_48 g5.2.2.2.2.1 (d := (0, 0, 0, 0)) (by first | omega | (simp only [List.length_set]; omega)) rfl ?_
    show px_to 51 49 [some (.ref (177)), some (.ref (a)), some (.int (nI p)), some (.int (nI ((ev.getD p (0, 0, 0, 0)).1))), none] [.int ((ev.getD p (0, 0, 0, 0)).2.2.2), .int ((ev.getD p (0, 0, 0, 0)).2.2.1), .int ((ev.getD p (0, 0, 0, 0)).2.1), .int (nI 0), .ref (177)] h1 _
    have hrR : (ev.getD p (0, 0, 0, 0)).1 = 114 ∨ (ev.getD p (0, 0, 0, 0)).1 = 82 := by omega
    obtain ⟨kk, hk4, hke⟩ := p5.2.1 hrR
    obtain ⟨tt, ht9, hte⟩ := p5.2.2 (by omega)
    rw [hke, hte]
    have g6 : h1.2.2 182 = some (2, [.int (s.2.1.1), .int (s.2.1.2.1), .int (s.2.1.2.2), .int (s.1.1), .ref (183)]) := fi_at H1 fx3 (by omega)
    have g7 : px_rs h1 183 55 6 (fun k => 182 + 5 * k + 2) := rs_fi H2 fx3 (by omega)
    have g8 : pSt h1 182 s.1.2.1 := pSt_fi H3 fx3 (by omega)
    have g9 : pRows h1 246 96 s.1.2.2.1 := pRows_fi H4 fx3 (by omega)
    have g10 : px_pa h1 248 50 30 Value.int s.1.2.2.2.1 := pa_fi H5 fx3 (by omega)
    have g11 : pMm h1 214 s.2.2.2.1.1 s.2.2.2.1.2.1 s.2.2.2.1.2.2.1 s.2.2.2.1.2.2.2.1 s.2.2.2.1.2.2.2.2 := pMm_fi H6 fx3 (by omega)
    have g12 : pJob h1 jb j := pJob_fi H7 fr4 (by omega)
    refine e_callV (As := [.int (nI 0), .int (nI kk), .int ((ev.getD p (0, 0, 0, 0)).2.2.1), .int (nI tt)]) (rest := []) f_51_49 rfl rfl rfl (Nat.le_of_ble_eq_true rfl) (Nat.le_of_ble_eq_true rfl) g2 rfl (Nat.le_of_ble_eq_true rfl) (cc_Run_passX (f := 0) (key := kk) (v := (ev.getD p (0, 0, 0, 0)).2.2.1) (t := tt) (j := j) (jb := jb) (gv := s.2.2.1) (la := la) (lb := lb) (dn := s.2.2.2.2 + (nI 1)) (wo := wo) (A := s.2.1.1) (B := s.2.1.2.1) (W := s.2.1.2.2) (x := s.1) (A3 := s.2.2.2.1.1) (B3 := s.2.2.2.1.2.1) (W3 := s.2.2.2.1.2.2.1) (S3 := s.2.2.2.1.2.2.2.1) (sm3 := s.2.2.2.1.2.2.2.2) g2 g6 g7 g8 g9 g10 g11 g12 (by omega) (p1.1) (by omega) (by omega) (by omega) (by omega) (p6)) rfl (fun h13 r14 q15 => ?_)
    obtain ⟨rfl, g16, g17, g18, g19, g20, g21, g22, fx23⟩ := q15
    have fr24 : px_fi 177 72 h h13 := fi_tr fr4 fx23 (by omega)
    show px_to 51 52 [some (.ref (177)), some (.ref (a)), some (.int (nI p)), some (.int (nI ((ev.getD p (0, 0, 0, 0)).1))), none] [] h13 _
    refine e_goto f_51_52 ?_
    refine e_vret f_51_164 rfl ?_
    rw [doEv_r hrR hke hk4 hte ht9]
    exact ⟨rfl, g16, g17, g18, g19, g20, g21, g22, fr24⟩
  · skip
    have c_20 : (ev.getD p (0, 0, 0, 0)).1 ≠ 114 := cv_ne c_20
    refine e_iload_n f_51_23 rfl rfl ?_
    refine e_bipush (v := nI 82) f_51_24 (by decide) rfl ?_
    refine e_icmp_ne f_51_26 rfl (fun c_26 => ?_) (fun c_26 => ?_)
    · skip
      have c_26 : (ev.getD p (0, 0, 0, 0)).1 ≠ 82 := cv_ne c_26
      refine e_iload_n f_51_55 rfl rfl ?_
      refine e_bipush (v := nI 107) f_51_56 (by decide) rfl ?_
      refine e_icmp_ne f_51_58 rfl (fun c_58 => ?_) (fun c_58 => ?_)
      · skip
        have c_58 : (ev.getD p (0, 0, 0, 0)).1 ≠ 107 := cv_ne c_58
        refine e_iload_n f_51_93 rfl rfl ?_
        refine e_bipush (v := nI 104) f_51_94 (by decide) rfl ?_
        refine e_icmp_eq f_51_96 rfl (fun c_96 => ?_) (fun c_96 => ?_)
        · skip
          have c_96 : (ev.getD p (0, 0, 0, 0)).1 = 104 := cv_eq (by omega) (by omega) c_96
          refine e_aload_n f_51_105 rfl rfl ?_
          refine e_getf f_51_106 g2 rfl rfl ?_
          refine e_iload_n f_51_109 rfl rfl ?_
          refine e_bipush (v := nI 72) f_51_110 (by decide) rfl ?_
          refine e_icmp_ne f_51_112 rfl (fun c_112 => ?_) (fun c_112 => ?_)
          · skip
            have c_112 : (ev.getD p (0, 0, 0, 0)).1 ≠ 72 := cv_ne c_112
            refine e_iconst (v := nI 0) f_51_119 (by decide) rfl ?_
            have hb : decide ((ev.getD p (0, 0, 0, 0)).1 = 72) = false := decide_eq_false c_112
            obtain ⟨tt, ht9, hte⟩ := p5.2.2 (by omega)
            have hh : (ev.getD p (0, 0, 0, 0)).1 = 104 ∨ (ev.getD p (0, 0, 0, 0)).1 = 72 := by omega
            show px_to 51 120 [some (.ref (177)), some (.ref (a)), some (.int (nI p)), some (.int (nI ((ev.getD p (0, 0, 0, 0)).1))), none] [.int (bI false), .ref (182)] h1 _
            refine e_aload_n f_51_120 rfl rfl ?_
            refine e_getf f_51_121 g5.1 rfl rfl ?_
            refine e_iload_n f_51_124 rfl rfl ?_
            refine e_iaload_p (xs := ev) f_51_125 g5.2.2.2.2.1 (d := (0, 0, 0, 0)) (by first | omega | (simp only [List.length_set]; omega)) rfl ?_
            show px_to 51 126 [some (.ref (177)), some (.ref (a)), some (.int (nI p)), some (.int (nI ((ev.getD p (0, 0, 0, 0)).1))), none] [.int ((ev.getD p (0, 0, 0, 0)).2.2.2), .int (bI false), .ref (182)] h1 _
            have g25 : h1.2.2 182 = some (2, [.int (s.2.1.1), .int (s.2.1.2.1), .int (s.2.1.2.2), .int (s.1.1), .ref (183)]) := fi_at H1 fx3 (by omega)
            refine e_callV (As := [.int (bI false), .int ((ev.getD p (0, 0, 0, 0)).2.2.2)]) (rest := []) f_51_126 rfl rfl rfl (Nat.le_of_ble_eq_true rfl) (Nat.le_of_ble_eq_true rfl) g25 rfl (Nat.le_of_ble_eq_true rfl) (cc_Mem_raise (b := false) (t := (ev.getD p (0, 0, 0, 0)).2.2.2) (M := 182) (A := s.2.1.1) (B := s.2.1.2.1) (W := s.2.1.2.2) (S := s.1.1) g25 (by omega)) rfl (fun h26 r27 q28 => ?_)
            obtain ⟨rfl, g29, fx30⟩ := q28
            have fr31 : px_fi 177 72 h h26 := fi_tr fr4 fx30 (by omega)
            show px_to 51 129 [some (.ref (177)), some (.ref (a)), some (.int (nI p)), some (.int (nI ((ev.getD p (0, 0, 0, 0)).1))), none] [] h26 _
            refine e_aload_n f_51_129 rfl rfl ?_
            have g32 : h26.2.2 177 = some (6, [.ref (jb), .ref (182), .ref (214), .ref (246), .int (nI s.2.2.1), .int (bI la), .int (bI lb), .int (oI s.1.2.2.2.2), .int (s.2.2.2.2 + (nI 1)), .int (wo), .ref (248)]) := fi_at g2 fx30 (by omega)
            refine e_getf f_51_130 g32 rfl rfl ?_
            refine e_aload_n f_51_133 rfl rfl ?_
            refine e_getf f_51_134 g32 rfl rfl ?_
            refine e_aload_n f_51_137 rfl rfl ?_
            refine e_getf f_51_138 g32 rfl rfl ?_
            refine e_callV (As := [.int (bI la), .int (bI lb)]) (rest := []) f_51_141 rfl rfl rfl (Nat.le_of_ble_eq_true rfl) (Nat.le_of_ble_eq_true rfl) g29 rfl (Nat.le_of_ble_eq_true rfl) (cc_Mem_lesser (a := la) (b := lb) (M := 182) (A := if false = true then s.2.1.1 else iMax s.2.1.1 ((ev.getD p (0, 0, 0, 0)).2.2.2)) (B := if false = true then iMax s.2.1.2.1 ((ev.getD p (0, 0, 0, 0)).2.2.2) else s.2.1.2.1) (W := s.2.1.2.2) (S := s.1.1) g29 ) rfl (fun h33 r34 q35 => ?_)
            obtain ⟨rfl, qe⟩ := q35
            have qe := qe.symm
            subst qe
            show px_to 51 144 [some (.ref (177)), some (.ref (a)), some (.int (nI p)), some (.int (nI ((ev.getD p (0, 0, 0, 0)).1))), none] [.int (if la = true then (if lb = true then iMin (if false = true then s.2.1.1 else iMax s.2.1.1 ((ev.getD p (0, 0, 0, 0)).2.2.2)) (if false = true then iMax s.2.1.2.1 ((ev.getD p (0, 0, 0, 0)).2.2.2) else s.2.1.2.1) else if false = true then s.2.1.1 else iMax s.2.1.1 ((ev.getD p (0, 0, 0, 0)).2.2.2)) else (if lb = true then if false = true then iMax s.2.1.2.1 ((ev.getD p (0, 0, 0, 0)).2.2.2) else s.2.1.2.1 else (-1)))] h26 _
            show px_to 51 144 [some (.ref (177)), some (.ref (a)), some (.int (nI p)), some (.int (nI ((ev.getD p (0, 0, 0, 0)).1))), none] [.int (lesW la lb (upA false s.2.1.1 (ev.getD p (0, 0, 0, 0)).2.2.2) (upB false s.2.1.2.1 (ev.getD p (0, 0, 0, 0)).2.2.2))] h26 _
            have hA := okW_upA (b := false) p1.2.1.1 (show okW (ev.getD p (0, 0, 0, 0)).2.2.2 by rw [hte]; exact okW_N (by omega))
            have hB := okW_upB (b := false) p1.2.1.2.1 (show okW (ev.getD p (0, 0, 0, 0)).2.2.2 by rw [hte]; exact okW_N (by omega))
            refine e_istore (L' := [some (.ref (177)), some (.ref (a)), some (.int (nI p)), some (.int (nI ((ev.getD p (0, 0, 0, 0)).1))), some (.int (lesW la lb (upA false s.2.1.1 (ev.getD p (0, 0, 0, 0)).2.2.2) (upB false s.2.1.2.1 (ev.getD p (0, 0, 0, 0)).2.2.2)))]) f_51_144 (Nat.le_of_ble_eq_true rfl) rfl rfl ?_
            refine e_iload f_51_146 rfl rfl ?_
            refine e_aload_n f_51_148 rfl rfl ?_
            refine e_getf f_51_149 g32 rfl rfl ?_
            refine e_getf f_51_152 g29 rfl rfl ?_
            refine e_icmp_le f_51_155 rfl (fun c_155 => ?_) (fun c_155 => ?_)
            · skip
              refine e_vret f_51_164 rfl ?_
              rw [doEv_h0 hh hb c_155]
              have g36 : px_rs h1 183 55 6 (fun k => 182 + 5 * k + 2) := rs_fi H2 fx3 (by omega)
              have g37 : px_rs h26 183 55 6 (fun k => 182 + 5 * k + 2) := rs_fi g36 fx30 (by omega)
              have g38 : pSt h1 182 s.1.2.1 := pSt_fi H3 fx3 (by omega)
              have g39 : pSt h26 182 s.1.2.1 := pSt_fi g38 fx30 (by omega)
              have g40 : pRows h1 246 96 s.1.2.2.1 := pRows_fi H4 fx3 (by omega)
              have g41 : pRows h26 246 96 s.1.2.2.1 := pRows_fi g40 fx30 (by omega)
              have g42 : px_pa h1 248 50 30 Value.int s.1.2.2.2.1 := pa_fi H5 fx3 (by omega)
              have g43 : px_pa h26 248 50 30 Value.int s.1.2.2.2.1 := pa_fi g42 fx30 (by omega)
              have g44 : pMm h1 214 s.2.2.2.1.1 s.2.2.2.1.2.1 s.2.2.2.1.2.2.1 s.2.2.2.1.2.2.2.1 s.2.2.2.1.2.2.2.2 := pMm_fi H6 fx3 (by omega)
              have g45 : pMm h26 214 s.2.2.2.1.1 s.2.2.2.1.2.1 s.2.2.2.1.2.2.1 s.2.2.2.1.2.2.2.1 s.2.2.2.1.2.2.2.2 := pMm_fi g44 fx30 (by omega)
              exact ⟨rfl, g32, g29, g37, g39, g41, g43, g45, fr31⟩
            · skip
              have c_155 := Int32.not_le.mp c_155
              obtain ⟨wn, hwn, hwe⟩ := okW_gt p1.2.1.2.2 (okW_les hA hB) c_155
              rw [hwe]
              refine e_aload_n f_51_158 rfl rfl ?_
              refine e_iload f_51_159 rfl rfl ?_
              have g46 : px_rs h1 183 55 6 (fun k => 182 + 5 * k + 2) := rs_fi H2 fx3 (by omega)
              have g47 : px_rs h26 183 55 6 (fun k => 182 + 5 * k + 2) := rs_fi g46 fx30 (by omega)
              have g48 : pSt h1 182 s.1.2.1 := pSt_fi H3 fx3 (by omega)
              have g49 : pSt h26 182 s.1.2.1 := pSt_fi g48 fx30 (by omega)
              have g50 : pRows h1 246 96 s.1.2.2.1 := pRows_fi H4 fx3 (by omega)
              have g51 : pRows h26 246 96 s.1.2.2.1 := pRows_fi g50 fx30 (by omega)
              have g52 : px_pa h1 248 50 30 Value.int s.1.2.2.2.1 := pa_fi H5 fx3 (by omega)
              have g53 : px_pa h26 248 50 30 Value.int s.1.2.2.2.1 := pa_fi g52 fx30 (by omega)
              have g54 : pMm h1 214 s.2.2.2.1.1 s.2.2.2.1.2.1 s.2.2.2.1.2.2.1 s.2.2.2.1.2.2.2.1 s.2.2.2.1.2.2.2.2 := pMm_fi H6 fx3 (by omega)
              have g55 : pMm h26 214 s.2.2.2.1.1 s.2.2.2.1.2.1 s.2.2.2.1.2.2.1 s.2.2.2.1.2.2.2.1 s.2.2.2.1.2.2.2.2 := pMm_fi g54 fx30 (by omega)
              have g56 : pJob h26 jb j := pJob_fi H7 fr31 (by omega)
              refine e_callV (As := [.int (nI wn)]) (rest := []) f_51_161 rfl rfl rfl (Nat.le_of_ble_eq_true rfl) (Nat.le_of_ble_eq_true rfl) g32 rfl (Nat.le_of_ble_eq_true rfl) (cc_Run_tell (w := wn) (j := j) (jb := jb) (gv := s.2.2.1) (la := la) (lb := lb) (dn := s.2.2.2.2 + (nI 1)) (wo := wo) (A := if false = true then s.2.1.1 else iMax s.2.1.1 ((ev.getD p (0, 0, 0, 0)).2.2.2)) (B := if false = true then iMax s.2.1.2.1 ((ev.getD p (0, 0, 0, 0)).2.2.2) else s.2.1.2.1) (W := s.2.1.2.2) (x := s.1) (A3 := s.2.2.2.1.1) (B3 := s.2.2.2.1.2.1) (W3 := s.2.2.2.1.2.2.1) (S3 := s.2.2.2.1.2.2.2.1) (sm3 := s.2.2.2.1.2.2.2.2) g32 g29 g47 g49 g51 g53 g55 g56 (by omega) (p1.1) (by omega) (by omega)) rfl (fun h57 r58 q59 => ?_)
              obtain ⟨rfl, g60, g61, g62, g63, g64, g65, g66, fx67⟩ := q59
              have fr68 : px_fi 177 72 h h57 := fi_tr fr31 fx67 (by omega)
              show px_to 51 164 [some (.ref (177)), some (.ref (a)), some (.int (nI p)), some (.int (nI ((ev.getD p (0, 0, 0, 0)).1))), some (.int (nI wn))] [] h57 _
              refine e_vret f_51_164 rfl ?_
              rw [doEv_h1 hh hb c_155 hwe hwn]
              exact ⟨rfl, g60, g61, g62, g63, g64, g65, g66, fr68⟩
          · skip
            have c_112 : (ev.getD p (0, 0, 0, 0)).1 = 72 := cv_nne (by omega) (by omega) c_112
            refine e_iconst (v := nI 1) f_51_115 (by decide) rfl ?_
            refine e_goto f_51_116 ?_
            have hb : decide ((ev.getD p (0, 0, 0, 0)).1 = 72) = true := decide_eq_true c_112
            obtain ⟨tt, ht9, hte⟩ := p5.2.2 (by omega)
            have hh : (ev.getD p (0, 0, 0, 0)).1 = 104 ∨ (ev.getD p (0, 0, 0, 0)).1 = 72 := by omega
            show px_to 51 120 [some (.ref (177)), some (.ref (a)), some (.int (nI p)), some (.int (nI ((ev.getD p (0, 0, 0, 0)).1))), none] [.int (bI true), .ref (182)] h1 _
            refine e_aload_n f_51_120 rfl rfl ?_
            refine e_getf f_51_121 g5.1 rfl rfl ?_
            refine e_iload_n f_51_124 rfl rfl ?_
            refine e_iaload_p (xs := ev) f_51_125 g5.2.2.2.2.1 (d := (0, 0, 0, 0)) (by first | omega | (simp only [List.length_set]; omega)) rfl ?_
            show px_to 51 126 [some (.ref (177)), some (.ref (a)), some (.int (nI p)), some (.int (nI ((ev.getD p (0, 0, 0, 0)).1))), none] [.int ((ev.getD p (0, 0, 0, 0)).2.2.2), .int (bI true), .ref (182)] h1 _
            have g69 : h1.2.2 182 = some (2, [.int (s.2.1.1), .int (s.2.1.2.1), .int (s.2.1.2.2), .int (s.1.1), .ref (183)]) := fi_at H1 fx3 (by omega)
            refine e_callV (As := [.int (bI true), .int ((ev.getD p (0, 0, 0, 0)).2.2.2)]) (rest := []) f_51_126 rfl rfl rfl (Nat.le_of_ble_eq_true rfl) (Nat.le_of_ble_eq_true rfl) g69 rfl (Nat.le_of_ble_eq_true rfl) (cc_Mem_raise (b := true) (t := (ev.getD p (0, 0, 0, 0)).2.2.2) (M := 182) (A := s.2.1.1) (B := s.2.1.2.1) (W := s.2.1.2.2) (S := s.1.1) g69 (by omega)) rfl (fun h70 r71 q72 => ?_)
            obtain ⟨rfl, g73, fx74⟩ := q72
            have fr75 : px_fi 177 72 h h70 := fi_tr fr4 fx74 (by omega)
            show px_to 51 129 [some (.ref (177)), some (.ref (a)), some (.int (nI p)), some (.int (nI ((ev.getD p (0, 0, 0, 0)).1))), none] [] h70 _
            refine e_aload_n f_51_129 rfl rfl ?_
            have g76 : h70.2.2 177 = some (6, [.ref (jb), .ref (182), .ref (214), .ref (246), .int (nI s.2.2.1), .int (bI la), .int (bI lb), .int (oI s.1.2.2.2.2), .int (s.2.2.2.2 + (nI 1)), .int (wo), .ref (248)]) := fi_at g2 fx74 (by omega)
            refine e_getf f_51_130 g76 rfl rfl ?_
            refine e_aload_n f_51_133 rfl rfl ?_
            refine e_getf f_51_134 g76 rfl rfl ?_
            refine e_aload_n f_51_137 rfl rfl ?_
            refine e_getf f_51_138 g76 rfl rfl ?_
            refine e_callV (As := [.int (bI la), .int (bI lb)]) (rest := []) f_51_141 rfl rfl rfl (Nat.le_of_ble_eq_true rfl) (Nat.le_of_ble_eq_true rfl) g73 rfl (Nat.le_of_ble_eq_true rfl) (cc_Mem_lesser (a := la) (b := lb) (M := 182) (A := if true = true then s.2.1.1 else iMax s.2.1.1 ((ev.getD p (0, 0, 0, 0)).2.2.2)) (B := if true = true then iMax s.2.1.2.1 ((ev.getD p (0, 0, 0, 0)).2.2.2) else s.2.1.2.1) (W := s.2.1.2.2) (S := s.1.1) g73 ) rfl (fun h77 r78 q79 => ?_)
            obtain ⟨rfl, qe⟩ := q79
            have qe := qe.symm
            subst qe
            show px_to 51 144 [some (.ref (177)), some (.ref (a)), some (.int (nI p)), some (.int (nI ((ev.getD p (0, 0, 0, 0)).1))), none] [.int (if la = true then (if lb = true then iMin (if true = true then s.2.1.1 else iMax s.2.1.1 ((ev.getD p (0, 0, 0, 0)).2.2.2)) (if true = true then iMax s.2.1.2.1 ((ev.getD p (0, 0, 0, 0)).2.2.2) else s.2.1.2.1) else if true = true then s.2.1.1 else iMax s.2.1.1 ((ev.getD p (0, 0, 0, 0)).2.2.2)) else (if lb = true then if true = true then iMax s.2.1.2.1 ((ev.getD p (0, 0, 0, 0)).2.2.2) else s.2.1.2.1 else (-1)))] h70 _
            show px_to 51 144 [some (.ref (177)), some (.ref (a)), some (.int (nI p)), some (.int (nI ((ev.getD p (0, 0, 0, 0)).1))), none] [.int (lesW la lb (upA true s.2.1.1 (ev.getD p (0, 0, 0, 0)).2.2.2) (upB true s.2.1.2.1 (ev.getD p (0, 0, 0, 0)).2.2.2))] h70 _
            have hA := okW_upA (b := true) p1.2.1.1 (show okW (ev.getD p (0, 0, 0, 0)).2.2.2 by rw [hte]; exact okW_N (by omega))
            have hB := okW_upB (b := true) p1.2.1.2.1 (show okW (ev.getD p (0, 0, 0, 0)).2.2.2 by rw [hte]; exact okW_N (by omega))
            refine e_istore (L' := [some (.ref (177)), some (.ref (a)), some (.int (nI p)), some (.int (nI ((ev.getD p (0, 0, 0, 0)).1))), some (.int (lesW la lb (upA true s.2.1.1 (ev.getD p (0, 0, 0, 0)).2.2.2) (upB true s.2.1.2.1 (ev.getD p (0, 0, 0, 0)).2.2.2)))]) f_51_144 (Nat.le_of_ble_eq_true rfl) rfl rfl ?_
            refine e_iload f_51_146 rfl rfl ?_
            refine e_aload_n f_51_148 rfl rfl ?_
            refine e_getf f_51_149 g76 rfl rfl ?_
            refine e_getf f_51_152 g73 rfl rfl ?_
            refine e_icmp_le f_51_155 rfl (fun c_155 => ?_) (fun c_155 => ?_)
            · skip
              refine e_vret f_51_164 rfl ?_
              rw [doEv_h0 hh hb c_155]
              have g80 : px_rs h1 183 55 6 (fun k => 182 + 5 * k + 2) := rs_fi H2 fx3 (by omega)
              have g81 : px_rs h70 183 55 6 (fun k => 182 + 5 * k + 2) := rs_fi g80 fx74 (by omega)
              have g82 : pSt h1 182 s.1.2.1 := pSt_fi H3 fx3 (by omega)
              have g83 : pSt h70 182 s.1.2.1 := pSt_fi g82 fx74 (by omega)
              have g84 : pRows h1 246 96 s.1.2.2.1 := pRows_fi H4 fx3 (by omega)
              have g85 : pRows h70 246 96 s.1.2.2.1 := pRows_fi g84 fx74 (by omega)
              have g86 : px_pa h1 248 50 30 Value.int s.1.2.2.2.1 := pa_fi H5 fx3 (by omega)
              have g87 : px_pa h70 248 50 30 Value.int s.1.2.2.2.1 := pa_fi g86 fx74 (by omega)
              have g88 : pMm h1 214 s.2.2.2.1.1 s.2.2.2.1.2.1 s.2.2.2.1.2.2.1 s.2.2.2.1.2.2.2.1 s.2.2.2.1.2.2.2.2 := pMm_fi H6 fx3 (by omega)
              have g89 : pMm h70 214 s.2.2.2.1.1 s.2.2.2.1.2.1 s.2.2.2.1.2.2.1 s.2.2.2.1.2.2.2.1 s.2.2.2.1.2.2.2.2 := pMm_fi g88 fx74 (by omega)
              exact ⟨rfl, g76, g73, g81, g83, g85, g87, g89, fr75⟩
            · skip
              have c_155 := Int32.not_le.mp c_155
              obtain ⟨wn, hwn, hwe⟩ := okW_gt p1.2.1.2.2 (okW_les hA hB) c_155
              rw [hwe]
              refine e_aload_n f_51_158 rfl rfl ?_
              refine e_iload f_51_159 rfl rfl ?_
              have g90 : px_rs h1 183 55 6 (fun k => 182 + 5 * k + 2) := rs_fi H2 fx3 (by omega)
              have g91 : px_rs h70 183 55 6 (fun k => 182 + 5 * k + 2) := rs_fi g90 fx74 (by omega)
              have g92 : pSt h1 182 s.1.2.1 := pSt_fi H3 fx3 (by omega)
              have g93 : pSt h70 182 s.1.2.1 := pSt_fi g92 fx74 (by omega)
              have g94 : pRows h1 246 96 s.1.2.2.1 := pRows_fi H4 fx3 (by omega)
              have g95 : pRows h70 246 96 s.1.2.2.1 := pRows_fi g94 fx74 (by omega)
              have g96 : px_pa h1 248 50 30 Value.int s.1.2.2.2.1 := pa_fi H5 fx3 (by omega)
              have g97 : px_pa h70 248 50 30 Value.int s.1.2.2.2.1 := pa_fi g96 fx74 (by omega)
              have g98 : pMm h1 214 s.2.2.2.1.1 s.2.2.2.1.2.1 s.2.2.2.1.2.2.1 s.2.2.2.1.2.2.2.1 s.2.2.2.1.2.2.2.2 := pMm_fi H6 fx3 (by omega)
              have g99 : pMm h70 214 s.2.2.2.1.1 s.2.2.2.1.2.1 s.2.2.2.1.2.2.1 s.2.2.2.1.2.2.2.1 s.2.2.2.1.2.2.2.2 := pMm_fi g98 fx74 (by omega)
              have g100 : pJob h70 jb j := pJob_fi H7 fr75 (by omega)
              refine e_callV (As := [.int (nI wn)]) (rest := []) f_51_161 rfl rfl rfl (Nat.le_of_ble_eq_true rfl) (Nat.le_of_ble_eq_true rfl) g76 rfl (Nat.le_of_ble_eq_true rfl) (cc_Run_tell (w := wn) (j := j) (jb := jb) (gv := s.2.2.1) (la := la) (lb := lb) (dn := s.2.2.2.2 + (nI 1)) (wo := wo) (A := if true = true then s.2.1.1 else iMax s.2.1.1 ((ev.getD p (0, 0, 0, 0)).2.2.2)) (B := if true = true then iMax s.2.1.2.1 ((ev.getD p (0, 0, 0, 0)).2.2.2) else s.2.1.2.1) (W := s.2.1.2.2) (x := s.1) (A3 := s.2.2.2.1.1) (B3 := s.2.2.2.1.2.1) (W3 := s.2.2.2.1.2.2.1) (S3 := s.2.2.2.1.2.2.2.1) (sm3 := s.2.2.2.1.2.2.2.2) g76 g73 g91 g93 g95 g97 g99 g100 (by omega) (p1.1) (by omega) (by omega)) rfl (fun h101 r102 q103 => ?_)
              obtain ⟨rfl, g104, g105, g106, g107, g108, g109, g110, fx111⟩ := q103
              have fr112 : px_fi 177 72 h h101 := fi_tr fr75 fx111 (by omega)
              show px_to 51 164 [some (.ref (177)), some (.ref (a)), some (.int (nI p)), some (.int (nI ((ev.getD p (0, 0, 0, 0)).1))), some (.int (nI wn))] [] h101 _
              refine e_vret f_51_164 rfl ?_
              rw [doEv_h1 hh hb c_155 hwe hwn]
              exact ⟨rfl, g104, g105, g106, g107, g108, g109, g110, fr112⟩
        · skip
          have c_96 : (ev.getD p (0, 0, 0, 0)).1 ≠ 104 := cv_ne c_96
          refine e_iload_n f_51_99 rfl rfl ?_
          refine e_bipush (v := nI 72) f_51_100 (by decide) rfl ?_
          refine e_icmp_ne f_51_102 rfl (fun c_102 => ?_) (fun c_102 => ?_)
          · skip
            have c_102 : (ev.getD p (0, 0, 0, 0)).1 ≠ 72 := cv_ne c_102
            refine e_vret f_51_164 rfl ?_
            rw [doEv_x (by have := p5.1; omega)]
            have g113 : h1.2.2 182 = some (2, [.int (s.2.1.1), .int (s.2.1.2.1), .int (s.2.1.2.2), .int (s.1.1), .ref (183)]) := fi_at H1 fx3 (by omega)
            have g114 : px_rs h1 183 55 6 (fun k => 182 + 5 * k + 2) := rs_fi H2 fx3 (by omega)
            have g115 : pSt h1 182 s.1.2.1 := pSt_fi H3 fx3 (by omega)
            have g116 : pRows h1 246 96 s.1.2.2.1 := pRows_fi H4 fx3 (by omega)
            have g117 : px_pa h1 248 50 30 Value.int s.1.2.2.2.1 := pa_fi H5 fx3 (by omega)
            have g118 : pMm h1 214 s.2.2.2.1.1 s.2.2.2.1.2.1 s.2.2.2.1.2.2.1 s.2.2.2.1.2.2.2.1 s.2.2.2.1.2.2.2.2 := pMm_fi H6 fx3 (by omega)
            exact ⟨rfl, g2, g113, g114, g115, g116, g117, g118, fr4⟩
          · skip
            have c_102 : (ev.getD p (0, 0, 0, 0)).1 = 72 := cv_nne (by omega) (by omega) c_102
            refine e_aload_n f_51_105 rfl rfl ?_
            refine e_getf f_51_106 g2 rfl rfl ?_
            refine e_iload_n f_51_109 rfl rfl ?_
            refine e_bipush (v := nI 72) f_51_110 (by decide) rfl ?_
            refine e_icmp_ne f_51_112 rfl (fun c_112 => ?_) (fun c_112 => ?_)
            · skip
              have c_112 : (ev.getD p (0, 0, 0, 0)).1 ≠ 72 := cv_ne c_112
              refine e_iconst (v := nI 0) f_51_119 (by decide) rfl ?_
              have hb : decide ((ev.getD p (0, 0, 0, 0)).1 = 72) = false := decide_eq_false c_112
              obtain ⟨tt, ht9, hte⟩ := p5.2.2 (by omega)
              have hh : (ev.getD p (0, 0, 0, 0)).1 = 104 ∨ (ev.getD p (0, 0, 0, 0)).1 = 72 := by omega
              show px_to 51 120 [some (.ref (177)), some (.ref (a)), some (.int (nI p)), some (.int (nI ((ev.getD p (0, 0, 0, 0)).1))), none] [.int (bI false), .ref (182)] h1 _
              refine e_aload_n f_51_120 rfl rfl ?_
              refine e_getf f_51_121 g5.1 rfl rfl ?_
              refine e_iload_n f_51_124 rfl rfl ?_
              refine e_iaload_p (xs := ev) f_51_125 g5.2.2.2.2.1 (d := (0, 0, 0, 0)) (by first | omega | (simp only [List.length_set]; omega)) rfl ?_
              show px_to 51 126 [some (.ref (177)), some (.ref (a)), some (.int (nI p)), some (.int (nI ((ev.getD p (0, 0, 0, 0)).1))), none] [.int ((ev.getD p (0, 0, 0, 0)).2.2.2), .int (bI false), .ref (182)] h1 _
              have g119 : h1.2.2 182 = some (2, [.int (s.2.1.1), .int (s.2.1.2.1), .int (s.2.1.2.2), .int (s.1.1), .ref (183)]) := fi_at H1 fx3 (by omega)
              refine e_callV (As := [.int (bI false), .int ((ev.getD p (0, 0, 0, 0)).2.2.2)]) (rest := []) f_51_126 rfl rfl rfl (Nat.le_of_ble_eq_true rfl) (Nat.le_of_ble_eq_true rfl) g119 rfl (Nat.le_of_ble_eq_true rfl) (cc_Mem_raise (b := false) (t := (ev.getD p (0, 0, 0, 0)).2.2.2) (M := 182) (A := s.2.1.1) (B := s.2.1.2.1) (W := s.2.1.2.2) (S := s.1.1) g119 (by omega)) rfl (fun h120 r121 q122 => ?_)
              obtain ⟨rfl, g123, fx124⟩ := q122
              have fr125 : px_fi 177 72 h h120 := fi_tr fr4 fx124 (by omega)
              show px_to 51 129 [some (.ref (177)), some (.ref (a)), some (.int (nI p)), some (.int (nI ((ev.getD p (0, 0, 0, 0)).1))), none] [] h120 _
              refine e_aload_n f_51_129 rfl rfl ?_
              have g126 : h120.2.2 177 = some (6, [.ref (jb), .ref (182), .ref (214), .ref (246), .int (nI s.2.2.1), .int (bI la), .int (bI lb), .int (oI s.1.2.2.2.2), .int (s.2.2.2.2 + (nI 1)), .int (wo), .ref (248)]) := fi_at g2 fx124 (by omega)
              refine e_getf f_51_130 g126 rfl rfl ?_
              refine e_aload_n f_51_133 rfl rfl ?_
              refine e_getf f_51_134 g126 rfl rfl ?_
              refine e_aload_n f_51_137 rfl rfl ?_
              refine e_getf f_51_138 g126 rfl rfl ?_
              refine e_callV (As := [.int (bI la), .int (bI lb)]) (rest := []) f_51_141 rfl rfl rfl (Nat.le_of_ble_eq_true rfl) (Nat.le_of_ble_eq_true rfl) g123 rfl (Nat.le_of_ble_eq_true rfl) (cc_Mem_lesser (a := la) (b := lb) (M := 182) (A := if false = true then s.2.1.1 else iMax s.2.1.1 ((ev.getD p (0, 0, 0, 0)).2.2.2)) (B := if false = true then iMax s.2.1.2.1 ((ev.getD p (0, 0, 0, 0)).2.2.2) else s.2.1.2.1) (W := s.2.1.2.2) (S := s.1.1) g123 ) rfl (fun h127 r128 q129 => ?_)
              obtain ⟨rfl, qe⟩ := q129
              have qe := qe.symm
              subst qe
              show px_to 51 144 [some (.ref (177)), some (.ref (a)), some (.int (nI p)), some (.int (nI ((ev.getD p (0, 0, 0, 0)).1))), none] [.int (if la = true then (if lb = true then iMin (if false = true then s.2.1.1 else iMax s.2.1.1 ((ev.getD p (0, 0, 0, 0)).2.2.2)) (if false = true then iMax s.2.1.2.1 ((ev.getD p (0, 0, 0, 0)).2.2.2) else s.2.1.2.1) else if false = true then s.2.1.1 else iMax s.2.1.1 ((ev.getD p (0, 0, 0, 0)).2.2.2)) else (if lb = true then if false = true then iMax s.2.1.2.1 ((ev.getD p (0, 0, 0, 0)).2.2.2) else s.2.1.2.1 else (-1)))] h120 _
              show px_to 51 144 [some (.ref (177)), some (.ref (a)), some (.int (nI p)), some (.int (nI ((ev.getD p (0, 0, 0, 0)).1))), none] [.int (lesW la lb (upA false s.2.1.1 (ev.getD p (0, 0, 0, 0)).2.2.2) (upB false s.2.1.2.1 (ev.getD p (0, 0, 0, 0)).2.2.2))] h120 _
              have hA := okW_upA (b := false) p1.2.1.1 (show okW (ev.getD p (0, 0, 0, 0)).2.2.2 by rw [hte]; exact okW_N (by omega))
              have hB := okW_upB (b := false) p1.2.1.2.1 (show okW (ev.getD p (0, 0, 0, 0)).2.2.2 by rw [hte]; exact okW_N (by omega))
              refine e_istore (L' := [some (.ref (177)), some (.ref (a)), some (.int (nI p)), some (.int (nI ((ev.getD p (0, 0, 0, 0)).1))), some (.int (lesW la lb (upA false s.2.1.1 (ev.getD p (0, 0, 0, 0)).2.2.2) (upB false s.2.1.2.1 (ev.getD p (0, 0, 0, 0)).2.2.2)))]) f_51_144 (Nat.le_of_ble_eq_true rfl) rfl rfl ?_
              refine e_iload f_51_146 rfl rfl ?_
              refine e_aload_n f_51_148 rfl rfl ?_
              refine e_getf f_51_149 g126 rfl rfl ?_
              refine e_getf f_51_152 g123 rfl rfl ?_
              refine e_icmp_le f_51_155 rfl (fun c_155 => ?_) (fun c_155 => ?_)
              · skip
                refine e_vret f_51_164 rfl ?_
                rw [doEv_h0 hh hb c_155]
                have g130 : px_rs h1 183 55 6 (fun k => 182 + 5 * k + 2) := rs_fi H2 fx3 (by omega)
                have g131 : px_rs h120 183 55 6 (fun k => 182 + 5 * k + 2) := rs_fi g130 fx124 (by omega)
                have g132 : pSt h1 182 s.1.2.1 := pSt_fi H3 fx3 (by omega)
                have g133 : pSt h120 182 s.1.2.1 := pSt_fi g132 fx124 (by omega)
                have g134 : pRows h1 246 96 s.1.2.2.1 := pRows_fi H4 fx3 (by omega)
                have g135 : pRows h120 246 96 s.1.2.2.1 := pRows_fi g134 fx124 (by omega)
                have g136 : px_pa h1 248 50 30 Value.int s.1.2.2.2.1 := pa_fi H5 fx3 (by omega)
                have g137 : px_pa h120 248 50 30 Value.int s.1.2.2.2.1 := pa_fi g136 fx124 (by omega)
                have g138 : pMm h1 214 s.2.2.2.1.1 s.2.2.2.1.2.1 s.2.2.2.1.2.2.1 s.2.2.2.1.2.2.2.1 s.2.2.2.1.2.2.2.2 := pMm_fi H6 fx3 (by omega)
                have g139 : pMm h120 214 s.2.2.2.1.1 s.2.2.2.1.2.1 s.2.2.2.1.2.2.1 s.2.2.2.1.2.2.2.1 s.2.2.2.1.2.2.2.2 := pMm_fi g138 fx124 (by omega)
                exact ⟨rfl, g126, g123, g131, g133, g135, g137, g139, fr125⟩
              · skip
                have c_155 := Int32.not_le.mp c_155
                obtain ⟨wn, hwn, hwe⟩ := okW_gt p1.2.1.2.2 (okW_les hA hB) c_155
                rw [hwe]
                refine e_aload_n f_51_158 rfl rfl ?_
                refine e_iload f_51_159 rfl rfl ?_
                have g140 : px_rs h1 183 55 6 (fun k => 182 + 5 * k + 2) := rs_fi H2 fx3 (by omega)
                have g141 : px_rs h120 183 55 6 (fun k => 182 + 5 * k + 2) := rs_fi g140 fx124 (by omega)
                have g142 : pSt h1 182 s.1.2.1 := pSt_fi H3 fx3 (by omega)
                have g143 : pSt h120 182 s.1.2.1 := pSt_fi g142 fx124 (by omega)
                have g144 : pRows h1 246 96 s.1.2.2.1 := pRows_fi H4 fx3 (by omega)
                have g145 : pRows h120 246 96 s.1.2.2.1 := pRows_fi g144 fx124 (by omega)
                have g146 : px_pa h1 248 50 30 Value.int s.1.2.2.2.1 := pa_fi H5 fx3 (by omega)
                have g147 : px_pa h120 248 50 30 Value.int s.1.2.2.2.1 := pa_fi g146 fx124 (by omega)
                have g148 : pMm h1 214 s.2.2.2.1.1 s.2.2.2.1.2.1 s.2.2.2.1.2.2.1 s.2.2.2.1.2.2.2.1 s.2.2.2.1.2.2.2.2 := pMm_fi H6 fx3 (by omega)
                have g149 : pMm h120 214 s.2.2.2.1.1 s.2.2.2.1.2.1 s.2.2.2.1.2.2.1 s.2.2.2.1.2.2.2.1 s.2.2.2.1.2.2.2.2 := pMm_fi g148 fx124 (by omega)
                have g150 : pJob h120 jb j := pJob_fi H7 fr125 (by omega)
                refine e_callV (As := [.int (nI wn)]) (rest := []) f_51_161 rfl rfl rfl (Nat.le_of_ble_eq_true rfl) (Nat.le_of_ble_eq_true rfl) g126 rfl (Nat.le_of_ble_eq_true rfl) (cc_Run_tell (w := wn) (j := j) (jb := jb) (gv := s.2.2.1) (la := la) (lb := lb) (dn := s.2.2.2.2 + (nI 1)) (wo := wo) (A := if false = true then s.2.1.1 else iMax s.2.1.1 ((ev.getD p (0, 0, 0, 0)).2.2.2)) (B := if false = true then iMax s.2.1.2.1 ((ev.getD p (0, 0, 0, 0)).2.2.2) else s.2.1.2.1) (W := s.2.1.2.2) (x := s.1) (A3 := s.2.2.2.1.1) (B3 := s.2.2.2.1.2.1) (W3 := s.2.2.2.1.2.2.1) (S3 := s.2.2.2.1.2.2.2.1) (sm3 := s.2.2.2.1.2.2.2.2) g126 g123 g141 g143 g145 g147 g149 g150 (by omega) (p1.1) (by omega) (by omega)) rfl (fun h151 r152 q153 => ?_)
                obtain ⟨rfl, g154, g155, g156, g157, g158, g159, g160, fx161⟩ := q153
                have fr162 : px_fi 177 72 h h151 := fi_tr fr125 fx161 (by omega)
                show px_to 51 164 [some (.ref (177)), some (.ref (a)), some (.int (nI p)), some (.int (nI ((ev.getD p (0, 0, 0, 0)).1))), some (.int (nI wn))] [] h151 _
                refine e_vret f_51_164 rfl ?_
                rw [doEv_h1 hh hb c_155 hwe hwn]
                exact ⟨rfl, g154, g155, g156, g157, g158, g159, g160, fr162⟩
            · skip
              have c_112 : (ev.getD p (0, 0, 0, 0)).1 = 72 := cv_nne (by omega) (by omega) c_112
              refine e_iconst (v := nI 1) f_51_115 (by decide) rfl ?_
              refine e_goto f_51_116 ?_
              have hb : decide ((ev.getD p (0, 0, 0, 0)).1 = 72) = true := decide_eq_true c_112
              obtain ⟨tt, ht9, hte⟩ := p5.2.2 (by omega)
              have hh : (ev.getD p (0, 0, 0, 0)).1 = 104 ∨ (ev.getD p (0, 0, 0, 0)).1 = 72 := by omega
              show px_to 51 120 [some (.ref (177)), some (.ref (a)), some (.int (nI p)), some (.int (nI ((ev.getD p (0, 0, 0, 0)).1))), none] [.int (bI true), .ref (182)] h1 _
              refine e_aload_n f_51_120 rfl rfl ?_
              refine e_getf f_51_121 g5.1 rfl rfl ?_
              refine e_iload_n f_51_124 rfl rfl ?_
              refine e_iaload_p (xs := ev) f_51_125 g5.2.2.2.2.1 (d := (0, 0, 0, 0)) (by first | omega | (simp only [List.length_set]; omega)) rfl ?_
              show px_to 51 126 [some (.ref (177)), some (.ref (a)), some (.int (nI p)), some (.int (nI ((ev.getD p (0, 0, 0, 0)).1))), none] [.int ((ev.getD p (0, 0, 0, 0)).2.2.2), .int (bI true), .ref (182)] h1 _
              have g163 : h1.2.2 182 = some (2, [.int (s.2.1.1), .int (s.2.1.2.1), .int (s.2.1.2.2), .int (s.1.1), .ref (183)]) := fi_at H1 fx3 (by omega)
              refine e_callV (As := [.int (bI true), .int ((ev.getD p (0, 0, 0, 0)).2.2.2)]) (rest := []) f_51_126 rfl rfl rfl (Nat.le_of_ble_eq_true rfl) (Nat.le_of_ble_eq_true rfl) g163 rfl (Nat.le_of_ble_eq_true rfl) (cc_Mem_raise (b := true) (t := (ev.getD p (0, 0, 0, 0)).2.2.2) (M := 182) (A := s.2.1.1) (B := s.2.1.2.1) (W := s.2.1.2.2) (S := s.1.1) g163 (by omega)) rfl (fun h164 r165 q166 => ?_)
              obtain ⟨rfl, g167, fx168⟩ := q166
              have fr169 : px_fi 177 72 h h164 := fi_tr fr4 fx168 (by omega)
              show px_to 51 129 [some (.ref (177)), some (.ref (a)), some (.int (nI p)), some (.int (nI ((ev.getD p (0, 0, 0, 0)).1))), none] [] h164 _
              refine e_aload_n f_51_129 rfl rfl ?_
              have g170 : h164.2.2 177 = some (6, [.ref (jb), .ref (182), .ref (214), .ref (246), .int (nI s.2.2.1), .int (bI la), .int (bI lb), .int (oI s.1.2.2.2.2), .int (s.2.2.2.2 + (nI 1)), .int (wo), .ref (248)]) := fi_at g2 fx168 (by omega)
              refine e_getf f_51_130 g170 rfl rfl ?_
              refine e_aload_n f_51_133 rfl rfl ?_
              refine e_getf f_51_134 g170 rfl rfl ?_
              refine e_aload_n f_51_137 rfl rfl ?_
              refine e_getf f_51_138 g170 rfl rfl ?_
              refine e_callV (As := [.int (bI la), .int (bI lb)]) (rest := []) f_51_141 rfl rfl rfl (Nat.le_of_ble_eq_true rfl) (Nat.le_of_ble_eq_true rfl) g167 rfl (Nat.le_of_ble_eq_true rfl) (cc_Mem_lesser (a := la) (b := lb) (M := 182) (A := if true = true then s.2.1.1 else iMax s.2.1.1 ((ev.getD p (0, 0, 0, 0)).2.2.2)) (B := if true = true then iMax s.2.1.2.1 ((ev.getD p (0, 0, 0, 0)).2.2.2) else s.2.1.2.1) (W := s.2.1.2.2) (S := s.1.1) g167 ) rfl (fun h171 r172 q173 => ?_)
              obtain ⟨rfl, qe⟩ := q173
              have qe := qe.symm
              subst qe
              show px_to 51 144 [some (.ref (177)), some (.ref (a)), some (.int (nI p)), some (.int (nI ((ev.getD p (0, 0, 0, 0)).1))), none] [.int (if la = true then (if lb = true then iMin (if true = true then s.2.1.1 else iMax s.2.1.1 ((ev.getD p (0, 0, 0, 0)).2.2.2)) (if true = true then iMax s.2.1.2.1 ((ev.getD p (0, 0, 0, 0)).2.2.2) else s.2.1.2.1) else if true = true then s.2.1.1 else iMax s.2.1.1 ((ev.getD p (0, 0, 0, 0)).2.2.2)) else (if lb = true then if true = true then iMax s.2.1.2.1 ((ev.getD p (0, 0, 0, 0)).2.2.2) else s.2.1.2.1 else (-1)))] h164 _
              show px_to 51 144 [some (.ref (177)), some (.ref (a)), some (.int (nI p)), some (.int (nI ((ev.getD p (0, 0, 0, 0)).1))), none] [.int (lesW la lb (upA true s.2.1.1 (ev.getD p (0, 0, 0, 0)).2.2.2) (upB true s.2.1.2.1 (ev.getD p (0, 0, 0, 0)).2.2.2))] h164 _
              have hA := okW_upA (b := true) p1.2.1.1 (show okW (ev.getD p (0, 0, 0, 0)).2.2.2 by rw [hte]; exact okW_N (by omega))
              have hB := okW_upB (b := true) p1.2.1.2.1 (show okW (ev.getD p (0, 0, 0, 0)).2.2.2 by rw [hte]; exact okW_N (by omega))
              refine e_istore (L' := [some (.ref (177)), some (.ref (a)), some (.int (nI p)), some (.int (nI ((ev.getD p (0, 0, 0, 0)).1))), some (.int (lesW la lb (upA true s.2.1.1 (ev.getD p (0, 0, 0, 0)).2.2.2) (upB true s.2.1.2.1 (ev.getD p (0, 0, 0, 0)).2.2.2)))]) f_51_144 (Nat.le_of_ble_eq_true rfl) rfl rfl ?_
              refine e_iload f_51_146 rfl rfl ?_
              refine e_aload_n f_51_148 rfl rfl ?_
              refine e_getf f_51_149 g170 rfl rfl ?_
              refine e_getf f_51_152 g167 rfl rfl ?_
              refine e_icmp_le f_51_155 rfl (fun c_155 => ?_) (fun c_155 => ?_)
              · skip
                refine e_vret f_51_164 rfl ?_
                rw [doEv_h0 hh hb c_155]
                have g174 : px_rs h1 183 55 6 (fun k => 182 + 5 * k + 2) := rs_fi H2 fx3 (by omega)
                have g175 : px_rs h164 183 55 6 (fun k => 182 + 5 * k + 2) := rs_fi g174 fx168 (by omega)
                have g176 : pSt h1 182 s.1.2.1 := pSt_fi H3 fx3 (by omega)
                have g177 : pSt h164 182 s.1.2.1 := pSt_fi g176 fx168 (by omega)
                have g178 : pRows h1 246 96 s.1.2.2.1 := pRows_fi H4 fx3 (by omega)
                have g179 : pRows h164 246 96 s.1.2.2.1 := pRows_fi g178 fx168 (by omega)
                have g180 : px_pa h1 248 50 30 Value.int s.1.2.2.2.1 := pa_fi H5 fx3 (by omega)
                have g181 : px_pa h164 248 50 30 Value.int s.1.2.2.2.1 := pa_fi g180 fx168 (by omega)
                have g182 : pMm h1 214 s.2.2.2.1.1 s.2.2.2.1.2.1 s.2.2.2.1.2.2.1 s.2.2.2.1.2.2.2.1 s.2.2.2.1.2.2.2.2 := pMm_fi H6 fx3 (by omega)
                have g183 : pMm h164 214 s.2.2.2.1.1 s.2.2.2.1.2.1 s.2.2.2.1.2.2.1 s.2.2.2.1.2.2.2.1 s.2.2.2.1.2.2.2.2 := pMm_fi g182 fx168 (by omega)
                exact ⟨rfl, g170, g167, g175, g177, g179, g181, g183, fr169⟩
              · skip
                have c_155 := Int32.not_le.mp c_155
                obtain ⟨wn, hwn, hwe⟩ := okW_gt p1.2.1.2.2 (okW_les hA hB) c_155
                rw [hwe]
                refine e_aload_n f_51_158 rfl rfl ?_
                refine e_iload f_51_159 rfl rfl ?_
                have g184 : px_rs h1 183 55 6 (fun k => 182 + 5 * k + 2) := rs_fi H2 fx3 (by omega)
                have g185 : px_rs h164 183 55 6 (fun k => 182 + 5 * k + 2) := rs_fi g184 fx168 (by omega)
                have g186 : pSt h1 182 s.1.2.1 := pSt_fi H3 fx3 (by omega)
                have g187 : pSt h164 182 s.1.2.1 := pSt_fi g186 fx168 (by omega)
                have g188 : pRows h1 246 96 s.1.2.2.1 := pRows_fi H4 fx3 (by omega)
                have g189 : pRows h164 246 96 s.1.2.2.1 := pRows_fi g188 fx168 (by omega)
                have g190 : px_pa h1 248 50 30 Value.int s.1.2.2.2.1 := pa_fi H5 fx3 (by omega)
                have g191 : px_pa h164 248 50 30 Value.int s.1.2.2.2.1 := pa_fi g190 fx168 (by omega)
                have g192 : pMm h1 214 s.2.2.2.1.1 s.2.2.2.1.2.1 s.2.2.2.1.2.2.1 s.2.2.2.1.2.2.2.1 s.2.2.2.1.2.2.2.2 := pMm_fi H6 fx3 (by omega)
                have g193 : pMm h164 214 s.2.2.2.1.1 s.2.2.2.1.2.1 s.2.2.2.1.2.2.1 s.2.2.2.1.2.2.2.1 s.2.2.2.1.2.2.2.2 := pMm_fi g192 fx168 (by omega)
                have g194 : pJob h164 jb j := pJob_fi H7 fr169 (by omega)
                refine e_callV (As := [.int (nI wn)]) (rest := []) f_51_161 rfl rfl rfl (Nat.le_of_ble_eq_true rfl) (Nat.le_of_ble_eq_true rfl) g170 rfl (Nat.le_of_ble_eq_true rfl) (cc_Run_tell (w := wn) (j := j) (jb := jb) (gv := s.2.2.1) (la := la) (lb := lb) (dn := s.2.2.2.2 + (nI 1)) (wo := wo) (A := if true = true then s.2.1.1 else iMax s.2.1.1 ((ev.getD p (0, 0, 0, 0)).2.2.2)) (B := if true = true then iMax s.2.1.2.1 ((ev.getD p (0, 0, 0, 0)).2.2.2) else s.2.1.2.1) (W := s.2.1.2.2) (x := s.1) (A3 := s.2.2.2.1.1) (B3 := s.2.2.2.1.2.1) (W3 := s.2.2.2.1.2.2.1) (S3 := s.2.2.2.1.2.2.2.1) (sm3 := s.2.2.2.1.2.2.2.2) g170 g167 g185 g187 g189 g191 g193 g194 (by omega) (p1.1) (by omega) (by omega)) rfl (fun h195 r196 q197 => ?_)
                obtain ⟨rfl, g198, g199, g200, g201, g202, g203, g204, fx205⟩ := q197
                have fr206 : px_fi 177 72 h h195 := fi_tr fr169 fx205 (by omega)
                show px_to 51 164 [some (.ref (177)), some (.ref (a)), some (.int (nI p)), some (.int (nI ((ev.getD p (0, 0, 0, 0)).1))), some (.int (nI wn))] [] h195 _
                refine e_vret f_51_164 rfl ?_
                rw [doEv_h1 hh hb c_155 hwe hwn]
                exact ⟨rfl, g198, g199, g200, g201, g202, g203, g204, fr206⟩
      · skip
        have c_58 : (ev.getD p (0, 0, 0, 0)).1 = 107 := cv_nne (by omega) (by omega) c_58
        refine e_aload_n f_51_61 rfl rfl ?_
        refine e_aload_n f_51_62 rfl rfl ?_
        refine e_getf f_51_63 g2 rfl rfl ?_
        have g207 : pRows h1 246 96 s.1.2.2.1 := pRows_fi H4 fx3 (by omega)
        refine e_getf f_51_66 g207.1 rfl rfl ?_
        refine e_putp (vs' := [.ref (jb), .ref (182), .ref (214), .ref (246), .int (nI s.1.2.2.1.length), .int (bI la), .int (bI lb), .int (oI s.1.2.2.2.2), .int (s.2.2.2.2 + (nI 1)), .int (wo), .ref (248)]) f_51_69 g2 (Nat.le_of_ble_eq_true rfl) (rfl) (rfl) rfl rfl (fun h208 g209 fx210 => ?_)
        have fr211 : px_fi 177 72 h h208 := fi_tr fr4 fx210 (by omega)
        refine e_aload_n f_51_72 rfl rfl ?_
        refine e_getf f_51_73 g209 rfl rfl ?_
        refine e_aload_n f_51_76 rfl rfl ?_
        refine e_getf f_51_77 g209 rfl rfl ?_
        refine e_aload_n f_51_80 rfl rfl ?_
        refine e_getf f_51_81 g209 rfl rfl ?_
        have g212 : pJob h208 jb j := pJob_fi H7 fr211 (by omega)
        refine e_getf f_51_84 g212.1 rfl rfl ?_
        have g213 : pMm h1 214 s.2.2.2.1.1 s.2.2.2.1.2.1 s.2.2.2.1.2.2.1 s.2.2.2.1.2.2.2.1 s.2.2.2.1.2.2.2.2 := pMm_fi H6 fx3 (by omega)
        have g214 : pMm h208 214 s.2.2.2.1.1 s.2.2.2.1.2.1 s.2.2.2.1.2.2.1 s.2.2.2.1.2.2.2.1 s.2.2.2.1.2.2.2.2 := pMm_fi g213 fx210 (by omega)
        have g215 : h208.2.2 214 = some (2, [.int (s.2.2.2.1.1), .int (s.2.2.2.1.2.1), .int (s.2.2.2.1.2.2.1), .int (s.2.2.2.1.2.2.2.1), .ref (215)]) := g214.1
        have g216 : px_rs h208 215 55 6 (fun k => 214 + 5 * k + 2) := g214.2.1
        have g217 : pSt h208 214 s.2.2.2.1.2.2.2.2 := g214.2.2
        have g218 : h1.2.2 182 = some (2, [.int (s.2.1.1), .int (s.2.1.2.1), .int (s.2.1.2.2), .int (s.1.1), .ref (183)]) := fi_at H1 fx3 (by omega)
        have g219 : h208.2.2 182 = some (2, [.int (s.2.1.1), .int (s.2.1.2.1), .int (s.2.1.2.2), .int (s.1.1), .ref (183)]) := fi_at g218 fx210 (by omega)
        have g220 : px_rs h1 183 55 6 (fun k => 182 + 5 * k + 2) := rs_fi H2 fx3 (by omega)
        have g221 : px_rs h208 183 55 6 (fun k => 182 + 5 * k + 2) := rs_fi g220 fx210 (by omega)
        have g222 : pSt h1 182 s.1.2.1 := pSt_fi H3 fx3 (by omega)
        have g223 : pSt h208 182 s.1.2.1 := pSt_fi g222 fx210 (by omega)
        refine e_callV (As := [.ref (182), .int (nI j.length)]) (rest := []) f_51_87 rfl rfl rfl (Nat.le_of_ble_eq_true rfl) (Nat.le_of_ble_eq_true rfl) g215 rfl (Nat.le_of_ble_eq_true rfl) (cc_Mem_copy (n := j.length) (M := 214) (A := s.2.2.2.1.1) (B := s.2.2.2.1.2.1) (W := s.2.2.2.1.2.2.1) (S := s.2.2.2.1.2.2.2.1) (sms := s.2.2.2.1.2.2.2.2) (M2 := 182) (A2 := s.2.1.1) (B2 := s.2.1.2.1) (W2 := s.2.1.2.2) (S2 := s.1.1) (sm2 := s.1.2.1) g215 g216 g217 g219 g221 g223 (by omega) (by omega) (by omega) (p1.1.1.1) (okM_c p1.1.1)) rfl (fun h224 r225 q226 => ?_)
        obtain ⟨rfl, g227, g228, g229, fx230⟩ := q226
        have fr231 : px_fi 177 72 h h224 := fi_tr fr211 fx230 (by omega)
        show px_to 51 90 [some (.ref (177)), some (.ref (a)), some (.int (nI p)), some (.int (nI ((ev.getD p (0, 0, 0, 0)).1))), none] [] h224 _
        refine e_goto f_51_90 ?_
        refine e_vret f_51_164 rfl ?_
        have g232 : pMm h224 214 s.2.1.1 s.2.1.2.1 s.2.1.2.2 s.1.1 s.1.2.1 := ⟨g227, g228, g229⟩
        rw [doEv_k c_58]
        have g233 : h224.2.2 177 = some (6, [.ref (jb), .ref (182), .ref (214), .ref (246), .int (nI s.1.2.2.1.length), .int (bI la), .int (bI lb), .int (oI s.1.2.2.2.2), .int (s.2.2.2.2 + (nI 1)), .int (wo), .ref (248)]) := fi_at g209 fx230 (by omega)
        have g234 : h224.2.2 182 = some (2, [.int (s.2.1.1), .int (s.2.1.2.1), .int (s.2.1.2.2), .int (s.1.1), .ref (183)]) := fi_at g219 fx230 (by omega)
        have g235 : px_rs h224 183 55 6 (fun k => 182 + 5 * k + 2) := rs_fi g221 fx230 (by omega)
        have g236 : pSt h224 182 s.1.2.1 := pSt_fi g223 fx230 (by omega)
        have g237 : pRows h208 246 96 s.1.2.2.1 := pRows_fi g207 fx210 (by omega)
        have g238 : pRows h224 246 96 s.1.2.2.1 := pRows_fi g237 fx230 (by omega)
        have g239 : px_pa h1 248 50 30 Value.int s.1.2.2.2.1 := pa_fi H5 fx3 (by omega)
        have g240 : px_pa h208 248 50 30 Value.int s.1.2.2.2.1 := pa_fi g239 fx210 (by omega)
        have g241 : px_pa h224 248 50 30 Value.int s.1.2.2.2.1 := pa_fi g240 fx230 (by omega)
        exact ⟨rfl, g233, g234, g235, g236, g238, g241, g232, fr231⟩
    · skip
      have c_26 : (ev.getD p (0, 0, 0, 0)).1 = 82 := cv_nne (by omega) (by omega) c_26
      refine e_aload_n f_51_29 rfl rfl ?_
      refine e_iconst (v := nI 0) f_51_30 (by decide) rfl ?_
      refine e_aload_n f_51_31 rfl rfl ?_
      refine e_getf f_51_32 g5.1 rfl rfl ?_
      refine e_iload_n f_51_35 rfl rfl ?_
      refine e_iaload_p (xs := ev) f_51_36 g5.2.2.1 (d := (0, 0, 0, 0)) (by first | omega | (simp only [List.length_set]; omega)) rfl ?_
      show px_to 51 37 [some (.ref (177)), some (.ref (a)), some (.int (nI p)), some (.int (nI ((ev.getD p (0, 0, 0, 0)).1))), none] [.int ((ev.getD p (0, 0, 0, 0)).2.1), .int (nI 0), .ref (177)] h1 _
      refine e_aload_n f_51_37 rfl rfl ?_
      refine e_getf f_51_38 g5.1 rfl rfl ?_
      refine e_iload_n f_51_41 rfl rfl ?_
      refine e_iaload_p (xs := ev) f_51_42 g5.2.2.2.1 (d := (0, 0, 0, 0)) (by first | omega | (simp only [List.length_set]; omega)) rfl ?_
      show px_to 51 43 [some (.ref (177)), some (.ref (a)), some (.int (nI p)), some (.int (nI ((ev.getD p (0, 0, 0, 0)).1))), none] [.int ((ev.getD p (0, 0, 0, 0)).2.2.1), .int ((ev.getD p (0, 0, 0, 0)).2.1), .int (nI 0), .ref (177)] h1 _
      refine e_aload_n f_51_43 rfl rfl ?_
      refine e_getf f_51_44 g5.1 rfl rfl ?_
      refine e_iload_n f_51_47 rfl rfl ?_
      refine e_iaload_p (xs := ev) f_51_48 g5.2.2.2.2.1 (d := (0, 0, 0, 0)) (by first | omega | (simp only [List.length_set]; omega)) rfl ?_
      show px_to 51 49 [some (.ref (177)), some (.ref (a)), some (.int (nI p)), some (.int (nI ((ev.getD p (0, 0, 0, 0)).1))), none] [.int ((ev.getD p (0, 0, 0, 0)).2.2.2), .int ((ev.getD p (0, 0, 0, 0)).2.2.1), .int ((ev.getD p (0, 0, 0, 0)).2.1), .int (nI 0), .ref (177)] h1 _
      have hrR : (ev.getD p (0, 0, 0, 0)).1 = 114 ∨ (ev.getD p (0, 0, 0, 0)).1 = 82 := by omega
      obtain ⟨kk, hk4, hke⟩ := p5.2.1 hrR
      obtain ⟨tt, ht9, hte⟩ := p5.2.2 (by omega)
      rw [hke, hte]
      have g242 : h1.2.2 182 = some (2, [.int (s.2.1.1), .int (s.2.1.2.1), .int (s.2.1.2.2), .int (s.1.1), .ref (183)]) := fi_at H1 fx3 (by omega)
      have g243 : px_rs h1 183 55 6 (fun k => 182 + 5 * k + 2) := rs_fi H2 fx3 (by omega)
      have g244 : pSt h1 182 s.1.2.1 := pSt_fi H3 fx3 (by omega)
      have g245 : pRows h1 246 96 s.1.2.2.1 := pRows_fi H4 fx3 (by omega)
      have g246 : px_pa h1 248 50 30 Value.int s.1.2.2.2.1 := pa_fi H5 fx3 (by omega)
      have g247 : pMm h1 214 s.2.2.2.1.1 s.2.2.2.1.2.1 s.2.2.2.1.2.2.1 s.2.2.2.1.2.2.2.1 s.2.2.2.1.2.2.2.2 := pMm_fi H6 fx3 (by omega)
      have g248 : pJob h1 jb j := pJob_fi H7 fr4 (by omega)
      refine e_callV (As := [.int (nI 0), .int (nI kk), .int ((ev.getD p (0, 0, 0, 0)).2.2.1), .int (nI tt)]) (rest := []) f_51_49 rfl rfl rfl (Nat.le_of_ble_eq_true rfl) (Nat.le_of_ble_eq_true rfl) g2 rfl (Nat.le_of_ble_eq_true rfl) (cc_Run_passX (f := 0) (key := kk) (v := (ev.getD p (0, 0, 0, 0)).2.2.1) (t := tt) (j := j) (jb := jb) (gv := s.2.2.1) (la := la) (lb := lb) (dn := s.2.2.2.2 + (nI 1)) (wo := wo) (A := s.2.1.1) (B := s.2.1.2.1) (W := s.2.1.2.2) (x := s.1) (A3 := s.2.2.2.1.1) (B3 := s.2.2.2.1.2.1) (W3 := s.2.2.2.1.2.2.1) (S3 := s.2.2.2.1.2.2.2.1) (sm3 := s.2.2.2.1.2.2.2.2) g2 g242 g243 g244 g245 g246 g247 g248 (by omega) (p1.1) (by omega) (by omega) (by omega) (by omega) (p6)) rfl (fun h249 r250 q251 => ?_)
      obtain ⟨rfl, g252, g253, g254, g255, g256, g257, g258, fx259⟩ := q251
      have fr260 : px_fi 177 72 h h249 := fi_tr fr4 fx259 (by omega)
      show px_to 51 52 [some (.ref (177)), some (.ref (a)), some (.int (nI p)), some (.int (nI ((ev.getD p (0, 0, 0, 0)).1))), none] [] h249 _
      refine e_goto f_51_52 ?_
      refine e_vret f_51_164 rfl ?_
      rw [doEv_r hrR hke hk4 hte ht9]
      exact ⟨rfl, g252, g253, g254, g255, g256, g257, g258, fr260⟩
