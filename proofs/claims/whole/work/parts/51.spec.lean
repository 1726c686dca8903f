def c30 : CS3 := ([], [], 61)
def c3of (t : CT7) : CS3 := (t.1, t.2.1, t.2.2.1)
/-- a run of some places of a case: what is said of it -/
def vdE (j : List St) (x : CS3) (es : List Ev) : Nat := vd x.2.2 (runO j es).2.2.1 (runO j es).2.1 x.2.1
def plO (j : List St) (ev : List Ev) : RO := runO j (evs ev (evPl ev 0))
def nAB (ev : List Ev) : Nat := evCnt false ev + evCnt true ev
def scO (j : List St) (ev : List Ev) (bits : Int32) : RO := runO j (evs ev (schL ev (bsOf bits (nAB ev)) 0 0))
def isEq (j : List St) (ev : List Ev) (bits : Int32) : Bool := decide (((scO j ev bits).2.2.1 = none ↔ (plO j ev).2.2.1 = none) ∧ rsort (scO j ev bits).2.1 = rsort (plO j ev).2.1)
def scL (ev : List Ev) (s : Nat) : List Nat := schU (evCnt false ev) (evCnt true ev) s
/-- the places of the unequal ones among the first n schedules -/
def unL (j : List St) (ev : List Ev) (n : Nat) : List Nat := (List.range n).filter (fun i => !isEq j ev (nI ((scL ev 3).getD i 0)))
/-- events are left out as long as it says v -/
def shr (j : List St) (x : CS3) (v : Nat) : Nat → Nat → List Nat → List Nat
  | 0, _, ps => ps
  | f + 1, i, ps => if i < ps.length then (if vdE j x (evs x.1 (ps.eraseIdx i)) = v then shr j x v f 0 (ps.eraseIdx i) else shr j x v f (i + 1) ps) else ps
def shL (j : List St) (x : CS3) : Option (List Nat) := if vdE j x x.1 = 1 then none else some (shr j x (vdE j x x.1) 600 0 (List.range x.1.length))
def killB (j : List St) (x : CS3) (k : Nat) : Bool := decide (vdE j x x.1 = 1 ∧ vdE (mutJ j k) x x.1 ≠ 1)
def killN (j : List St) (k : Nat) : List CS3 → Nat → Nat
  | [], _ => 0
  | x :: r, c => (if killB j x k = true then 2 ^ c else 0) + killN j k r (c + 1)
def killL (j : List St) (xs : List CS3) : List Int32 := (List.range 30).map (fun k => if k < jMut j then nI (killN j k xs 0) else nI 0)
def covL (j : List St) (xs : List CS3) (tl : List Int32) : List Int32 := xs.foldl (fun tl x => (runS j x.1 tl).1.2.2.2.1) tl
def okB (j : List St) : Prop := okJ j ∧ ∀ s ∈ j, okP s
/-- what a case has been found to be holds -/
def okK (j : List St) (t : CT7) : Prop := okT t ∧ t.2.2.2.2.2.1 ≤ (scL t.1 3).length ∧ t.2.2.2.2.2.2 = unL j t.1 t.2.2.2.2.2.1 ∧ (t.2.2.2.1 = -4 ∨ (t.2.2.2.1 = -2 ∧ shL j (c3of t) = none) ∨ (t.2.2.2.1 = nI t.2.2.2.2.1.length ∧ shL j (c3of t) = some t.2.2.2.2.1))
/-- what is kept of runs holds -/
def okJT (tx : List Nat) (j : List St) (cs : List CT7) (S D : Nat) (kk ck : Bool) (wo : Int32) (x : RO) (kl cv : List Int32) : Prop :=
  ((S = 19 ∧ D = 97) ∨ (S = 97 ∧ D = 19)) ∧ okTx tx ∧ okB j ∧ (cs.length ≤ 8 ∧ ∀ t ∈ cs, okK j t) ∧ (∀ c, c < cs.length → wo = nI c → x = runO j (cs.getD c ct0).1) ∧ (kl.length = 30 ∧ (kk = true → kl = killL j (cs.map c3of))) ∧ (cv.length = 30 ∧ (ck = true → cv = covL j (cs.map c3of) tl0))
def pDr (h : px_H) (D : Nat) : Prop := ∃ (n : Nat) (j0 : List St) (cs0 : List CT7), h.2.2 D = some (8, [.ref (D + 1), .ref (D + 5), .int (nI n)]) ∧ pJob h (D + 1) j0 ∧ px_rs h (D + 5) 56 8 (fun k => D + 9 * k + 6) ∧ pCs h D cs0
theorem pDr_fi {h h1 : px_H} {D lo n : Nat} (p : pDr h D) (f : px_fi lo n h h1) (d : D + 78 ≤ lo ∨ lo + n ≤ D) : pDr h1 D := by
  obtain ⟨n, j0, cs0, z1, z2, z3, z4⟩ := p
  exact ⟨n, j0, cs0, fi_at z1 f (by omega), pJob_fi z2 f (by omega), rs_fi z3 f (by omega), pCs_fi z4 f (by omega)⟩
def pRA (h : px_H) : Prop := ∃ (r0 : Nat) (l0 n0 q0 : Int32), h.2.2 175 = some (4, [.ref r0, .int l0, .int n0, .int q0])
theorem pRA_fi {h h1 : px_H} {lo n : Nat} (p : pRA h) (f : px_fi lo n h h1) (d : 176 ≤ lo ∨ lo + n ≤ 175) : pRA h1 := by
  obtain ⟨r0, l0, n0, q0, z⟩ := p
  exact ⟨r0, l0, n0, q0, fi_at z f (by omega)⟩
def pSc (h : px_H) : Prop := ∃ (n : Nat) (A0 B0 : Int32) (xs es : List Nat), h.2.2 258 = some (7, [.ref (259), .ref (260), .int (nI n), .int (A0), .int (B0)]) ∧ px_pa h 259 50 266 vN xs ∧ px_pa h 260 50 4 vN es ∧ es.length = 4 ∧ ∀ a b : Nat, a + b ≤ 24 → nI a = A0 ∧ nI b = B0 → n = (schU a b 3).length ∧ xs = schU a b 3 ∧ es = schE a b
theorem pSc_fi {h h1 : px_H} {lo n : Nat} (p : pSc h) (f : px_fi lo n h h1) (d : 261 ≤ lo ∨ lo + n ≤ 258) : pSc h1 := by
  obtain ⟨n, A0, B0, xs, es, z1, z2, z3, z4, z5⟩ := p
  exact ⟨n, A0, B0, xs, es, fi_at z1 f (by omega), pa_fi z2 f (by omega), pa_fi z3 f (by omega), z4, z5⟩
def pJA (h : px_H) (a : Nat) : Prop := ∃ q, pJob h a q
theorem pJA_fi {h h1 : px_H} {a lo n : Nat} (p : pJA h a) (f : px_fi lo n h h1) (d : a + 4 ≤ lo ∨ lo + n ≤ a) : pJA h1 a := by
  obtain ⟨q, z⟩ := p
  exact ⟨q, pJob_fi z f d⟩
def pRwA (h : px_H) (a : Nat) : Prop := ∃ q, pRows h a 96 q
theorem pRwA_fi {h h1 : px_H} {a lo n : Nat} (p : pRwA h a) (f : px_fi lo n h h1) (d : a + 2 ≤ lo ∨ lo + n ≤ a) : pRwA h1 a := by
  obtain ⟨q, z⟩ := p
  exact ⟨q, pRows_fi z f d⟩

def pJT (h : px_H) (tx : List Nat) (j : List St) (xs : List CS3) : Prop := ∃ (cs : List CT7) (S D : Nat) (pz kk ck : Bool) (wo : Int32) (x : RO) (kl cv : List Int32), h.2.2 17 = some (11, [.ref (18), .int (nI tx.length), .ref (S), .ref (D), .ref (175), .ref (177), .ref (249), .ref (254), .ref (256), .ref (258), .ref (261), .ref (265), .int (bI pz), .ref (267), .int (bI kk), .ref (268), .int (bI ck)]) ∧ px_pa h 18 52 500 vN tx ∧ h.2.2 S = some (8, [.ref (S + 1), .ref (S + 5), .int (nI cs.length)]) ∧ pJob h (S + 1) j ∧ px_rs h (S + 5) 56 8 (fun k => S + 9 * k + 6) ∧ pCs h S cs ∧ pDr h D ∧ pRA h ∧ pRun h wo x ∧ pJud h ∧ pOrA h 254 ∧ pOrA h 256 ∧ pSc h ∧ pJA h 261 ∧ pRwA h 265 ∧ px_pa h 267 50 30 Value.int kl ∧ px_pa h 268 50 30 Value.int cv ∧ pStr h 1 ([60, 61, 62]) ∧ pStr h 2 ([43, 45, 42, 47]) ∧ pStr h 3 stepSigns ∧ pStr h 4 ([60, 61, 62]) ∧ pStr h 5 ([43, 45, 42, 47]) ∧ pStr h 6 evSigns ∧ pStr h 7 keyL ∧ pStr h 8 ordL ∧ xs = cs.map c3of ∧ okJT tx j cs S D kk ck wo x kl cv
