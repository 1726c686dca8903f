def isT (s : St) : Nat := if s.1 = 116 then 2 else 1
def mulF (j : List St) (i : Nat) : Nat → Nat
  | 0 => 1
  | n + 1 => isT (j.getD i (0, 0, 0)) * mulF j (i + 1) n
/-- how much a row that comes to step i may make of itself before k -/
def Mz (j : List St) (i k : Nat) : Nat := if i ≤ k then mulF j i (k - i) else 0
theorem Mz_self (j : List St) (k : Nat) : Mz j k k = 1 := by
  unfold Mz
  rw [if_pos (Nat.le_refl _), Nat.sub_self]
  rfl
theorem mulF_e (j : List St) (i : Nat) : ∀ n, mulF j i (n + 1) = isT (j.getD i (0, 0, 0)) * mulF j (i + 1) n := fun _ => rfl
theorem Mz_s {j : List St} {i k : Nat} (h : i < k) : Mz j i k = isT (j.getD i (0, 0, 0)) * Mz j (i + 1) k := by
  unfold Mz
  rw [if_pos (by omega), if_pos (by omega), show k - i = (k - (i + 1)) + 1 by omega]
  rfl
theorem Mz_gt {j : List St} {i k : Nat} (h : k < i) : Mz j i k = 0 := by
  unfold Mz
  rw [if_neg (by omega)]
def setN (ti : List Int32) : Nat := (if ti.getD 0 0 = -1 then 0 else 1) + (if ti.getD 1 0 = -1 then 0 else 1) + (if ti.getD 2 0 = -1 then 0 else 1) + (if ti.getD 3 0 = -1 then 0 else 1)
def pend (s : St) (m : SM) : Nat := if s.1 = 119 then m.2.2.2.1.length else if s.1 = 116 then setN m.2.2.1 else 0
def sizM (s : St) (m : SM) : Nat := if s.1 = 100 ∨ s.1 = 119 then m.2.2.2.1.length else 0
def sumF (f : Nat → Nat) : Nat → Nat
  | 0 => 0
  | k + 1 => sumF f k + f k
def Phi (j : List St) (sms : List SM) (n k : Nat) : Nat := (if k < j.length then sizM (j.getD k (0, 0, 0)) (sms.getD k sm0) else if k = j.length then n else 0) + sumF (fun i => pend (j.getD i (0, 0, 0)) (sms.getD i sm0) * Mz j (i + 1) k) k
theorem sumF_eq {f g : Nat → Nat} : ∀ {k : Nat}, (∀ i, i < k → f i = g i) → sumF f k = sumF g k
  | 0, _ => rfl
  | k + 1, h => by
    show sumF f k + f k = sumF g k + g k
    rw [sumF_eq (fun i hi => h i (by omega)), h k (by omega)]
theorem sumF_upd {f g : Nat → Nat} {i : Nat} : ∀ {k : Nat}, i < k → (∀ q, q ≠ i → f q = g q) → sumF g k + f i = sumF f k + g i
  | 0, h, _ => absurd h (by omega)
  | k + 1, h, e => by
    show sumF g k + g k + f i = sumF f k + f k + g i
    by_cases c : i = k
    · subst c
      rw [sumF_eq (k := i) (fun q hq => e q (by omega))]
      omega
    · have := sumF_upd (k := k) (by omega) e
      rw [e k (fun z => c z.symm)]
      omega
theorem Phi_lt {j : List St} {sms : List SM} {n i k : Nat} {m : SM} (h : k < i) : Phi j (sms.set i m) n k = Phi j sms n k := by
  unfold Phi
  rw [getD_set_ne (by omega), sumF_eq (fun q hq => by rw [getD_set_ne (by omega)])]
theorem Phi_at {j : List St} {sms : List SM} {n i : Nat} {m : SM} (h : i < j.length) (hl : i < sms.length) : Phi j (sms.set i m) n i + sizM (j.getD i (0, 0, 0)) (sms.getD i sm0) = Phi j sms n i + sizM (j.getD i (0, 0, 0)) m := by
  unfold Phi
  rw [getD_set_same hl, if_pos h, if_pos h, sumF_eq (g := fun q => pend (j.getD q (0, 0, 0)) (sms.getD q sm0) * Mz j (q + 1) i) (fun q hq => by rw [getD_set_ne (by omega)])]
  omega
theorem Phi_gt {j : List St} {sms : List SM} {n i k : Nat} {m : SM} (h : i < k) (hl : i < sms.length) : Phi j (sms.set i m) n k + pend (j.getD i (0, 0, 0)) (sms.getD i sm0) * Mz j (i + 1) k = Phi j sms n k + pend (j.getD i (0, 0, 0)) m * Mz j (i + 1) k := by
  unfold Phi
  rw [getD_set_ne (by omega)]
  have := sumF_upd (f := fun q => pend (j.getD q (0, 0, 0)) (sms.getD q sm0) * Mz j (q + 1) k) (g := fun q => pend (j.getD q (0, 0, 0)) ((sms.set i m).getD q sm0) * Mz j (q + 1) k) (i := i) (k := k) h (fun q hq => by rw [getD_set_ne (fun z => hq z.symm)])
  rw [getD_set_same hl] at this
  omega
theorem Phi_out {j : List St} {sms : List SM} {n n' k : Nat} (h : n' ≤ n + 1) : Phi j sms n' k ≤ Phi j sms n k + Mz j j.length k := by
  unfold Phi
  by_cases c : k < j.length
  · rw [if_pos c, if_pos c]; omega
  · by_cases c2 : k = j.length
    · subst c2
      rw [if_neg c, if_pos rfl, if_neg c, if_pos rfl, Mz_self]
      omega
    · rw [if_neg c, if_neg c2, if_neg c, if_neg c2]; omega
theorem Phi_mono {j : List St} {sms : List SM} {n n' k : Nat} (h : n' ≤ n) : Phi j sms n' k ≤ Phi j sms n k := by
  unfold Phi
  repeat' split
  all_goals omega
theorem Phi_go {j : List St} {sms : List SM} {n i : Nat} {m : SM} (h : i < j.length) (hl : i < sms.length) (hp : pend (j.getD i (0, 0, 0)) m + 1 ≤ pend (j.getD i (0, 0, 0)) (sms.getD i sm0) + isT (j.getD i (0, 0, 0))) (hs : sizM (j.getD i (0, 0, 0)) m ≤ sizM (j.getD i (0, 0, 0)) (sms.getD i sm0) + 1) (k : Nat) : Phi j (sms.set i m) n k + Mz j (i + 1) k ≤ Phi j sms n k + Mz j i k := by
  rcases Nat.lt_trichotomy k i with c | c | c
  · rw [Phi_lt c, Mz_gt (by omega), Mz_gt c]; omega
  · subst c
    have := Phi_at (n := n) (m := m) h hl
    rw [Mz_gt (by omega), Mz_self]
    omega
  · have h1 := Phi_gt (j := j) (n := n) (m := m) c hl
    have h2 := Nat.mul_le_mul_right (Mz j (i + 1) k) hp
    rw [Nat.add_mul, Nat.add_mul, Nat.one_mul] at h2
    rw [Mz_s c]
    omega
theorem Phi_stop {j : List St} {sms : List SM} {n i : Nat} {m : SM} (h : i < j.length) (hl : i < sms.length) (hp : pend (j.getD i (0, 0, 0)) m ≤ pend (j.getD i (0, 0, 0)) (sms.getD i sm0) + isT (j.getD i (0, 0, 0))) (hs : sizM (j.getD i (0, 0, 0)) m ≤ sizM (j.getD i (0, 0, 0)) (sms.getD i sm0) + 1) (k : Nat) : Phi j (sms.set i m) n k ≤ Phi j sms n k + Mz j i k := by
  rcases Nat.lt_trichotomy k i with c | c | c
  · rw [Phi_lt c, Mz_gt c]; omega
  · subst c
    have := Phi_at (n := n) (m := m) h hl
    rw [Mz_self]
    omega
  · have h1 := Phi_gt (j := j) (n := n) (m := m) c hl
    have h2 := Nat.mul_le_mul_right (Mz j (i + 1) k) hp
    rw [Nat.add_mul] at h2
    rw [Mz_s c]
    omega
theorem Phi_pop {j : List St} {sms : List SM} {n i : Nat} {m : SM} (h : i < j.length) (hl : i < sms.length) (hp : pend (j.getD i (0, 0, 0)) m + 1 ≤ pend (j.getD i (0, 0, 0)) (sms.getD i sm0)) (hs : sizM (j.getD i (0, 0, 0)) m ≤ sizM (j.getD i (0, 0, 0)) (sms.getD i sm0)) (k : Nat) : Phi j (sms.set i m) n k + Mz j (i + 1) k ≤ Phi j sms n k := by
  rcases Nat.lt_trichotomy k i with c | c | c
  · rw [Phi_lt c, Mz_gt (by omega)]; omega
  · subst c
    have := Phi_at (n := n) (m := m) h hl
    rw [Mz_gt (by omega)]
    omega
  · have h1 := Phi_gt (j := j) (n := n) (m := m) c hl
    have h2 := Nat.mul_le_mul_right (Mz j (i + 1) k) hp
    rw [Nat.add_mul, Nat.one_mul] at h2
    omega
theorem Phi_same {j : List St} {sms : List SM} {n i : Nat} {m : SM} (hl : i < sms.length) (hp : pend (j.getD i (0, 0, 0)) m = pend (j.getD i (0, 0, 0)) (sms.getD i sm0)) (hs : sizM (j.getD i (0, 0, 0)) m = sizM (j.getD i (0, 0, 0)) (sms.getD i sm0)) (h : i < j.length) (k : Nat) : Phi j (sms.set i m) n k = Phi j sms n k := by
  rcases Nat.lt_trichotomy k i with c | c | c
  · exact Phi_lt c
  · subst c
    have := Phi_at (n := n) (m := m) h hl
    omega
  · have h1 := Phi_gt (j := j) (n := n) (m := m) c hl
    rw [hp] at h1
    omega
theorem dAdd_len (m : Int64) (ms : List Int64) : (dAdd m ms).length ≤ ms.length + 1 := by
  unfold dAdd
  split
  · omega
  · rw [List.length_append, List.length_singleton]; omega
theorem spAdd_len1 (m : Int64) (ms : List Int64) (cs : List Int32) : (spAdd m ms cs).1.length ≤ ms.length + 1 := by
  have := spPos_le m ms
  unfold spAdd
  repeat' split
  all_goals dsimp only
  · omega
  · omega
  · rw [List.length_append, List.length_cons, List.length_take, List.length_drop]; omega
theorem setN_up {ti : List Int32} {q : Nat} {v : Int32} : setN (ti.set q v) ≤ setN ti + 1 := by
  unfold setN
  rcases (show q = 0 ∨ q = 1 ∨ q = 2 ∨ q = 3 ∨ 4 ≤ q by omega) with e | e | e | e | e
  · subst e
    rw [getD_set_ne (i := 1) (by omega), getD_set_ne (i := 2) (by omega), getD_set_ne (i := 3) (by omega)]
    repeat' split
    all_goals omega
  · subst e
    rw [getD_set_ne (i := 0) (by omega), getD_set_ne (i := 2) (by omega), getD_set_ne (i := 3) (by omega)]
    repeat' split
    all_goals omega
  · subst e
    rw [getD_set_ne (i := 0) (by omega), getD_set_ne (i := 1) (by omega), getD_set_ne (i := 3) (by omega)]
    repeat' split
    all_goals omega
  · subst e
    rw [getD_set_ne (i := 0) (by omega), getD_set_ne (i := 1) (by omega), getD_set_ne (i := 2) (by omega)]
    repeat' split
    all_goals omega
  · rw [getD_set_ne (i := 0) (by omega), getD_set_ne (i := 1) (by omega), getD_set_ne (i := 2) (by omega), getD_set_ne (i := 3) (by omega)]
    omega
theorem setN_down {ti : List Int32} {q : Nat} (hq : q < 4) (hl : ti.length = 4) (h : ti.getD q 0 ≠ -1) : setN (ti.set q (-1)) + 1 = setN ti := by
  unfold setN
  rcases (show q = 0 ∨ q = 1 ∨ q = 2 ∨ q = 3 by omega) with e | e | e | e
  · subst e
    rw [getD_set_ne (i := 1) (by omega), getD_set_ne (i := 2) (by omega), getD_set_ne (i := 3) (by omega), getD_set_same (by omega), if_neg h, if_pos rfl]
    omega
  · subst e
    rw [getD_set_ne (i := 0) (by omega), getD_set_ne (i := 2) (by omega), getD_set_ne (i := 3) (by omega), getD_set_same (by omega), if_neg h, if_pos rfl]
    omega
  · subst e
    rw [getD_set_ne (i := 0) (by omega), getD_set_ne (i := 1) (by omega), getD_set_ne (i := 3) (by omega), getD_set_same (by omega), if_neg h, if_pos rfl]
    omega
  · subst e
    rw [getD_set_ne (i := 0) (by omega), getD_set_ne (i := 1) (by omega), getD_set_ne (i := 2) (by omega), getD_set_same (by omega), if_neg h, if_pos rfl]
theorem stepDo_pend {s : St} {m : SM} {key t : Nat} {v : Int32} (hs : okSt s) : pend s (stepDo s m key v t).2.1 + (if (stepDo s m key v t).1 = none then 0 else 1) ≤ pend s m + isT s ∧ sizM s (stepDo s m key v t).2.1 ≤ sizM s m + 1 := by
  rcases hs.1 with c | c | c | c | c | c | c
  · rw [sd_f c]; unfold pend sizM isT; rw [c]; simp; split <;> simp
  · rw [sd_m c]; unfold pend sizM isT; rw [c]; simp
  · rw [sd_q c]; unfold pend sizM isT; rw [c]; simp
  · rw [sd_d c]
    have := dAdd_len (mkM key v) m.2.2.2.1
    unfold pend sizM isT
    rw [c]
    simp
    refine ⟨by split <;> simp, this⟩
  · rw [sd_s c]; unfold pend sizM isT; rw [c]; simp
  · rw [sd_w c rfl]
    have := spAdd_len1 (mkM key (nI ((t / nN s.2.2 + 1) * nN s.2.2))) m.2.2.2.1 m.2.2.2.2
    unfold pend sizM isT
    rw [c]
    simp
    split <;> omega
  · rw [sd_t c]
    have := setN_up (ti := m.2.2.1) (q := key) (v := nI t + s.2.2)
    unfold pend sizM isT
    rw [c]
    simp
    omega
