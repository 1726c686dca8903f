theorem shrN {n k : Nat} (hn : n < 2 ^ 31) (hk : k < 32) : nI n >>> (nI k &&& 31) = nI (n / 2 ^ k) := by
  rw [nI_sh k hk]
  apply Int32.toInt_inj.mp
  have hd : n / 2 ^ k ≤ n := Nat.div_le_self _ _
  have e : (nI n >>> nI k).toInt = (nI n).toInt >>> k := by
    have h1 : ((nI k).toBitVec.smod 32).toNat = k := by
      show ((BitVec.ofNat 32 k).smod 32).toNat = k
      rw [i_sm k hk, BitVec.toNat_ofNat]
      omega
    conv => rhs; rw [← h1]
    exact BitVec.toInt_sshiftRight ..
  rw [e, Int.shiftRight_eq_div_pow, nI_toInt hn, nI_toInt (by omega)]
  rfl
theorem pcn_add : ∀ (k x y m : Nat), x < 2 ^ k → pcn (x + y * 2 ^ k) (k + m) = pcn x k + pcn y m
  | 0, x, y, m, h => by
    have : x = 0 := by simpa using h
    subst this
    simp [pcn]
  | k + 1, x, y, m, h => by
    rw [Nat.pow_succ] at h
    rw [show k + 1 + m = (k + m) + 1 by omega, pcn, pcn, show (x + y * 2 ^ (k + 1)) % 2 = x % 2 by rw [Nat.pow_succ, ← Nat.mul_assoc]; omega, show (x + y * 2 ^ (k + 1)) / 2 = x / 2 + y * 2 ^ k by rw [Nat.pow_succ, ← Nat.mul_assoc]; omega, pcn_add k (x / 2) y m (by omega)]
    omega
theorem pcn_ones : ∀ n, pcn (ones n) n = n
  | 0 => rfl
  | n + 1 => by
    have h := pcn_ones n
    have h2 : 0 < 2 ^ n := Nat.two_pow_pos n
    unfold ones at h ⊢
    rw [pcn, show (2 ^ (n + 1) - 1) % 2 = 1 by rw [Nat.pow_succ]; omega, show (2 ^ (n + 1) - 1) / 2 = 2 ^ n - 1 by rw [Nat.pow_succ]; omega, h]
    omega

theorem pcO (n r : Nat) : pcn (ones n) (n + r) = n := by
  have h := pcn_add n (ones n) 0 r (ones_lt (Nat.le_refl _))
  rw [Nat.zero_mul, Nat.add_zero, pcn_ones, pcn0] at h
  exact h
theorem pcS (s n r : Nat) : pcn (ones n * 2 ^ s) (s + (n + r)) = n := by
  have h := pcn_add s 0 (ones n) (n + r) (Nat.two_pow_pos s)
  rw [Nat.zero_add, pcn0, pcO] at h
  omega
theorem sum_lt {x y k m : Nat} (hx : x < 2 ^ k) (hy : y < 2 ^ m) : x + y * 2 ^ k < 2 ^ (k + m) := by
  have h1 : (y + 1) * 2 ^ k ≤ 2 ^ m * 2 ^ k := Nat.mul_le_mul_right _ hy
  rw [Nat.add_mul, Nat.one_mul, ← Nat.pow_add, Nat.add_comm m k] at h1
  omega
def okV (a b v : Nat) : Prop := v < 2 ^ (a + b) ∧ pcn v (a + b) = b
theorem okV_0 (a b : Nat) : okV a b (ones b) := ⟨ones_lt (by omega), by rw [Nat.add_comm]; exact pcO b a⟩
theorem okV_1 {a b i : Nat} (h : i ≤ a) : okV a b (ones b * 2 ^ i) := ⟨ones_sh (by omega), by rw [show a + b = i + (b + (a - i)) by omega]; exact pcS i b (a - i)⟩
theorem okV_2 {a b i : Nat} (h : i < b) : okV a b (g2b a b i) := by
  unfold g2b
  constructor
  · have h2 := sum_lt (m := b - (i + 1)) (ones_lt (n := i + 1) (k := i + 1 + a) (by omega)) (ones_lt (n := b - (i + 1)) (Nat.le_refl _))
    rw [show i + 1 + a + (b - (i + 1)) = a + b by omega] at h2
    exact h2
  · have h2 := pcn_add (i + 1 + a) (ones (i + 1)) (ones (b - (i + 1))) (b - (i + 1)) (ones_lt (by omega))
    rw [pcO (i + 1) a, pcn_ones, show i + 1 + a + (b - (i + 1)) = a + b by omega] at h2
    rw [h2]
    omega
theorem okV_3 {a b i q : Nat} (h : i < a) (hq : q < b) : okV a b (g3a a b i q) := by
  unfold g3a
  have hx : ones (q + 1) * 2 ^ (i + 1) < 2 ^ (a + (q + 1)) := ones_sh (by omega)
  constructor
  · have h2 := sum_lt (m := b - (q + 1)) hx (ones_lt (n := b - (q + 1)) (Nat.le_refl _))
    rw [show a + (q + 1) + (b - (q + 1)) = a + b by omega] at h2
    exact h2
  · have h2 := pcn_add (a + (q + 1)) _ (ones (b - (q + 1))) (b - (q + 1)) hx
    have h3 := pcS (i + 1) (q + 1) (a - (i + 1))
    rw [show i + 1 + (q + 1 + (a - (i + 1))) = a + (q + 1) by omega] at h3
    rw [h3, pcn_ones, show a + (q + 1) + (b - (q + 1)) = a + b by omega] at h2
    rw [h2]
    omega
theorem okV_4 {a b i q : Nat} (h : i < a) (hq : q < b) : okV a b (g3b b q i) := by
  unfold g3b
  have hx : ones (q + 1) < 2 ^ (q + 1 + (i + 1)) := ones_lt (by omega)
  constructor
  · have h2 := sum_lt (m := b - (q + 1)) hx (ones_lt (n := b - (q + 1)) (Nat.le_refl _))
    exact Nat.lt_of_lt_of_le h2 (Nat.pow_le_pow_right (by decide) (by omega))
  · have h2 := pcn_add (q + 1 + (i + 1)) _ (ones (b - (q + 1))) (b - (q + 1) + (a - (i + 1))) hx
    rw [pcO (q + 1) (i + 1), pcO, show q + 1 + (i + 1) + (b - (q + 1) + (a - (i + 1))) = a + b by omega] at h2
    rw [h2]
    omega
theorem okV_all {a b v : Nat} (h : v ∈ schU a b 3) : okV a b v := by
  have h2 : v ∈ sL0 a b ++ sL1 a b ++ sL2 a b ++ sL3 a b := h
  rw [List.mem_append, List.mem_append, List.mem_append] at h2
  rcases h2 with ((h2 | h2) | h2) | h2
  · unfold sL0 at h2
    split at h2
    · rw [List.mem_singleton] at h2; rw [h2]; exact okV_0 a b
    · exact absurd h2 (by simp)
  · unfold sL1 at h2
    split at h2
    · rcases List.mem_cons.mp h2 with e | e
      · rw [e]; exact okV_1 (Nat.le_refl _)
      · rw [List.mem_singleton] at e; rw [e]; exact okV_0 a b
    · exact absurd h2 (by simp)
  · unfold sL2 at h2
    rcases List.mem_append.mp h2 with e | e
    · unfold f2a at e
      split at e
      · rw [List.drop_zero, List.mem_map] at e
        obtain ⟨i, hi, rfl⟩ := e
        have := List.mem_range.mp hi
        exact okV_1 (by omega)
      · exact absurd e (by simp)
    · unfold f2b at e
      split at e
      · rw [List.drop_zero, List.mem_map] at e
        obtain ⟨i, hi, rfl⟩ := e
        have := List.mem_range.mp hi
        exact okV_2 (by omega)
      · exact absurd e (by simp)
  · unfold sL3 at h2
    rcases List.mem_append.mp h2 with e | e
    · unfold f3a at e
      rw [List.drop_zero, List.mem_flatMap] at e
      obtain ⟨i, hi, e⟩ := e
      rw [List.mem_map] at e
      obtain ⟨q, hq, rfl⟩ := e
      have := List.mem_range.mp hi
      have := List.mem_range.mp hq
      exact okV_3 (by omega) (by omega)
    · unfold f3b at e
      rw [List.drop_zero, List.mem_flatMap] at e
      obtain ⟨i, hi, e⟩ := e
      rw [List.mem_map] at e
      obtain ⟨q, hq, rfl⟩ := e
      have := List.mem_range.mp hi
      have := List.mem_range.mp hq
      exact okV_4 (by omega) (by omega)
theorem and1N (n : Nat) : nI n &&& nI 1 = nI (n % 2) := by
  rw [andN, show (1 : Nat) = 2 ^ 1 - 1 by decide, Nat.and_two_pow_sub_one_eq_mod]
theorem bitB_N {n i : Nat} (hn : n < 2 ^ 31) (hi : i < 32) : bitB (nI n) i = decide (n / 2 ^ i % 2 = 1) := by
  unfold bitB
  rw [shrN hn hi, and1N]
  exact decide_eq_decide.mpr ⟨fun e => cv_eq (by omega) (by omega) e, fun e => by rw [e]⟩
theorem bsOf_s {n m : Nat} (hn : n < 2 ^ 31) (hm : m < 31) : bsOf (nI n) (m + 1) = decide (n % 2 = 1) :: bsOf (nI (n / 2)) m := by
  unfold bsOf
  rw [List.range_succ_eq_map, List.map_cons, List.map_map, bitB_N hn (by omega)]
  congr 1
  · rw [Nat.pow_zero, Nat.div_one]
  · apply List.map_congr_left
    intro i hi
    have := List.mem_range.mp hi
    show bitB (nI n) (i + 1) = bitB (nI (n / 2)) i
    rw [bitB_N hn (by omega), bitB_N (by omega) (by omega), Nat.pow_succ, Nat.mul_comm, ← Nat.div_div_eq_div_mul]
theorem cntT : ∀ (m n : Nat), n < 2 ^ 31 → m ≤ 31 → (bsOf (nI n) m).count true = pcn n m
  | 0, _, _, _ => rfl
  | m + 1, n, hn, hm => by
    rw [bsOf_s hn (by omega), pcn, List.count_cons, cntT m (n / 2) (by omega) (by omega)]
    by_cases c : n % 2 = 1
    · rw [decide_eq_true c, if_pos (by decide)]; omega
    · rw [decide_eq_false c, if_neg (by decide)]; omega
theorem cntF : ∀ bs : List Bool, bs.count false + bs.count true = bs.length
  | [] => rfl
  | b :: r => by
    have := cntF r
    cases b <;> simp <;> omega
theorem sch_of {ev : List Ev} {n : Nat} (hn : n < 2 ^ 31) (h24 : nAB ev ≤ 24) (h : pcn n (nAB ev) = evCnt true ev) : schOk ev (bsOf (nI n) (nAB ev)) 0 0 := by
  have h1 := cntT (nAB ev) n hn (by omega)
  have h2 := cntF (bsOf (nI n) (nAB ev))
  rw [bsOf_len] at h2
  have h3 : nAB ev = evCnt false ev + evCnt true ev := rfl
  unfold schOk
  rw [List.drop_zero, h1, h]
  exact ⟨by omega, Nat.le_refl _⟩
theorem sch_v {ev : List Ev} {v : Nat} (h24 : nAB ev ≤ 24) (h : v ∈ scL ev 3) : schOk ev (bsOf (nI v) (nAB ev)) 0 0 := by
  obtain ⟨h1, h2⟩ := okV_all h
  have h3 : 2 ^ (evCnt false ev + evCnt true ev) ≤ 2 ^ 24 := Nat.pow_le_pow_right (by decide) h24
  exact sch_of (by omega) h24 h2
theorem unL_s {j : List St} {ev : List Ev} {q : Nat} : unL j ev (q + 1) = if isEq j ev (nI ((scL ev 3).getD q 0)) = true then unL j ev q else unL j ev q ++ [q] := by
  unfold unL
  rw [List.range_succ, List.filter_append]
  by_cases c : isEq j ev (nI ((scL ev 3).getD q 0)) = true
  · rw [if_pos c, List.filter_cons_of_neg (p := fun i => !isEq j ev (nI ((scL ev 3).getD i 0))) (a := q) (show ¬ (!isEq j ev (nI ((scL ev 3).getD q 0))) = true by rw [c]; decide)]; exact List.append_nil _
  · rw [if_neg c, List.filter_cons_of_pos (p := fun i => !isEq j ev (nI ((scL ev 3).getD i 0))) (a := q) (show (!isEq j ev (nI ((scL ev 3).getD q 0))) = true by rw [Bool.eq_false_iff.mpr c]; rfl)]
    rfl
theorem unL_len {j : List St} {ev : List Ev} {q : Nat} : (unL j ev q).length ≤ q := by
  unfold unL
  exact Nat.le_trans (List.length_filter_le _ _) (by rw [List.length_range]; exact Nat.le_refl _)
theorem unL_lt {j : List St} {ev : List Ev} {q i : Nat} (h : i < (unL j ev q).length) : (unL j ev q).getD i 0 < q := by
  have := getD_mem 0 h
  unfold unL at this
  exact List.mem_range.mp (List.mem_filter.mp this).1
/-- the list of the first n is the beginning of that of the first q -/
theorem unL_pre {j : List St} {ev : List Ev} {n i : Nat} : ∀ (d : Nat), i < (unL j ev n).length → (unL j ev (n + d)).getD i 0 = (unL j ev n).getD i 0 ∧ (unL j ev n).length ≤ (unL j ev (n + d)).length
  | 0, _ => ⟨rfl, Nat.le_refl _⟩
  | d + 1, h => by
    obtain ⟨h1, h2⟩ := unL_pre d h
    rw [← Nat.add_assoc, unL_s]
    split
    · exact ⟨h1, h2⟩
    · exact ⟨(getD_app (by omega)).trans h1, by rw [List.length_append]; omega⟩
theorem unL_gt {j : List St} {ev : List Ev} {n i : Nat} : ∀ (d : Nat), (unL j ev n).length ≤ i → i < (unL j ev (n + d)).length → n ≤ (unL j ev (n + d)).getD i 0
  | 0, h, h2 => absurd h2 (by rw [Nat.add_zero]; omega)
  | d + 1, h, h2 => by
    rw [← Nat.add_assoc, unL_s] at h2 ⊢
    split at h2 <;> rename_i c
    · rw [if_pos c]; exact unL_gt d h h2
    · rw [if_neg c]
      rw [List.length_append, List.length_singleton] at h2
      rcases Nat.lt_or_ge i (unL j ev (n + d)).length with z | z
      · rw [getD_app z]; exact unL_gt d h z
      · rw [List.getD_eq_getElem?_getD, List.getElem?_append_right z, show i - (unL j ev (n + d)).length = 0 by omega]
        show n ≤ n + d
        omega
def failO (j : List St) (ev : List Ev) (s k : Nat) : Int32 := if k < (unL j ev (scL ev s).length).length then nI ((unL j ev (scL ev s).length).getD k 0) else -3
/-- out of what has been checked so far, up to q -/
theorem fail_of {j : List St} {ev : List Ev} {s k q : Nat} (hq : (scL ev s).length ≤ q ∨ k < (unL j ev q).length) : failO j ev s k = if k < (unL j ev q).length ∧ (unL j ev q).getD k 0 < (scL ev s).length then nI ((unL j ev q).getD k 0) else -3 := by
  unfold failO
  generalize (scL ev s).length = n at *
  have A : n ≤ q → (if k < (unL j ev n).length then nI ((unL j ev n).getD k 0) else -3) = if k < (unL j ev q).length ∧ (unL j ev q).getD k 0 < n then nI ((unL j ev q).getD k 0) else -3 := fun hnq => by
    obtain ⟨d, rfl⟩ : ∃ d, q = n + d := ⟨q - n, by omega⟩
    by_cases c : k < (unL j ev n).length
    · obtain ⟨h1, h2⟩ := unL_pre d c
      rw [if_pos c, if_pos ⟨by omega, by rw [h1]; exact unL_lt c⟩, h1]
    · rw [if_neg c, if_neg (fun z => by have := unL_gt d (by omega) z.1; omega)]
  rcases hq with z | c
  · exact A z
  · rcases Nat.le_total n q with w | w
    · exact A w
    · obtain ⟨d, rfl⟩ : ∃ d, n = q + d := ⟨n - q, by omega⟩
      obtain ⟨h1, h2⟩ := unL_pre d c
      have h3 := unL_lt c
      rw [if_pos (show k < (unL j ev (q + d)).length by omega), h1, if_pos ⟨c, by omega⟩]

def eqO (j : List St) (ev : List Ev) (b : Int32) : Int32 := if 0 ≤ b ∧ nN b / 2 ^ nAB ev = 0 ∧ pcn (nN b) (nAB ev) = evCnt true ev then (if isEq j ev b = true then nI 1 else nI 0) else -1
def aEq (j : List St) (xs : List CS3) (c b : Int32) : Int32 := onC xs c (fun x => eqO j x.1 b)
def aFail (j : List St) (xs : List CS3) (c s k : Int32) : Int32 := if hasC s 4 = true then onC xs c (fun x => if k < 0 then -3 else failO j x.1 (nN s) (nN k)) else -1
theorem pos_N {b : Int32} (h : 0 ≤ b) : ∃ n, n < 2 ^ 31 ∧ b = nI n := by
  have h3 := Int32.le_iff_toInt_le.mp h
  have h4 := Int32.toInt_lt b
  rw [show (0 : Int32).toInt = 0 by decide] at h3
  refine ⟨b.toInt.toNat, by omega, Int32.toInt_inj.mp ?_⟩
  rw [nI_toInt (by omega)]
  omega
theorem nI_ge0 {n : Nat} (h : n < 2 ^ 31) : 0 ≤ nI n := by rw [← nI_0]; exact (nI_leI (by omega) h).mpr (Nat.zero_le _)
theorem div0_lt {n m : Nat} (h : n / 2 ^ m = 0) : n < 2 ^ m := by
  rcases Nat.div_eq_zero_iff.mp h with z | z
  · exact absurd z (Nat.ne_of_gt (Nat.two_pow_pos m))
  · exact z

theorem pcn_le : ∀ (n m : Nat), pcn n m ≤ m
  | _, 0 => Nat.le_refl _
  | n, m + 1 => by
    have := pcn_le (n / 2) m
    rw [pcn]
    omega

set_option maxRecDepth 20000 in
set_option maxHeartbeats 4000000 in
theorem cc_JT_eq {h : px_H} {tx : List Nat} {j : List St} {xs : List CS3} {c : Int32} {b : Int32} (H0 : pJT h tx j xs)  : px_wp 99 [.ref (17), .int (c), .int (b)] h (fun h1 r => r = some (.int (aEq j xs c b)) ∧ pJT h1 tx j xs ∧ px_fi 17 252 h h1) := by
  have fr0 : px_fi 17 252 h h := fi_rf _ _ _
  show px_to 99 0 [some (.ref (17)), some (.int (c)), some (.int (b)), none, none, none] [] h _
  obtain ⟨cs, S, D, pz, kk, ck, wo, xr, kl, cv, g1, g2, g3, g4, g5, g6, g7, g8, g9, g10, g11, g12, g13, g14, g15, g16, g17, g18, g19, g20, g21, g22, g23, g24, g25, hx, ok⟩ := id H0
  subst hx
  have h8 := ok.2.2.2.1.1
  have hS : 18 < S ∧ S + 78 ≤ 175 := by have := ok.1; omega
  have hD : 18 < D ∧ D + 78 ≤ 175 := by have := ok.1; omega
  have hSD : D + 78 ≤ S ∨ S + 78 ≤ D := by have := ok.1; omega
  have h8m : (cs.map c3of).length ≤ 8 := by rw [List.length_map]; exact h8
  have htl : tx.length ≤ 500 := pa_len g2
  refine e_aload_n f_99_0 rfl rfl ?_
  refine e_iload_n f_99_1 rfl rfl ?_
  refine e_callV (As := [.int (c)]) (rest := []) f_99_2 rfl rfl rfl (Nat.le_of_ble_eq_true rfl) (Nat.le_of_ble_eq_true rfl) g1 rfl (Nat.le_of_ble_eq_true rfl) (cc_JT_has (c := c) (L := tx.length) (S := S) (D := D) (n := cs.length) (pz := pz) (kk := kk) (ck := ck) g1 g3 (by omega)) rfl (fun h26 r27 q28 => ?_)
  obtain ⟨rfl, qe⟩ := q28
  have qe := qe.symm
  subst qe
  show px_to 99 5 [some (.ref (17)), some (.int (c)), some (.int (b)), none, none, none] [.int (bI (hasC c cs.length))] h _
  refine e_if_eq f_99_5 rfl (fun c_5 => ?_) (fun c_5 => ?_)
  · skip
    have c_5 : (hasC c cs.length) = false := bI_f c_5
    have hno : hasC c (cs.map c3of).length = false := by rw [List.length_map]; exact c_5
    refine e_iconst (v := (-1)) f_99_12 (by decide) rfl ?_
    refine e_iret f_99_13 rfl (rfl) ?_
    have g29 : pJT h tx j (cs.map c3of) := ⟨cs, S, D, pz, kk, ck, wo, xr, kl, cv, g1, g2, g3, g4, g5, g6, g7, g8, g9, g10, g11, g12, g13, g14, g15, g16, g17, g18, g19, g20, g21, g22, g23, g24, g25, rfl, ok⟩
    exact ⟨congrArg (fun z => some (Value.int z)) (show (-1) = _ from (onC_no hno).symm), g29, fr0⟩
  · skip
    have c_5 : (hasC c cs.length) = true := bI_t' c_5
    obtain ⟨k, hk, hkc⟩ := hasC_t (by omega) c_5
    subst hkc
    have hkm : k < (cs.map c3of).length := by rw [List.length_map]; exact hk
    have g30 : pCase h (S + 9 * k + 6) ((cs.getD k ct0).1) ((cs.getD k ct0).2.1) ((cs.getD k ct0).2.2.1) ((cs.getD k ct0).2.2.2.1) ((cs.getD k ct0).2.2.2.2.1) ((cs.getD k ct0).2.2.2.2.2.1) ((cs.getD k ct0).2.2.2.2.2.2) := (pCs_get (k := k) g6 (by omega) hk).1
    have hct : okK j (cs.getD k ct0) := ok.2.2.2.1.2 _ (getD_mem _ hk)
    refine e_iload_n f_99_8 rfl rfl ?_
    refine e_if_ge f_99_9 rfl (fun c_9 => ?_) (fun c_9 => ?_)
    · skip
      obtain ⟨nb, hnb, hbc⟩ := pos_N c_9
      subst hbc
      refine e_aload_n f_99_14 rfl rfl ?_
      refine e_getf f_99_15 g1 rfl rfl ?_
      refine e_getf f_99_18 g3 rfl rfl ?_
      refine e_iload_n f_99_21 rfl rfl ?_
      refine e_aaload_r f_99_22 (by decide) g5 (by first | omega | (simp only [List.length_set]; omega)) (by decide) rfl ?_
      show px_to 99 23 [some (.ref (17)), some (.int (nI k)), some (.int (nI nb)), none, none, none] [.ref (S + 9 * k + 6)] h _
      refine e_astore_n (L' := [some (.ref (17)), some (.int (nI k)), some (.int (nI nb)), some (.ref (S + 9 * k + 6)), none, none]) f_99_23 (Nat.le_of_ble_eq_true rfl) rfl rfl ?_
      have hoe : ∀ e ∈ (cs.getD k ct0).1, e.1 < 65536 := fun e he => by have := (hct.1.2.1 e he).1; omega
      have hab : nAB (cs.getD k ct0).1 ≤ 24 := ab24 hct.1
      have hab2 : evCnt false (cs.getD k ct0).1 + evCnt true (cs.getD k ct0).1 ≤ 24 := ab24 hct.1
      refine e_aload_n f_99_24 rfl rfl ?_
      refine e_iconst (v := nI 1) f_99_25 (by decide) rfl ?_
      refine e_callV (As := [.int (nI 1)]) (rest := []) f_99_26 rfl rfl rfl (Nat.le_of_ble_eq_true rfl) (Nat.le_of_ble_eq_true rfl) g30.1 rfl (Nat.le_of_ble_eq_true rfl) (cc_Case_eventsOf (b := true) (a := S + 9 * k + 6) (ev := (cs.getD k ct0).1) (told := (cs.getD k ct0).2.1) (os := (cs.getD k ct0).2.2.1) (ks := (cs.getD k ct0).2.2.2.1) (kept := (cs.getD k ct0).2.2.2.2.1) (ck := (cs.getD k ct0).2.2.2.2.2.1) (un := (cs.getD k ct0).2.2.2.2.2.2) g30 (hoe)) rfl (fun h31 r32 q33 => ?_)
      obtain ⟨rfl, qe⟩ := q33
      have qe := qe.symm
      subst qe
      show px_to 99 29 [some (.ref (17)), some (.int (nI k)), some (.int (nI nb)), some (.ref (S + 9 * k + 6)), none, none] [.int (nI (evCnt true ((cs.getD k ct0).1)))] h _
      refine e_istore (L' := [some (.ref (17)), some (.int (nI k)), some (.int (nI nb)), some (.ref (S + 9 * k + 6)), some (.int (nI (evCnt true ((cs.getD k ct0).1)))), none]) f_99_29 (Nat.le_of_ble_eq_true rfl) rfl rfl ?_
      refine e_aload_n f_99_31 rfl rfl ?_
      refine e_iconst (v := nI 0) f_99_32 (by decide) rfl ?_
      refine e_callV (As := [.int (nI 0)]) (rest := []) f_99_33 rfl rfl rfl (Nat.le_of_ble_eq_true rfl) (Nat.le_of_ble_eq_true rfl) g30.1 rfl (Nat.le_of_ble_eq_true rfl) (cc_Case_eventsOf (b := false) (a := S + 9 * k + 6) (ev := (cs.getD k ct0).1) (told := (cs.getD k ct0).2.1) (os := (cs.getD k ct0).2.2.1) (ks := (cs.getD k ct0).2.2.2.1) (kept := (cs.getD k ct0).2.2.2.2.1) (ck := (cs.getD k ct0).2.2.2.2.2.1) (un := (cs.getD k ct0).2.2.2.2.2.2) g30 (hoe)) rfl (fun h34 r35 q36 => ?_)
      obtain ⟨rfl, qe⟩ := q36
      have qe := qe.symm
      subst qe
      show px_to 99 36 [some (.ref (17)), some (.int (nI k)), some (.int (nI nb)), some (.ref (S + 9 * k + 6)), some (.int (nI (evCnt true ((cs.getD k ct0).1)))), none] [.int (nI (evCnt false ((cs.getD k ct0).1)))] h _
      refine e_iload f_99_36 rfl rfl ?_
      refine e_iadd (z := nI (evCnt false ((cs.getD k ct0).1) + evCnt true ((cs.getD k ct0).1))) f_99_38 (nI_add _ _) rfl ?_
      refine e_istore (L' := [some (.ref (17)), some (.int (nI k)), some (.int (nI nb)), some (.ref (S + 9 * k + 6)), some (.int (nI (evCnt true ((cs.getD k ct0).1)))), some (.int (nI (evCnt false ((cs.getD k ct0).1) + evCnt true ((cs.getD k ct0).1))))]) f_99_39 (Nat.le_of_ble_eq_true rfl) rfl rfl ?_
      refine e_iload_n f_99_41 rfl rfl ?_
      refine e_iload f_99_42 rfl rfl ?_
      refine e_ishr (z := nI (nb / 2 ^ (evCnt false (cs.getD k ct0).1 + evCnt true (cs.getD k ct0).1))) f_99_44 (shrN hnb (by omega)) rfl ?_
      have hdl := Nat.div_le_self nb (2 ^ (evCnt false (cs.getD k ct0).1 + evCnt true (cs.getD k ct0).1))
      refine e_if_ne f_99_45 rfl (fun c_45 => ?_) (fun c_45 => ?_)
      · skip
        rw [← nI_0] at c_45
        have c_45 : nb / 2 ^ (evCnt false (cs.getD k ct0).1 + evCnt true (cs.getD k ct0).1) ≠ 0 := cv_ne c_45
        refine e_iconst (v := (-1)) f_99_57 (by decide) rfl ?_
        refine e_iret f_99_58 rfl (rfl) ?_
        have g37 : pJT h tx j (cs.map c3of) := ⟨cs, S, D, pz, kk, ck, wo, xr, kl, cv, g1, g2, g3, g4, g5, g6, g7, g8, g9, g10, g11, g12, g13, g14, g15, g16, g17, g18, g19, g20, g21, g22, g23, g24, g25, rfl, ok⟩
        exact ⟨congrArg (fun z => some (Value.int z)) (show (-1) = _ from by unfold aEq; rw [onC_k h8m hkm, map_c3 hk]; show _ = eqO j (cs.getD k ct0).1 _; unfold eqO; rw [nN_nI hnb, if_neg (fun z => c_45 z.2.1)]), g37, fr0⟩
      · skip
        rw [← nI_0] at c_45
        have c_45 : nb / 2 ^ (evCnt false (cs.getD k ct0).1 + evCnt true (cs.getD k ct0).1) = 0 := cv_nne (by omega) (by omega) c_45
        refine e_iload_n f_99_48 rfl rfl ?_
        have hdv : nb / 2 ^ nAB (cs.getD k ct0).1 = 0 := c_45
        have hlt := div0_lt hdv
        have h24 : 2 ^ nAB (cs.getD k ct0).1 ≤ 2 ^ 24 := Nat.pow_le_pow_right (by decide) hab
        have hbp := bcN_pcn hab hlt
        have hb24 : bcN nb ≤ 24 := by rw [hbp]; exact Nat.le_trans (pcn_le _ _) hab
        refine e_callS (As := [.int (nI nb)]) (rest := []) f_99_49 rfl rfl rfl (Nat.le_of_ble_eq_true rfl) (Nat.le_of_ble_eq_true rfl) (cc_Int_bc (n := nb)  (by omega)) rfl (fun h38 r39 q40 => ?_)
        obtain ⟨rfl, qe⟩ := q40
        have qe := qe.symm
        subst qe
        show px_to 99 52 [some (.ref (17)), some (.int (nI k)), some (.int (nI nb)), some (.ref (S + 9 * k + 6)), some (.int (nI (evCnt true ((cs.getD k ct0).1)))), some (.int (nI (evCnt false ((cs.getD k ct0).1) + evCnt true ((cs.getD k ct0).1))))] [.int (nI (bcN nb))] h _
        refine e_iload f_99_52 rfl rfl ?_
        refine e_icmp_eq f_99_54 rfl (fun c_54 => ?_) (fun c_54 => ?_)
        · skip
          have c_54 : bcN nb = evCnt true ((cs.getD k ct0).1) := cv_eq (by omega) (by omega) c_54
          refine e_aload_n f_99_59 rfl rfl ?_
          refine e_aload_n f_99_60 rfl rfl ?_
          refine e_callV (As := [.ref (S + 9 * k + 6)]) (rest := []) f_99_61 rfl rfl rfl (Nat.le_of_ble_eq_true rfl) (Nat.le_of_ble_eq_true rfl) g1 rfl (Nat.le_of_ble_eq_true rfl) (cc_JT_rp (L := tx.length) (S := S) (D := D) (n := cs.length) (pz := pz) (kk := kk) (cf := ck) (j := j) (wo := wo) (x := xr) (a := S + 9 * k + 6) (ev := (cs.getD k ct0).1) (told := (cs.getD k ct0).2.1) (os := (cs.getD k ct0).2.2.1) (ks := (cs.getD k ct0).2.2.2.1) (kept := (cs.getD k ct0).2.2.2.2.1) (ck := (cs.getD k ct0).2.2.2.2.2.1) (un := (cs.getD k ct0).2.2.2.2.2.2) g9 g11 g15 g1 g3 g4 g30 (ok.2.2.1.1) (hct.1.2.1) (hS) (by omega)) rfl (fun h41 r42 q43 => ?_)
          obtain ⟨rfl, g44, g45, g46, g47, fx48⟩ := q43
          obtain ⟨hm49, fa50, fb51⟩ := fl_mid fx48
          have fr52 : px_fi 17 252 h hm49 := fi_tr fr0 fa50 (by omega)
          obtain ⟨hm53, fa54, fb55⟩ := fl_mid fb51
          have fr56 : px_fi 17 252 h hm53 := fi_tr fr52 fa54 (by omega)
          obtain ⟨hm57, fa58, fb59⟩ := fl_mid fb55
          have fr60 : px_fi 17 252 h hm57 := fi_tr fr56 fa58 (by omega)
          have fb61 := fl_one fb59
          have fr62 : px_fi 17 252 h h41 := fi_tr fr60 fb61 (by omega)
          show px_to 99 64 [some (.ref (17)), some (.int (nI k)), some (.int (nI nb)), some (.ref (S + 9 * k + 6)), some (.int (nI (evCnt true ((cs.getD k ct0).1)))), some (.int (nI (evCnt false ((cs.getD k ct0).1) + evCnt true ((cs.getD k ct0).1))))] [] h41 _
          refine e_aload_n f_99_64 rfl rfl ?_
          refine e_aload_n f_99_65 rfl rfl ?_
          refine e_iload_n f_99_66 rfl rfl ?_
          have g63 : pJud hm49 := pJud_fi g10 fa50 (by omega)
          have g64 : pJud hm53 := pJud_fi g63 fa54 (by omega)
          have g65 : pJud hm57 := pJud_fi g64 fa58 (by omega)
          have g66 : pJud h41 := pJud_fi g65 fb61 (by omega)
          have g67 : hm49.2.2 S = some (8, [.ref (S + 1), .ref (S + 5), .int (nI cs.length)]) := fi_at g3 fa50 (by omega)
          have g68 : hm53.2.2 S = some (8, [.ref (S + 1), .ref (S + 5), .int (nI cs.length)]) := fi_at g67 fa54 (by omega)
          have g69 : hm57.2.2 S = some (8, [.ref (S + 1), .ref (S + 5), .int (nI cs.length)]) := fi_at g68 fa58 (by omega)
          have g70 : h41.2.2 S = some (8, [.ref (S + 1), .ref (S + 5), .int (nI cs.length)]) := fi_at g69 fb61 (by omega)
          have g71 : pJob hm49 (S + 1) j := pJob_fi g4 fa50 (by omega)
          have g72 : pJob hm53 (S + 1) j := pJob_fi g71 fa54 (by omega)
          have g73 : pJob hm57 (S + 1) j := pJob_fi g72 fa58 (by omega)
          have g74 : pJob h41 (S + 1) j := pJob_fi g73 fb61 (by omega)
          have g75 : pCase hm49 (S + 9 * k + 6) ((cs.getD k ct0).1) ((cs.getD k ct0).2.1) ((cs.getD k ct0).2.2.1) ((cs.getD k ct0).2.2.2.1) ((cs.getD k ct0).2.2.2.2.1) ((cs.getD k ct0).2.2.2.2.2.1) ((cs.getD k ct0).2.2.2.2.2.2) := pCase_fi g30 fa50 (by omega)
          have g76 : pCase hm53 (S + 9 * k + 6) ((cs.getD k ct0).1) ((cs.getD k ct0).2.1) ((cs.getD k ct0).2.2.1) ((cs.getD k ct0).2.2.2.1) ((cs.getD k ct0).2.2.2.2.1) ((cs.getD k ct0).2.2.2.2.2.1) ((cs.getD k ct0).2.2.2.2.2.2) := pCase_fi g75 fa54 (by omega)
          have g77 : pCase hm57 (S + 9 * k + 6) ((cs.getD k ct0).1) ((cs.getD k ct0).2.1) ((cs.getD k ct0).2.2.1) ((cs.getD k ct0).2.2.2.1) ((cs.getD k ct0).2.2.2.2.1) ((cs.getD k ct0).2.2.2.2.2.1) ((cs.getD k ct0).2.2.2.2.2.2) := pCase_fi g76 fa58 (by omega)
          have g78 : pCase h41 (S + 9 * k + 6) ((cs.getD k ct0).1) ((cs.getD k ct0).2.1) ((cs.getD k ct0).2.2.1) ((cs.getD k ct0).2.2.2.1) ((cs.getD k ct0).2.2.2.2.1) ((cs.getD k ct0).2.2.2.2.2.1) ((cs.getD k ct0).2.2.2.2.2.2) := pCase_fi g77 fb61 (by omega)
          refine e_callV (As := [.ref (S + 9 * k + 6), .int (nI nb)]) (rest := []) f_99_67 rfl rfl rfl (Nat.le_of_ble_eq_true rfl) (Nat.le_of_ble_eq_true rfl) g47 rfl (Nat.le_of_ble_eq_true rfl) (cc_JT_ie (bits := nI nb) (rp := rsort (plO j ((cs.getD k ct0).1)).2.1) (L := tx.length) (S := S) (D := D) (n := cs.length) (pz := (plO j ((cs.getD k ct0).1)).2.2.1.isSome) (kk := kk) (cf := ck) (j := j) (wo := (-3)) (x := (plO j ((cs.getD k ct0).1))) (a := S + 9 * k + 6) (ev := (cs.getD k ct0).1) (told := (cs.getD k ct0).2.1) (os := (cs.getD k ct0).2.2.1) (ks := (cs.getD k ct0).2.2.2.1) (kept := (cs.getD k ct0).2.2.2.2.1) (ck := (cs.getD k ct0).2.2.2.2.2.1) (un := (cs.getD k ct0).2.2.2.2.2.2) g44 g45 g66 g47 g70 g74 g78 g46 (ok.2.2.1.1) (hct.1.2.1) (hS) (by omega) (sch_of hnb hab (hbp.symm.trans c_54)) (rfl) (rfl)) rfl (fun h79 r80 q81 => ?_)
          obtain ⟨rfl, g82, g83, g84, fx85⟩ := q81
          have fr86 : px_fi 17 252 h h79 := fi_tr fr62 fx85 (by omega)
          show px_to 99 70 [some (.ref (17)), some (.int (nI k)), some (.int (nI nb)), some (.ref (S + 9 * k + 6)), some (.int (nI (evCnt true ((cs.getD k ct0).1)))), some (.int (nI (evCnt false ((cs.getD k ct0).1) + evCnt true ((cs.getD k ct0).1))))] [.int (bI (isEq j ((cs.getD k ct0).1) (nI nb)))] h79 _
          refine e_if_eq f_99_70 rfl (fun c_70 => ?_) (fun c_70 => ?_)
          · skip
            have c_70 : (isEq j ((cs.getD k ct0).1) (nI nb)) = false := bI_f c_70
            refine e_iconst (v := nI 0) f_99_77 (by decide) rfl ?_
            refine e_iret f_99_78 rfl (rfl) ?_
            have g87 : pRows h79 265 96 (rsort (plO j ((cs.getD k ct0).1)).2.1) := pRows_fi g46 fx85 (by omega)
            have g88 : pRwA h79 265 := ⟨_, g87⟩
            have ok2 := okJT_wo (wo2 := -3) (x2 := scO j (cs.getD k ct0).1 (nI nb)) ok (fun c hc e => absurd e.symm (nI_m3 (by omega)))
            have g89 : h79.2.2 17 = some (11, [.ref (18), .int (nI tx.length), .ref (S), .ref (D), .ref (175), .ref (177), .ref (249), .ref (254), .ref (256), .ref (258), .ref (261), .ref (265), .int (bI ((plO j ((cs.getD k ct0).1)).2.2.1.isSome)), .ref (267), .int (bI kk), .ref (268), .int (bI ck)]) := fi_at g47 fx85 (by omega)
            have g90 : px_pa hm49 18 52 500 vN tx := pa_fi g2 fa50 (by omega)
            have g91 : px_pa hm53 18 52 500 vN tx := pa_fi g90 fa54 (by omega)
            have g92 : px_pa hm57 18 52 500 vN tx := pa_fi g91 fa58 (by omega)
            have g93 : px_pa h41 18 52 500 vN tx := pa_fi g92 fb61 (by omega)
            have g94 : px_pa h79 18 52 500 vN tx := pa_fi g93 fx85 (by omega)
            have g95 : h79.2.2 S = some (8, [.ref (S + 1), .ref (S + 5), .int (nI cs.length)]) := fi_at g70 fx85 (by omega)
            have g96 : pJob h79 (S + 1) j := pJob_fi g74 fx85 (by omega)
            have g97 : px_rs hm49 (S + 5) 56 8 (fun k => S + 9 * k + 6) := rs_fi g5 fa50 (by omega)
            have g98 : px_rs hm53 (S + 5) 56 8 (fun k => S + 9 * k + 6) := rs_fi g97 fa54 (by omega)
            have g99 : px_rs hm57 (S + 5) 56 8 (fun k => S + 9 * k + 6) := rs_fi g98 fa58 (by omega)
            have g100 : px_rs h41 (S + 5) 56 8 (fun k => S + 9 * k + 6) := rs_fi g99 fb61 (by omega)
            have g101 : px_rs h79 (S + 5) 56 8 (fun k => S + 9 * k + 6) := rs_fi g100 fx85 (by omega)
            have g102 : pCs hm49 S cs := pCs_fi g6 fa50 (by omega)
            have g103 : pCs hm53 S cs := pCs_fi g102 fa54 (by omega)
            have g104 : pCs hm57 S cs := pCs_fi g103 fa58 (by omega)
            have g105 : pCs h41 S cs := pCs_fi g104 fb61 (by omega)
            have g106 : pCs h79 S cs := pCs_fi g105 fx85 (by omega)
            have g107 : pDr hm49 D := pDr_fi g7 fa50 (by omega)
            have g108 : pDr hm53 D := pDr_fi g107 fa54 (by omega)
            have g109 : pDr hm57 D := pDr_fi g108 fa58 (by omega)
            have g110 : pDr h41 D := pDr_fi g109 fb61 (by omega)
            have g111 : pDr h79 D := pDr_fi g110 fx85 (by omega)
            have g112 : pRA hm49 := pRA_fi g8 fa50 (by omega)
            have g113 : pRA hm53 := pRA_fi g112 fa54 (by omega)
            have g114 : pRA hm57 := pRA_fi g113 fa58 (by omega)
            have g115 : pRA h41 := pRA_fi g114 fb61 (by omega)
            have g116 : pRA h79 := pRA_fi g115 fx85 (by omega)
            have g117 : pOrA hm49 256 := pOrA_fi g12 fa50 (by omega)
            have g118 : pOrA hm53 256 := pOrA_fi g117 fa54 (by omega)
            have g119 : pOrA hm57 256 := pOrA_fi g118 fa58 (by omega)
            have g120 : pOrA h41 256 := pOrA_fi g119 fb61 (by omega)
            have g121 : pOrA h79 256 := pOrA_fi g120 fx85 (by omega)
            have g122 : pSc hm49 := pSc_fi g13 fa50 (by omega)
            have g123 : pSc hm53 := pSc_fi g122 fa54 (by omega)
            have g124 : pSc hm57 := pSc_fi g123 fa58 (by omega)
            have g125 : pSc h41 := pSc_fi g124 fb61 (by omega)
            have g126 : pSc h79 := pSc_fi g125 fx85 (by omega)
            have g127 : pJA hm49 261 := pJA_fi g14 fa50 (by omega)
            have g128 : pJA hm53 261 := pJA_fi g127 fa54 (by omega)
            have g129 : pJA hm57 261 := pJA_fi g128 fa58 (by omega)
            have g130 : pJA h41 261 := pJA_fi g129 fb61 (by omega)
            have g131 : pJA h79 261 := pJA_fi g130 fx85 (by omega)
            have g132 : px_pa hm49 267 50 30 Value.int kl := pa_fi g16 fa50 (by omega)
            have g133 : px_pa hm53 267 50 30 Value.int kl := pa_fi g132 fa54 (by omega)
            have g134 : px_pa hm57 267 50 30 Value.int kl := pa_fi g133 fa58 (by omega)
            have g135 : px_pa h41 267 50 30 Value.int kl := pa_fi g134 fb61 (by omega)
            have g136 : px_pa h79 267 50 30 Value.int kl := pa_fi g135 fx85 (by omega)
            have g137 : px_pa hm49 268 50 30 Value.int cv := pa_fi g17 fa50 (by omega)
            have g138 : px_pa hm53 268 50 30 Value.int cv := pa_fi g137 fa54 (by omega)
            have g139 : px_pa hm57 268 50 30 Value.int cv := pa_fi g138 fa58 (by omega)
            have g140 : px_pa h41 268 50 30 Value.int cv := pa_fi g139 fb61 (by omega)
            have g141 : px_pa h79 268 50 30 Value.int cv := pa_fi g140 fx85 (by omega)
            have g142 : pStr hm49 1 ([60, 61, 62]) := pStr_fi g18 fa50 (by omega)
            have g143 : pStr hm53 1 ([60, 61, 62]) := pStr_fi g142 fa54 (by omega)
            have g144 : pStr hm57 1 ([60, 61, 62]) := pStr_fi g143 fa58 (by omega)
            have g145 : pStr h41 1 ([60, 61, 62]) := pStr_fi g144 fb61 (by omega)
            have g146 : pStr h79 1 ([60, 61, 62]) := pStr_fi g145 fx85 (by omega)
            have g147 : pStr hm49 2 ([43, 45, 42, 47]) := pStr_fi g19 fa50 (by omega)
            have g148 : pStr hm53 2 ([43, 45, 42, 47]) := pStr_fi g147 fa54 (by omega)
            have g149 : pStr hm57 2 ([43, 45, 42, 47]) := pStr_fi g148 fa58 (by omega)
            have g150 : pStr h41 2 ([43, 45, 42, 47]) := pStr_fi g149 fb61 (by omega)
            have g151 : pStr h79 2 ([43, 45, 42, 47]) := pStr_fi g150 fx85 (by omega)
            have g152 : pStr hm49 3 stepSigns := pStr_fi g20 fa50 (by omega)
            have g153 : pStr hm53 3 stepSigns := pStr_fi g152 fa54 (by omega)
            have g154 : pStr hm57 3 stepSigns := pStr_fi g153 fa58 (by omega)
            have g155 : pStr h41 3 stepSigns := pStr_fi g154 fb61 (by omega)
            have g156 : pStr h79 3 stepSigns := pStr_fi g155 fx85 (by omega)
            have g157 : pStr hm49 4 ([60, 61, 62]) := pStr_fi g21 fa50 (by omega)
            have g158 : pStr hm53 4 ([60, 61, 62]) := pStr_fi g157 fa54 (by omega)
            have g159 : pStr hm57 4 ([60, 61, 62]) := pStr_fi g158 fa58 (by omega)
            have g160 : pStr h41 4 ([60, 61, 62]) := pStr_fi g159 fb61 (by omega)
            have g161 : pStr h79 4 ([60, 61, 62]) := pStr_fi g160 fx85 (by omega)
            have g162 : pStr hm49 5 ([43, 45, 42, 47]) := pStr_fi g22 fa50 (by omega)
            have g163 : pStr hm53 5 ([43, 45, 42, 47]) := pStr_fi g162 fa54 (by omega)
            have g164 : pStr hm57 5 ([43, 45, 42, 47]) := pStr_fi g163 fa58 (by omega)
            have g165 : pStr h41 5 ([43, 45, 42, 47]) := pStr_fi g164 fb61 (by omega)
            have g166 : pStr h79 5 ([43, 45, 42, 47]) := pStr_fi g165 fx85 (by omega)
            have g167 : pStr hm49 6 evSigns := pStr_fi g23 fa50 (by omega)
            have g168 : pStr hm53 6 evSigns := pStr_fi g167 fa54 (by omega)
            have g169 : pStr hm57 6 evSigns := pStr_fi g168 fa58 (by omega)
            have g170 : pStr h41 6 evSigns := pStr_fi g169 fb61 (by omega)
            have g171 : pStr h79 6 evSigns := pStr_fi g170 fx85 (by omega)
            have g172 : pStr hm49 7 keyL := pStr_fi g24 fa50 (by omega)
            have g173 : pStr hm53 7 keyL := pStr_fi g172 fa54 (by omega)
            have g174 : pStr hm57 7 keyL := pStr_fi g173 fa58 (by omega)
            have g175 : pStr h41 7 keyL := pStr_fi g174 fb61 (by omega)
            have g176 : pStr h79 7 keyL := pStr_fi g175 fx85 (by omega)
            have g177 : pStr hm49 8 ordL := pStr_fi g25 fa50 (by omega)
            have g178 : pStr hm53 8 ordL := pStr_fi g177 fa54 (by omega)
            have g179 : pStr hm57 8 ordL := pStr_fi g178 fa58 (by omega)
            have g180 : pStr h41 8 ordL := pStr_fi g179 fb61 (by omega)
            have g181 : pStr h79 8 ordL := pStr_fi g180 fx85 (by omega)
            have g182 : pJT h79 tx j (cs.map c3of) := ⟨cs, S, D, ((plO j (cs.getD k ct0).1).2.2.1.isSome), kk, ck, (-3), (scO j (cs.getD k ct0).1 (nI nb)), kl, cv, g89, g94, g95, g96, g101, g106, g111, g116, g82, g84, g83, g121, g126, g131, g88, g136, g141, g146, g151, g156, g161, g166, g171, g176, g181, rfl, ok2⟩
            exact ⟨congrArg (fun z => some (Value.int z)) (show nI 0 = _ from by unfold aEq; rw [onC_k h8m hkm, map_c3 hk]; show _ = eqO j (cs.getD k ct0).1 _; unfold eqO; rw [nN_nI hnb, if_pos ⟨nI_ge0 hnb, hdv, hbp.symm.trans c_54⟩, if_neg (by rw [c_70]; decide)]), g182, fr86⟩
          · skip
            have c_70 : (isEq j ((cs.getD k ct0).1) (nI nb)) = true := bI_t' c_70
            refine e_iconst (v := nI 1) f_99_73 (by decide) rfl ?_
            refine e_goto f_99_74 ?_
            refine e_iret f_99_78 rfl (rfl) ?_
            have g183 : pRows h79 265 96 (rsort (plO j ((cs.getD k ct0).1)).2.1) := pRows_fi g46 fx85 (by omega)
            have g184 : pRwA h79 265 := ⟨_, g183⟩
            have ok2 := okJT_wo (wo2 := -3) (x2 := scO j (cs.getD k ct0).1 (nI nb)) ok (fun c hc e => absurd e.symm (nI_m3 (by omega)))
            have g185 : h79.2.2 17 = some (11, [.ref (18), .int (nI tx.length), .ref (S), .ref (D), .ref (175), .ref (177), .ref (249), .ref (254), .ref (256), .ref (258), .ref (261), .ref (265), .int (bI ((plO j ((cs.getD k ct0).1)).2.2.1.isSome)), .ref (267), .int (bI kk), .ref (268), .int (bI ck)]) := fi_at g47 fx85 (by omega)
            have g186 : px_pa hm49 18 52 500 vN tx := pa_fi g2 fa50 (by omega)
            have g187 : px_pa hm53 18 52 500 vN tx := pa_fi g186 fa54 (by omega)
            have g188 : px_pa hm57 18 52 500 vN tx := pa_fi g187 fa58 (by omega)
            have g189 : px_pa h41 18 52 500 vN tx := pa_fi g188 fb61 (by omega)
            have g190 : px_pa h79 18 52 500 vN tx := pa_fi g189 fx85 (by omega)
            have g191 : h79.2.2 S = some (8, [.ref (S + 1), .ref (S + 5), .int (nI cs.length)]) := fi_at g70 fx85 (by omega)
            have g192 : pJob h79 (S + 1) j := pJob_fi g74 fx85 (by omega)
            have g193 : px_rs hm49 (S + 5) 56 8 (fun k => S + 9 * k + 6) := rs_fi g5 fa50 (by omega)
            have g194 : px_rs hm53 (S + 5) 56 8 (fun k => S + 9 * k + 6) := rs_fi g193 fa54 (by omega)
            have g195 : px_rs hm57 (S + 5) 56 8 (fun k => S + 9 * k + 6) := rs_fi g194 fa58 (by omega)
            have g196 : px_rs h41 (S + 5) 56 8 (fun k => S + 9 * k + 6) := rs_fi g195 fb61 (by omega)
            have g197 : px_rs h79 (S + 5) 56 8 (fun k => S + 9 * k + 6) := rs_fi g196 fx85 (by omega)
            have g198 : pCs hm49 S cs := pCs_fi g6 fa50 (by omega)
            have g199 : pCs hm53 S cs := pCs_fi g198 fa54 (by omega)
            have g200 : pCs hm57 S cs := pCs_fi g199 fa58 (by omega)
            have g201 : pCs h41 S cs := pCs_fi g200 fb61 (by omega)
            have g202 : pCs h79 S cs := pCs_fi g201 fx85 (by omega)
            have g203 : pDr hm49 D := pDr_fi g7 fa50 (by omega)
            have g204 : pDr hm53 D := pDr_fi g203 fa54 (by omega)
            have g205 : pDr hm57 D := pDr_fi g204 fa58 (by omega)
            have g206 : pDr h41 D := pDr_fi g205 fb61 (by omega)
            have g207 : pDr h79 D := pDr_fi g206 fx85 (by omega)
            have g208 : pRA hm49 := pRA_fi g8 fa50 (by omega)
            have g209 : pRA hm53 := pRA_fi g208 fa54 (by omega)
            have g210 : pRA hm57 := pRA_fi g209 fa58 (by omega)
            have g211 : pRA h41 := pRA_fi g210 fb61 (by omega)
            have g212 : pRA h79 := pRA_fi g211 fx85 (by omega)
            have g213 : pOrA hm49 256 := pOrA_fi g12 fa50 (by omega)
            have g214 : pOrA hm53 256 := pOrA_fi g213 fa54 (by omega)
            have g215 : pOrA hm57 256 := pOrA_fi g214 fa58 (by omega)
            have g216 : pOrA h41 256 := pOrA_fi g215 fb61 (by omega)
            have g217 : pOrA h79 256 := pOrA_fi g216 fx85 (by omega)
            have g218 : pSc hm49 := pSc_fi g13 fa50 (by omega)
            have g219 : pSc hm53 := pSc_fi g218 fa54 (by omega)
            have g220 : pSc hm57 := pSc_fi g219 fa58 (by omega)
            have g221 : pSc h41 := pSc_fi g220 fb61 (by omega)
            have g222 : pSc h79 := pSc_fi g221 fx85 (by omega)
            have g223 : pJA hm49 261 := pJA_fi g14 fa50 (by omega)
            have g224 : pJA hm53 261 := pJA_fi g223 fa54 (by omega)
            have g225 : pJA hm57 261 := pJA_fi g224 fa58 (by omega)
            have g226 : pJA h41 261 := pJA_fi g225 fb61 (by omega)
            have g227 : pJA h79 261 := pJA_fi g226 fx85 (by omega)
            have g228 : px_pa hm49 267 50 30 Value.int kl := pa_fi g16 fa50 (by omega)
            have g229 : px_pa hm53 267 50 30 Value.int kl := pa_fi g228 fa54 (by omega)
            have g230 : px_pa hm57 267 50 30 Value.int kl := pa_fi g229 fa58 (by omega)
            have g231 : px_pa h41 267 50 30 Value.int kl := pa_fi g230 fb61 (by omega)
            have g232 : px_pa h79 267 50 30 Value.int kl := pa_fi g231 fx85 (by omega)
            have g233 : px_pa hm49 268 50 30 Value.int cv := pa_fi g17 fa50 (by omega)
            have g234 : px_pa hm53 268 50 30 Value.int cv := pa_fi g233 fa54 (by omega)
            have g235 : px_pa hm57 268 50 30 Value.int cv := pa_fi g234 fa58 (by omega)
            have g236 : px_pa h41 268 50 30 Value.int cv := pa_fi g235 fb61 (by omega)
            have g237 : px_pa h79 268 50 30 Value.int cv := pa_fi g236 fx85 (by omega)
            have g238 : pStr hm49 1 ([60, 61, 62]) := pStr_fi g18 fa50 (by omega)
            have g239 : pStr hm53 1 ([60, 61, 62]) := pStr_fi g238 fa54 (by omega)
            have g240 : pStr hm57 1 ([60, 61, 62]) := pStr_fi g239 fa58 (by omega)
            have g241 : pStr h41 1 ([60, 61, 62]) := pStr_fi g240 fb61 (by omega)
            have g242 : pStr h79 1 ([60, 61, 62]) := pStr_fi g241 fx85 (by omega)
            have g243 : pStr hm49 2 ([43, 45, 42, 47]) := pStr_fi g19 fa50 (by omega)
            have g244 : pStr hm53 2 ([43, 45, 42, 47]) := pStr_fi g243 fa54 (by omega)
            have g245 : pStr hm57 2 ([43, 45, 42, 47]) := pStr_fi g244 fa58 (by omega)
            have g246 : pStr h41 2 ([43, 45, 42, 47]) := pStr_fi g245 fb61 (by omega)
            have g247 : pStr h79 2 ([43, 45, 42, 47]) := pStr_fi g246 fx85 (by omega)
            have g248 : pStr hm49 3 stepSigns := pStr_fi g20 fa50 (by omega)
            have g249 : pStr hm53 3 stepSigns := pStr_fi g248 fa54 (by omega)
            have g250 : pStr hm57 3 stepSigns := pStr_fi g249 fa58 (by omega)
            have g251 : pStr h41 3 stepSigns := pStr_fi g250 fb61 (by omega)
            have g252 : pStr h79 3 stepSigns := pStr_fi g251 fx85 (by omega)
            have g253 : pStr hm49 4 ([60, 61, 62]) := pStr_fi g21 fa50 (by omega)
            have g254 : pStr hm53 4 ([60, 61, 62]) := pStr_fi g253 fa54 (by omega)
            have g255 : pStr hm57 4 ([60, 61, 62]) := pStr_fi g254 fa58 (by omega)
            have g256 : pStr h41 4 ([60, 61, 62]) := pStr_fi g255 fb61 (by omega)
            have g257 : pStr h79 4 ([60, 61, 62]) := pStr_fi g256 fx85 (by omega)
            have g258 : pStr hm49 5 ([43, 45, 42, 47]) := pStr_fi g22 fa50 (by omega)
            have g259 : pStr hm53 5 ([43, 45, 42, 47]) := pStr_fi g258 fa54 (by omega)
            have g260 : pStr hm57 5 ([43, 45, 42, 47]) := pStr_fi g259 fa58 (by omega)
            have g261 : pStr h41 5 ([43, 45, 42, 47]) := pStr_fi g260 fb61 (by omega)
            have g262 : pStr h79 5 ([43, 45, 42, 47]) := pStr_fi g261 fx85 (by omega)
            have g263 : pStr hm49 6 evSigns := pStr_fi g23 fa50 (by omega)
            have g264 : pStr hm53 6 evSigns := pStr_fi g263 fa54 (by omega)
            have g265 : pStr hm57 6 evSigns := pStr_fi g264 fa58 (by omega)
            have g266 : pStr h41 6 evSigns := pStr_fi g265 fb61 (by omega)
            have g267 : pStr h79 6 evSigns := pStr_fi g266 fx85 (by omega)
            have g268 : pStr hm49 7 keyL := pStr_fi g24 fa50 (by omega)
            have g269 : pStr hm53 7 keyL := pStr_fi g268 fa54 (by omega)
            have g270 : pStr hm57 7 keyL := pStr_fi g269 fa58 (by omega)
            have g271 : pStr h41 7 keyL := pStr_fi g270 fb61 (by omega)
            have g272 : pStr h79 7 keyL := pStr_fi g271 fx85 (by omega)
            have g273 : pStr hm49 8 ordL := pStr_fi g25 fa50 (by omega)
            have g274 : pStr hm53 8 ordL := pStr_fi g273 fa54 (by omega)
            have g275 : pStr hm57 8 ordL := pStr_fi g274 fa58 (by omega)
            have g276 : pStr h41 8 ordL := pStr_fi g275 fb61 (by omega)
            have g277 : pStr h79 8 ordL := pStr_fi g276 fx85 (by omega)
            have g278 : pJT h79 tx j (cs.map c3of) := ⟨cs, S, D, ((plO j (cs.getD k ct0).1).2.2.1.isSome), kk, ck, (-3), (scO j (cs.getD k ct0).1 (nI nb)), kl, cv, g185, g190, g191, g192, g197, g202, g207, g212, g82, g84, g83, g217, g222, g227, g184, g232, g237, g242, g247, g252, g257, g262, g267, g272, g277, rfl, ok2⟩
            exact ⟨congrArg (fun z => some (Value.int z)) (show nI 1 = _ from by unfold aEq; rw [onC_k h8m hkm, map_c3 hk]; show _ = eqO j (cs.getD k ct0).1 _; unfold eqO; rw [nN_nI hnb, if_pos ⟨nI_ge0 hnb, hdv, hbp.symm.trans c_54⟩, if_pos c_70]), g278, fr86⟩
        · skip
          have c_54 : bcN nb ≠ evCnt true ((cs.getD k ct0).1) := cv_ne c_54
          refine e_iconst (v := (-1)) f_99_57 (by decide) rfl ?_
          refine e_iret f_99_58 rfl (rfl) ?_
          have g279 : pJT h tx j (cs.map c3of) := ⟨cs, S, D, pz, kk, ck, wo, xr, kl, cv, g1, g2, g3, g4, g5, g6, g7, g8, g9, g10, g11, g12, g13, g14, g15, g16, g17, g18, g19, g20, g21, g22, g23, g24, g25, rfl, ok⟩
          exact ⟨congrArg (fun z => some (Value.int z)) (show (-1) = _ from by unfold aEq; rw [onC_k h8m hkm, map_c3 hk]; show _ = eqO j (cs.getD k ct0).1 _; unfold eqO; rw [nN_nI hnb, if_neg (fun z => c_54 (hbp.trans z.2.2))]), g279, fr0⟩
    · skip
      refine e_iconst (v := (-1)) f_99_12 (by decide) rfl ?_
      refine e_iret f_99_13 rfl (rfl) ?_
      have g280 : pJT h tx j (cs.map c3of) := ⟨cs, S, D, pz, kk, ck, wo, xr, kl, cv, g1, g2, g3, g4, g5, g6, g7, g8, g9, g10, g11, g12, g13, g14, g15, g16, g17, g18, g19, g20, g21, g22, g23, g24, g25, rfl, ok⟩
      exact ⟨congrArg (fun z => some (Value.int z)) (show (-1) = _ from by unfold aEq; rw [onC_k h8m hkm, map_c3 hk]; show _ = eqO j (cs.getD k ct0).1 _; unfold eqO; rw [if_neg (fun z => c_9 z.1)]), g280, fr0⟩

set_option maxRecDepth 20000 in
set_option maxHeartbeats 4000000 in
theorem ll_JT_fl {P : px_H → Option Value → Prop} {h0 : px_H} {a : Nat} {ev : List Ev} {told : List Row} {os : Nat} {ks : Int32} {kept : List Nat} {j : List St} {L S D n c s k e : Nat} {pz kk cf : Bool} {rp : List Row} {ck0 : Nat} (HJ : h0.2.2 17 = some (11, [.ref (18), .int (nI L), .ref (S), .ref (D), .ref (175), .ref (177), .ref (249), .ref (254), .ref (256), .ref (258), .ref (261), .ref (265), .int (bI pz), .ref (267), .int (bI kk), .ref (268), .int (bI cf)])) (HS : h0.2.2 S = some (8, [.ref (S + 1), .ref (S + 5), .int (nI n)])) (HB : pJob h0 (S + 1) j) (HR : pRows h0 265 96 rp) (HO : h0.2.2 258 = some (7, [.ref (259), .ref (260), .int (nI ((scL ev 3).length)), .int (nI (evCnt false ev)), .int (nI (evCnt true ev))])) (HX : px_pa h0 259 50 266 vN (scL ev 3)) (p0 : okJ j) (p1 : ∀ e ∈ ev, okEv e) (p2 : 18 < S ∧ S + 78 ≤ 175) (p3 : 18 < a ∧ a + 9 ≤ 175) (hsa : a + 9 ≤ S ∨ S + 6 ≤ a) (hk31 : k < 2 ^ 31) (h24 : nAB ev ≤ 24) (he : e ≤ (scL ev 3).length) (hrp : rp = rsort (plO j ev).2.1) (hpz : pz = (plO j ev).2.2.1.isSome) (kx : ∀ q wo x g, pRun g wo x → pOrA g 254 → pJud g → pCase g a ev told os ks kept q (unL j ev q) → px_fj a 9 177 79 h0 g → q ≤ e → (e ≤ q ∨ k < (unL j ev q).length) → ck0 ≤ q → wo = -3 → px_to 100 130 [some (.ref (17)), some (.int (nI c)), some (.int (nI s)), some (.int (nI k)), some (.ref (a)), some (.int (nI e)), none] [] g P) : ∀ (d : Nat) (q : Nat) (wo : Int32) (x : RO) (g : px_H), (e ≤ q + d) → (q ≤ e) → (ck0 ≤ q) → (wo = -3) → pRun g wo x → pOrA g 254 → pJud g → pCase g a ev told os ks kept q (unL j ev q) → px_fj a 9 177 79 h0 g → px_to 100 85 [some (.ref (17)), some (.int (nI c)), some (.int (nI s)), some (.int (nI k)), some (.ref (a)), some (.int (nI e)), some (.int (nI q))] [] g P := by
  intro d
  induction d using Nat.strongRecOn with
  | ind d ih =>
    intro q wo x g q0 q1 q2 q3 G0 G1 G2 G3 frg
    have hlu := unL_len (j := j) (ev := ev) (q := q)
    have h266 : (scL ev 3).length ≤ 266 := schU_len h24
    refine e_iload f_100_85 rfl rfl ?_
    refine e_iload f_100_87 rfl rfl ?_
    refine e_icmp_ge f_100_89 rfl (fun c_89 => ?_) (fun c_89 => ?_)
    · skip
      have c_89 : e ≤ q := cv_le (by omega) (by omega) c_89
      refine px_to_L (L := [some (.ref (17)), some (.int (nI c)), some (.int (nI s)), some (.int (nI k)), some (.ref (a)), some (.int (nI e)), none]) ⟨Or.inr rfl, Or.inr rfl, Or.inr rfl, Or.inr rfl, Or.inr rfl, Or.inr rfl, Or.inl rfl, trivial⟩ ?_
      exact kx q wo x g G0 G1 G2 G3 frg (by omega) (by omega) (by omega) q3
    · skip
      have c_89 : q < e := cv_nle (by omega) (by omega) c_89
      refine e_aload f_100_92 rfl rfl ?_
      refine e_getf f_100_94 G3.1 rfl rfl ?_
      refine e_iload_n f_100_97 rfl rfl ?_
      refine e_icmp_gt f_100_98 rfl (fun c_98 => ?_) (fun c_98 => ?_)
      · skip
        have c_98 : k < (unL j ev q).length := cv_lt (by omega) (by omega) c_98
        refine px_to_L (L := [some (.ref (17)), some (.int (nI c)), some (.int (nI s)), some (.int (nI k)), some (.ref (a)), some (.int (nI e)), none]) ⟨Or.inr rfl, Or.inr rfl, Or.inr rfl, Or.inr rfl, Or.inr rfl, Or.inr rfl, Or.inl rfl, trivial⟩ ?_
        exact kx q wo x g G0 G1 G2 G3 frg (by omega) (by omega) (by omega) q3
      · skip
        have c_98 : (unL j ev q).length ≤ k := cv_nlt (by omega) (by omega) c_98
        have hsv := sch_v h24 (getD_mem 0 (show q < (scL ev 3).length by omega))
        refine e_aload f_100_101 rfl rfl ?_
        refine e_iload f_100_103 rfl rfl ?_
        refine e_aload_n f_100_105 rfl rfl ?_
        refine e_aload f_100_106 rfl rfl ?_
        refine e_aload_n f_100_108 rfl rfl ?_
        obtain ⟨hm2, fa3, fb4⟩ := fj_mid frg
        have g1 : g.2.2 17 = some (11, [.ref (18), .int (nI L), .ref (S), .ref (D), .ref (175), .ref (177), .ref (249), .ref (254), .ref (256), .ref (258), .ref (261), .ref (265), .int (bI pz), .ref (267), .int (bI kk), .ref (268), .int (bI cf)]) := fi_at (fi_at HJ fa3 (by omega)) fb4 (by omega)
        refine e_getf f_100_109 g1 rfl rfl ?_
        obtain ⟨hm6, fa7, fb8⟩ := fj_mid frg
        have g5 : g.2.2 258 = some (7, [.ref (259), .ref (260), .int (nI ((scL ev 3).length)), .int (nI (evCnt false ev)), .int (nI (evCnt true ev))]) := fi_at (fi_at HO fa7 (by omega)) fb8 (by omega)
        refine e_getf f_100_112 g5 rfl rfl ?_
        refine e_iload f_100_115 rfl rfl ?_
        obtain ⟨hm10, fa11, fb12⟩ := fj_mid frg
        have g9 : px_pa g 259 50 266 vN (scL ev 3) := pa_fi (pa_fi HX fa11 (by omega)) fb12 (by omega)
        refine e_iaload_p (xs := scL ev 3) f_100_117 g9 (d := 0) (by first | omega | (simp only [List.length_set]; omega)) rfl ?_
        show px_to 100 118 [some (.ref (17)), some (.int (nI c)), some (.int (nI s)), some (.int (nI k)), some (.ref (a)), some (.int (nI e)), some (.int (nI q))] [.int (nI ((scL ev 3).getD q 0)), .ref (a), .ref (17), .int (nI q), .ref (a)] g _
        obtain ⟨hm14, fa15, fb16⟩ := fj_mid frg
        have g13 : g.2.2 S = some (8, [.ref (S + 1), .ref (S + 5), .int (nI n)]) := fi_at (fi_at HS fa15 (by omega)) fb16 (by omega)
        obtain ⟨hm18, fa19, fb20⟩ := fj_mid frg
        have g17 : pJob g (S + 1) j := pJob_fi (pJob_fi HB fa19 (by omega)) fb20 (by omega)
        obtain ⟨hm22, fa23, fb24⟩ := fj_mid frg
        have g21 : pRows g 265 96 rp := pRows_fi (pRows_fi HR fa23 (by omega)) fb24 (by omega)
        refine e_callV (As := [.ref (a), .int (nI ((scL ev 3).getD q 0))]) (rest := [.int (nI q), .ref (a)]) f_100_118 rfl rfl rfl (Nat.le_of_ble_eq_true rfl) (Nat.le_of_ble_eq_true rfl) g1 rfl (Nat.le_of_ble_eq_true rfl) (cc_JT_ie (bits := nI ((scL ev 3).getD q 0)) (rp := rp) (L := L) (S := S) (D := D) (n := n) (pz := pz) (kk := kk) (cf := cf) (j := j) (wo := wo) (x := x) (a := a) (ev := ev) (told := told) (os := os) (ks := ks) (kept := kept) (ck := q) (un := unL j ev q) G0 G1 G2 g1 g13 g17 G3 g21 (p0) (p1) (p2) (p3) (hsv) (hrp) (hpz)) rfl (fun h25 r26 q27 => ?_)
        obtain ⟨rfl, g28, g29, g30, fx31⟩ := q27
        have fr32 : px_fj a 9 177 79 h0 h25 := fj_tr frg fx31 (by omega)
        show px_to 100 121 [some (.ref (17)), some (.int (nI c)), some (.int (nI s)), some (.int (nI k)), some (.ref (a)), some (.int (nI e)), some (.int (nI q))] [.int (bI (isEq j ev (nI ((scL ev 3).getD q 0)))), .int (nI q), .ref (a)] h25 _
        have g33 : pCase h25 a ev told os ks kept q (unL j ev q) := pCase_fi G3 fx31 (by omega)
        refine e_callV (As := [.int (nI q), .int (bI (isEq j ev (nI ((scL ev 3).getD q 0))))]) (rest := []) f_100_121 rfl rfl rfl (Nat.le_of_ble_eq_true rfl) (Nat.le_of_ble_eq_true rfl) g33.1 rfl (Nat.le_of_ble_eq_true rfl) (cc_Case_note (n := q) (b := isEq j ev (nI ((scL ev 3).getD q 0))) (a := a) (ev := ev) (told := told) (os := os) (ks := ks) (kept := kept) (ck := q) (un := unL j ev q) g33 (by omega) (by omega)) rfl (fun h34 r35 q36 => ?_)
        obtain ⟨rfl, g37, fx38⟩ := q36
        have fr39 : px_fj a 9 177 79 h0 h34 := fj_tr fr32 fx38 (by omega)
        show px_to 100 124 [some (.ref (17)), some (.int (nI c)), some (.int (nI s)), some (.int (nI k)), some (.ref (a)), some (.int (nI e)), some (.int (nI q))] [] h34 _
        refine e_iinc (y := nI (q + 1)) (L' := [some (.ref (17)), some (.int (nI c)), some (.int (nI s)), some (.int (nI k)), some (.ref (a)), some (.int (nI e)), some (.int (nI (q + 1)))]) f_100_124 rfl (by rw [show Int32.ofInt 1 = nI 1 by decide]; exact (nI_add _ _)) rfl rfl ?_
        refine e_goto f_100_127 ?_
        have g40 : pCase h34 a ev told os ks kept (q + 1) (unL j ev (q + 1)) := by rw [unL_s]; exact g37
        have g41 : pRun h34 (-3) (scO j ev (nI ((scL ev 3).getD q 0))) := pRun_fi g28 fx38 (by omega)
        have g42 : pOrA h34 254 := pOrA_fi g29 fx38 (by omega)
        have g43 : pJud h34 := pJud_fi g30 fx38 (by omega)
        first | (exfalso; omega) | exact ih (d - 1) (by omega) (q + 1) (-3) (scO j ev (nI ((scL ev 3).getD q 0))) h34 (by omega) (by omega) (by omega) (rfl) g41 g42 g43 g40 fr39

theorem map_set_c3 {cs : List CT7} {k : Nat} {t : CT7} (hk : k < cs.length) (h : c3of t = c3of (cs.getD k ct0)) : cs.map c3of = (cs.set k t).map c3of := by
  rw [List.map_set, h, ← map_c3 hk]
  exact (set_self (by rw [List.length_map]; exact hk)).symm
theorem okJT_set {tx : List Nat} {j : List St} {cs : List CT7} {S D k : Nat} {kk ck : Bool} {wo : Int32} {x : RO} {kl cv : List Int32} {t : CT7} (h : okJT tx j cs S D kk ck wo x kl cv) (hk : k < cs.length) (ht : okK j t) (hc : c3of t = c3of (cs.getD k ct0)) : okJT tx j (cs.set k t) S D kk ck wo x kl cv := by
  have hm := map_set_c3 hk hc
  refine ⟨h.1, h.2.1, h.2.2.1, ⟨by rw [List.length_set]; exact h.2.2.2.1.1, fun y hy => ?_⟩, fun c hl e => ?_, ⟨h.2.2.2.2.2.1.1, fun e => by rw [← hm]; exact h.2.2.2.2.2.1.2 e⟩, ⟨h.2.2.2.2.2.2.1, fun e => by rw [← hm]; exact h.2.2.2.2.2.2.2 e⟩⟩
  · rcases List.mem_or_eq_of_mem_set hy with z | z
    · exact h.2.2.2.1.2 y z
    · rw [z]; exact ht
  · rw [List.length_set] at hl
    rw [h.2.2.2.2.1 c hl e]
    by_cases q : k = c
    · subst q
      rw [getD_set_same hk]
      exact congrArg (runO j) (congrArg Prod.fst hc).symm
    · rw [getD_set_ne q]

set_option maxRecDepth 20000 in
set_option maxHeartbeats 4000000 in
theorem cc_JT_fail {h : px_H} {tx : List Nat} {j : List St} {xs : List CS3} {c : Int32} {s : Int32} {k2 : Int32} (H0 : pJT h tx j xs)  : px_wp 100 [.ref (17), .int (c), .int (s), .int (k2)] h (fun h1 r => r = some (.int (aFail j xs c s k2)) ∧ pJT h1 tx j xs ∧ px_fi 17 252 h h1) := by
  have fr0 : px_fi 17 252 h h := fi_rf _ _ _
  show px_to 100 0 [some (.ref (17)), some (.int (c)), some (.int (s)), some (.int (k2)), none, none, none] [] h _
  obtain ⟨cs, S, D, pz, kk, ck, wo, xr, kl, cv, g1, g2, g3, g4, g5, g6, g7, g8, g9, g10, g11, g12, g13, g14, g15, g16, g17, g18, g19, g20, g21, g22, g23, g24, g25, hx, ok⟩ := id H0
  subst hx
  have h8 := ok.2.2.2.1.1
  have hS : 18 < S ∧ S + 78 ≤ 175 := by have := ok.1; omega
  have hD : 18 < D ∧ D + 78 ≤ 175 := by have := ok.1; omega
  have hSD : D + 78 ≤ S ∨ S + 78 ≤ D := by have := ok.1; omega
  have h8m : (cs.map c3of).length ≤ 8 := by rw [List.length_map]; exact h8
  have htl : tx.length ≤ 500 := pa_len g2
  refine e_aload_n f_100_0 rfl rfl ?_
  refine e_iload_n f_100_1 rfl rfl ?_
  refine e_callV (As := [.int (c)]) (rest := []) f_100_2 rfl rfl rfl (Nat.le_of_ble_eq_true rfl) (Nat.le_of_ble_eq_true rfl) g1 rfl (Nat.le_of_ble_eq_true rfl) (cc_JT_has (c := c) (L := tx.length) (S := S) (D := D) (n := cs.length) (pz := pz) (kk := kk) (ck := ck) g1 g3 (by omega)) rfl (fun h26 r27 q28 => ?_)
  obtain ⟨rfl, qe⟩ := q28
  have qe := qe.symm
  subst qe
  show px_to 100 5 [some (.ref (17)), some (.int (c)), some (.int (s)), some (.int (k2)), none, none, none] [.int (bI (hasC c cs.length))] h _
  refine e_if_eq f_100_5 rfl (fun c_5 => ?_) (fun c_5 => ?_)
  · skip
    have c_5 : (hasC c cs.length) = false := bI_f c_5
    have hno : hasC c (cs.map c3of).length = false := by rw [List.length_map]; exact c_5
    refine e_iconst (v := (-1)) f_100_17 (by decide) rfl ?_
    refine e_iret f_100_18 rfl (rfl) ?_
    have g29 : pJT h tx j (cs.map c3of) := ⟨cs, S, D, pz, kk, ck, wo, xr, kl, cv, g1, g2, g3, g4, g5, g6, g7, g8, g9, g10, g11, g12, g13, g14, g15, g16, g17, g18, g19, g20, g21, g22, g23, g24, g25, rfl, ok⟩
    exact ⟨congrArg (fun z => some (Value.int z)) (show (-1) = _ from by unfold aFail; rw [onC_no hno]; split <;> rfl), g29, fr0⟩
  · skip
    have c_5 : (hasC c cs.length) = true := bI_t' c_5
    obtain ⟨k, hk, hkc⟩ := hasC_t (by omega) c_5
    subst hkc
    have hkm : k < (cs.map c3of).length := by rw [List.length_map]; exact hk
    have g30 : pCase h (S + 9 * k + 6) ((cs.getD k ct0).1) ((cs.getD k ct0).2.1) ((cs.getD k ct0).2.2.1) ((cs.getD k ct0).2.2.2.1) ((cs.getD k ct0).2.2.2.2.1) ((cs.getD k ct0).2.2.2.2.2.1) ((cs.getD k ct0).2.2.2.2.2.2) := (pCs_get (k := k) g6 (by omega) hk).1
    have hct : okK j (cs.getD k ct0) := ok.2.2.2.1.2 _ (getD_mem _ hk)
    refine e_iload_n f_100_8 rfl rfl ?_
    refine e_if_lt f_100_9 rfl (fun c_9 => ?_) (fun c_9 => ?_)
    · skip
      refine e_iconst (v := (-1)) f_100_17 (by decide) rfl ?_
      refine e_iret f_100_18 rfl (rfl) ?_
      have g31 : pJT h tx j (cs.map c3of) := ⟨cs, S, D, pz, kk, ck, wo, xr, kl, cv, g1, g2, g3, g4, g5, g6, g7, g8, g9, g10, g11, g12, g13, g14, g15, g16, g17, g18, g19, g20, g21, g22, g23, g24, g25, rfl, ok⟩
      exact ⟨congrArg (fun z => some (Value.int z)) (show (-1) = _ from by unfold aFail; rw [if_neg (by rw [rng_a c_9]; decide)]), g31, fr0⟩
    · skip
      refine e_iload_n f_100_12 rfl rfl ?_
      refine e_iconst (v := nI 3) f_100_13 (by decide) rfl ?_
      refine e_icmp_le f_100_14 rfl (fun c_14 => ?_) (fun c_14 => ?_)
      · skip
        obtain ⟨ks, hks, hwcks⟩ := rng_t (by omega) c_9 c_14
        subst hwcks
        refine e_iload_n f_100_19 rfl rfl ?_
        refine e_if_ge f_100_20 rfl (fun c_20 => ?_) (fun c_20 => ?_)
        · skip
          obtain ⟨kn, hkn, hkc2⟩ := pos_N c_20
          subst hkc2
          have hoe : ∀ e ∈ (cs.getD k ct0).1, e.1 < 65536 := fun e he => by have := (hct.1.2.1 e he).1; omega
          have hab : nAB (cs.getD k ct0).1 ≤ 24 := ab24 hct.1
          have hab2 : evCnt false (cs.getD k ct0).1 + evCnt true (cs.getD k ct0).1 ≤ 24 := ab24 hct.1
          have hul := schU_len hab2
          have hus := schU_le (a := (evCnt false (cs.getD k ct0).1)) (b := (evCnt true (cs.getD k ct0).1)) (s := ks) (by omega)
          refine e_aload_n f_100_26 rfl rfl ?_
          refine e_iload_n f_100_27 rfl rfl ?_
          refine e_callV (As := [.int (nI k)]) (rest := []) f_100_28 rfl rfl rfl (Nat.le_of_ble_eq_true rfl) (Nat.le_of_ble_eq_true rfl) g1 rfl (Nat.le_of_ble_eq_true rfl) (cc_JT_ls (c := k) (cs := cs) (L := tx.length) (S := S) (D := D) (pz := pz) (kk := kk) (ck := ck) g13 g1 g3 g5 g6 (hk) (h8) (hct.1) (hS)) rfl (fun h32 r33 q34 => ?_)
          obtain ⟨rfl, g35, g36, g37, fx38⟩ := q34
          have fr39 : px_fi 17 252 h h32 := fi_tr fr0 fx38 (by omega)
          show px_to 100 31 [some (.ref (17)), some (.int (nI k)), some (.int (nI ks)), some (.int (nI kn)), none, none, none] [] h32 _
          have g40 : pCs h32 S cs := pCs_fi g6 fx38 (by omega)
          obtain ⟨g41, g42⟩ := pCs_get (k := k) g40 (by omega) hk
          have g43 : pCase h32 (S + 9 * k + 6) ((cs.getD k ct0).1) ((cs.getD k ct0).2.1) ((cs.getD k ct0).2.2.1) ((cs.getD k ct0).2.2.2.1) ((cs.getD k ct0).2.2.2.2.1) ((cs.getD k ct0).2.2.2.2.2.1) (unL j (cs.getD k ct0).1 ((cs.getD k ct0).2.2.2.2.2.1)) := by have z := g41; unfold pCT at z; rw [hct.2.2.1] at z; exact z
          have hlu := unL_len (j := j) (ev := (cs.getD k ct0).1) (q := (cs.getD k ct0).2.2.2.2.2.1)
          have hckl := hct.2.1
          have hckl2 : (cs.getD k ct0).2.2.2.2.2.1 ≤ (schU (evCnt false (cs.getD k ct0).1) (evCnt true (cs.getD k ct0).1) 3).length := hct.2.1
          refine e_aload_n f_100_31 rfl rfl ?_
          have g44 : h32.2.2 17 = some (11, [.ref (18), .int (nI tx.length), .ref (S), .ref (D), .ref (175), .ref (177), .ref (249), .ref (254), .ref (256), .ref (258), .ref (261), .ref (265), .int (bI pz), .ref (267), .int (bI kk), .ref (268), .int (bI ck)]) := fi_at g1 fx38 (by omega)
          refine e_getf f_100_32 g44 rfl rfl ?_
          have g45 : h32.2.2 S = some (8, [.ref (S + 1), .ref (S + 5), .int (nI cs.length)]) := fi_at g3 fx38 (by omega)
          refine e_getf f_100_35 g45 rfl rfl ?_
          refine e_iload_n f_100_38 rfl rfl ?_
          have g46 : px_rs h32 (S + 5) 56 8 (fun k => S + 9 * k + 6) := rs_fi g5 fx38 (by omega)
          refine e_aaload_r f_100_39 (by decide) g46 (by first | omega | (simp only [List.length_set]; omega)) (by decide) rfl ?_
          show px_to 100 40 [some (.ref (17)), some (.int (nI k)), some (.int (nI ks)), some (.int (nI kn)), none, none, none] [.ref (S + 9 * k + 6)] h32 _
          refine e_astore (L' := [some (.ref (17)), some (.int (nI k)), some (.int (nI ks)), some (.int (nI kn)), some (.ref (S + 9 * k + 6)), none, none]) f_100_40 (Nat.le_of_ble_eq_true rfl) rfl rfl ?_
          refine e_aload_n f_100_42 rfl rfl ?_
          refine e_getf f_100_43 g44 rfl rfl ?_
          refine e_getf f_100_46 g35 rfl rfl ?_
          refine e_iload_n f_100_49 rfl rfl ?_
          refine e_iaload_p (xs := schE (evCnt false (cs.getD k ct0).1) (evCnt true (cs.getD k ct0).1)) f_100_50 g37 (d := 0) (by show ks < 4; omega) rfl ?_
          show px_to 100 51 [some (.ref (17)), some (.int (nI k)), some (.int (nI ks)), some (.int (nI kn)), some (.ref (S + 9 * k + 6)), none, none] [.int (nI ((schE (evCnt false (cs.getD k ct0).1) (evCnt true (cs.getD k ct0).1)).getD ks 0))] h32 _
          rw [schE_get (by omega)]
          refine e_istore (L' := [some (.ref (17)), some (.int (nI k)), some (.int (nI ks)), some (.int (nI kn)), some (.ref (S + 9 * k + 6)), some (.int (nI ((schU (evCnt false (cs.getD k ct0).1) (evCnt true (cs.getD k ct0).1) ks).length))), none]) f_100_51 (Nat.le_of_ble_eq_true rfl) rfl rfl ?_
          refine e_aload f_100_53 rfl rfl ?_
          refine e_getf f_100_55 g43.1 rfl rfl ?_
          refine e_iload_n f_100_58 rfl rfl ?_
          refine e_icmp_gt f_100_59 rfl (fun c_59 => ?_) (fun c_59 => ?_)
          · skip
            have c_59 : kn < (unL j (cs.getD k ct0).1 ((cs.getD k ct0).2.2.2.2.2.1)).length := cv_lt (by omega) (by omega) c_59
            refine e_aload f_100_78 rfl rfl ?_
            refine e_getf f_100_80 g43.1 rfl rfl ?_
            refine e_istore (L' := [some (.ref (17)), some (.int (nI k)), some (.int (nI ks)), some (.int (nI kn)), some (.ref (S + 9 * k + 6)), some (.int (nI ((schU (evCnt false (cs.getD k ct0).1) (evCnt true (cs.getD k ct0).1) ks).length))), some (.int (nI ((cs.getD k ct0).2.2.2.2.2.1)))]) f_100_83 (Nat.le_of_ble_eq_true rfl) rfl rfl ?_
            refine e_iload f_100_85 rfl rfl ?_
            refine e_iload f_100_87 rfl rfl ?_
            refine e_icmp_ge f_100_89 rfl (fun c_89 => ?_) (fun c_89 => ?_)
            · skip
              have c_89 : (schU (evCnt false (cs.getD k ct0).1) (evCnt true (cs.getD k ct0).1) ks).length ≤ (cs.getD k ct0).2.2.2.2.2.1 := cv_le (by omega) (by omega) c_89
              refine e_iload_n f_100_130 rfl rfl ?_
              refine e_aload f_100_131 rfl rfl ?_
              refine e_getf f_100_133 g43.1 rfl rfl ?_
              refine e_icmp_ge f_100_136 rfl (fun c_136 => ?_) (fun c_136 => ?_)
              · skip
                have c_136 : (unL j (cs.getD k ct0).1 ((cs.getD k ct0).2.2.2.2.2.1)).length ≤ kn := cv_le (by omega) (by omega) c_136
                refine e_bipush (v := (-3)) f_100_161 (by decide) rfl ?_
                refine e_iret f_100_163 rfl (rfl) ?_
                have g47 : pSc h32 := ⟨_, _, _, _, _, g35, g36, g37, rfl, (sc_self hab)⟩
                have g48 : pCs h32 S (cs.set k ((cs.getD k ct0).1, (cs.getD k ct0).2.1, (cs.getD k ct0).2.2.1, (cs.getD k ct0).2.2.2.1, (cs.getD k ct0).2.2.2.2.1, (cs.getD k ct0).2.2.2.2.2.1, unL j (cs.getD k ct0).1 ((cs.getD k ct0).2.2.2.2.2.1))) := pCs_in g42 (t := ((cs.getD k ct0).1, (cs.getD k ct0).2.1, (cs.getD k ct0).2.2.1, (cs.getD k ct0).2.2.2.1, (cs.getD k ct0).2.2.2.2.1, (cs.getD k ct0).2.2.2.2.2.1, unL j (cs.getD k ct0).1 ((cs.getD k ct0).2.2.2.2.2.1))) g43
                have g49 : h32.2.2 S = some (8, [.ref (S + 1), .ref (S + 5), .int (nI ((cs.set k ((cs.getD k ct0).1, (cs.getD k ct0).2.1, (cs.getD k ct0).2.2.1, (cs.getD k ct0).2.2.2.1, (cs.getD k ct0).2.2.2.2.1, (cs.getD k ct0).2.2.2.2.2.1, unL j (cs.getD k ct0).1 ((cs.getD k ct0).2.2.2.2.2.1))).length))]) := by rw [List.length_set]; exact g45
                have okt : okK j ((cs.getD k ct0).1, (cs.getD k ct0).2.1, (cs.getD k ct0).2.2.1, (cs.getD k ct0).2.2.2.1, (cs.getD k ct0).2.2.2.2.1, (cs.getD k ct0).2.2.2.2.2.1, unL j (cs.getD k ct0).1 ((cs.getD k ct0).2.2.2.2.2.1)) := ⟨hct.1, hckl, rfl, hct.2.2.2⟩
                have ok1 := ok
                have ok2 := okJT_set ok1 hk okt rfl
                have hfo := fail_of (j := j) (ev := (cs.getD k ct0).1) (s := ks) (k := kn) (q := (cs.getD k ct0).2.2.2.2.2.1) (by show (schU (evCnt false (cs.getD k ct0).1) (evCnt true (cs.getD k ct0).1) ks).length ≤ _ ∨ _; omega)
                have g50 : px_pa h32 18 52 500 vN tx := pa_fi g2 fx38 (by omega)
                have g51 : pJob h32 (S + 1) j := pJob_fi g4 fx38 (by omega)
                have g52 : pDr h32 D := pDr_fi g7 fx38 (by omega)
                have g53 : pRA h32 := pRA_fi g8 fx38 (by omega)
                have g54 : pRun h32 wo xr := pRun_fi g9 fx38 (by omega)
                have g55 : pJud h32 := pJud_fi g10 fx38 (by omega)
                have g56 : pOrA h32 254 := pOrA_fi g11 fx38 (by omega)
                have g57 : pOrA h32 256 := pOrA_fi g12 fx38 (by omega)
                have g58 : pJA h32 261 := pJA_fi g14 fx38 (by omega)
                have g59 : pRwA h32 265 := pRwA_fi g15 fx38 (by omega)
                have g60 : px_pa h32 267 50 30 Value.int kl := pa_fi g16 fx38 (by omega)
                have g61 : px_pa h32 268 50 30 Value.int cv := pa_fi g17 fx38 (by omega)
                have g62 : pStr h32 1 ([60, 61, 62]) := pStr_fi g18 fx38 (by omega)
                have g63 : pStr h32 2 ([43, 45, 42, 47]) := pStr_fi g19 fx38 (by omega)
                have g64 : pStr h32 3 stepSigns := pStr_fi g20 fx38 (by omega)
                have g65 : pStr h32 4 ([60, 61, 62]) := pStr_fi g21 fx38 (by omega)
                have g66 : pStr h32 5 ([43, 45, 42, 47]) := pStr_fi g22 fx38 (by omega)
                have g67 : pStr h32 6 evSigns := pStr_fi g23 fx38 (by omega)
                have g68 : pStr h32 7 keyL := pStr_fi g24 fx38 (by omega)
                have g69 : pStr h32 8 ordL := pStr_fi g25 fx38 (by omega)
                have g70 : pJT h32 tx j (cs.map c3of) := ⟨(cs.set k ((cs.getD k ct0).1, (cs.getD k ct0).2.1, (cs.getD k ct0).2.2.1, (cs.getD k ct0).2.2.2.1, (cs.getD k ct0).2.2.2.2.1, (cs.getD k ct0).2.2.2.2.2.1, unL j (cs.getD k ct0).1 ((cs.getD k ct0).2.2.2.2.2.1))), S, D, pz, kk, ck, wo, xr, kl, cv, g44, g50, g49, g51, g46, g48, g52, g53, g54, g55, g56, g57, g47, g58, g59, g60, g61, g62, g63, g64, g65, g66, g67, g68, g69, (map_set_c3 hk rfl), ok2⟩
                exact ⟨congrArg (fun z => some (Value.int z)) (show (-3) = _ from by unfold aFail; rw [if_pos (hasC_nI (by omega) (by omega)), onC_k h8m hkm, map_c3 hk, nN_nI (show ks < 2 ^ 31 by omega)]; show _ = (if _ < _ then _ else failO j (cs.getD k ct0).1 ks _); rw [if_neg (fun z => Int32.not_le.mpr z (nI_ge0 hkn)), nN_nI hkn, hfo, if_neg (fun z => by omega)]), g70, fr39⟩
              · skip
                have c_136 : kn < (unL j (cs.getD k ct0).1 ((cs.getD k ct0).2.2.2.2.2.1)).length := cv_nle (by omega) (by omega) c_136
                refine e_aload f_100_139 rfl rfl ?_
                refine e_getf f_100_141 g43.1 rfl rfl ?_
                refine e_iload_n f_100_144 rfl rfl ?_
                refine e_iaload_p (xs := unL j (cs.getD k ct0).1 ((cs.getD k ct0).2.2.2.2.2.1)) f_100_145 g43.2.2.2.2.2.2.2 (d := 0) (by first | omega | (simp only [List.length_set]; omega)) rfl ?_
                show px_to 100 146 [some (.ref (17)), some (.int (nI k)), some (.int (nI ks)), some (.int (nI kn)), some (.ref (S + 9 * k + 6)), some (.int (nI ((schU (evCnt false (cs.getD k ct0).1) (evCnt true (cs.getD k ct0).1) ks).length))), some (.int (nI ((cs.getD k ct0).2.2.2.2.2.1)))] [.int (nI ((unL j (cs.getD k ct0).1 ((cs.getD k ct0).2.2.2.2.2.1)).getD kn 0))] h32 _
                have hul2 := unL_lt (j := j) (ev := (cs.getD k ct0).1) (q := (cs.getD k ct0).2.2.2.2.2.1) (i := kn) (by omega)
                refine e_iload f_100_146 rfl rfl ?_
                refine e_icmp_ge f_100_148 rfl (fun c_148 => ?_) (fun c_148 => ?_)
                · skip
                  have c_148 : (schU (evCnt false (cs.getD k ct0).1) (evCnt true (cs.getD k ct0).1) ks).length ≤ (unL j (cs.getD k ct0).1 ((cs.getD k ct0).2.2.2.2.2.1)).getD kn 0 := cv_le (by omega) (by omega) c_148
                  refine e_bipush (v := (-3)) f_100_161 (by decide) rfl ?_
                  refine e_iret f_100_163 rfl (rfl) ?_
                  have g71 : pSc h32 := ⟨_, _, _, _, _, g35, g36, g37, rfl, (sc_self hab)⟩
                  have g72 : pCs h32 S (cs.set k ((cs.getD k ct0).1, (cs.getD k ct0).2.1, (cs.getD k ct0).2.2.1, (cs.getD k ct0).2.2.2.1, (cs.getD k ct0).2.2.2.2.1, (cs.getD k ct0).2.2.2.2.2.1, unL j (cs.getD k ct0).1 ((cs.getD k ct0).2.2.2.2.2.1))) := pCs_in g42 (t := ((cs.getD k ct0).1, (cs.getD k ct0).2.1, (cs.getD k ct0).2.2.1, (cs.getD k ct0).2.2.2.1, (cs.getD k ct0).2.2.2.2.1, (cs.getD k ct0).2.2.2.2.2.1, unL j (cs.getD k ct0).1 ((cs.getD k ct0).2.2.2.2.2.1))) g43
                  have g73 : h32.2.2 S = some (8, [.ref (S + 1), .ref (S + 5), .int (nI ((cs.set k ((cs.getD k ct0).1, (cs.getD k ct0).2.1, (cs.getD k ct0).2.2.1, (cs.getD k ct0).2.2.2.1, (cs.getD k ct0).2.2.2.2.1, (cs.getD k ct0).2.2.2.2.2.1, unL j (cs.getD k ct0).1 ((cs.getD k ct0).2.2.2.2.2.1))).length))]) := by rw [List.length_set]; exact g45
                  have okt : okK j ((cs.getD k ct0).1, (cs.getD k ct0).2.1, (cs.getD k ct0).2.2.1, (cs.getD k ct0).2.2.2.1, (cs.getD k ct0).2.2.2.2.1, (cs.getD k ct0).2.2.2.2.2.1, unL j (cs.getD k ct0).1 ((cs.getD k ct0).2.2.2.2.2.1)) := ⟨hct.1, hckl, rfl, hct.2.2.2⟩
                  have ok1 := ok
                  have ok2 := okJT_set ok1 hk okt rfl
                  have hfo := fail_of (j := j) (ev := (cs.getD k ct0).1) (s := ks) (k := kn) (q := (cs.getD k ct0).2.2.2.2.2.1) (by show (schU (evCnt false (cs.getD k ct0).1) (evCnt true (cs.getD k ct0).1) ks).length ≤ _ ∨ _; omega)
                  have g74 : px_pa h32 18 52 500 vN tx := pa_fi g2 fx38 (by omega)
                  have g75 : pJob h32 (S + 1) j := pJob_fi g4 fx38 (by omega)
                  have g76 : pDr h32 D := pDr_fi g7 fx38 (by omega)
                  have g77 : pRA h32 := pRA_fi g8 fx38 (by omega)
                  have g78 : pRun h32 wo xr := pRun_fi g9 fx38 (by omega)
                  have g79 : pJud h32 := pJud_fi g10 fx38 (by omega)
                  have g80 : pOrA h32 254 := pOrA_fi g11 fx38 (by omega)
                  have g81 : pOrA h32 256 := pOrA_fi g12 fx38 (by omega)
                  have g82 : pJA h32 261 := pJA_fi g14 fx38 (by omega)
                  have g83 : pRwA h32 265 := pRwA_fi g15 fx38 (by omega)
                  have g84 : px_pa h32 267 50 30 Value.int kl := pa_fi g16 fx38 (by omega)
                  have g85 : px_pa h32 268 50 30 Value.int cv := pa_fi g17 fx38 (by omega)
                  have g86 : pStr h32 1 ([60, 61, 62]) := pStr_fi g18 fx38 (by omega)
                  have g87 : pStr h32 2 ([43, 45, 42, 47]) := pStr_fi g19 fx38 (by omega)
                  have g88 : pStr h32 3 stepSigns := pStr_fi g20 fx38 (by omega)
                  have g89 : pStr h32 4 ([60, 61, 62]) := pStr_fi g21 fx38 (by omega)
                  have g90 : pStr h32 5 ([43, 45, 42, 47]) := pStr_fi g22 fx38 (by omega)
                  have g91 : pStr h32 6 evSigns := pStr_fi g23 fx38 (by omega)
                  have g92 : pStr h32 7 keyL := pStr_fi g24 fx38 (by omega)
                  have g93 : pStr h32 8 ordL := pStr_fi g25 fx38 (by omega)
                  have g94 : pJT h32 tx j (cs.map c3of) := ⟨(cs.set k ((cs.getD k ct0).1, (cs.getD k ct0).2.1, (cs.getD k ct0).2.2.1, (cs.getD k ct0).2.2.2.1, (cs.getD k ct0).2.2.2.2.1, (cs.getD k ct0).2.2.2.2.2.1, unL j (cs.getD k ct0).1 ((cs.getD k ct0).2.2.2.2.2.1))), S, D, pz, kk, ck, wo, xr, kl, cv, g44, g74, g73, g75, g46, g72, g76, g77, g78, g79, g80, g81, g71, g82, g83, g84, g85, g86, g87, g88, g89, g90, g91, g92, g93, (map_set_c3 hk rfl), ok2⟩
                  exact ⟨congrArg (fun z => some (Value.int z)) (show (-3) = _ from by unfold aFail; rw [if_pos (hasC_nI (by omega) (by omega)), onC_k h8m hkm, map_c3 hk, nN_nI (show ks < 2 ^ 31 by omega)]; show _ = (if _ < _ then _ else failO j (cs.getD k ct0).1 ks _); rw [if_neg (fun z => Int32.not_le.mpr z (nI_ge0 hkn)), nN_nI hkn, hfo, if_neg (fun z => by have z2 : _ < (schU (evCnt false (cs.getD k ct0).1) (evCnt true (cs.getD k ct0).1) ks).length := z.2; omega)]), g94, fr39⟩
                · skip
                  have c_148 : (unL j (cs.getD k ct0).1 ((cs.getD k ct0).2.2.2.2.2.1)).getD kn 0 < (schU (evCnt false (cs.getD k ct0).1) (evCnt true (cs.getD k ct0).1) ks).length := cv_nle (by omega) (by omega) c_148
                  refine e_aload f_100_151 rfl rfl ?_
                  refine e_getf f_100_153 g43.1 rfl rfl ?_
                  refine e_iload_n f_100_156 rfl rfl ?_
                  refine e_iaload_p (xs := unL j (cs.getD k ct0).1 ((cs.getD k ct0).2.2.2.2.2.1)) f_100_157 g43.2.2.2.2.2.2.2 (d := 0) (by first | omega | (simp only [List.length_set]; omega)) rfl ?_
                  show px_to 100 158 [some (.ref (17)), some (.int (nI k)), some (.int (nI ks)), some (.int (nI kn)), some (.ref (S + 9 * k + 6)), some (.int (nI ((schU (evCnt false (cs.getD k ct0).1) (evCnt true (cs.getD k ct0).1) ks).length))), some (.int (nI ((cs.getD k ct0).2.2.2.2.2.1)))] [.int (nI ((unL j (cs.getD k ct0).1 ((cs.getD k ct0).2.2.2.2.2.1)).getD kn 0))] h32 _
                  refine e_goto f_100_158 ?_
                  refine e_iret f_100_163 rfl (rfl) ?_
                  have g95 : pSc h32 := ⟨_, _, _, _, _, g35, g36, g37, rfl, (sc_self hab)⟩
                  have g96 : pCs h32 S (cs.set k ((cs.getD k ct0).1, (cs.getD k ct0).2.1, (cs.getD k ct0).2.2.1, (cs.getD k ct0).2.2.2.1, (cs.getD k ct0).2.2.2.2.1, (cs.getD k ct0).2.2.2.2.2.1, unL j (cs.getD k ct0).1 ((cs.getD k ct0).2.2.2.2.2.1))) := pCs_in g42 (t := ((cs.getD k ct0).1, (cs.getD k ct0).2.1, (cs.getD k ct0).2.2.1, (cs.getD k ct0).2.2.2.1, (cs.getD k ct0).2.2.2.2.1, (cs.getD k ct0).2.2.2.2.2.1, unL j (cs.getD k ct0).1 ((cs.getD k ct0).2.2.2.2.2.1))) g43
                  have g97 : h32.2.2 S = some (8, [.ref (S + 1), .ref (S + 5), .int (nI ((cs.set k ((cs.getD k ct0).1, (cs.getD k ct0).2.1, (cs.getD k ct0).2.2.1, (cs.getD k ct0).2.2.2.1, (cs.getD k ct0).2.2.2.2.1, (cs.getD k ct0).2.2.2.2.2.1, unL j (cs.getD k ct0).1 ((cs.getD k ct0).2.2.2.2.2.1))).length))]) := by rw [List.length_set]; exact g45
                  have okt : okK j ((cs.getD k ct0).1, (cs.getD k ct0).2.1, (cs.getD k ct0).2.2.1, (cs.getD k ct0).2.2.2.1, (cs.getD k ct0).2.2.2.2.1, (cs.getD k ct0).2.2.2.2.2.1, unL j (cs.getD k ct0).1 ((cs.getD k ct0).2.2.2.2.2.1)) := ⟨hct.1, hckl, rfl, hct.2.2.2⟩
                  have ok1 := ok
                  have ok2 := okJT_set ok1 hk okt rfl
                  have hfo := fail_of (j := j) (ev := (cs.getD k ct0).1) (s := ks) (k := kn) (q := (cs.getD k ct0).2.2.2.2.2.1) (by show (schU (evCnt false (cs.getD k ct0).1) (evCnt true (cs.getD k ct0).1) ks).length ≤ _ ∨ _; omega)
                  have g98 : px_pa h32 18 52 500 vN tx := pa_fi g2 fx38 (by omega)
                  have g99 : pJob h32 (S + 1) j := pJob_fi g4 fx38 (by omega)
                  have g100 : pDr h32 D := pDr_fi g7 fx38 (by omega)
                  have g101 : pRA h32 := pRA_fi g8 fx38 (by omega)
                  have g102 : pRun h32 wo xr := pRun_fi g9 fx38 (by omega)
                  have g103 : pJud h32 := pJud_fi g10 fx38 (by omega)
                  have g104 : pOrA h32 254 := pOrA_fi g11 fx38 (by omega)
                  have g105 : pOrA h32 256 := pOrA_fi g12 fx38 (by omega)
                  have g106 : pJA h32 261 := pJA_fi g14 fx38 (by omega)
                  have g107 : pRwA h32 265 := pRwA_fi g15 fx38 (by omega)
                  have g108 : px_pa h32 267 50 30 Value.int kl := pa_fi g16 fx38 (by omega)
                  have g109 : px_pa h32 268 50 30 Value.int cv := pa_fi g17 fx38 (by omega)
                  have g110 : pStr h32 1 ([60, 61, 62]) := pStr_fi g18 fx38 (by omega)
                  have g111 : pStr h32 2 ([43, 45, 42, 47]) := pStr_fi g19 fx38 (by omega)
                  have g112 : pStr h32 3 stepSigns := pStr_fi g20 fx38 (by omega)
                  have g113 : pStr h32 4 ([60, 61, 62]) := pStr_fi g21 fx38 (by omega)
                  have g114 : pStr h32 5 ([43, 45, 42, 47]) := pStr_fi g22 fx38 (by omega)
                  have g115 : pStr h32 6 evSigns := pStr_fi g23 fx38 (by omega)
                  have g116 : pStr h32 7 keyL := pStr_fi g24 fx38 (by omega)
                  have g117 : pStr h32 8 ordL := pStr_fi g25 fx38 (by omega)
                  have g118 : pJT h32 tx j (cs.map c3of) := ⟨(cs.set k ((cs.getD k ct0).1, (cs.getD k ct0).2.1, (cs.getD k ct0).2.2.1, (cs.getD k ct0).2.2.2.1, (cs.getD k ct0).2.2.2.2.1, (cs.getD k ct0).2.2.2.2.2.1, unL j (cs.getD k ct0).1 ((cs.getD k ct0).2.2.2.2.2.1))), S, D, pz, kk, ck, wo, xr, kl, cv, g44, g98, g97, g99, g46, g96, g100, g101, g102, g103, g104, g105, g95, g106, g107, g108, g109, g110, g111, g112, g113, g114, g115, g116, g117, (map_set_c3 hk rfl), ok2⟩
                  exact ⟨congrArg (fun z => some (Value.int z)) (show nI ((unL j (cs.getD k ct0).1 ((cs.getD k ct0).2.2.2.2.2.1)).getD kn 0) = _ from by unfold aFail; rw [if_pos (hasC_nI (by omega) (by omega)), onC_k h8m hkm, map_c3 hk, nN_nI (show ks < 2 ^ 31 by omega)]; show _ = (if _ < _ then _ else failO j (cs.getD k ct0).1 ks _); rw [if_neg (fun z => Int32.not_le.mpr z (nI_ge0 hkn)), nN_nI hkn, hfo, if_pos ⟨by omega, show _ < (schU (evCnt false (cs.getD k ct0).1) (evCnt true (cs.getD k ct0).1) ks).length by omega⟩]), g118, fr39⟩
            · skip
              have c_89 : (cs.getD k ct0).2.2.2.2.2.1 < (schU (evCnt false (cs.getD k ct0).1) (evCnt true (cs.getD k ct0).1) ks).length := cv_nle (by omega) (by omega) c_89
              refine e_aload f_100_92 rfl rfl ?_
              refine e_getf f_100_94 g43.1 rfl rfl ?_
              refine e_iload_n f_100_97 rfl rfl ?_
              refine e_icmp_gt f_100_98 rfl (fun c_98 => ?_) (fun c_98 => ?_)
              · skip
                have c_98 : kn < (unL j (cs.getD k ct0).1 ((cs.getD k ct0).2.2.2.2.2.1)).length := cv_lt (by omega) (by omega) c_98
                refine e_iload_n f_100_130 rfl rfl ?_
                refine e_aload f_100_131 rfl rfl ?_
                refine e_getf f_100_133 g43.1 rfl rfl ?_
                refine e_icmp_ge f_100_136 rfl (fun c_136 => ?_) (fun c_136 => ?_)
                · skip
                  have c_136 : (unL j (cs.getD k ct0).1 ((cs.getD k ct0).2.2.2.2.2.1)).length ≤ kn := cv_le (by omega) (by omega) c_136
                  refine e_bipush (v := (-3)) f_100_161 (by decide) rfl ?_
                  refine e_iret f_100_163 rfl (rfl) ?_
                  have g119 : pSc h32 := ⟨_, _, _, _, _, g35, g36, g37, rfl, (sc_self hab)⟩
                  have g120 : pCs h32 S (cs.set k ((cs.getD k ct0).1, (cs.getD k ct0).2.1, (cs.getD k ct0).2.2.1, (cs.getD k ct0).2.2.2.1, (cs.getD k ct0).2.2.2.2.1, (cs.getD k ct0).2.2.2.2.2.1, unL j (cs.getD k ct0).1 ((cs.getD k ct0).2.2.2.2.2.1))) := pCs_in g42 (t := ((cs.getD k ct0).1, (cs.getD k ct0).2.1, (cs.getD k ct0).2.2.1, (cs.getD k ct0).2.2.2.1, (cs.getD k ct0).2.2.2.2.1, (cs.getD k ct0).2.2.2.2.2.1, unL j (cs.getD k ct0).1 ((cs.getD k ct0).2.2.2.2.2.1))) g43
                  have g121 : h32.2.2 S = some (8, [.ref (S + 1), .ref (S + 5), .int (nI ((cs.set k ((cs.getD k ct0).1, (cs.getD k ct0).2.1, (cs.getD k ct0).2.2.1, (cs.getD k ct0).2.2.2.1, (cs.getD k ct0).2.2.2.2.1, (cs.getD k ct0).2.2.2.2.2.1, unL j (cs.getD k ct0).1 ((cs.getD k ct0).2.2.2.2.2.1))).length))]) := by rw [List.length_set]; exact g45
                  have okt : okK j ((cs.getD k ct0).1, (cs.getD k ct0).2.1, (cs.getD k ct0).2.2.1, (cs.getD k ct0).2.2.2.1, (cs.getD k ct0).2.2.2.2.1, (cs.getD k ct0).2.2.2.2.2.1, unL j (cs.getD k ct0).1 ((cs.getD k ct0).2.2.2.2.2.1)) := ⟨hct.1, hckl, rfl, hct.2.2.2⟩
                  have ok1 := ok
                  have ok2 := okJT_set ok1 hk okt rfl
                  have hfo := fail_of (j := j) (ev := (cs.getD k ct0).1) (s := ks) (k := kn) (q := (cs.getD k ct0).2.2.2.2.2.1) (by show (schU (evCnt false (cs.getD k ct0).1) (evCnt true (cs.getD k ct0).1) ks).length ≤ _ ∨ _; omega)
                  have g122 : px_pa h32 18 52 500 vN tx := pa_fi g2 fx38 (by omega)
                  have g123 : pJob h32 (S + 1) j := pJob_fi g4 fx38 (by omega)
                  have g124 : pDr h32 D := pDr_fi g7 fx38 (by omega)
                  have g125 : pRA h32 := pRA_fi g8 fx38 (by omega)
                  have g126 : pRun h32 wo xr := pRun_fi g9 fx38 (by omega)
                  have g127 : pJud h32 := pJud_fi g10 fx38 (by omega)
                  have g128 : pOrA h32 254 := pOrA_fi g11 fx38 (by omega)
                  have g129 : pOrA h32 256 := pOrA_fi g12 fx38 (by omega)
                  have g130 : pJA h32 261 := pJA_fi g14 fx38 (by omega)
                  have g131 : pRwA h32 265 := pRwA_fi g15 fx38 (by omega)
                  have g132 : px_pa h32 267 50 30 Value.int kl := pa_fi g16 fx38 (by omega)
                  have g133 : px_pa h32 268 50 30 Value.int cv := pa_fi g17 fx38 (by omega)
                  have g134 : pStr h32 1 ([60, 61, 62]) := pStr_fi g18 fx38 (by omega)
                  have g135 : pStr h32 2 ([43, 45, 42, 47]) := pStr_fi g19 fx38 (by omega)
                  have g136 : pStr h32 3 stepSigns := pStr_fi g20 fx38 (by omega)
                  have g137 : pStr h32 4 ([60, 61, 62]) := pStr_fi g21 fx38 (by omega)
                  have g138 : pStr h32 5 ([43, 45, 42, 47]) := pStr_fi g22 fx38 (by omega)
                  have g139 : pStr h32 6 evSigns := pStr_fi g23 fx38 (by omega)
                  have g140 : pStr h32 7 keyL := pStr_fi g24 fx38 (by omega)
                  have g141 : pStr h32 8 ordL := pStr_fi g25 fx38 (by omega)
                  have g142 : pJT h32 tx j (cs.map c3of) := ⟨(cs.set k ((cs.getD k ct0).1, (cs.getD k ct0).2.1, (cs.getD k ct0).2.2.1, (cs.getD k ct0).2.2.2.1, (cs.getD k ct0).2.2.2.2.1, (cs.getD k ct0).2.2.2.2.2.1, unL j (cs.getD k ct0).1 ((cs.getD k ct0).2.2.2.2.2.1))), S, D, pz, kk, ck, wo, xr, kl, cv, g44, g122, g121, g123, g46, g120, g124, g125, g126, g127, g128, g129, g119, g130, g131, g132, g133, g134, g135, g136, g137, g138, g139, g140, g141, (map_set_c3 hk rfl), ok2⟩
                  exact ⟨congrArg (fun z => some (Value.int z)) (show (-3) = _ from by unfold aFail; rw [if_pos (hasC_nI (by omega) (by omega)), onC_k h8m hkm, map_c3 hk, nN_nI (show ks < 2 ^ 31 by omega)]; show _ = (if _ < _ then _ else failO j (cs.getD k ct0).1 ks _); rw [if_neg (fun z => Int32.not_le.mpr z (nI_ge0 hkn)), nN_nI hkn, hfo, if_neg (fun z => by omega)]), g142, fr39⟩
                · skip
                  have c_136 : kn < (unL j (cs.getD k ct0).1 ((cs.getD k ct0).2.2.2.2.2.1)).length := cv_nle (by omega) (by omega) c_136
                  refine e_aload f_100_139 rfl rfl ?_
                  refine e_getf f_100_141 g43.1 rfl rfl ?_
                  refine e_iload_n f_100_144 rfl rfl ?_
                  refine e_iaload_p (xs := unL j (cs.getD k ct0).1 ((cs.getD k ct0).2.2.2.2.2.1)) f_100_145 g43.2.2.2.2.2.2.2 (d := 0) (by first | omega | (simp only [List.length_set]; omega)) rfl ?_
                  show px_to 100 146 [some (.ref (17)), some (.int (nI k)), some (.int (nI ks)), some (.int (nI kn)), some (.ref (S + 9 * k + 6)), some (.int (nI ((schU (evCnt false (cs.getD k ct0).1) (evCnt true (cs.getD k ct0).1) ks).length))), some (.int (nI ((cs.getD k ct0).2.2.2.2.2.1)))] [.int (nI ((unL j (cs.getD k ct0).1 ((cs.getD k ct0).2.2.2.2.2.1)).getD kn 0))] h32 _
                  have hul2 := unL_lt (j := j) (ev := (cs.getD k ct0).1) (q := (cs.getD k ct0).2.2.2.2.2.1) (i := kn) (by omega)
                  refine e_iload f_100_146 rfl rfl ?_
                  refine e_icmp_ge f_100_148 rfl (fun c_148 => ?_) (fun c_148 => ?_)
                  · skip
                    have c_148 : (schU (evCnt false (cs.getD k ct0).1) (evCnt true (cs.getD k ct0).1) ks).length ≤ (unL j (cs.getD k ct0).1 ((cs.getD k ct0).2.2.2.2.2.1)).getD kn 0 := cv_le (by omega) (by omega) c_148
                    refine e_bipush (v := (-3)) f_100_161 (by decide) rfl ?_
                    refine e_iret f_100_163 rfl (rfl) ?_
                    have g143 : pSc h32 := ⟨_, _, _, _, _, g35, g36, g37, rfl, (sc_self hab)⟩
                    have g144 : pCs h32 S (cs.set k ((cs.getD k ct0).1, (cs.getD k ct0).2.1, (cs.getD k ct0).2.2.1, (cs.getD k ct0).2.2.2.1, (cs.getD k ct0).2.2.2.2.1, (cs.getD k ct0).2.2.2.2.2.1, unL j (cs.getD k ct0).1 ((cs.getD k ct0).2.2.2.2.2.1))) := pCs_in g42 (t := ((cs.getD k ct0).1, (cs.getD k ct0).2.1, (cs.getD k ct0).2.2.1, (cs.getD k ct0).2.2.2.1, (cs.getD k ct0).2.2.2.2.1, (cs.getD k ct0).2.2.2.2.2.1, unL j (cs.getD k ct0).1 ((cs.getD k ct0).2.2.2.2.2.1))) g43
                    have g145 : h32.2.2 S = some (8, [.ref (S + 1), .ref (S + 5), .int (nI ((cs.set k ((cs.getD k ct0).1, (cs.getD k ct0).2.1, (cs.getD k ct0).2.2.1, (cs.getD k ct0).2.2.2.1, (cs.getD k ct0).2.2.2.2.1, (cs.getD k ct0).2.2.2.2.2.1, unL j (cs.getD k ct0).1 ((cs.getD k ct0).2.2.2.2.2.1))).length))]) := by rw [List.length_set]; exact g45
                    have okt : okK j ((cs.getD k ct0).1, (cs.getD k ct0).2.1, (cs.getD k ct0).2.2.1, (cs.getD k ct0).2.2.2.1, (cs.getD k ct0).2.2.2.2.1, (cs.getD k ct0).2.2.2.2.2.1, unL j (cs.getD k ct0).1 ((cs.getD k ct0).2.2.2.2.2.1)) := ⟨hct.1, hckl, rfl, hct.2.2.2⟩
                    have ok1 := ok
                    have ok2 := okJT_set ok1 hk okt rfl
                    have hfo := fail_of (j := j) (ev := (cs.getD k ct0).1) (s := ks) (k := kn) (q := (cs.getD k ct0).2.2.2.2.2.1) (by show (schU (evCnt false (cs.getD k ct0).1) (evCnt true (cs.getD k ct0).1) ks).length ≤ _ ∨ _; omega)
                    have g146 : px_pa h32 18 52 500 vN tx := pa_fi g2 fx38 (by omega)
                    have g147 : pJob h32 (S + 1) j := pJob_fi g4 fx38 (by omega)
                    have g148 : pDr h32 D := pDr_fi g7 fx38 (by omega)
                    have g149 : pRA h32 := pRA_fi g8 fx38 (by omega)
                    have g150 : pRun h32 wo xr := pRun_fi g9 fx38 (by omega)
                    have g151 : pJud h32 := pJud_fi g10 fx38 (by omega)
                    have g152 : pOrA h32 254 := pOrA_fi g11 fx38 (by omega)
                    have g153 : pOrA h32 256 := pOrA_fi g12 fx38 (by omega)
                    have g154 : pJA h32 261 := pJA_fi g14 fx38 (by omega)
                    have g155 : pRwA h32 265 := pRwA_fi g15 fx38 (by omega)
                    have g156 : px_pa h32 267 50 30 Value.int kl := pa_fi g16 fx38 (by omega)
                    have g157 : px_pa h32 268 50 30 Value.int cv := pa_fi g17 fx38 (by omega)
                    have g158 : pStr h32 1 ([60, 61, 62]) := pStr_fi g18 fx38 (by omega)
                    have g159 : pStr h32 2 ([43, 45, 42, 47]) := pStr_fi g19 fx38 (by omega)
                    have g160 : pStr h32 3 stepSigns := pStr_fi g20 fx38 (by omega)
                    have g161 : pStr h32 4 ([60, 61, 62]) := pStr_fi g21 fx38 (by omega)
                    have g162 : pStr h32 5 ([43, 45, 42, 47]) := pStr_fi g22 fx38 (by omega)
                    have g163 : pStr h32 6 evSigns := pStr_fi g23 fx38 (by omega)
                    have g164 : pStr h32 7 keyL := pStr_fi g24 fx38 (by omega)
                    have g165 : pStr h32 8 ordL := pStr_fi g25 fx38 (by omega)
                    have g166 : pJT h32 tx j (cs.map c3of) := ⟨(cs.set k ((cs.getD k ct0).1, (cs.getD k ct0).2.1, (cs.getD k ct0).2.2.1, (cs.getD k ct0).2.2.2.1, (cs.getD k ct0).2.2.2.2.1, (cs.getD k ct0).2.2.2.2.2.1, unL j (cs.getD k ct0).1 ((cs.getD k ct0).2.2.2.2.2.1))), S, D, pz, kk, ck, wo, xr, kl, cv, g44, g146, g145, g147, g46, g144, g148, g149, g150, g151, g152, g153, g143, g154, g155, g156, g157, g158, g159, g160, g161, g162, g163, g164, g165, (map_set_c3 hk rfl), ok2⟩
                    exact ⟨congrArg (fun z => some (Value.int z)) (show (-3) = _ from by unfold aFail; rw [if_pos (hasC_nI (by omega) (by omega)), onC_k h8m hkm, map_c3 hk, nN_nI (show ks < 2 ^ 31 by omega)]; show _ = (if _ < _ then _ else failO j (cs.getD k ct0).1 ks _); rw [if_neg (fun z => Int32.not_le.mpr z (nI_ge0 hkn)), nN_nI hkn, hfo, if_neg (fun z => by have z2 : _ < (schU (evCnt false (cs.getD k ct0).1) (evCnt true (cs.getD k ct0).1) ks).length := z.2; omega)]), g166, fr39⟩
                  · skip
                    have c_148 : (unL j (cs.getD k ct0).1 ((cs.getD k ct0).2.2.2.2.2.1)).getD kn 0 < (schU (evCnt false (cs.getD k ct0).1) (evCnt true (cs.getD k ct0).1) ks).length := cv_nle (by omega) (by omega) c_148
                    refine e_aload f_100_151 rfl rfl ?_
                    refine e_getf f_100_153 g43.1 rfl rfl ?_
                    refine e_iload_n f_100_156 rfl rfl ?_
                    refine e_iaload_p (xs := unL j (cs.getD k ct0).1 ((cs.getD k ct0).2.2.2.2.2.1)) f_100_157 g43.2.2.2.2.2.2.2 (d := 0) (by first | omega | (simp only [List.length_set]; omega)) rfl ?_
                    show px_to 100 158 [some (.ref (17)), some (.int (nI k)), some (.int (nI ks)), some (.int (nI kn)), some (.ref (S + 9 * k + 6)), some (.int (nI ((schU (evCnt false (cs.getD k ct0).1) (evCnt true (cs.getD k ct0).1) ks).length))), some (.int (nI ((cs.getD k ct0).2.2.2.2.2.1)))] [.int (nI ((unL j (cs.getD k ct0).1 ((cs.getD k ct0).2.2.2.2.2.1)).getD kn 0))] h32 _
                    refine e_goto f_100_158 ?_
                    refine e_iret f_100_163 rfl (rfl) ?_
                    have g167 : pSc h32 := ⟨_, _, _, _, _, g35, g36, g37, rfl, (sc_self hab)⟩
                    have g168 : pCs h32 S (cs.set k ((cs.getD k ct0).1, (cs.getD k ct0).2.1, (cs.getD k ct0).2.2.1, (cs.getD k ct0).2.2.2.1, (cs.getD k ct0).2.2.2.2.1, (cs.getD k ct0).2.2.2.2.2.1, unL j (cs.getD k ct0).1 ((cs.getD k ct0).2.2.2.2.2.1))) := pCs_in g42 (t := ((cs.getD k ct0).1, (cs.getD k ct0).2.1, (cs.getD k ct0).2.2.1, (cs.getD k ct0).2.2.2.1, (cs.getD k ct0).2.2.2.2.1, (cs.getD k ct0).2.2.2.2.2.1, unL j (cs.getD k ct0).1 ((cs.getD k ct0).2.2.2.2.2.1))) g43
                    have g169 : h32.2.2 S = some (8, [.ref (S + 1), .ref (S + 5), .int (nI ((cs.set k ((cs.getD k ct0).1, (cs.getD k ct0).2.1, (cs.getD k ct0).2.2.1, (cs.getD k ct0).2.2.2.1, (cs.getD k ct0).2.2.2.2.1, (cs.getD k ct0).2.2.2.2.2.1, unL j (cs.getD k ct0).1 ((cs.getD k ct0).2.2.2.2.2.1))).length))]) := by rw [List.length_set]; exact g45
                    have okt : okK j ((cs.getD k ct0).1, (cs.getD k ct0).2.1, (cs.getD k ct0).2.2.1, (cs.getD k ct0).2.2.2.1, (cs.getD k ct0).2.2.2.2.1, (cs.getD k ct0).2.2.2.2.2.1, unL j (cs.getD k ct0).1 ((cs.getD k ct0).2.2.2.2.2.1)) := ⟨hct.1, hckl, rfl, hct.2.2.2⟩
                    have ok1 := ok
                    have ok2 := okJT_set ok1 hk okt rfl
                    have hfo := fail_of (j := j) (ev := (cs.getD k ct0).1) (s := ks) (k := kn) (q := (cs.getD k ct0).2.2.2.2.2.1) (by show (schU (evCnt false (cs.getD k ct0).1) (evCnt true (cs.getD k ct0).1) ks).length ≤ _ ∨ _; omega)
                    have g170 : px_pa h32 18 52 500 vN tx := pa_fi g2 fx38 (by omega)
                    have g171 : pJob h32 (S + 1) j := pJob_fi g4 fx38 (by omega)
                    have g172 : pDr h32 D := pDr_fi g7 fx38 (by omega)
                    have g173 : pRA h32 := pRA_fi g8 fx38 (by omega)
                    have g174 : pRun h32 wo xr := pRun_fi g9 fx38 (by omega)
                    have g175 : pJud h32 := pJud_fi g10 fx38 (by omega)
                    have g176 : pOrA h32 254 := pOrA_fi g11 fx38 (by omega)
                    have g177 : pOrA h32 256 := pOrA_fi g12 fx38 (by omega)
                    have g178 : pJA h32 261 := pJA_fi g14 fx38 (by omega)
                    have g179 : pRwA h32 265 := pRwA_fi g15 fx38 (by omega)
                    have g180 : px_pa h32 267 50 30 Value.int kl := pa_fi g16 fx38 (by omega)
                    have g181 : px_pa h32 268 50 30 Value.int cv := pa_fi g17 fx38 (by omega)
                    have g182 : pStr h32 1 ([60, 61, 62]) := pStr_fi g18 fx38 (by omega)
                    have g183 : pStr h32 2 ([43, 45, 42, 47]) := pStr_fi g19 fx38 (by omega)
                    have g184 : pStr h32 3 stepSigns := pStr_fi g20 fx38 (by omega)
                    have g185 : pStr h32 4 ([60, 61, 62]) := pStr_fi g21 fx38 (by omega)
                    have g186 : pStr h32 5 ([43, 45, 42, 47]) := pStr_fi g22 fx38 (by omega)
                    have g187 : pStr h32 6 evSigns := pStr_fi g23 fx38 (by omega)
                    have g188 : pStr h32 7 keyL := pStr_fi g24 fx38 (by omega)
                    have g189 : pStr h32 8 ordL := pStr_fi g25 fx38 (by omega)
                    have g190 : pJT h32 tx j (cs.map c3of) := ⟨(cs.set k ((cs.getD k ct0).1, (cs.getD k ct0).2.1, (cs.getD k ct0).2.2.1, (cs.getD k ct0).2.2.2.1, (cs.getD k ct0).2.2.2.2.1, (cs.getD k ct0).2.2.2.2.2.1, unL j (cs.getD k ct0).1 ((cs.getD k ct0).2.2.2.2.2.1))), S, D, pz, kk, ck, wo, xr, kl, cv, g44, g170, g169, g171, g46, g168, g172, g173, g174, g175, g176, g177, g167, g178, g179, g180, g181, g182, g183, g184, g185, g186, g187, g188, g189, (map_set_c3 hk rfl), ok2⟩
                    exact ⟨congrArg (fun z => some (Value.int z)) (show nI ((unL j (cs.getD k ct0).1 ((cs.getD k ct0).2.2.2.2.2.1)).getD kn 0) = _ from by unfold aFail; rw [if_pos (hasC_nI (by omega) (by omega)), onC_k h8m hkm, map_c3 hk, nN_nI (show ks < 2 ^ 31 by omega)]; show _ = (if _ < _ then _ else failO j (cs.getD k ct0).1 ks _); rw [if_neg (fun z => Int32.not_le.mpr z (nI_ge0 hkn)), nN_nI hkn, hfo, if_pos ⟨by omega, show _ < (schU (evCnt false (cs.getD k ct0).1) (evCnt true (cs.getD k ct0).1) ks).length by omega⟩]), g190, fr39⟩
              · skip
                have c_98 : (unL j (cs.getD k ct0).1 ((cs.getD k ct0).2.2.2.2.2.1)).length ≤ kn := cv_nlt (by omega) (by omega) c_98
                exfalso; omega
          · skip
            have c_59 : (unL j (cs.getD k ct0).1 ((cs.getD k ct0).2.2.2.2.2.1)).length ≤ kn := cv_nlt (by omega) (by omega) c_59
            refine e_aload f_100_62 rfl rfl ?_
            refine e_getf f_100_64 g43.1 rfl rfl ?_
            refine e_iload f_100_67 rfl rfl ?_
            refine e_icmp_ge f_100_69 rfl (fun c_69 => ?_) (fun c_69 => ?_)
            · skip
              have c_69 : (schU (evCnt false (cs.getD k ct0).1) (evCnt true (cs.getD k ct0).1) ks).length ≤ (cs.getD k ct0).2.2.2.2.2.1 := cv_le (by omega) (by omega) c_69
              refine e_aload f_100_78 rfl rfl ?_
              refine e_getf f_100_80 g43.1 rfl rfl ?_
              refine e_istore (L' := [some (.ref (17)), some (.int (nI k)), some (.int (nI ks)), some (.int (nI kn)), some (.ref (S + 9 * k + 6)), some (.int (nI ((schU (evCnt false (cs.getD k ct0).1) (evCnt true (cs.getD k ct0).1) ks).length))), some (.int (nI ((cs.getD k ct0).2.2.2.2.2.1)))]) f_100_83 (Nat.le_of_ble_eq_true rfl) rfl rfl ?_
              refine e_iload f_100_85 rfl rfl ?_
              refine e_iload f_100_87 rfl rfl ?_
              refine e_icmp_ge f_100_89 rfl (fun c_89 => ?_) (fun c_89 => ?_)
              · skip
                have c_89 : (schU (evCnt false (cs.getD k ct0).1) (evCnt true (cs.getD k ct0).1) ks).length ≤ (cs.getD k ct0).2.2.2.2.2.1 := cv_le (by omega) (by omega) c_89
                refine e_iload_n f_100_130 rfl rfl ?_
                refine e_aload f_100_131 rfl rfl ?_
                refine e_getf f_100_133 g43.1 rfl rfl ?_
                refine e_icmp_ge f_100_136 rfl (fun c_136 => ?_) (fun c_136 => ?_)
                · skip
                  have c_136 : (unL j (cs.getD k ct0).1 ((cs.getD k ct0).2.2.2.2.2.1)).length ≤ kn := cv_le (by omega) (by omega) c_136
                  refine e_bipush (v := (-3)) f_100_161 (by decide) rfl ?_
                  refine e_iret f_100_163 rfl (rfl) ?_
                  have g191 : pSc h32 := ⟨_, _, _, _, _, g35, g36, g37, rfl, (sc_self hab)⟩
                  have g192 : pCs h32 S (cs.set k ((cs.getD k ct0).1, (cs.getD k ct0).2.1, (cs.getD k ct0).2.2.1, (cs.getD k ct0).2.2.2.1, (cs.getD k ct0).2.2.2.2.1, (cs.getD k ct0).2.2.2.2.2.1, unL j (cs.getD k ct0).1 ((cs.getD k ct0).2.2.2.2.2.1))) := pCs_in g42 (t := ((cs.getD k ct0).1, (cs.getD k ct0).2.1, (cs.getD k ct0).2.2.1, (cs.getD k ct0).2.2.2.1, (cs.getD k ct0).2.2.2.2.1, (cs.getD k ct0).2.2.2.2.2.1, unL j (cs.getD k ct0).1 ((cs.getD k ct0).2.2.2.2.2.1))) g43
                  have g193 : h32.2.2 S = some (8, [.ref (S + 1), .ref (S + 5), .int (nI ((cs.set k ((cs.getD k ct0).1, (cs.getD k ct0).2.1, (cs.getD k ct0).2.2.1, (cs.getD k ct0).2.2.2.1, (cs.getD k ct0).2.2.2.2.1, (cs.getD k ct0).2.2.2.2.2.1, unL j (cs.getD k ct0).1 ((cs.getD k ct0).2.2.2.2.2.1))).length))]) := by rw [List.length_set]; exact g45
                  have okt : okK j ((cs.getD k ct0).1, (cs.getD k ct0).2.1, (cs.getD k ct0).2.2.1, (cs.getD k ct0).2.2.2.1, (cs.getD k ct0).2.2.2.2.1, (cs.getD k ct0).2.2.2.2.2.1, unL j (cs.getD k ct0).1 ((cs.getD k ct0).2.2.2.2.2.1)) := ⟨hct.1, hckl, rfl, hct.2.2.2⟩
                  have ok1 := ok
                  have ok2 := okJT_set ok1 hk okt rfl
                  have hfo := fail_of (j := j) (ev := (cs.getD k ct0).1) (s := ks) (k := kn) (q := (cs.getD k ct0).2.2.2.2.2.1) (by show (schU (evCnt false (cs.getD k ct0).1) (evCnt true (cs.getD k ct0).1) ks).length ≤ _ ∨ _; omega)
                  have g194 : px_pa h32 18 52 500 vN tx := pa_fi g2 fx38 (by omega)
                  have g195 : pJob h32 (S + 1) j := pJob_fi g4 fx38 (by omega)
                  have g196 : pDr h32 D := pDr_fi g7 fx38 (by omega)
                  have g197 : pRA h32 := pRA_fi g8 fx38 (by omega)
                  have g198 : pRun h32 wo xr := pRun_fi g9 fx38 (by omega)
                  have g199 : pJud h32 := pJud_fi g10 fx38 (by omega)
                  have g200 : pOrA h32 254 := pOrA_fi g11 fx38 (by omega)
                  have g201 : pOrA h32 256 := pOrA_fi g12 fx38 (by omega)
                  have g202 : pJA h32 261 := pJA_fi g14 fx38 (by omega)
                  have g203 : pRwA h32 265 := pRwA_fi g15 fx38 (by omega)
                  have g204 : px_pa h32 267 50 30 Value.int kl := pa_fi g16 fx38 (by omega)
                  have g205 : px_pa h32 268 50 30 Value.int cv := pa_fi g17 fx38 (by omega)
                  have g206 : pStr h32 1 ([60, 61, 62]) := pStr_fi g18 fx38 (by omega)
                  have g207 : pStr h32 2 ([43, 45, 42, 47]) := pStr_fi g19 fx38 (by omega)
                  have g208 : pStr h32 3 stepSigns := pStr_fi g20 fx38 (by omega)
                  have g209 : pStr h32 4 ([60, 61, 62]) := pStr_fi g21 fx38 (by omega)
                  have g210 : pStr h32 5 ([43, 45, 42, 47]) := pStr_fi g22 fx38 (by omega)
                  have g211 : pStr h32 6 evSigns := pStr_fi g23 fx38 (by omega)
                  have g212 : pStr h32 7 keyL := pStr_fi g24 fx38 (by omega)
                  have g213 : pStr h32 8 ordL := pStr_fi g25 fx38 (by omega)
                  have g214 : pJT h32 tx j (cs.map c3of) := ⟨(cs.set k ((cs.getD k ct0).1, (cs.getD k ct0).2.1, (cs.getD k ct0).2.2.1, (cs.getD k ct0).2.2.2.1, (cs.getD k ct0).2.2.2.2.1, (cs.getD k ct0).2.2.2.2.2.1, unL j (cs.getD k ct0).1 ((cs.getD k ct0).2.2.2.2.2.1))), S, D, pz, kk, ck, wo, xr, kl, cv, g44, g194, g193, g195, g46, g192, g196, g197, g198, g199, g200, g201, g191, g202, g203, g204, g205, g206, g207, g208, g209, g210, g211, g212, g213, (map_set_c3 hk rfl), ok2⟩
                  exact ⟨congrArg (fun z => some (Value.int z)) (show (-3) = _ from by unfold aFail; rw [if_pos (hasC_nI (by omega) (by omega)), onC_k h8m hkm, map_c3 hk, nN_nI (show ks < 2 ^ 31 by omega)]; show _ = (if _ < _ then _ else failO j (cs.getD k ct0).1 ks _); rw [if_neg (fun z => Int32.not_le.mpr z (nI_ge0 hkn)), nN_nI hkn, hfo, if_neg (fun z => by omega)]), g214, fr39⟩
                · skip
                  have c_136 : kn < (unL j (cs.getD k ct0).1 ((cs.getD k ct0).2.2.2.2.2.1)).length := cv_nle (by omega) (by omega) c_136
                  refine e_aload f_100_139 rfl rfl ?_
                  refine e_getf f_100_141 g43.1 rfl rfl ?_
                  refine e_iload_n f_100_144 rfl rfl ?_
                  refine e_iaload_p (xs := unL j (cs.getD k ct0).1 ((cs.getD k ct0).2.2.2.2.2.1)) f_100_145 g43.2.2.2.2.2.2.2 (d := 0) (by first | omega | (simp only [List.length_set]; omega)) rfl ?_
                  show px_to 100 146 [some (.ref (17)), some (.int (nI k)), some (.int (nI ks)), some (.int (nI kn)), some (.ref (S + 9 * k + 6)), some (.int (nI ((schU (evCnt false (cs.getD k ct0).1) (evCnt true (cs.getD k ct0).1) ks).length))), some (.int (nI ((cs.getD k ct0).2.2.2.2.2.1)))] [.int (nI ((unL j (cs.getD k ct0).1 ((cs.getD k ct0).2.2.2.2.2.1)).getD kn 0))] h32 _
                  have hul2 := unL_lt (j := j) (ev := (cs.getD k ct0).1) (q := (cs.getD k ct0).2.2.2.2.2.1) (i := kn) (by omega)
                  refine e_iload f_100_146 rfl rfl ?_
                  refine e_icmp_ge f_100_148 rfl (fun c_148 => ?_) (fun c_148 => ?_)
                  · skip
                    have c_148 : (schU (evCnt false (cs.getD k ct0).1) (evCnt true (cs.getD k ct0).1) ks).length ≤ (unL j (cs.getD k ct0).1 ((cs.getD k ct0).2.2.2.2.2.1)).getD kn 0 := cv_le (by omega) (by omega) c_148
                    refine e_bipush (v := (-3)) f_100_161 (by decide) rfl ?_
                    refine e_iret f_100_163 rfl (rfl) ?_
                    have g215 : pSc h32 := ⟨_, _, _, _, _, g35, g36, g37, rfl, (sc_self hab)⟩
                    have g216 : pCs h32 S (cs.set k ((cs.getD k ct0).1, (cs.getD k ct0).2.1, (cs.getD k ct0).2.2.1, (cs.getD k ct0).2.2.2.1, (cs.getD k ct0).2.2.2.2.1, (cs.getD k ct0).2.2.2.2.2.1, unL j (cs.getD k ct0).1 ((cs.getD k ct0).2.2.2.2.2.1))) := pCs_in g42 (t := ((cs.getD k ct0).1, (cs.getD k ct0).2.1, (cs.getD k ct0).2.2.1, (cs.getD k ct0).2.2.2.1, (cs.getD k ct0).2.2.2.2.1, (cs.getD k ct0).2.2.2.2.2.1, unL j (cs.getD k ct0).1 ((cs.getD k ct0).2.2.2.2.2.1))) g43
                    have g217 : h32.2.2 S = some (8, [.ref (S + 1), .ref (S + 5), .int (nI ((cs.set k ((cs.getD k ct0).1, (cs.getD k ct0).2.1, (cs.getD k ct0).2.2.1, (cs.getD k ct0).2.2.2.1, (cs.getD k ct0).2.2.2.2.1, (cs.getD k ct0).2.2.2.2.2.1, unL j (cs.getD k ct0).1 ((cs.getD k ct0).2.2.2.2.2.1))).length))]) := by rw [List.length_set]; exact g45
                    have okt : okK j ((cs.getD k ct0).1, (cs.getD k ct0).2.1, (cs.getD k ct0).2.2.1, (cs.getD k ct0).2.2.2.1, (cs.getD k ct0).2.2.2.2.1, (cs.getD k ct0).2.2.2.2.2.1, unL j (cs.getD k ct0).1 ((cs.getD k ct0).2.2.2.2.2.1)) := ⟨hct.1, hckl, rfl, hct.2.2.2⟩
                    have ok1 := ok
                    have ok2 := okJT_set ok1 hk okt rfl
                    have hfo := fail_of (j := j) (ev := (cs.getD k ct0).1) (s := ks) (k := kn) (q := (cs.getD k ct0).2.2.2.2.2.1) (by show (schU (evCnt false (cs.getD k ct0).1) (evCnt true (cs.getD k ct0).1) ks).length ≤ _ ∨ _; omega)
                    have g218 : px_pa h32 18 52 500 vN tx := pa_fi g2 fx38 (by omega)
                    have g219 : pJob h32 (S + 1) j := pJob_fi g4 fx38 (by omega)
                    have g220 : pDr h32 D := pDr_fi g7 fx38 (by omega)
                    have g221 : pRA h32 := pRA_fi g8 fx38 (by omega)
                    have g222 : pRun h32 wo xr := pRun_fi g9 fx38 (by omega)
                    have g223 : pJud h32 := pJud_fi g10 fx38 (by omega)
                    have g224 : pOrA h32 254 := pOrA_fi g11 fx38 (by omega)
                    have g225 : pOrA h32 256 := pOrA_fi g12 fx38 (by omega)
                    have g226 : pJA h32 261 := pJA_fi g14 fx38 (by omega)
                    have g227 : pRwA h32 265 := pRwA_fi g15 fx38 (by omega)
                    have g228 : px_pa h32 267 50 30 Value.int kl := pa_fi g16 fx38 (by omega)
                    have g229 : px_pa h32 268 50 30 Value.int cv := pa_fi g17 fx38 (by omega)
                    have g230 : pStr h32 1 ([60, 61, 62]) := pStr_fi g18 fx38 (by omega)
                    have g231 : pStr h32 2 ([43, 45, 42, 47]) := pStr_fi g19 fx38 (by omega)
                    have g232 : pStr h32 3 stepSigns := pStr_fi g20 fx38 (by omega)
                    have g233 : pStr h32 4 ([60, 61, 62]) := pStr_fi g21 fx38 (by omega)
                    have g234 : pStr h32 5 ([43, 45, 42, 47]) := pStr_fi g22 fx38 (by omega)
                    have g235 : pStr h32 6 evSigns := pStr_fi g23 fx38 (by omega)
                    have g236 : pStr h32 7 keyL := pStr_fi g24 fx38 (by omega)
                    have g237 : pStr h32 8 ordL := pStr_fi g25 fx38 (by omega)
                    have g238 : pJT h32 tx j (cs.map c3of) := ⟨(cs.set k ((cs.getD k ct0).1, (cs.getD k ct0).2.1, (cs.getD k ct0).2.2.1, (cs.getD k ct0).2.2.2.1, (cs.getD k ct0).2.2.2.2.1, (cs.getD k ct0).2.2.2.2.2.1, unL j (cs.getD k ct0).1 ((cs.getD k ct0).2.2.2.2.2.1))), S, D, pz, kk, ck, wo, xr, kl, cv, g44, g218, g217, g219, g46, g216, g220, g221, g222, g223, g224, g225, g215, g226, g227, g228, g229, g230, g231, g232, g233, g234, g235, g236, g237, (map_set_c3 hk rfl), ok2⟩
                    exact ⟨congrArg (fun z => some (Value.int z)) (show (-3) = _ from by unfold aFail; rw [if_pos (hasC_nI (by omega) (by omega)), onC_k h8m hkm, map_c3 hk, nN_nI (show ks < 2 ^ 31 by omega)]; show _ = (if _ < _ then _ else failO j (cs.getD k ct0).1 ks _); rw [if_neg (fun z => Int32.not_le.mpr z (nI_ge0 hkn)), nN_nI hkn, hfo, if_neg (fun z => by have z2 : _ < (schU (evCnt false (cs.getD k ct0).1) (evCnt true (cs.getD k ct0).1) ks).length := z.2; omega)]), g238, fr39⟩
                  · skip
                    have c_148 : (unL j (cs.getD k ct0).1 ((cs.getD k ct0).2.2.2.2.2.1)).getD kn 0 < (schU (evCnt false (cs.getD k ct0).1) (evCnt true (cs.getD k ct0).1) ks).length := cv_nle (by omega) (by omega) c_148
                    refine e_aload f_100_151 rfl rfl ?_
                    refine e_getf f_100_153 g43.1 rfl rfl ?_
                    refine e_iload_n f_100_156 rfl rfl ?_
                    refine e_iaload_p (xs := unL j (cs.getD k ct0).1 ((cs.getD k ct0).2.2.2.2.2.1)) f_100_157 g43.2.2.2.2.2.2.2 (d := 0) (by first | omega | (simp only [List.length_set]; omega)) rfl ?_
                    show px_to 100 158 [some (.ref (17)), some (.int (nI k)), some (.int (nI ks)), some (.int (nI kn)), some (.ref (S + 9 * k + 6)), some (.int (nI ((schU (evCnt false (cs.getD k ct0).1) (evCnt true (cs.getD k ct0).1) ks).length))), some (.int (nI ((cs.getD k ct0).2.2.2.2.2.1)))] [.int (nI ((unL j (cs.getD k ct0).1 ((cs.getD k ct0).2.2.2.2.2.1)).getD kn 0))] h32 _
                    refine e_goto f_100_158 ?_
                    refine e_iret f_100_163 rfl (rfl) ?_
                    have g239 : pSc h32 := ⟨_, _, _, _, _, g35, g36, g37, rfl, (sc_self hab)⟩
                    have g240 : pCs h32 S (cs.set k ((cs.getD k ct0).1, (cs.getD k ct0).2.1, (cs.getD k ct0).2.2.1, (cs.getD k ct0).2.2.2.1, (cs.getD k ct0).2.2.2.2.1, (cs.getD k ct0).2.2.2.2.2.1, unL j (cs.getD k ct0).1 ((cs.getD k ct0).2.2.2.2.2.1))) := pCs_in g42 (t := ((cs.getD k ct0).1, (cs.getD k ct0).2.1, (cs.getD k ct0).2.2.1, (cs.getD k ct0).2.2.2.1, (cs.getD k ct0).2.2.2.2.1, (cs.getD k ct0).2.2.2.2.2.1, unL j (cs.getD k ct0).1 ((cs.getD k ct0).2.2.2.2.2.1))) g43
                    have g241 : h32.2.2 S = some (8, [.ref (S + 1), .ref (S + 5), .int (nI ((cs.set k ((cs.getD k ct0).1, (cs.getD k ct0).2.1, (cs.getD k ct0).2.2.1, (cs.getD k ct0).2.2.2.1, (cs.getD k ct0).2.2.2.2.1, (cs.getD k ct0).2.2.2.2.2.1, unL j (cs.getD k ct0).1 ((cs.getD k ct0).2.2.2.2.2.1))).length))]) := by rw [List.length_set]; exact g45
                    have okt : okK j ((cs.getD k ct0).1, (cs.getD k ct0).2.1, (cs.getD k ct0).2.2.1, (cs.getD k ct0).2.2.2.1, (cs.getD k ct0).2.2.2.2.1, (cs.getD k ct0).2.2.2.2.2.1, unL j (cs.getD k ct0).1 ((cs.getD k ct0).2.2.2.2.2.1)) := ⟨hct.1, hckl, rfl, hct.2.2.2⟩
                    have ok1 := ok
                    have ok2 := okJT_set ok1 hk okt rfl
                    have hfo := fail_of (j := j) (ev := (cs.getD k ct0).1) (s := ks) (k := kn) (q := (cs.getD k ct0).2.2.2.2.2.1) (by show (schU (evCnt false (cs.getD k ct0).1) (evCnt true (cs.getD k ct0).1) ks).length ≤ _ ∨ _; omega)
                    have g242 : px_pa h32 18 52 500 vN tx := pa_fi g2 fx38 (by omega)
                    have g243 : pJob h32 (S + 1) j := pJob_fi g4 fx38 (by omega)
                    have g244 : pDr h32 D := pDr_fi g7 fx38 (by omega)
                    have g245 : pRA h32 := pRA_fi g8 fx38 (by omega)
                    have g246 : pRun h32 wo xr := pRun_fi g9 fx38 (by omega)
                    have g247 : pJud h32 := pJud_fi g10 fx38 (by omega)
                    have g248 : pOrA h32 254 := pOrA_fi g11 fx38 (by omega)
                    have g249 : pOrA h32 256 := pOrA_fi g12 fx38 (by omega)
                    have g250 : pJA h32 261 := pJA_fi g14 fx38 (by omega)
                    have g251 : pRwA h32 265 := pRwA_fi g15 fx38 (by omega)
                    have g252 : px_pa h32 267 50 30 Value.int kl := pa_fi g16 fx38 (by omega)
                    have g253 : px_pa h32 268 50 30 Value.int cv := pa_fi g17 fx38 (by omega)
                    have g254 : pStr h32 1 ([60, 61, 62]) := pStr_fi g18 fx38 (by omega)
                    have g255 : pStr h32 2 ([43, 45, 42, 47]) := pStr_fi g19 fx38 (by omega)
                    have g256 : pStr h32 3 stepSigns := pStr_fi g20 fx38 (by omega)
                    have g257 : pStr h32 4 ([60, 61, 62]) := pStr_fi g21 fx38 (by omega)
                    have g258 : pStr h32 5 ([43, 45, 42, 47]) := pStr_fi g22 fx38 (by omega)
                    have g259 : pStr h32 6 evSigns := pStr_fi g23 fx38 (by omega)
                    have g260 : pStr h32 7 keyL := pStr_fi g24 fx38 (by omega)
                    have g261 : pStr h32 8 ordL := pStr_fi g25 fx38 (by omega)
                    have g262 : pJT h32 tx j (cs.map c3of) := ⟨(cs.set k ((cs.getD k ct0).1, (cs.getD k ct0).2.1, (cs.getD k ct0).2.2.1, (cs.getD k ct0).2.2.2.1, (cs.getD k ct0).2.2.2.2.1, (cs.getD k ct0).2.2.2.2.2.1, unL j (cs.getD k ct0).1 ((cs.getD k ct0).2.2.2.2.2.1))), S, D, pz, kk, ck, wo, xr, kl, cv, g44, g242, g241, g243, g46, g240, g244, g245, g246, g247, g248, g249, g239, g250, g251, g252, g253, g254, g255, g256, g257, g258, g259, g260, g261, (map_set_c3 hk rfl), ok2⟩
                    exact ⟨congrArg (fun z => some (Value.int z)) (show nI ((unL j (cs.getD k ct0).1 ((cs.getD k ct0).2.2.2.2.2.1)).getD kn 0) = _ from by unfold aFail; rw [if_pos (hasC_nI (by omega) (by omega)), onC_k h8m hkm, map_c3 hk, nN_nI (show ks < 2 ^ 31 by omega)]; show _ = (if _ < _ then _ else failO j (cs.getD k ct0).1 ks _); rw [if_neg (fun z => Int32.not_le.mpr z (nI_ge0 hkn)), nN_nI hkn, hfo, if_pos ⟨by omega, show _ < (schU (evCnt false (cs.getD k ct0).1) (evCnt true (cs.getD k ct0).1) ks).length by omega⟩]), g262, fr39⟩
              · skip
                have c_89 : (cs.getD k ct0).2.2.2.2.2.1 < (schU (evCnt false (cs.getD k ct0).1) (evCnt true (cs.getD k ct0).1) ks).length := cv_nle (by omega) (by omega) c_89
                refine e_aload f_100_92 rfl rfl ?_
                refine e_getf f_100_94 g43.1 rfl rfl ?_
                refine e_iload_n f_100_97 rfl rfl ?_
                refine e_icmp_gt f_100_98 rfl (fun c_98 => ?_) (fun c_98 => ?_)
                · skip
                  have c_98 : kn < (unL j (cs.getD k ct0).1 ((cs.getD k ct0).2.2.2.2.2.1)).length := cv_lt (by omega) (by omega) c_98
                  refine e_iload_n f_100_130 rfl rfl ?_
                  refine e_aload f_100_131 rfl rfl ?_
                  refine e_getf f_100_133 g43.1 rfl rfl ?_
                  refine e_icmp_ge f_100_136 rfl (fun c_136 => ?_) (fun c_136 => ?_)
                  · skip
                    have c_136 : (unL j (cs.getD k ct0).1 ((cs.getD k ct0).2.2.2.2.2.1)).length ≤ kn := cv_le (by omega) (by omega) c_136
                    refine e_bipush (v := (-3)) f_100_161 (by decide) rfl ?_
                    refine e_iret f_100_163 rfl (rfl) ?_
                    have g263 : pSc h32 := ⟨_, _, _, _, _, g35, g36, g37, rfl, (sc_self hab)⟩
                    have g264 : pCs h32 S (cs.set k ((cs.getD k ct0).1, (cs.getD k ct0).2.1, (cs.getD k ct0).2.2.1, (cs.getD k ct0).2.2.2.1, (cs.getD k ct0).2.2.2.2.1, (cs.getD k ct0).2.2.2.2.2.1, unL j (cs.getD k ct0).1 ((cs.getD k ct0).2.2.2.2.2.1))) := pCs_in g42 (t := ((cs.getD k ct0).1, (cs.getD k ct0).2.1, (cs.getD k ct0).2.2.1, (cs.getD k ct0).2.2.2.1, (cs.getD k ct0).2.2.2.2.1, (cs.getD k ct0).2.2.2.2.2.1, unL j (cs.getD k ct0).1 ((cs.getD k ct0).2.2.2.2.2.1))) g43
                    have g265 : h32.2.2 S = some (8, [.ref (S + 1), .ref (S + 5), .int (nI ((cs.set k ((cs.getD k ct0).1, (cs.getD k ct0).2.1, (cs.getD k ct0).2.2.1, (cs.getD k ct0).2.2.2.1, (cs.getD k ct0).2.2.2.2.1, (cs.getD k ct0).2.2.2.2.2.1, unL j (cs.getD k ct0).1 ((cs.getD k ct0).2.2.2.2.2.1))).length))]) := by rw [List.length_set]; exact g45
                    have okt : okK j ((cs.getD k ct0).1, (cs.getD k ct0).2.1, (cs.getD k ct0).2.2.1, (cs.getD k ct0).2.2.2.1, (cs.getD k ct0).2.2.2.2.1, (cs.getD k ct0).2.2.2.2.2.1, unL j (cs.getD k ct0).1 ((cs.getD k ct0).2.2.2.2.2.1)) := ⟨hct.1, hckl, rfl, hct.2.2.2⟩
                    have ok1 := ok
                    have ok2 := okJT_set ok1 hk okt rfl
                    have hfo := fail_of (j := j) (ev := (cs.getD k ct0).1) (s := ks) (k := kn) (q := (cs.getD k ct0).2.2.2.2.2.1) (by show (schU (evCnt false (cs.getD k ct0).1) (evCnt true (cs.getD k ct0).1) ks).length ≤ _ ∨ _; omega)
                    have g266 : px_pa h32 18 52 500 vN tx := pa_fi g2 fx38 (by omega)
                    have g267 : pJob h32 (S + 1) j := pJob_fi g4 fx38 (by omega)
                    have g268 : pDr h32 D := pDr_fi g7 fx38 (by omega)
                    have g269 : pRA h32 := pRA_fi g8 fx38 (by omega)
                    have g270 : pRun h32 wo xr := pRun_fi g9 fx38 (by omega)
                    have g271 : pJud h32 := pJud_fi g10 fx38 (by omega)
                    have g272 : pOrA h32 254 := pOrA_fi g11 fx38 (by omega)
                    have g273 : pOrA h32 256 := pOrA_fi g12 fx38 (by omega)
                    have g274 : pJA h32 261 := pJA_fi g14 fx38 (by omega)
                    have g275 : pRwA h32 265 := pRwA_fi g15 fx38 (by omega)
                    have g276 : px_pa h32 267 50 30 Value.int kl := pa_fi g16 fx38 (by omega)
                    have g277 : px_pa h32 268 50 30 Value.int cv := pa_fi g17 fx38 (by omega)
                    have g278 : pStr h32 1 ([60, 61, 62]) := pStr_fi g18 fx38 (by omega)
                    have g279 : pStr h32 2 ([43, 45, 42, 47]) := pStr_fi g19 fx38 (by omega)
                    have g280 : pStr h32 3 stepSigns := pStr_fi g20 fx38 (by omega)
                    have g281 : pStr h32 4 ([60, 61, 62]) := pStr_fi g21 fx38 (by omega)
                    have g282 : pStr h32 5 ([43, 45, 42, 47]) := pStr_fi g22 fx38 (by omega)
                    have g283 : pStr h32 6 evSigns := pStr_fi g23 fx38 (by omega)
                    have g284 : pStr h32 7 keyL := pStr_fi g24 fx38 (by omega)
                    have g285 : pStr h32 8 ordL := pStr_fi g25 fx38 (by omega)
                    have g286 : pJT h32 tx j (cs.map c3of) := ⟨(cs.set k ((cs.getD k ct0).1, (cs.getD k ct0).2.1, (cs.getD k ct0).2.2.1, (cs.getD k ct0).2.2.2.1, (cs.getD k ct0).2.2.2.2.1, (cs.getD k ct0).2.2.2.2.2.1, unL j (cs.getD k ct0).1 ((cs.getD k ct0).2.2.2.2.2.1))), S, D, pz, kk, ck, wo, xr, kl, cv, g44, g266, g265, g267, g46, g264, g268, g269, g270, g271, g272, g273, g263, g274, g275, g276, g277, g278, g279, g280, g281, g282, g283, g284, g285, (map_set_c3 hk rfl), ok2⟩
                    exact ⟨congrArg (fun z => some (Value.int z)) (show (-3) = _ from by unfold aFail; rw [if_pos (hasC_nI (by omega) (by omega)), onC_k h8m hkm, map_c3 hk, nN_nI (show ks < 2 ^ 31 by omega)]; show _ = (if _ < _ then _ else failO j (cs.getD k ct0).1 ks _); rw [if_neg (fun z => Int32.not_le.mpr z (nI_ge0 hkn)), nN_nI hkn, hfo, if_neg (fun z => by omega)]), g286, fr39⟩
                  · skip
                    have c_136 : kn < (unL j (cs.getD k ct0).1 ((cs.getD k ct0).2.2.2.2.2.1)).length := cv_nle (by omega) (by omega) c_136
                    refine e_aload f_100_139 rfl rfl ?_
                    refine e_getf f_100_141 g43.1 rfl rfl ?_
                    refine e_iload_n f_100_144 rfl rfl ?_
                    refine e_iaload_p (xs := unL j (cs.getD k ct0).1 ((cs.getD k ct0).2.2.2.2.2.1)) f_100_145 g43.2.2.2.2.2.2.2 (d := 0) (by first | omega | (simp only [List.length_set]; omega)) rfl ?_
                    show px_to 100 146 [some (.ref (17)), some (.int (nI k)), some (.int (nI ks)), some (.int (nI kn)), some (.ref (S + 9 * k + 6)), some (.int (nI ((schU (evCnt false (cs.getD k ct0).1) (evCnt true (cs.getD k ct0).1) ks).length))), some (.int (nI ((cs.getD k ct0).2.2.2.2.2.1)))] [.int (nI ((unL j (cs.getD k ct0).1 ((cs.getD k ct0).2.2.2.2.2.1)).getD kn 0))] h32 _
                    have hul2 := unL_lt (j := j) (ev := (cs.getD k ct0).1) (q := (cs.getD k ct0).2.2.2.2.2.1) (i := kn) (by omega)
                    refine e_iload f_100_146 rfl rfl ?_
                    refine e_icmp_ge f_100_148 rfl (fun c_148 => ?_) (fun c_148 => ?_)
                    · skip
                      have c_148 : (schU (evCnt false (cs.getD k ct0).1) (evCnt true (cs.getD k ct0).1) ks).length ≤ (unL j (cs.getD k ct0).1 ((cs.getD k ct0).2.2.2.2.2.1)).getD kn 0 := cv_le (by omega) (by omega) c_148
                      refine e_bipush (v := (-3)) f_100_161 (by decide) rfl ?_
                      refine e_iret f_100_163 rfl (rfl) ?_
                      have g287 : pSc h32 := ⟨_, _, _, _, _, g35, g36, g37, rfl, (sc_self hab)⟩
                      have g288 : pCs h32 S (cs.set k ((cs.getD k ct0).1, (cs.getD k ct0).2.1, (cs.getD k ct0).2.2.1, (cs.getD k ct0).2.2.2.1, (cs.getD k ct0).2.2.2.2.1, (cs.getD k ct0).2.2.2.2.2.1, unL j (cs.getD k ct0).1 ((cs.getD k ct0).2.2.2.2.2.1))) := pCs_in g42 (t := ((cs.getD k ct0).1, (cs.getD k ct0).2.1, (cs.getD k ct0).2.2.1, (cs.getD k ct0).2.2.2.1, (cs.getD k ct0).2.2.2.2.1, (cs.getD k ct0).2.2.2.2.2.1, unL j (cs.getD k ct0).1 ((cs.getD k ct0).2.2.2.2.2.1))) g43
                      have g289 : h32.2.2 S = some (8, [.ref (S + 1), .ref (S + 5), .int (nI ((cs.set k ((cs.getD k ct0).1, (cs.getD k ct0).2.1, (cs.getD k ct0).2.2.1, (cs.getD k ct0).2.2.2.1, (cs.getD k ct0).2.2.2.2.1, (cs.getD k ct0).2.2.2.2.2.1, unL j (cs.getD k ct0).1 ((cs.getD k ct0).2.2.2.2.2.1))).length))]) := by rw [List.length_set]; exact g45
                      have okt : okK j ((cs.getD k ct0).1, (cs.getD k ct0).2.1, (cs.getD k ct0).2.2.1, (cs.getD k ct0).2.2.2.1, (cs.getD k ct0).2.2.2.2.1, (cs.getD k ct0).2.2.2.2.2.1, unL j (cs.getD k ct0).1 ((cs.getD k ct0).2.2.2.2.2.1)) := ⟨hct.1, hckl, rfl, hct.2.2.2⟩
                      have ok1 := ok
                      have ok2 := okJT_set ok1 hk okt rfl
                      have hfo := fail_of (j := j) (ev := (cs.getD k ct0).1) (s := ks) (k := kn) (q := (cs.getD k ct0).2.2.2.2.2.1) (by show (schU (evCnt false (cs.getD k ct0).1) (evCnt true (cs.getD k ct0).1) ks).length ≤ _ ∨ _; omega)
                      have g290 : px_pa h32 18 52 500 vN tx := pa_fi g2 fx38 (by omega)
                      have g291 : pJob h32 (S + 1) j := pJob_fi g4 fx38 (by omega)
                      have g292 : pDr h32 D := pDr_fi g7 fx38 (by omega)
                      have g293 : pRA h32 := pRA_fi g8 fx38 (by omega)
                      have g294 : pRun h32 wo xr := pRun_fi g9 fx38 (by omega)
                      have g295 : pJud h32 := pJud_fi g10 fx38 (by omega)
                      have g296 : pOrA h32 254 := pOrA_fi g11 fx38 (by omega)
                      have g297 : pOrA h32 256 := pOrA_fi g12 fx38 (by omega)
                      have g298 : pJA h32 261 := pJA_fi g14 fx38 (by omega)
                      have g299 : pRwA h32 265 := pRwA_fi g15 fx38 (by omega)
                      have g300 : px_pa h32 267 50 30 Value.int kl := pa_fi g16 fx38 (by omega)
                      have g301 : px_pa h32 268 50 30 Value.int cv := pa_fi g17 fx38 (by omega)
                      have g302 : pStr h32 1 ([60, 61, 62]) := pStr_fi g18 fx38 (by omega)
                      have g303 : pStr h32 2 ([43, 45, 42, 47]) := pStr_fi g19 fx38 (by omega)
                      have g304 : pStr h32 3 stepSigns := pStr_fi g20 fx38 (by omega)
                      have g305 : pStr h32 4 ([60, 61, 62]) := pStr_fi g21 fx38 (by omega)
                      have g306 : pStr h32 5 ([43, 45, 42, 47]) := pStr_fi g22 fx38 (by omega)
                      have g307 : pStr h32 6 evSigns := pStr_fi g23 fx38 (by omega)
                      have g308 : pStr h32 7 keyL := pStr_fi g24 fx38 (by omega)
                      have g309 : pStr h32 8 ordL := pStr_fi g25 fx38 (by omega)
                      have g310 : pJT h32 tx j (cs.map c3of) := ⟨(cs.set k ((cs.getD k ct0).1, (cs.getD k ct0).2.1, (cs.getD k ct0).2.2.1, (cs.getD k ct0).2.2.2.1, (cs.getD k ct0).2.2.2.2.1, (cs.getD k ct0).2.2.2.2.2.1, unL j (cs.getD k ct0).1 ((cs.getD k ct0).2.2.2.2.2.1))), S, D, pz, kk, ck, wo, xr, kl, cv, g44, g290, g289, g291, g46, g288, g292, g293, g294, g295, g296, g297, g287, g298, g299, g300, g301, g302, g303, g304, g305, g306, g307, g308, g309, (map_set_c3 hk rfl), ok2⟩
                      exact ⟨congrArg (fun z => some (Value.int z)) (show (-3) = _ from by unfold aFail; rw [if_pos (hasC_nI (by omega) (by omega)), onC_k h8m hkm, map_c3 hk, nN_nI (show ks < 2 ^ 31 by omega)]; show _ = (if _ < _ then _ else failO j (cs.getD k ct0).1 ks _); rw [if_neg (fun z => Int32.not_le.mpr z (nI_ge0 hkn)), nN_nI hkn, hfo, if_neg (fun z => by have z2 : _ < (schU (evCnt false (cs.getD k ct0).1) (evCnt true (cs.getD k ct0).1) ks).length := z.2; omega)]), g310, fr39⟩
                    · skip
                      have c_148 : (unL j (cs.getD k ct0).1 ((cs.getD k ct0).2.2.2.2.2.1)).getD kn 0 < (schU (evCnt false (cs.getD k ct0).1) (evCnt true (cs.getD k ct0).1) ks).length := cv_nle (by omega) (by omega) c_148
                      refine e_aload f_100_151 rfl rfl ?_
                      refine e_getf f_100_153 g43.1 rfl rfl ?_
                      refine e_iload_n f_100_156 rfl rfl ?_
                      refine e_iaload_p (xs := unL j (cs.getD k ct0).1 ((cs.getD k ct0).2.2.2.2.2.1)) f_100_157 g43.2.2.2.2.2.2.2 (d := 0) (by first | omega | (simp only [List.length_set]; omega)) rfl ?_
                      show px_to 100 158 [some (.ref (17)), some (.int (nI k)), some (.int (nI ks)), some (.int (nI kn)), some (.ref (S + 9 * k + 6)), some (.int (nI ((schU (evCnt false (cs.getD k ct0).1) (evCnt true (cs.getD k ct0).1) ks).length))), some (.int (nI ((cs.getD k ct0).2.2.2.2.2.1)))] [.int (nI ((unL j (cs.getD k ct0).1 ((cs.getD k ct0).2.2.2.2.2.1)).getD kn 0))] h32 _
                      refine e_goto f_100_158 ?_
                      refine e_iret f_100_163 rfl (rfl) ?_
                      have g311 : pSc h32 := ⟨_, _, _, _, _, g35, g36, g37, rfl, (sc_self hab)⟩
                      have g312 : pCs h32 S (cs.set k ((cs.getD k ct0).1, (cs.getD k ct0).2.1, (cs.getD k ct0).2.2.1, (cs.getD k ct0).2.2.2.1, (cs.getD k ct0).2.2.2.2.1, (cs.getD k ct0).2.2.2.2.2.1, unL j (cs.getD k ct0).1 ((cs.getD k ct0).2.2.2.2.2.1))) := pCs_in g42 (t := ((cs.getD k ct0).1, (cs.getD k ct0).2.1, (cs.getD k ct0).2.2.1, (cs.getD k ct0).2.2.2.1, (cs.getD k ct0).2.2.2.2.1, (cs.getD k ct0).2.2.2.2.2.1, unL j (cs.getD k ct0).1 ((cs.getD k ct0).2.2.2.2.2.1))) g43
                      have g313 : h32.2.2 S = some (8, [.ref (S + 1), .ref (S + 5), .int (nI ((cs.set k ((cs.getD k ct0).1, (cs.getD k ct0).2.1, (cs.getD k ct0).2.2.1, (cs.getD k ct0).2.2.2.1, (cs.getD k ct0).2.2.2.2.1, (cs.getD k ct0).2.2.2.2.2.1, unL j (cs.getD k ct0).1 ((cs.getD k ct0).2.2.2.2.2.1))).length))]) := by rw [List.length_set]; exact g45
                      have okt : okK j ((cs.getD k ct0).1, (cs.getD k ct0).2.1, (cs.getD k ct0).2.2.1, (cs.getD k ct0).2.2.2.1, (cs.getD k ct0).2.2.2.2.1, (cs.getD k ct0).2.2.2.2.2.1, unL j (cs.getD k ct0).1 ((cs.getD k ct0).2.2.2.2.2.1)) := ⟨hct.1, hckl, rfl, hct.2.2.2⟩
                      have ok1 := ok
                      have ok2 := okJT_set ok1 hk okt rfl
                      have hfo := fail_of (j := j) (ev := (cs.getD k ct0).1) (s := ks) (k := kn) (q := (cs.getD k ct0).2.2.2.2.2.1) (by show (schU (evCnt false (cs.getD k ct0).1) (evCnt true (cs.getD k ct0).1) ks).length ≤ _ ∨ _; omega)
                      have g314 : px_pa h32 18 52 500 vN tx := pa_fi g2 fx38 (by omega)
                      have g315 : pJob h32 (S + 1) j := pJob_fi g4 fx38 (by omega)
                      have g316 : pDr h32 D := pDr_fi g7 fx38 (by omega)
                      have g317 : pRA h32 := pRA_fi g8 fx38 (by omega)
                      have g318 : pRun h32 wo xr := pRun_fi g9 fx38 (by omega)
                      have g319 : pJud h32 := pJud_fi g10 fx38 (by omega)
                      have g320 : pOrA h32 254 := pOrA_fi g11 fx38 (by omega)
                      have g321 : pOrA h32 256 := pOrA_fi g12 fx38 (by omega)
                      have g322 : pJA h32 261 := pJA_fi g14 fx38 (by omega)
                      have g323 : pRwA h32 265 := pRwA_fi g15 fx38 (by omega)
                      have g324 : px_pa h32 267 50 30 Value.int kl := pa_fi g16 fx38 (by omega)
                      have g325 : px_pa h32 268 50 30 Value.int cv := pa_fi g17 fx38 (by omega)
                      have g326 : pStr h32 1 ([60, 61, 62]) := pStr_fi g18 fx38 (by omega)
                      have g327 : pStr h32 2 ([43, 45, 42, 47]) := pStr_fi g19 fx38 (by omega)
                      have g328 : pStr h32 3 stepSigns := pStr_fi g20 fx38 (by omega)
                      have g329 : pStr h32 4 ([60, 61, 62]) := pStr_fi g21 fx38 (by omega)
                      have g330 : pStr h32 5 ([43, 45, 42, 47]) := pStr_fi g22 fx38 (by omega)
                      have g331 : pStr h32 6 evSigns := pStr_fi g23 fx38 (by omega)
                      have g332 : pStr h32 7 keyL := pStr_fi g24 fx38 (by omega)
                      have g333 : pStr h32 8 ordL := pStr_fi g25 fx38 (by omega)
                      have g334 : pJT h32 tx j (cs.map c3of) := ⟨(cs.set k ((cs.getD k ct0).1, (cs.getD k ct0).2.1, (cs.getD k ct0).2.2.1, (cs.getD k ct0).2.2.2.1, (cs.getD k ct0).2.2.2.2.1, (cs.getD k ct0).2.2.2.2.2.1, unL j (cs.getD k ct0).1 ((cs.getD k ct0).2.2.2.2.2.1))), S, D, pz, kk, ck, wo, xr, kl, cv, g44, g314, g313, g315, g46, g312, g316, g317, g318, g319, g320, g321, g311, g322, g323, g324, g325, g326, g327, g328, g329, g330, g331, g332, g333, (map_set_c3 hk rfl), ok2⟩
                      exact ⟨congrArg (fun z => some (Value.int z)) (show nI ((unL j (cs.getD k ct0).1 ((cs.getD k ct0).2.2.2.2.2.1)).getD kn 0) = _ from by unfold aFail; rw [if_pos (hasC_nI (by omega) (by omega)), onC_k h8m hkm, map_c3 hk, nN_nI (show ks < 2 ^ 31 by omega)]; show _ = (if _ < _ then _ else failO j (cs.getD k ct0).1 ks _); rw [if_neg (fun z => Int32.not_le.mpr z (nI_ge0 hkn)), nN_nI hkn, hfo, if_pos ⟨by omega, show _ < (schU (evCnt false (cs.getD k ct0).1) (evCnt true (cs.getD k ct0).1) ks).length by omega⟩]), g334, fr39⟩
                · skip
                  have c_98 : (unL j (cs.getD k ct0).1 ((cs.getD k ct0).2.2.2.2.2.1)).length ≤ kn := cv_nlt (by omega) (by omega) c_98
                  exfalso; omega
            · skip
              have c_69 : (cs.getD k ct0).2.2.2.2.2.1 < (schU (evCnt false (cs.getD k ct0).1) (evCnt true (cs.getD k ct0).1) ks).length := cv_nle (by omega) (by omega) c_69
              refine e_aload_n f_100_72 rfl rfl ?_
              refine e_aload f_100_73 rfl rfl ?_
              have g335 : pRun h32 wo xr := pRun_fi g9 fx38 (by omega)
              have g336 : pOrA h32 254 := pOrA_fi g11 fx38 (by omega)
              have g337 : pRwA h32 265 := pRwA_fi g15 fx38 (by omega)
              have g338 : pJob h32 (S + 1) j := pJob_fi g4 fx38 (by omega)
              refine e_callV (As := [.ref (S + 9 * k + 6)]) (rest := []) f_100_75 rfl rfl rfl (Nat.le_of_ble_eq_true rfl) (Nat.le_of_ble_eq_true rfl) g44 rfl (Nat.le_of_ble_eq_true rfl) (cc_JT_rp (L := tx.length) (S := S) (D := D) (n := cs.length) (pz := pz) (kk := kk) (cf := ck) (j := j) (wo := wo) (x := xr) (a := S + 9 * k + 6) (ev := (cs.getD k ct0).1) (told := (cs.getD k ct0).2.1) (os := (cs.getD k ct0).2.2.1) (ks := (cs.getD k ct0).2.2.2.1) (kept := (cs.getD k ct0).2.2.2.2.1) (ck := (cs.getD k ct0).2.2.2.2.2.1) (un := unL j (cs.getD k ct0).1 ((cs.getD k ct0).2.2.2.2.2.1)) g335 g336 g337 g44 g45 g338 g43 (ok.2.2.1.1) (hct.1.2.1) (hS) (by omega)) rfl (fun h339 r340 q341 => ?_)
              obtain ⟨rfl, g342, g343, g344, g345, fx346⟩ := q341
              obtain ⟨hm347, fa348, fb349⟩ := fl_mid fx346
              have fr350 : px_fi 17 252 h hm347 := fi_tr fr39 fa348 (by omega)
              obtain ⟨hm351, fa352, fb353⟩ := fl_mid fb349
              have fr354 : px_fi 17 252 h hm351 := fi_tr fr350 fa352 (by omega)
              obtain ⟨hm355, fa356, fb357⟩ := fl_mid fb353
              have fr358 : px_fi 17 252 h hm355 := fi_tr fr354 fa356 (by omega)
              have fb359 := fl_one fb357
              have fr360 : px_fi 17 252 h h339 := fi_tr fr358 fb359 (by omega)
              show px_to 100 78 [some (.ref (17)), some (.int (nI k)), some (.int (nI ks)), some (.int (nI kn)), some (.ref (S + 9 * k + 6)), some (.int (nI ((schU (evCnt false (cs.getD k ct0).1) (evCnt true (cs.getD k ct0).1) ks).length))), none] [] h339 _
              refine e_aload f_100_78 rfl rfl ?_
              have g361 : pCase hm347 (S + 9 * k + 6) ((cs.getD k ct0).1) ((cs.getD k ct0).2.1) ((cs.getD k ct0).2.2.1) ((cs.getD k ct0).2.2.2.1) ((cs.getD k ct0).2.2.2.2.1) ((cs.getD k ct0).2.2.2.2.2.1) (unL j (cs.getD k ct0).1 ((cs.getD k ct0).2.2.2.2.2.1)) := pCase_fi g43 fa348 (by omega)
              have g362 : pCase hm351 (S + 9 * k + 6) ((cs.getD k ct0).1) ((cs.getD k ct0).2.1) ((cs.getD k ct0).2.2.1) ((cs.getD k ct0).2.2.2.1) ((cs.getD k ct0).2.2.2.2.1) ((cs.getD k ct0).2.2.2.2.2.1) (unL j (cs.getD k ct0).1 ((cs.getD k ct0).2.2.2.2.2.1)) := pCase_fi g361 fa352 (by omega)
              have g363 : pCase hm355 (S + 9 * k + 6) ((cs.getD k ct0).1) ((cs.getD k ct0).2.1) ((cs.getD k ct0).2.2.1) ((cs.getD k ct0).2.2.2.1) ((cs.getD k ct0).2.2.2.2.1) ((cs.getD k ct0).2.2.2.2.2.1) (unL j (cs.getD k ct0).1 ((cs.getD k ct0).2.2.2.2.2.1)) := pCase_fi g362 fa356 (by omega)
              have g364 : pCase h339 (S + 9 * k + 6) ((cs.getD k ct0).1) ((cs.getD k ct0).2.1) ((cs.getD k ct0).2.2.1) ((cs.getD k ct0).2.2.2.1) ((cs.getD k ct0).2.2.2.2.1) ((cs.getD k ct0).2.2.2.2.2.1) (unL j (cs.getD k ct0).1 ((cs.getD k ct0).2.2.2.2.2.1)) := pCase_fi g363 fb359 (by omega)
              refine e_getf f_100_80 g364.1 rfl rfl ?_
              refine e_istore (L' := [some (.ref (17)), some (.int (nI k)), some (.int (nI ks)), some (.int (nI kn)), some (.ref (S + 9 * k + 6)), some (.int (nI ((schU (evCnt false (cs.getD k ct0).1) (evCnt true (cs.getD k ct0).1) ks).length))), some (.int (nI ((cs.getD k ct0).2.2.2.2.2.1)))]) f_100_83 (Nat.le_of_ble_eq_true rfl) rfl rfl ?_
              have g365 : hm347.2.2 S = some (8, [.ref (S + 1), .ref (S + 5), .int (nI cs.length)]) := fi_at g45 fa348 (by omega)
              have g366 : hm351.2.2 S = some (8, [.ref (S + 1), .ref (S + 5), .int (nI cs.length)]) := fi_at g365 fa352 (by omega)
              have g367 : hm355.2.2 S = some (8, [.ref (S + 1), .ref (S + 5), .int (nI cs.length)]) := fi_at g366 fa356 (by omega)
              have g368 : h339.2.2 S = some (8, [.ref (S + 1), .ref (S + 5), .int (nI cs.length)]) := fi_at g367 fb359 (by omega)
              have g369 : pJob hm347 (S + 1) j := pJob_fi g338 fa348 (by omega)
              have g370 : pJob hm351 (S + 1) j := pJob_fi g369 fa352 (by omega)
              have g371 : pJob hm355 (S + 1) j := pJob_fi g370 fa356 (by omega)
              have g372 : pJob h339 (S + 1) j := pJob_fi g371 fb359 (by omega)
              have g373 : hm347.2.2 258 = some (7, [.ref (259), .ref (260), .int (nI ((schU (evCnt false (cs.getD k ct0).1) (evCnt true (cs.getD k ct0).1) 3).length)), .int (nI (evCnt false (cs.getD k ct0).1)), .int (nI (evCnt true (cs.getD k ct0).1))]) := fi_at g35 fa348 (by omega)
              have g374 : hm351.2.2 258 = some (7, [.ref (259), .ref (260), .int (nI ((schU (evCnt false (cs.getD k ct0).1) (evCnt true (cs.getD k ct0).1) 3).length)), .int (nI (evCnt false (cs.getD k ct0).1)), .int (nI (evCnt true (cs.getD k ct0).1))]) := fi_at g373 fa352 (by omega)
              have g375 : hm355.2.2 258 = some (7, [.ref (259), .ref (260), .int (nI ((schU (evCnt false (cs.getD k ct0).1) (evCnt true (cs.getD k ct0).1) 3).length)), .int (nI (evCnt false (cs.getD k ct0).1)), .int (nI (evCnt true (cs.getD k ct0).1))]) := fi_at g374 fa356 (by omega)
              have g376 : h339.2.2 258 = some (7, [.ref (259), .ref (260), .int (nI ((schU (evCnt false (cs.getD k ct0).1) (evCnt true (cs.getD k ct0).1) 3).length)), .int (nI (evCnt false (cs.getD k ct0).1)), .int (nI (evCnt true (cs.getD k ct0).1))]) := fi_at g375 fb359 (by omega)
              have g377 : px_pa hm347 259 50 266 vN (schU (evCnt false (cs.getD k ct0).1) (evCnt true (cs.getD k ct0).1) 3) := pa_fi g36 fa348 (by omega)
              have g378 : px_pa hm351 259 50 266 vN (schU (evCnt false (cs.getD k ct0).1) (evCnt true (cs.getD k ct0).1) 3) := pa_fi g377 fa352 (by omega)
              have g379 : px_pa hm355 259 50 266 vN (schU (evCnt false (cs.getD k ct0).1) (evCnt true (cs.getD k ct0).1) 3) := pa_fi g378 fa356 (by omega)
              have g380 : px_pa h339 259 50 266 vN (schU (evCnt false (cs.getD k ct0).1) (evCnt true (cs.getD k ct0).1) 3) := pa_fi g379 fb359 (by omega)
              have g381 : pJud h32 := pJud_fi g10 fx38 (by omega)
              have g382 : pJud hm347 := pJud_fi g381 fa348 (by omega)
              have g383 : pJud hm351 := pJud_fi g382 fa352 (by omega)
              have g384 : pJud hm355 := pJud_fi g383 fa356 (by omega)
              have g385 : pJud h339 := pJud_fi g384 fb359 (by omega)
              refine ll_JT_fl (h0 := h339) (a := S + 9 * k + 6) (ev := (cs.getD k ct0).1) (s := ks) (ck0 := (cs.getD k ct0).2.2.2.2.2.1) g345 g368 g372 g344 g376 g380 ok.2.2.1.1 hct.1.2.1 hS (by omega) (by omega) hkn hab (show (schU (evCnt false (cs.getD k ct0).1) (evCnt true (cs.getD k ct0).1) ks).length ≤ (schU (evCnt false (cs.getD k ct0).1) (evCnt true (cs.getD k ct0).1) 3).length by omega) rfl rfl (fun q1 wo1 x1 g1 z0 z1 z2 z3 zf hq1 hq2 hq3 hwo1 => ?_) ((schU (evCnt false (cs.getD k ct0).1) (evCnt true (cs.getD k ct0).1) ks).length) ((cs.getD k ct0).2.2.2.2.2.1) _ _ h339 (by omega) (by omega) (by omega) rfl g342 g343 g385 g364 (fj_rf _ _ _ _ _)
              obtain ⟨hm386, fa387, fb388⟩ := fj_mid zf
              have fr389 : px_fi 17 252 h hm386 := fi_tr fr360 fa387 (by omega)
              have fr390 : px_fi 17 252 h g1 := fi_tr fr389 fb388 (by omega)
              have hlu1 := unL_len (j := j) (ev := (cs.getD k ct0).1) (q := q1)
              refine e_iload_n f_100_130 rfl rfl ?_
              refine e_aload f_100_131 rfl rfl ?_
              refine e_getf f_100_133 z3.1 rfl rfl ?_
              refine e_icmp_ge f_100_136 rfl (fun c_136 => ?_) (fun c_136 => ?_)
              · skip
                have c_136 : (unL j (cs.getD k ct0).1 q1).length ≤ kn := cv_le (by omega) (by omega) c_136
                refine e_bipush (v := (-3)) f_100_161 (by decide) rfl ?_
                refine e_iret f_100_163 rfl (rfl) ?_
                have g391 : hm386.2.2 258 = some (7, [.ref (259), .ref (260), .int (nI ((schU (evCnt false (cs.getD k ct0).1) (evCnt true (cs.getD k ct0).1) 3).length)), .int (nI (evCnt false (cs.getD k ct0).1)), .int (nI (evCnt true (cs.getD k ct0).1))]) := fi_at g376 fa387 (by omega)
                have g392 : g1.2.2 258 = some (7, [.ref (259), .ref (260), .int (nI ((schU (evCnt false (cs.getD k ct0).1) (evCnt true (cs.getD k ct0).1) 3).length)), .int (nI (evCnt false (cs.getD k ct0).1)), .int (nI (evCnt true (cs.getD k ct0).1))]) := fi_at g391 fb388 (by omega)
                have g393 : px_pa hm386 259 50 266 vN (schU (evCnt false (cs.getD k ct0).1) (evCnt true (cs.getD k ct0).1) 3) := pa_fi g380 fa387 (by omega)
                have g394 : px_pa g1 259 50 266 vN (schU (evCnt false (cs.getD k ct0).1) (evCnt true (cs.getD k ct0).1) 3) := pa_fi g393 fb388 (by omega)
                have g395 : px_pa hm347 260 50 4 vN (schE (evCnt false (cs.getD k ct0).1) (evCnt true (cs.getD k ct0).1)) := pa_fi g37 fa348 (by omega)
                have g396 : px_pa hm351 260 50 4 vN (schE (evCnt false (cs.getD k ct0).1) (evCnt true (cs.getD k ct0).1)) := pa_fi g395 fa352 (by omega)
                have g397 : px_pa hm355 260 50 4 vN (schE (evCnt false (cs.getD k ct0).1) (evCnt true (cs.getD k ct0).1)) := pa_fi g396 fa356 (by omega)
                have g398 : px_pa h339 260 50 4 vN (schE (evCnt false (cs.getD k ct0).1) (evCnt true (cs.getD k ct0).1)) := pa_fi g397 fb359 (by omega)
                have g399 : px_pa hm386 260 50 4 vN (schE (evCnt false (cs.getD k ct0).1) (evCnt true (cs.getD k ct0).1)) := pa_fi g398 fa387 (by omega)
                have g400 : px_pa g1 260 50 4 vN (schE (evCnt false (cs.getD k ct0).1) (evCnt true (cs.getD k ct0).1)) := pa_fi g399 fb388 (by omega)
                have g401 : pSc g1 := ⟨_, _, _, _, _, g392, g394, g400, rfl, (sc_self hab)⟩
                have g402 : pCsx hm347 S cs k := pCsx_fi g42 fa348 (by omega)
                have g403 : pCsx hm351 S cs k := pCsx_fi g402 fa352 (by omega)
                have g404 : pCsx hm355 S cs k := pCsx_fi g403 fa356 (by omega)
                have g405 : pCsx h339 S cs k := pCsx_fi g404 fb359 (by omega)
                have g406 : pCsx hm386 S cs k := pCsx_fi g405 fa387 (by omega)
                have g407 : pCsx g1 S cs k := pCsx_fi g406 fb388 (by omega)
                have g408 : pCs g1 S (cs.set k ((cs.getD k ct0).1, (cs.getD k ct0).2.1, (cs.getD k ct0).2.2.1, (cs.getD k ct0).2.2.2.1, (cs.getD k ct0).2.2.2.2.1, q1, unL j (cs.getD k ct0).1 q1)) := pCs_in g407 (t := ((cs.getD k ct0).1, (cs.getD k ct0).2.1, (cs.getD k ct0).2.2.1, (cs.getD k ct0).2.2.2.1, (cs.getD k ct0).2.2.2.2.1, q1, unL j (cs.getD k ct0).1 q1)) z3
                have g409 : hm386.2.2 S = some (8, [.ref (S + 1), .ref (S + 5), .int (nI cs.length)]) := fi_at g368 fa387 (by omega)
                have g410 : g1.2.2 S = some (8, [.ref (S + 1), .ref (S + 5), .int (nI cs.length)]) := fi_at g409 fb388 (by omega)
                have g411 : g1.2.2 S = some (8, [.ref (S + 1), .ref (S + 5), .int (nI ((cs.set k ((cs.getD k ct0).1, (cs.getD k ct0).2.1, (cs.getD k ct0).2.2.1, (cs.getD k ct0).2.2.2.1, (cs.getD k ct0).2.2.2.2.1, q1, unL j (cs.getD k ct0).1 q1)).length))]) := by rw [List.length_set]; exact g410
                have okt : okK j ((cs.getD k ct0).1, (cs.getD k ct0).2.1, (cs.getD k ct0).2.2.1, (cs.getD k ct0).2.2.2.1, (cs.getD k ct0).2.2.2.2.1, q1, unL j (cs.getD k ct0).1 q1) := ⟨hct.1, (show q1 ≤ (schU (evCnt false (cs.getD k ct0).1) (evCnt true (cs.getD k ct0).1) 3).length by omega), rfl, hct.2.2.2⟩
                have g412 : pRows hm386 265 96 (rsort (plO j ((cs.getD k ct0).1)).2.1) := pRows_fi g344 fa387 (by omega)
                have g413 : pRows g1 265 96 (rsort (plO j ((cs.getD k ct0).1)).2.1) := pRows_fi g412 fb388 (by omega)
                have g414 : pRwA g1 265 := ⟨_, g413⟩
                have ok1 := okJT_wo (wo2 := wo1) (x2 := x1) ok (fun c hc e => absurd (hwo1.symm.trans e).symm (nI_m3 (by omega)))
                have ok2 := okJT_set ok1 hk okt rfl
                have hfo := fail_of (j := j) (ev := (cs.getD k ct0).1) (s := ks) (k := kn) (q := q1) (by show (schU (evCnt false (cs.getD k ct0).1) (evCnt true (cs.getD k ct0).1) ks).length ≤ _ ∨ _; omega)
                have g415 : hm386.2.2 17 = some (11, [.ref (18), .int (nI tx.length), .ref (S), .ref (D), .ref (175), .ref (177), .ref (249), .ref (254), .ref (256), .ref (258), .ref (261), .ref (265), .int (bI ((plO j ((cs.getD k ct0).1)).2.2.1.isSome)), .ref (267), .int (bI kk), .ref (268), .int (bI ck)]) := fi_at g345 fa387 (by omega)
                have g416 : g1.2.2 17 = some (11, [.ref (18), .int (nI tx.length), .ref (S), .ref (D), .ref (175), .ref (177), .ref (249), .ref (254), .ref (256), .ref (258), .ref (261), .ref (265), .int (bI ((plO j ((cs.getD k ct0).1)).2.2.1.isSome)), .ref (267), .int (bI kk), .ref (268), .int (bI ck)]) := fi_at g415 fb388 (by omega)
                have g417 : px_pa h32 18 52 500 vN tx := pa_fi g2 fx38 (by omega)
                have g418 : px_pa hm347 18 52 500 vN tx := pa_fi g417 fa348 (by omega)
                have g419 : px_pa hm351 18 52 500 vN tx := pa_fi g418 fa352 (by omega)
                have g420 : px_pa hm355 18 52 500 vN tx := pa_fi g419 fa356 (by omega)
                have g421 : px_pa h339 18 52 500 vN tx := pa_fi g420 fb359 (by omega)
                have g422 : px_pa hm386 18 52 500 vN tx := pa_fi g421 fa387 (by omega)
                have g423 : px_pa g1 18 52 500 vN tx := pa_fi g422 fb388 (by omega)
                have g424 : pJob hm386 (S + 1) j := pJob_fi g372 fa387 (by omega)
                have g425 : pJob g1 (S + 1) j := pJob_fi g424 fb388 (by omega)
                have g426 : px_rs hm347 (S + 5) 56 8 (fun k => S + 9 * k + 6) := rs_fi g46 fa348 (by omega)
                have g427 : px_rs hm351 (S + 5) 56 8 (fun k => S + 9 * k + 6) := rs_fi g426 fa352 (by omega)
                have g428 : px_rs hm355 (S + 5) 56 8 (fun k => S + 9 * k + 6) := rs_fi g427 fa356 (by omega)
                have g429 : px_rs h339 (S + 5) 56 8 (fun k => S + 9 * k + 6) := rs_fi g428 fb359 (by omega)
                have g430 : px_rs hm386 (S + 5) 56 8 (fun k => S + 9 * k + 6) := rs_fi g429 fa387 (by omega)
                have g431 : px_rs g1 (S + 5) 56 8 (fun k => S + 9 * k + 6) := rs_fi g430 fb388 (by omega)
                have g432 : pDr h32 D := pDr_fi g7 fx38 (by omega)
                have g433 : pDr hm347 D := pDr_fi g432 fa348 (by omega)
                have g434 : pDr hm351 D := pDr_fi g433 fa352 (by omega)
                have g435 : pDr hm355 D := pDr_fi g434 fa356 (by omega)
                have g436 : pDr h339 D := pDr_fi g435 fb359 (by omega)
                have g437 : pDr hm386 D := pDr_fi g436 fa387 (by omega)
                have g438 : pDr g1 D := pDr_fi g437 fb388 (by omega)
                have g439 : pRA h32 := pRA_fi g8 fx38 (by omega)
                have g440 : pRA hm347 := pRA_fi g439 fa348 (by omega)
                have g441 : pRA hm351 := pRA_fi g440 fa352 (by omega)
                have g442 : pRA hm355 := pRA_fi g441 fa356 (by omega)
                have g443 : pRA h339 := pRA_fi g442 fb359 (by omega)
                have g444 : pRA hm386 := pRA_fi g443 fa387 (by omega)
                have g445 : pRA g1 := pRA_fi g444 fb388 (by omega)
                have g446 : pOrA h32 256 := pOrA_fi g12 fx38 (by omega)
                have g447 : pOrA hm347 256 := pOrA_fi g446 fa348 (by omega)
                have g448 : pOrA hm351 256 := pOrA_fi g447 fa352 (by omega)
                have g449 : pOrA hm355 256 := pOrA_fi g448 fa356 (by omega)
                have g450 : pOrA h339 256 := pOrA_fi g449 fb359 (by omega)
                have g451 : pOrA hm386 256 := pOrA_fi g450 fa387 (by omega)
                have g452 : pOrA g1 256 := pOrA_fi g451 fb388 (by omega)
                have g453 : pJA h32 261 := pJA_fi g14 fx38 (by omega)
                have g454 : pJA hm347 261 := pJA_fi g453 fa348 (by omega)
                have g455 : pJA hm351 261 := pJA_fi g454 fa352 (by omega)
                have g456 : pJA hm355 261 := pJA_fi g455 fa356 (by omega)
                have g457 : pJA h339 261 := pJA_fi g456 fb359 (by omega)
                have g458 : pJA hm386 261 := pJA_fi g457 fa387 (by omega)
                have g459 : pJA g1 261 := pJA_fi g458 fb388 (by omega)
                have g460 : px_pa h32 267 50 30 Value.int kl := pa_fi g16 fx38 (by omega)
                have g461 : px_pa hm347 267 50 30 Value.int kl := pa_fi g460 fa348 (by omega)
                have g462 : px_pa hm351 267 50 30 Value.int kl := pa_fi g461 fa352 (by omega)
                have g463 : px_pa hm355 267 50 30 Value.int kl := pa_fi g462 fa356 (by omega)
                have g464 : px_pa h339 267 50 30 Value.int kl := pa_fi g463 fb359 (by omega)
                have g465 : px_pa hm386 267 50 30 Value.int kl := pa_fi g464 fa387 (by omega)
                have g466 : px_pa g1 267 50 30 Value.int kl := pa_fi g465 fb388 (by omega)
                have g467 : px_pa h32 268 50 30 Value.int cv := pa_fi g17 fx38 (by omega)
                have g468 : px_pa hm347 268 50 30 Value.int cv := pa_fi g467 fa348 (by omega)
                have g469 : px_pa hm351 268 50 30 Value.int cv := pa_fi g468 fa352 (by omega)
                have g470 : px_pa hm355 268 50 30 Value.int cv := pa_fi g469 fa356 (by omega)
                have g471 : px_pa h339 268 50 30 Value.int cv := pa_fi g470 fb359 (by omega)
                have g472 : px_pa hm386 268 50 30 Value.int cv := pa_fi g471 fa387 (by omega)
                have g473 : px_pa g1 268 50 30 Value.int cv := pa_fi g472 fb388 (by omega)
                have g474 : pStr h32 1 ([60, 61, 62]) := pStr_fi g18 fx38 (by omega)
                have g475 : pStr hm347 1 ([60, 61, 62]) := pStr_fi g474 fa348 (by omega)
                have g476 : pStr hm351 1 ([60, 61, 62]) := pStr_fi g475 fa352 (by omega)
                have g477 : pStr hm355 1 ([60, 61, 62]) := pStr_fi g476 fa356 (by omega)
                have g478 : pStr h339 1 ([60, 61, 62]) := pStr_fi g477 fb359 (by omega)
                have g479 : pStr hm386 1 ([60, 61, 62]) := pStr_fi g478 fa387 (by omega)
                have g480 : pStr g1 1 ([60, 61, 62]) := pStr_fi g479 fb388 (by omega)
                have g481 : pStr h32 2 ([43, 45, 42, 47]) := pStr_fi g19 fx38 (by omega)
                have g482 : pStr hm347 2 ([43, 45, 42, 47]) := pStr_fi g481 fa348 (by omega)
                have g483 : pStr hm351 2 ([43, 45, 42, 47]) := pStr_fi g482 fa352 (by omega)
                have g484 : pStr hm355 2 ([43, 45, 42, 47]) := pStr_fi g483 fa356 (by omega)
                have g485 : pStr h339 2 ([43, 45, 42, 47]) := pStr_fi g484 fb359 (by omega)
                have g486 : pStr hm386 2 ([43, 45, 42, 47]) := pStr_fi g485 fa387 (by omega)
                have g487 : pStr g1 2 ([43, 45, 42, 47]) := pStr_fi g486 fb388 (by omega)
                have g488 : pStr h32 3 stepSigns := pStr_fi g20 fx38 (by omega)
                have g489 : pStr hm347 3 stepSigns := pStr_fi g488 fa348 (by omega)
                have g490 : pStr hm351 3 stepSigns := pStr_fi g489 fa352 (by omega)
                have g491 : pStr hm355 3 stepSigns := pStr_fi g490 fa356 (by omega)
                have g492 : pStr h339 3 stepSigns := pStr_fi g491 fb359 (by omega)
                have g493 : pStr hm386 3 stepSigns := pStr_fi g492 fa387 (by omega)
                have g494 : pStr g1 3 stepSigns := pStr_fi g493 fb388 (by omega)
                have g495 : pStr h32 4 ([60, 61, 62]) := pStr_fi g21 fx38 (by omega)
                have g496 : pStr hm347 4 ([60, 61, 62]) := pStr_fi g495 fa348 (by omega)
                have g497 : pStr hm351 4 ([60, 61, 62]) := pStr_fi g496 fa352 (by omega)
                have g498 : pStr hm355 4 ([60, 61, 62]) := pStr_fi g497 fa356 (by omega)
                have g499 : pStr h339 4 ([60, 61, 62]) := pStr_fi g498 fb359 (by omega)
                have g500 : pStr hm386 4 ([60, 61, 62]) := pStr_fi g499 fa387 (by omega)
                have g501 : pStr g1 4 ([60, 61, 62]) := pStr_fi g500 fb388 (by omega)
                have g502 : pStr h32 5 ([43, 45, 42, 47]) := pStr_fi g22 fx38 (by omega)
                have g503 : pStr hm347 5 ([43, 45, 42, 47]) := pStr_fi g502 fa348 (by omega)
                have g504 : pStr hm351 5 ([43, 45, 42, 47]) := pStr_fi g503 fa352 (by omega)
                have g505 : pStr hm355 5 ([43, 45, 42, 47]) := pStr_fi g504 fa356 (by omega)
                have g506 : pStr h339 5 ([43, 45, 42, 47]) := pStr_fi g505 fb359 (by omega)
                have g507 : pStr hm386 5 ([43, 45, 42, 47]) := pStr_fi g506 fa387 (by omega)
                have g508 : pStr g1 5 ([43, 45, 42, 47]) := pStr_fi g507 fb388 (by omega)
                have g509 : pStr h32 6 evSigns := pStr_fi g23 fx38 (by omega)
                have g510 : pStr hm347 6 evSigns := pStr_fi g509 fa348 (by omega)
                have g511 : pStr hm351 6 evSigns := pStr_fi g510 fa352 (by omega)
                have g512 : pStr hm355 6 evSigns := pStr_fi g511 fa356 (by omega)
                have g513 : pStr h339 6 evSigns := pStr_fi g512 fb359 (by omega)
                have g514 : pStr hm386 6 evSigns := pStr_fi g513 fa387 (by omega)
                have g515 : pStr g1 6 evSigns := pStr_fi g514 fb388 (by omega)
                have g516 : pStr h32 7 keyL := pStr_fi g24 fx38 (by omega)
                have g517 : pStr hm347 7 keyL := pStr_fi g516 fa348 (by omega)
                have g518 : pStr hm351 7 keyL := pStr_fi g517 fa352 (by omega)
                have g519 : pStr hm355 7 keyL := pStr_fi g518 fa356 (by omega)
                have g520 : pStr h339 7 keyL := pStr_fi g519 fb359 (by omega)
                have g521 : pStr hm386 7 keyL := pStr_fi g520 fa387 (by omega)
                have g522 : pStr g1 7 keyL := pStr_fi g521 fb388 (by omega)
                have g523 : pStr h32 8 ordL := pStr_fi g25 fx38 (by omega)
                have g524 : pStr hm347 8 ordL := pStr_fi g523 fa348 (by omega)
                have g525 : pStr hm351 8 ordL := pStr_fi g524 fa352 (by omega)
                have g526 : pStr hm355 8 ordL := pStr_fi g525 fa356 (by omega)
                have g527 : pStr h339 8 ordL := pStr_fi g526 fb359 (by omega)
                have g528 : pStr hm386 8 ordL := pStr_fi g527 fa387 (by omega)
                have g529 : pStr g1 8 ordL := pStr_fi g528 fb388 (by omega)
                have g530 : pJT g1 tx j (cs.map c3of) := ⟨(cs.set k ((cs.getD k ct0).1, (cs.getD k ct0).2.1, (cs.getD k ct0).2.2.1, (cs.getD k ct0).2.2.2.1, (cs.getD k ct0).2.2.2.2.1, q1, unL j (cs.getD k ct0).1 q1)), S, D, ((plO j (cs.getD k ct0).1).2.2.1.isSome), kk, ck, wo1, x1, kl, cv, g416, g423, g411, g425, g431, g408, g438, g445, z0, z2, z1, g452, g401, g459, g414, g466, g473, g480, g487, g494, g501, g508, g515, g522, g529, (map_set_c3 hk rfl), ok2⟩
                exact ⟨congrArg (fun z => some (Value.int z)) (show (-3) = _ from by unfold aFail; rw [if_pos (hasC_nI (by omega) (by omega)), onC_k h8m hkm, map_c3 hk, nN_nI (show ks < 2 ^ 31 by omega)]; show _ = (if _ < _ then _ else failO j (cs.getD k ct0).1 ks _); rw [if_neg (fun z => Int32.not_le.mpr z (nI_ge0 hkn)), nN_nI hkn, hfo, if_neg (fun z => by omega)]), g530, fr390⟩
              · skip
                have c_136 : kn < (unL j (cs.getD k ct0).1 q1).length := cv_nle (by omega) (by omega) c_136
                refine e_aload f_100_139 rfl rfl ?_
                refine e_getf f_100_141 z3.1 rfl rfl ?_
                refine e_iload_n f_100_144 rfl rfl ?_
                refine e_iaload_p (xs := unL j (cs.getD k ct0).1 q1) f_100_145 z3.2.2.2.2.2.2.2 (d := 0) (by first | omega | (simp only [List.length_set]; omega)) rfl ?_
                show px_to 100 146 [some (.ref (17)), some (.int (nI k)), some (.int (nI ks)), some (.int (nI kn)), some (.ref (S + 9 * k + 6)), some (.int (nI ((schU (evCnt false (cs.getD k ct0).1) (evCnt true (cs.getD k ct0).1) ks).length))), none] [.int (nI ((unL j (cs.getD k ct0).1 q1).getD kn 0))] g1 _
                have hul2 := unL_lt (j := j) (ev := (cs.getD k ct0).1) (q := q1) (i := kn) (by omega)
                refine e_iload f_100_146 rfl rfl ?_
                refine e_icmp_ge f_100_148 rfl (fun c_148 => ?_) (fun c_148 => ?_)
                · skip
                  have c_148 : (schU (evCnt false (cs.getD k ct0).1) (evCnt true (cs.getD k ct0).1) ks).length ≤ (unL j (cs.getD k ct0).1 q1).getD kn 0 := cv_le (by omega) (by omega) c_148
                  refine e_bipush (v := (-3)) f_100_161 (by decide) rfl ?_
                  refine e_iret f_100_163 rfl (rfl) ?_
                  have g531 : hm386.2.2 258 = some (7, [.ref (259), .ref (260), .int (nI ((schU (evCnt false (cs.getD k ct0).1) (evCnt true (cs.getD k ct0).1) 3).length)), .int (nI (evCnt false (cs.getD k ct0).1)), .int (nI (evCnt true (cs.getD k ct0).1))]) := fi_at g376 fa387 (by omega)
                  have g532 : g1.2.2 258 = some (7, [.ref (259), .ref (260), .int (nI ((schU (evCnt false (cs.getD k ct0).1) (evCnt true (cs.getD k ct0).1) 3).length)), .int (nI (evCnt false (cs.getD k ct0).1)), .int (nI (evCnt true (cs.getD k ct0).1))]) := fi_at g531 fb388 (by omega)
                  have g533 : px_pa hm386 259 50 266 vN (schU (evCnt false (cs.getD k ct0).1) (evCnt true (cs.getD k ct0).1) 3) := pa_fi g380 fa387 (by omega)
                  have g534 : px_pa g1 259 50 266 vN (schU (evCnt false (cs.getD k ct0).1) (evCnt true (cs.getD k ct0).1) 3) := pa_fi g533 fb388 (by omega)
                  have g535 : px_pa hm347 260 50 4 vN (schE (evCnt false (cs.getD k ct0).1) (evCnt true (cs.getD k ct0).1)) := pa_fi g37 fa348 (by omega)
                  have g536 : px_pa hm351 260 50 4 vN (schE (evCnt false (cs.getD k ct0).1) (evCnt true (cs.getD k ct0).1)) := pa_fi g535 fa352 (by omega)
                  have g537 : px_pa hm355 260 50 4 vN (schE (evCnt false (cs.getD k ct0).1) (evCnt true (cs.getD k ct0).1)) := pa_fi g536 fa356 (by omega)
                  have g538 : px_pa h339 260 50 4 vN (schE (evCnt false (cs.getD k ct0).1) (evCnt true (cs.getD k ct0).1)) := pa_fi g537 fb359 (by omega)
                  have g539 : px_pa hm386 260 50 4 vN (schE (evCnt false (cs.getD k ct0).1) (evCnt true (cs.getD k ct0).1)) := pa_fi g538 fa387 (by omega)
                  have g540 : px_pa g1 260 50 4 vN (schE (evCnt false (cs.getD k ct0).1) (evCnt true (cs.getD k ct0).1)) := pa_fi g539 fb388 (by omega)
                  have g541 : pSc g1 := ⟨_, _, _, _, _, g532, g534, g540, rfl, (sc_self hab)⟩
                  have g542 : pCsx hm347 S cs k := pCsx_fi g42 fa348 (by omega)
                  have g543 : pCsx hm351 S cs k := pCsx_fi g542 fa352 (by omega)
                  have g544 : pCsx hm355 S cs k := pCsx_fi g543 fa356 (by omega)
                  have g545 : pCsx h339 S cs k := pCsx_fi g544 fb359 (by omega)
                  have g546 : pCsx hm386 S cs k := pCsx_fi g545 fa387 (by omega)
                  have g547 : pCsx g1 S cs k := pCsx_fi g546 fb388 (by omega)
                  have g548 : pCs g1 S (cs.set k ((cs.getD k ct0).1, (cs.getD k ct0).2.1, (cs.getD k ct0).2.2.1, (cs.getD k ct0).2.2.2.1, (cs.getD k ct0).2.2.2.2.1, q1, unL j (cs.getD k ct0).1 q1)) := pCs_in g547 (t := ((cs.getD k ct0).1, (cs.getD k ct0).2.1, (cs.getD k ct0).2.2.1, (cs.getD k ct0).2.2.2.1, (cs.getD k ct0).2.2.2.2.1, q1, unL j (cs.getD k ct0).1 q1)) z3
                  have g549 : hm386.2.2 S = some (8, [.ref (S + 1), .ref (S + 5), .int (nI cs.length)]) := fi_at g368 fa387 (by omega)
                  have g550 : g1.2.2 S = some (8, [.ref (S + 1), .ref (S + 5), .int (nI cs.length)]) := fi_at g549 fb388 (by omega)
                  have g551 : g1.2.2 S = some (8, [.ref (S + 1), .ref (S + 5), .int (nI ((cs.set k ((cs.getD k ct0).1, (cs.getD k ct0).2.1, (cs.getD k ct0).2.2.1, (cs.getD k ct0).2.2.2.1, (cs.getD k ct0).2.2.2.2.1, q1, unL j (cs.getD k ct0).1 q1)).length))]) := by rw [List.length_set]; exact g550
                  have okt : okK j ((cs.getD k ct0).1, (cs.getD k ct0).2.1, (cs.getD k ct0).2.2.1, (cs.getD k ct0).2.2.2.1, (cs.getD k ct0).2.2.2.2.1, q1, unL j (cs.getD k ct0).1 q1) := ⟨hct.1, (show q1 ≤ (schU (evCnt false (cs.getD k ct0).1) (evCnt true (cs.getD k ct0).1) 3).length by omega), rfl, hct.2.2.2⟩
                  have g552 : pRows hm386 265 96 (rsort (plO j ((cs.getD k ct0).1)).2.1) := pRows_fi g344 fa387 (by omega)
                  have g553 : pRows g1 265 96 (rsort (plO j ((cs.getD k ct0).1)).2.1) := pRows_fi g552 fb388 (by omega)
                  have g554 : pRwA g1 265 := ⟨_, g553⟩
                  have ok1 := okJT_wo (wo2 := wo1) (x2 := x1) ok (fun c hc e => absurd (hwo1.symm.trans e).symm (nI_m3 (by omega)))
                  have ok2 := okJT_set ok1 hk okt rfl
                  have hfo := fail_of (j := j) (ev := (cs.getD k ct0).1) (s := ks) (k := kn) (q := q1) (by show (schU (evCnt false (cs.getD k ct0).1) (evCnt true (cs.getD k ct0).1) ks).length ≤ _ ∨ _; omega)
                  have g555 : hm386.2.2 17 = some (11, [.ref (18), .int (nI tx.length), .ref (S), .ref (D), .ref (175), .ref (177), .ref (249), .ref (254), .ref (256), .ref (258), .ref (261), .ref (265), .int (bI ((plO j ((cs.getD k ct0).1)).2.2.1.isSome)), .ref (267), .int (bI kk), .ref (268), .int (bI ck)]) := fi_at g345 fa387 (by omega)
                  have g556 : g1.2.2 17 = some (11, [.ref (18), .int (nI tx.length), .ref (S), .ref (D), .ref (175), .ref (177), .ref (249), .ref (254), .ref (256), .ref (258), .ref (261), .ref (265), .int (bI ((plO j ((cs.getD k ct0).1)).2.2.1.isSome)), .ref (267), .int (bI kk), .ref (268), .int (bI ck)]) := fi_at g555 fb388 (by omega)
                  have g557 : px_pa h32 18 52 500 vN tx := pa_fi g2 fx38 (by omega)
                  have g558 : px_pa hm347 18 52 500 vN tx := pa_fi g557 fa348 (by omega)
                  have g559 : px_pa hm351 18 52 500 vN tx := pa_fi g558 fa352 (by omega)
                  have g560 : px_pa hm355 18 52 500 vN tx := pa_fi g559 fa356 (by omega)
                  have g561 : px_pa h339 18 52 500 vN tx := pa_fi g560 fb359 (by omega)
                  have g562 : px_pa hm386 18 52 500 vN tx := pa_fi g561 fa387 (by omega)
                  have g563 : px_pa g1 18 52 500 vN tx := pa_fi g562 fb388 (by omega)
                  have g564 : pJob hm386 (S + 1) j := pJob_fi g372 fa387 (by omega)
                  have g565 : pJob g1 (S + 1) j := pJob_fi g564 fb388 (by omega)
                  have g566 : px_rs hm347 (S + 5) 56 8 (fun k => S + 9 * k + 6) := rs_fi g46 fa348 (by omega)
                  have g567 : px_rs hm351 (S + 5) 56 8 (fun k => S + 9 * k + 6) := rs_fi g566 fa352 (by omega)
                  have g568 : px_rs hm355 (S + 5) 56 8 (fun k => S + 9 * k + 6) := rs_fi g567 fa356 (by omega)
                  have g569 : px_rs h339 (S + 5) 56 8 (fun k => S + 9 * k + 6) := rs_fi g568 fb359 (by omega)
                  have g570 : px_rs hm386 (S + 5) 56 8 (fun k => S + 9 * k + 6) := rs_fi g569 fa387 (by omega)
                  have g571 : px_rs g1 (S + 5) 56 8 (fun k => S + 9 * k + 6) := rs_fi g570 fb388 (by omega)
                  have g572 : pDr h32 D := pDr_fi g7 fx38 (by omega)
                  have g573 : pDr hm347 D := pDr_fi g572 fa348 (by omega)
                  have g574 : pDr hm351 D := pDr_fi g573 fa352 (by omega)
                  have g575 : pDr hm355 D := pDr_fi g574 fa356 (by omega)
                  have g576 : pDr h339 D := pDr_fi g575 fb359 (by omega)
                  have g577 : pDr hm386 D := pDr_fi g576 fa387 (by omega)
                  have g578 : pDr g1 D := pDr_fi g577 fb388 (by omega)
                  have g579 : pRA h32 := pRA_fi g8 fx38 (by omega)
                  have g580 : pRA hm347 := pRA_fi g579 fa348 (by omega)
                  have g581 : pRA hm351 := pRA_fi g580 fa352 (by omega)
                  have g582 : pRA hm355 := pRA_fi g581 fa356 (by omega)
                  have g583 : pRA h339 := pRA_fi g582 fb359 (by omega)
                  have g584 : pRA hm386 := pRA_fi g583 fa387 (by omega)
                  have g585 : pRA g1 := pRA_fi g584 fb388 (by omega)
                  have g586 : pOrA h32 256 := pOrA_fi g12 fx38 (by omega)
                  have g587 : pOrA hm347 256 := pOrA_fi g586 fa348 (by omega)
                  have g588 : pOrA hm351 256 := pOrA_fi g587 fa352 (by omega)
                  have g589 : pOrA hm355 256 := pOrA_fi g588 fa356 (by omega)
                  have g590 : pOrA h339 256 := pOrA_fi g589 fb359 (by omega)
                  have g591 : pOrA hm386 256 := pOrA_fi g590 fa387 (by omega)
                  have g592 : pOrA g1 256 := pOrA_fi g591 fb388 (by omega)
                  have g593 : pJA h32 261 := pJA_fi g14 fx38 (by omega)
                  have g594 : pJA hm347 261 := pJA_fi g593 fa348 (by omega)
                  have g595 : pJA hm351 261 := pJA_fi g594 fa352 (by omega)
                  have g596 : pJA hm355 261 := pJA_fi g595 fa356 (by omega)
                  have g597 : pJA h339 261 := pJA_fi g596 fb359 (by omega)
                  have g598 : pJA hm386 261 := pJA_fi g597 fa387 (by omega)
                  have g599 : pJA g1 261 := pJA_fi g598 fb388 (by omega)
                  have g600 : px_pa h32 267 50 30 Value.int kl := pa_fi g16 fx38 (by omega)
                  have g601 : px_pa hm347 267 50 30 Value.int kl := pa_fi g600 fa348 (by omega)
                  have g602 : px_pa hm351 267 50 30 Value.int kl := pa_fi g601 fa352 (by omega)
                  have g603 : px_pa hm355 267 50 30 Value.int kl := pa_fi g602 fa356 (by omega)
                  have g604 : px_pa h339 267 50 30 Value.int kl := pa_fi g603 fb359 (by omega)
                  have g605 : px_pa hm386 267 50 30 Value.int kl := pa_fi g604 fa387 (by omega)
                  have g606 : px_pa g1 267 50 30 Value.int kl := pa_fi g605 fb388 (by omega)
                  have g607 : px_pa h32 268 50 30 Value.int cv := pa_fi g17 fx38 (by omega)
                  have g608 : px_pa hm347 268 50 30 Value.int cv := pa_fi g607 fa348 (by omega)
                  have g609 : px_pa hm351 268 50 30 Value.int cv := pa_fi g608 fa352 (by omega)
                  have g610 : px_pa hm355 268 50 30 Value.int cv := pa_fi g609 fa356 (by omega)
                  have g611 : px_pa h339 268 50 30 Value.int cv := pa_fi g610 fb359 (by omega)
                  have g612 : px_pa hm386 268 50 30 Value.int cv := pa_fi g611 fa387 (by omega)
                  have g613 : px_pa g1 268 50 30 Value.int cv := pa_fi g612 fb388 (by omega)
                  have g614 : pStr h32 1 ([60, 61, 62]) := pStr_fi g18 fx38 (by omega)
                  have g615 : pStr hm347 1 ([60, 61, 62]) := pStr_fi g614 fa348 (by omega)
                  have g616 : pStr hm351 1 ([60, 61, 62]) := pStr_fi g615 fa352 (by omega)
                  have g617 : pStr hm355 1 ([60, 61, 62]) := pStr_fi g616 fa356 (by omega)
                  have g618 : pStr h339 1 ([60, 61, 62]) := pStr_fi g617 fb359 (by omega)
                  have g619 : pStr hm386 1 ([60, 61, 62]) := pStr_fi g618 fa387 (by omega)
                  have g620 : pStr g1 1 ([60, 61, 62]) := pStr_fi g619 fb388 (by omega)
                  have g621 : pStr h32 2 ([43, 45, 42, 47]) := pStr_fi g19 fx38 (by omega)
                  have g622 : pStr hm347 2 ([43, 45, 42, 47]) := pStr_fi g621 fa348 (by omega)
                  have g623 : pStr hm351 2 ([43, 45, 42, 47]) := pStr_fi g622 fa352 (by omega)
                  have g624 : pStr hm355 2 ([43, 45, 42, 47]) := pStr_fi g623 fa356 (by omega)
                  have g625 : pStr h339 2 ([43, 45, 42, 47]) := pStr_fi g624 fb359 (by omega)
                  have g626 : pStr hm386 2 ([43, 45, 42, 47]) := pStr_fi g625 fa387 (by omega)
                  have g627 : pStr g1 2 ([43, 45, 42, 47]) := pStr_fi g626 fb388 (by omega)
                  have g628 : pStr h32 3 stepSigns := pStr_fi g20 fx38 (by omega)
                  have g629 : pStr hm347 3 stepSigns := pStr_fi g628 fa348 (by omega)
                  have g630 : pStr hm351 3 stepSigns := pStr_fi g629 fa352 (by omega)
                  have g631 : pStr hm355 3 stepSigns := pStr_fi g630 fa356 (by omega)
                  have g632 : pStr h339 3 stepSigns := pStr_fi g631 fb359 (by omega)
                  have g633 : pStr hm386 3 stepSigns := pStr_fi g632 fa387 (by omega)
                  have g634 : pStr g1 3 stepSigns := pStr_fi g633 fb388 (by omega)
                  have g635 : pStr h32 4 ([60, 61, 62]) := pStr_fi g21 fx38 (by omega)
                  have g636 : pStr hm347 4 ([60, 61, 62]) := pStr_fi g635 fa348 (by omega)
                  have g637 : pStr hm351 4 ([60, 61, 62]) := pStr_fi g636 fa352 (by omega)
                  have g638 : pStr hm355 4 ([60, 61, 62]) := pStr_fi g637 fa356 (by omega)
                  have g639 : pStr h339 4 ([60, 61, 62]) := pStr_fi g638 fb359 (by omega)
                  have g640 : pStr hm386 4 ([60, 61, 62]) := pStr_fi g639 fa387 (by omega)
                  have g641 : pStr g1 4 ([60, 61, 62]) := pStr_fi g640 fb388 (by omega)
                  have g642 : pStr h32 5 ([43, 45, 42, 47]) := pStr_fi g22 fx38 (by omega)
                  have g643 : pStr hm347 5 ([43, 45, 42, 47]) := pStr_fi g642 fa348 (by omega)
                  have g644 : pStr hm351 5 ([43, 45, 42, 47]) := pStr_fi g643 fa352 (by omega)
                  have g645 : pStr hm355 5 ([43, 45, 42, 47]) := pStr_fi g644 fa356 (by omega)
                  have g646 : pStr h339 5 ([43, 45, 42, 47]) := pStr_fi g645 fb359 (by omega)
                  have g647 : pStr hm386 5 ([43, 45, 42, 47]) := pStr_fi g646 fa387 (by omega)
                  have g648 : pStr g1 5 ([43, 45, 42, 47]) := pStr_fi g647 fb388 (by omega)
                  have g649 : pStr h32 6 evSigns := pStr_fi g23 fx38 (by omega)
                  have g650 : pStr hm347 6 evSigns := pStr_fi g649 fa348 (by omega)
                  have g651 : pStr hm351 6 evSigns := pStr_fi g650 fa352 (by omega)
                  have g652 : pStr hm355 6 evSigns := pStr_fi g651 fa356 (by omega)
                  have g653 : pStr h339 6 evSigns := pStr_fi g652 fb359 (by omega)
                  have g654 : pStr hm386 6 evSigns := pStr_fi g653 fa387 (by omega)
                  have g655 : pStr g1 6 evSigns := pStr_fi g654 fb388 (by omega)
                  have g656 : pStr h32 7 keyL := pStr_fi g24 fx38 (by omega)
                  have g657 : pStr hm347 7 keyL := pStr_fi g656 fa348 (by omega)
                  have g658 : pStr hm351 7 keyL := pStr_fi g657 fa352 (by omega)
                  have g659 : pStr hm355 7 keyL := pStr_fi g658 fa356 (by omega)
                  have g660 : pStr h339 7 keyL := pStr_fi g659 fb359 (by omega)
                  have g661 : pStr hm386 7 keyL := pStr_fi g660 fa387 (by omega)
                  have g662 : pStr g1 7 keyL := pStr_fi g661 fb388 (by omega)
                  have g663 : pStr h32 8 ordL := pStr_fi g25 fx38 (by omega)
                  have g664 : pStr hm347 8 ordL := pStr_fi g663 fa348 (by omega)
                  have g665 : pStr hm351 8 ordL := pStr_fi g664 fa352 (by omega)
                  have g666 : pStr hm355 8 ordL := pStr_fi g665 fa356 (by omega)
                  have g667 : pStr h339 8 ordL := pStr_fi g666 fb359 (by omega)
                  have g668 : pStr hm386 8 ordL := pStr_fi g667 fa387 (by omega)
                  have g669 : pStr g1 8 ordL := pStr_fi g668 fb388 (by omega)
                  have g670 : pJT g1 tx j (cs.map c3of) := ⟨(cs.set k ((cs.getD k ct0).1, (cs.getD k ct0).2.1, (cs.getD k ct0).2.2.1, (cs.getD k ct0).2.2.2.1, (cs.getD k ct0).2.2.2.2.1, q1, unL j (cs.getD k ct0).1 q1)), S, D, ((plO j (cs.getD k ct0).1).2.2.1.isSome), kk, ck, wo1, x1, kl, cv, g556, g563, g551, g565, g571, g548, g578, g585, z0, z2, z1, g592, g541, g599, g554, g606, g613, g620, g627, g634, g641, g648, g655, g662, g669, (map_set_c3 hk rfl), ok2⟩
                  exact ⟨congrArg (fun z => some (Value.int z)) (show (-3) = _ from by unfold aFail; rw [if_pos (hasC_nI (by omega) (by omega)), onC_k h8m hkm, map_c3 hk, nN_nI (show ks < 2 ^ 31 by omega)]; show _ = (if _ < _ then _ else failO j (cs.getD k ct0).1 ks _); rw [if_neg (fun z => Int32.not_le.mpr z (nI_ge0 hkn)), nN_nI hkn, hfo, if_neg (fun z => by have z2 : _ < (schU (evCnt false (cs.getD k ct0).1) (evCnt true (cs.getD k ct0).1) ks).length := z.2; omega)]), g670, fr390⟩
                · skip
                  have c_148 : (unL j (cs.getD k ct0).1 q1).getD kn 0 < (schU (evCnt false (cs.getD k ct0).1) (evCnt true (cs.getD k ct0).1) ks).length := cv_nle (by omega) (by omega) c_148
                  refine e_aload f_100_151 rfl rfl ?_
                  refine e_getf f_100_153 z3.1 rfl rfl ?_
                  refine e_iload_n f_100_156 rfl rfl ?_
                  refine e_iaload_p (xs := unL j (cs.getD k ct0).1 q1) f_100_157 z3.2.2.2.2.2.2.2 (d := 0) (by first | omega | (simp only [List.length_set]; omega)) rfl ?_
                  show px_to 100 158 [some (.ref (17)), some (.int (nI k)), some (.int (nI ks)), some (.int (nI kn)), some (.ref (S + 9 * k + 6)), some (.int (nI ((schU (evCnt false (cs.getD k ct0).1) (evCnt true (cs.getD k ct0).1) ks).length))), none] [.int (nI ((unL j (cs.getD k ct0).1 q1).getD kn 0))] g1 _
                  refine e_goto f_100_158 ?_
                  refine e_iret f_100_163 rfl (rfl) ?_
                  have g671 : hm386.2.2 258 = some (7, [.ref (259), .ref (260), .int (nI ((schU (evCnt false (cs.getD k ct0).1) (evCnt true (cs.getD k ct0).1) 3).length)), .int (nI (evCnt false (cs.getD k ct0).1)), .int (nI (evCnt true (cs.getD k ct0).1))]) := fi_at g376 fa387 (by omega)
                  have g672 : g1.2.2 258 = some (7, [.ref (259), .ref (260), .int (nI ((schU (evCnt false (cs.getD k ct0).1) (evCnt true (cs.getD k ct0).1) 3).length)), .int (nI (evCnt false (cs.getD k ct0).1)), .int (nI (evCnt true (cs.getD k ct0).1))]) := fi_at g671 fb388 (by omega)
                  have g673 : px_pa hm386 259 50 266 vN (schU (evCnt false (cs.getD k ct0).1) (evCnt true (cs.getD k ct0).1) 3) := pa_fi g380 fa387 (by omega)
                  have g674 : px_pa g1 259 50 266 vN (schU (evCnt false (cs.getD k ct0).1) (evCnt true (cs.getD k ct0).1) 3) := pa_fi g673 fb388 (by omega)
                  have g675 : px_pa hm347 260 50 4 vN (schE (evCnt false (cs.getD k ct0).1) (evCnt true (cs.getD k ct0).1)) := pa_fi g37 fa348 (by omega)
                  have g676 : px_pa hm351 260 50 4 vN (schE (evCnt false (cs.getD k ct0).1) (evCnt true (cs.getD k ct0).1)) := pa_fi g675 fa352 (by omega)
                  have g677 : px_pa hm355 260 50 4 vN (schE (evCnt false (cs.getD k ct0).1) (evCnt true (cs.getD k ct0).1)) := pa_fi g676 fa356 (by omega)
                  have g678 : px_pa h339 260 50 4 vN (schE (evCnt false (cs.getD k ct0).1) (evCnt true (cs.getD k ct0).1)) := pa_fi g677 fb359 (by omega)
                  have g679 : px_pa hm386 260 50 4 vN (schE (evCnt false (cs.getD k ct0).1) (evCnt true (cs.getD k ct0).1)) := pa_fi g678 fa387 (by omega)
                  have g680 : px_pa g1 260 50 4 vN (schE (evCnt false (cs.getD k ct0).1) (evCnt true (cs.getD k ct0).1)) := pa_fi g679 fb388 (by omega)
                  have g681 : pSc g1 := ⟨_, _, _, _, _, g672, g674, g680, rfl, (sc_self hab)⟩
                  have g682 : pCsx hm347 S cs k := pCsx_fi g42 fa348 (by omega)
                  have g683 : pCsx hm351 S cs k := pCsx_fi g682 fa352 (by omega)
                  have g684 : pCsx hm355 S cs k := pCsx_fi g683 fa356 (by omega)
                  have g685 : pCsx h339 S cs k := pCsx_fi g684 fb359 (by omega)
                  have g686 : pCsx hm386 S cs k := pCsx_fi g685 fa387 (by omega)
                  have g687 : pCsx g1 S cs k := pCsx_fi g686 fb388 (by omega)
                  have g688 : pCs g1 S (cs.set k ((cs.getD k ct0).1, (cs.getD k ct0).2.1, (cs.getD k ct0).2.2.1, (cs.getD k ct0).2.2.2.1, (cs.getD k ct0).2.2.2.2.1, q1, unL j (cs.getD k ct0).1 q1)) := pCs_in g687 (t := ((cs.getD k ct0).1, (cs.getD k ct0).2.1, (cs.getD k ct0).2.2.1, (cs.getD k ct0).2.2.2.1, (cs.getD k ct0).2.2.2.2.1, q1, unL j (cs.getD k ct0).1 q1)) z3
                  have g689 : hm386.2.2 S = some (8, [.ref (S + 1), .ref (S + 5), .int (nI cs.length)]) := fi_at g368 fa387 (by omega)
                  have g690 : g1.2.2 S = some (8, [.ref (S + 1), .ref (S + 5), .int (nI cs.length)]) := fi_at g689 fb388 (by omega)
                  have g691 : g1.2.2 S = some (8, [.ref (S + 1), .ref (S + 5), .int (nI ((cs.set k ((cs.getD k ct0).1, (cs.getD k ct0).2.1, (cs.getD k ct0).2.2.1, (cs.getD k ct0).2.2.2.1, (cs.getD k ct0).2.2.2.2.1, q1, unL j (cs.getD k ct0).1 q1)).length))]) := by rw [List.length_set]; exact g690
                  have okt : okK j ((cs.getD k ct0).1, (cs.getD k ct0).2.1, (cs.getD k ct0).2.2.1, (cs.getD k ct0).2.2.2.1, (cs.getD k ct0).2.2.2.2.1, q1, unL j (cs.getD k ct0).1 q1) := ⟨hct.1, (show q1 ≤ (schU (evCnt false (cs.getD k ct0).1) (evCnt true (cs.getD k ct0).1) 3).length by omega), rfl, hct.2.2.2⟩
                  have g692 : pRows hm386 265 96 (rsort (plO j ((cs.getD k ct0).1)).2.1) := pRows_fi g344 fa387 (by omega)
                  have g693 : pRows g1 265 96 (rsort (plO j ((cs.getD k ct0).1)).2.1) := pRows_fi g692 fb388 (by omega)
                  have g694 : pRwA g1 265 := ⟨_, g693⟩
                  have ok1 := okJT_wo (wo2 := wo1) (x2 := x1) ok (fun c hc e => absurd (hwo1.symm.trans e).symm (nI_m3 (by omega)))
                  have ok2 := okJT_set ok1 hk okt rfl
                  have hfo := fail_of (j := j) (ev := (cs.getD k ct0).1) (s := ks) (k := kn) (q := q1) (by show (schU (evCnt false (cs.getD k ct0).1) (evCnt true (cs.getD k ct0).1) ks).length ≤ _ ∨ _; omega)
                  have g695 : hm386.2.2 17 = some (11, [.ref (18), .int (nI tx.length), .ref (S), .ref (D), .ref (175), .ref (177), .ref (249), .ref (254), .ref (256), .ref (258), .ref (261), .ref (265), .int (bI ((plO j ((cs.getD k ct0).1)).2.2.1.isSome)), .ref (267), .int (bI kk), .ref (268), .int (bI ck)]) := fi_at g345 fa387 (by omega)
                  have g696 : g1.2.2 17 = some (11, [.ref (18), .int (nI tx.length), .ref (S), .ref (D), .ref (175), .ref (177), .ref (249), .ref (254), .ref (256), .ref (258), .ref (261), .ref (265), .int (bI ((plO j ((cs.getD k ct0).1)).2.2.1.isSome)), .ref (267), .int (bI kk), .ref (268), .int (bI ck)]) := fi_at g695 fb388 (by omega)
                  have g697 : px_pa h32 18 52 500 vN tx := pa_fi g2 fx38 (by omega)
                  have g698 : px_pa hm347 18 52 500 vN tx := pa_fi g697 fa348 (by omega)
                  have g699 : px_pa hm351 18 52 500 vN tx := pa_fi g698 fa352 (by omega)
                  have g700 : px_pa hm355 18 52 500 vN tx := pa_fi g699 fa356 (by omega)
                  have g701 : px_pa h339 18 52 500 vN tx := pa_fi g700 fb359 (by omega)
                  have g702 : px_pa hm386 18 52 500 vN tx := pa_fi g701 fa387 (by omega)
                  have g703 : px_pa g1 18 52 500 vN tx := pa_fi g702 fb388 (by omega)
                  have g704 : pJob hm386 (S + 1) j := pJob_fi g372 fa387 (by omega)
                  have g705 : pJob g1 (S + 1) j := pJob_fi g704 fb388 (by omega)
                  have g706 : px_rs hm347 (S + 5) 56 8 (fun k => S + 9 * k + 6) := rs_fi g46 fa348 (by omega)
                  have g707 : px_rs hm351 (S + 5) 56 8 (fun k => S + 9 * k + 6) := rs_fi g706 fa352 (by omega)
                  have g708 : px_rs hm355 (S + 5) 56 8 (fun k => S + 9 * k + 6) := rs_fi g707 fa356 (by omega)
                  have g709 : px_rs h339 (S + 5) 56 8 (fun k => S + 9 * k + 6) := rs_fi g708 fb359 (by omega)
                  have g710 : px_rs hm386 (S + 5) 56 8 (fun k => S + 9 * k + 6) := rs_fi g709 fa387 (by omega)
                  have g711 : px_rs g1 (S + 5) 56 8 (fun k => S + 9 * k + 6) := rs_fi g710 fb388 (by omega)
                  have g712 : pDr h32 D := pDr_fi g7 fx38 (by omega)
                  have g713 : pDr hm347 D := pDr_fi g712 fa348 (by omega)
                  have g714 : pDr hm351 D := pDr_fi g713 fa352 (by omega)
                  have g715 : pDr hm355 D := pDr_fi g714 fa356 (by omega)
                  have g716 : pDr h339 D := pDr_fi g715 fb359 (by omega)
                  have g717 : pDr hm386 D := pDr_fi g716 fa387 (by omega)
                  have g718 : pDr g1 D := pDr_fi g717 fb388 (by omega)
                  have g719 : pRA h32 := pRA_fi g8 fx38 (by omega)
                  have g720 : pRA hm347 := pRA_fi g719 fa348 (by omega)
                  have g721 : pRA hm351 := pRA_fi g720 fa352 (by omega)
                  have g722 : pRA hm355 := pRA_fi g721 fa356 (by omega)
                  have g723 : pRA h339 := pRA_fi g722 fb359 (by omega)
                  have g724 : pRA hm386 := pRA_fi g723 fa387 (by omega)
                  have g725 : pRA g1 := pRA_fi g724 fb388 (by omega)
                  have g726 : pOrA h32 256 := pOrA_fi g12 fx38 (by omega)
                  have g727 : pOrA hm347 256 := pOrA_fi g726 fa348 (by omega)
                  have g728 : pOrA hm351 256 := pOrA_fi g727 fa352 (by omega)
                  have g729 : pOrA hm355 256 := pOrA_fi g728 fa356 (by omega)
                  have g730 : pOrA h339 256 := pOrA_fi g729 fb359 (by omega)
                  have g731 : pOrA hm386 256 := pOrA_fi g730 fa387 (by omega)
                  have g732 : pOrA g1 256 := pOrA_fi g731 fb388 (by omega)
                  have g733 : pJA h32 261 := pJA_fi g14 fx38 (by omega)
                  have g734 : pJA hm347 261 := pJA_fi g733 fa348 (by omega)
                  have g735 : pJA hm351 261 := pJA_fi g734 fa352 (by omega)
                  have g736 : pJA hm355 261 := pJA_fi g735 fa356 (by omega)
                  have g737 : pJA h339 261 := pJA_fi g736 fb359 (by omega)
                  have g738 : pJA hm386 261 := pJA_fi g737 fa387 (by omega)
                  have g739 : pJA g1 261 := pJA_fi g738 fb388 (by omega)
                  have g740 : px_pa h32 267 50 30 Value.int kl := pa_fi g16 fx38 (by omega)
                  have g741 : px_pa hm347 267 50 30 Value.int kl := pa_fi g740 fa348 (by omega)
                  have g742 : px_pa hm351 267 50 30 Value.int kl := pa_fi g741 fa352 (by omega)
                  have g743 : px_pa hm355 267 50 30 Value.int kl := pa_fi g742 fa356 (by omega)
                  have g744 : px_pa h339 267 50 30 Value.int kl := pa_fi g743 fb359 (by omega)
                  have g745 : px_pa hm386 267 50 30 Value.int kl := pa_fi g744 fa387 (by omega)
                  have g746 : px_pa g1 267 50 30 Value.int kl := pa_fi g745 fb388 (by omega)
                  have g747 : px_pa h32 268 50 30 Value.int cv := pa_fi g17 fx38 (by omega)
                  have g748 : px_pa hm347 268 50 30 Value.int cv := pa_fi g747 fa348 (by omega)
                  have g749 : px_pa hm351 268 50 30 Value.int cv := pa_fi g748 fa352 (by omega)
                  have g750 : px_pa hm355 268 50 30 Value.int cv := pa_fi g749 fa356 (by omega)
                  have g751 : px_pa h339 268 50 30 Value.int cv := pa_fi g750 fb359 (by omega)
                  have g752 : px_pa hm386 268 50 30 Value.int cv := pa_fi g751 fa387 (by omega)
                  have g753 : px_pa g1 268 50 30 Value.int cv := pa_fi g752 fb388 (by omega)
                  have g754 : pStr h32 1 ([60, 61, 62]) := pStr_fi g18 fx38 (by omega)
                  have g755 : pStr hm347 1 ([60, 61, 62]) := pStr_fi g754 fa348 (by omega)
                  have g756 : pStr hm351 1 ([60, 61, 62]) := pStr_fi g755 fa352 (by omega)
                  have g757 : pStr hm355 1 ([60, 61, 62]) := pStr_fi g756 fa356 (by omega)
                  have g758 : pStr h339 1 ([60, 61, 62]) := pStr_fi g757 fb359 (by omega)
                  have g759 : pStr hm386 1 ([60, 61, 62]) := pStr_fi g758 fa387 (by omega)
                  have g760 : pStr g1 1 ([60, 61, 62]) := pStr_fi g759 fb388 (by omega)
                  have g761 : pStr h32 2 ([43, 45, 42, 47]) := pStr_fi g19 fx38 (by omega)
                  have g762 : pStr hm347 2 ([43, 45, 42, 47]) := pStr_fi g761 fa348 (by omega)
                  have g763 : pStr hm351 2 ([43, 45, 42, 47]) := pStr_fi g762 fa352 (by omega)
                  have g764 : pStr hm355 2 ([43, 45, 42, 47]) := pStr_fi g763 fa356 (by omega)
                  have g765 : pStr h339 2 ([43, 45, 42, 47]) := pStr_fi g764 fb359 (by omega)
                  have g766 : pStr hm386 2 ([43, 45, 42, 47]) := pStr_fi g765 fa387 (by omega)
                  have g767 : pStr g1 2 ([43, 45, 42, 47]) := pStr_fi g766 fb388 (by omega)
                  have g768 : pStr h32 3 stepSigns := pStr_fi g20 fx38 (by omega)
                  have g769 : pStr hm347 3 stepSigns := pStr_fi g768 fa348 (by omega)
                  have g770 : pStr hm351 3 stepSigns := pStr_fi g769 fa352 (by omega)
                  have g771 : pStr hm355 3 stepSigns := pStr_fi g770 fa356 (by omega)
                  have g772 : pStr h339 3 stepSigns := pStr_fi g771 fb359 (by omega)
                  have g773 : pStr hm386 3 stepSigns := pStr_fi g772 fa387 (by omega)
                  have g774 : pStr g1 3 stepSigns := pStr_fi g773 fb388 (by omega)
                  have g775 : pStr h32 4 ([60, 61, 62]) := pStr_fi g21 fx38 (by omega)
                  have g776 : pStr hm347 4 ([60, 61, 62]) := pStr_fi g775 fa348 (by omega)
                  have g777 : pStr hm351 4 ([60, 61, 62]) := pStr_fi g776 fa352 (by omega)
                  have g778 : pStr hm355 4 ([60, 61, 62]) := pStr_fi g777 fa356 (by omega)
                  have g779 : pStr h339 4 ([60, 61, 62]) := pStr_fi g778 fb359 (by omega)
                  have g780 : pStr hm386 4 ([60, 61, 62]) := pStr_fi g779 fa387 (by omega)
                  have g781 : pStr g1 4 ([60, 61, 62]) := pStr_fi g780 fb388 (by omega)
                  have g782 : pStr h32 5 ([43, 45, 42, 47]) := pStr_fi g22 fx38 (by omega)
                  have g783 : pStr hm347 5 ([43, 45, 42, 47]) := pStr_fi g782 fa348 (by omega)
                  have g784 : pStr hm351 5 ([43, 45, 42, 47]) := pStr_fi g783 fa352 (by omega)
                  have g785 : pStr hm355 5 ([43, 45, 42, 47]) := pStr_fi g784 fa356 (by omega)
                  have g786 : pStr h339 5 ([43, 45, 42, 47]) := pStr_fi g785 fb359 (by omega)
                  have g787 : pStr hm386 5 ([43, 45, 42, 47]) := pStr_fi g786 fa387 (by omega)
                  have g788 : pStr g1 5 ([43, 45, 42, 47]) := pStr_fi g787 fb388 (by omega)
                  have g789 : pStr h32 6 evSigns := pStr_fi g23 fx38 (by omega)
                  have g790 : pStr hm347 6 evSigns := pStr_fi g789 fa348 (by omega)
                  have g791 : pStr hm351 6 evSigns := pStr_fi g790 fa352 (by omega)
                  have g792 : pStr hm355 6 evSigns := pStr_fi g791 fa356 (by omega)
                  have g793 : pStr h339 6 evSigns := pStr_fi g792 fb359 (by omega)
                  have g794 : pStr hm386 6 evSigns := pStr_fi g793 fa387 (by omega)
                  have g795 : pStr g1 6 evSigns := pStr_fi g794 fb388 (by omega)
                  have g796 : pStr h32 7 keyL := pStr_fi g24 fx38 (by omega)
                  have g797 : pStr hm347 7 keyL := pStr_fi g796 fa348 (by omega)
                  have g798 : pStr hm351 7 keyL := pStr_fi g797 fa352 (by omega)
                  have g799 : pStr hm355 7 keyL := pStr_fi g798 fa356 (by omega)
                  have g800 : pStr h339 7 keyL := pStr_fi g799 fb359 (by omega)
                  have g801 : pStr hm386 7 keyL := pStr_fi g800 fa387 (by omega)
                  have g802 : pStr g1 7 keyL := pStr_fi g801 fb388 (by omega)
                  have g803 : pStr h32 8 ordL := pStr_fi g25 fx38 (by omega)
                  have g804 : pStr hm347 8 ordL := pStr_fi g803 fa348 (by omega)
                  have g805 : pStr hm351 8 ordL := pStr_fi g804 fa352 (by omega)
                  have g806 : pStr hm355 8 ordL := pStr_fi g805 fa356 (by omega)
                  have g807 : pStr h339 8 ordL := pStr_fi g806 fb359 (by omega)
                  have g808 : pStr hm386 8 ordL := pStr_fi g807 fa387 (by omega)
                  have g809 : pStr g1 8 ordL := pStr_fi g808 fb388 (by omega)
                  have g810 : pJT g1 tx j (cs.map c3of) := ⟨(cs.set k ((cs.getD k ct0).1, (cs.getD k ct0).2.1, (cs.getD k ct0).2.2.1, (cs.getD k ct0).2.2.2.1, (cs.getD k ct0).2.2.2.2.1, q1, unL j (cs.getD k ct0).1 q1)), S, D, ((plO j (cs.getD k ct0).1).2.2.1.isSome), kk, ck, wo1, x1, kl, cv, g696, g703, g691, g705, g711, g688, g718, g725, z0, z2, z1, g732, g681, g739, g694, g746, g753, g760, g767, g774, g781, g788, g795, g802, g809, (map_set_c3 hk rfl), ok2⟩
                  exact ⟨congrArg (fun z => some (Value.int z)) (show nI ((unL j (cs.getD k ct0).1 q1).getD kn 0) = _ from by unfold aFail; rw [if_pos (hasC_nI (by omega) (by omega)), onC_k h8m hkm, map_c3 hk, nN_nI (show ks < 2 ^ 31 by omega)]; show _ = (if _ < _ then _ else failO j (cs.getD k ct0).1 ks _); rw [if_neg (fun z => Int32.not_le.mpr z (nI_ge0 hkn)), nN_nI hkn, hfo, if_pos ⟨by omega, show _ < (schU (evCnt false (cs.getD k ct0).1) (evCnt true (cs.getD k ct0).1) ks).length by omega⟩]), g810, fr390⟩
        · skip
          have c20 := Int32.not_le.mp c_20
          refine e_bipush (v := (-3)) f_100_23 (by decide) rfl ?_
          refine e_iret f_100_25 rfl (rfl) ?_
          have g811 : pJT h tx j (cs.map c3of) := ⟨cs, S, D, pz, kk, ck, wo, xr, kl, cv, g1, g2, g3, g4, g5, g6, g7, g8, g9, g10, g11, g12, g13, g14, g15, g16, g17, g18, g19, g20, g21, g22, g23, g24, g25, rfl, ok⟩
          exact ⟨congrArg (fun z => some (Value.int z)) (show (-3) = _ from by unfold aFail; rw [if_pos (hasC_nI (by omega) (by omega)), onC_k h8m hkm, map_c3 hk, nN_nI (show ks < 2 ^ 31 by omega)]; show _ = (if _ < _ then _ else failO j (cs.getD k ct0).1 ks _); rw [if_pos c20]), g811, fr0⟩
      · skip
        refine e_iconst (v := (-1)) f_100_17 (by decide) rfl ?_
        refine e_iret f_100_18 rfl (rfl) ?_
        have g812 : pJT h tx j (cs.map c3of) := ⟨cs, S, D, pz, kk, ck, wo, xr, kl, cv, g1, g2, g3, g4, g5, g6, g7, g8, g9, g10, g11, g12, g13, g14, g15, g16, g17, g18, g19, g20, g21, g22, g23, g24, g25, rfl, ok⟩
        exact ⟨congrArg (fun z => some (Value.int z)) (show (-1) = _ from by unfold aFail; rw [if_neg (by rw [rng_b (by omega) c_14]; decide)]), g812, fr0⟩
