theorem nI_sh : ∀ k, k < 32 → (nI k &&& 31) = nI k := by decide +kernel
theorem i_sm : ∀ k, k < 32 → (BitVec.ofNat 32 k).smod 32 = BitVec.ofNat 32 k := by decide +kernel
theorem shlN (x : Nat) {k : Nat} (hk : k < 32) : nI x <<< (nI k &&& 31) = nI (x * 2 ^ k) := by
  rw [nI_sh k hk]
  apply Int32.toBitVec_inj.mp
  rw [Int32.toBitVec_shiftLeft]
  show BitVec.ofNat 32 x <<< (BitVec.ofNat 32 k).smod 32 = BitVec.ofNat 32 (x * 2 ^ k)
  rw [i_sm k hk]
  apply BitVec.eq_of_toNat_eq
  rw [BitVec.shiftLeft_eq', BitVec.toNat_shiftLeft, BitVec.toNat_ofNat, BitVec.toNat_ofNat, BitVec.toNat_ofNat, Nat.mod_eq_of_lt (show k < 2 ^ 32 by omega), Nat.shiftLeft_eq, Nat.mul_mod, Nat.mod_mod, ← Nat.mul_mod]
theorem orN {x y k : Nat} (h : x < 2 ^ k) : nI x ||| nI (y * 2 ^ k) = nI (x + y * 2 ^ k) := by
  apply Int32.toBitVec_inj.mp
  rw [Int32.toBitVec_or]
  apply BitVec.eq_of_toNat_eq
  rw [BitVec.toNat_or]
  show (BitVec.ofNat 32 x).toNat ||| (BitVec.ofNat 32 (y * 2 ^ k)).toNat = (BitVec.ofNat 32 (x + y * 2 ^ k)).toNat
  rw [BitVec.toNat_ofNat, BitVec.toNat_ofNat, BitVec.toNat_ofNat, ← Nat.or_mod_two_pow, Nat.mul_comm y, Nat.or_comm, ← Nat.two_pow_add_eq_or_of_lt h, Nat.add_comm]
def ones (n : Nat) : Nat := 2 ^ n - 1
theorem ones_lt {n k : Nat} (h : n ≤ k) : ones n < 2 ^ k := by
  unfold ones
  have h1 : 2 ^ n ≤ 2 ^ k := Nat.pow_le_pow_right (by decide) h
  have h2 : 0 < 2 ^ n := Nat.two_pow_pos n
  omega
theorem ones_sh {n i k : Nat} (h : n + i ≤ k) : ones n * 2 ^ i < 2 ^ k := by
  have h1 : ones n < 2 ^ n := ones_lt (Nat.le_refl _)
  have h2 : ones n * 2 ^ i < 2 ^ n * 2 ^ i := Nat.mul_lt_mul_of_pos_right h1 (Nat.two_pow_pos i)
  rw [← Nat.pow_add] at h2
  exact Nat.lt_of_lt_of_le h2 (Nat.pow_le_pow_right (by decide) h)
def sadd (xs : List Nat) (v : Nat) : List Nat := if xs.length < 266 then xs ++ [v] else xs
theorem sadd_all : ∀ {l xs : List Nat}, xs.length + l.length ≤ 266 → l.foldl sadd xs = xs ++ l
  | [], xs, _ => by rw [List.foldl_nil, List.append_nil]
  | v :: r, xs, h => by
    rw [List.length_cons] at h
    rw [List.foldl_cons, sadd, if_pos (by omega), sadd_all (by rw [List.length_append, List.length_singleton]; omega), List.append_assoc]
    rfl
theorem range_drop {n i : Nat} (h : i < n) : (List.range n).drop i = i :: (List.range n).drop (i + 1) := by
  rw [List.drop_eq_getElem_cons (by rw [List.length_range]; exact h), List.getElem_range]
theorem range_nil {n i : Nat} (h : n ≤ i) : (List.range n).drop i = [] := List.drop_eq_nil_of_le (by rw [List.length_range]; exact h)
def g2a (b i : Nat) : Nat := ones b * 2 ^ (i + 1)
def g2b (a b j : Nat) : Nat := ones (j + 1) + ones (b - (j + 1)) * 2 ^ (j + 1 + a)
def g3a (a b i j : Nat) : Nat := ones (j + 1) * 2 ^ (i + 1) + ones (b - (j + 1)) * 2 ^ (a + (j + 1))
def g3b (b j i : Nat) : Nat := ones (j + 1) + ones (b - (j + 1)) * 2 ^ (j + 1 + (i + 1))
def f2a (a b i : Nat) : List Nat := if 0 < b then ((List.range (a - 1)).drop i).map (g2a b) else []
def f2b (a b i : Nat) : List Nat := if 0 < a then ((List.range (b - 1)).drop i).map (g2b a b) else []
def f3a (a b i : Nat) : List Nat := ((List.range (a - 1)).drop i).flatMap (fun i => (List.range (b - 1)).map (g3a a b i))
def f3b (a b j : Nat) : List Nat := ((List.range (b - 1)).drop j).flatMap (fun j => (List.range (a - 1)).map (g3b b j))
def sL0 (a b : Nat) : List Nat := if a = 0 ∨ b = 0 then [ones b] else []
def sL1 (a b : Nat) : List Nat := if 0 < a ∧ 0 < b then [ones b * 2 ^ a, ones b] else []
def sL2 (a b : Nat) : List Nat := f2a a b 0 ++ f2b a b 0
def sL3 (a b : Nat) : List Nat := f3a a b 0 ++ f3b a b 0
def schU (a b : Nat) : Nat → List Nat
  | 0 => sL0 a b
  | 1 => sL0 a b ++ sL1 a b
  | 2 => sL0 a b ++ sL1 a b ++ sL2 a b
  | _ => sL0 a b ++ sL1 a b ++ sL2 a b ++ sL3 a b
def schE (a b : Nat) : List Nat := [(schU a b 0).length, (schU a b 1).length, (schU a b 2).length, (schU a b 3).length]
theorem flat_len {n m : Nat} {g : Nat → Nat → Nat} : ((List.range n).flatMap (fun i => (List.range m).map (g i))).length = n * m := by
  rw [List.length_flatMap]
  induction n with
  | zero => simp
  | succ n ih => rw [List.range_succ, List.map_append, List.sum_append, ih]; simp [Nat.succ_mul]
theorem quad : ∀ a, a < 25 → ∀ b, b < 25 → a + b ≤ 24 → (a - 1) * (b - 1) ≤ 121 := by decide +kernel
theorem sL01_len (a b : Nat) : (sL0 a b ++ sL1 a b).length ≤ 2 := by
  unfold sL0 sL1
  by_cases c : a = 0 ∨ b = 0
  · rw [if_pos c, if_neg (by omega)]; simp
  · rw [if_neg c, if_pos (by omega)]; simp
theorem sL2_len {a b : Nat} (h : a + b ≤ 24) : (sL2 a b).length ≤ 22 := by
  unfold sL2 f2a f2b
  rw [List.length_append]
  split <;> split <;> simp <;> omega
theorem sL3_len {a b : Nat} (h : a + b ≤ 24) : (sL3 a b).length ≤ 242 := by
  unfold sL3 f3a f3b
  rw [List.length_append, List.drop_zero, List.drop_zero, flat_len, flat_len]
  have := quad a (by omega) b (by omega) h
  rw [Nat.mul_comm (b - 1)]
  omega
theorem schU_len {a b : Nat} (h : a + b ≤ 24) : (schU a b 3).length ≤ 266 := by
  have h1 := sL01_len a b
  have h2 := sL2_len h
  have h3 := sL3_len h
  show (sL0 a b ++ sL1 a b ++ sL2 a b ++ sL3 a b).length ≤ 266
  rw [List.length_append, List.length_append]
  omega

set_option maxRecDepth 20000 in
set_option maxHeartbeats 4000000 in
theorem cc_Sch_ones {h : px_H} {n : Nat}  (p0 : n ≤ 30) : px_wp 65 [.int (nI n)] h (fun h1 r => r = some (.int (nI (ones n))) ∧ h1 = h) := by
  show px_to 65 0 [some (.int (nI n))] [] h _
  refine e_iconst (v := nI 1) f_65_0 (by decide) rfl ?_
  refine e_iload_n f_65_1 rfl rfl ?_
  refine e_ishl (z := nI (1 * 2 ^ n)) f_65_2 (shlN _ (by omega)) rfl ?_
  refine e_iconst (v := nI 1) f_65_3 (by decide) rfl ?_
  refine e_isub (z := nI (ones n)) f_65_4 ((pk_sub (by rw [Nat.one_mul]; exact Nat.two_pow_pos n)).trans (by rw [Nat.one_mul]; rfl)) rfl ?_
  refine e_iret f_65_5 rfl (rfl) ?_
  first | (exfalso; omega) | exact ⟨rfl, rfl⟩

set_option maxRecDepth 20000 in
set_option maxHeartbeats 4000000 in
theorem cc_Sch_add {h : px_H} {v : Nat} {xs : List Nat} {A B : Int32} (H0 : h.2.2 258 = some (7, [.ref (259), .ref (260), .int (nI xs.length), .int (A), .int (B)])) (H1 : px_pa h 259 50 266 vN xs)  : px_wp 64 [.ref (258), .int (nI v)] h (fun h1 r => r = none ∧ h1.2.2 258 = some (7, [.ref (259), .ref (260), .int (nI ((sadd xs v).length)), .int (A), .int (B)]) ∧ px_pa h1 259 50 266 vN (sadd xs v) ∧ px_fi 258 2 h h1) := by
  have fr0 : px_fi 258 2 h h := fi_rf _ _ _
  have lx := pa_len H1
  show px_to 64 0 [some (.ref (258)), some (.int (nI v))] [] h _
  refine e_aload_n f_64_0 rfl rfl ?_
  refine e_getf f_64_1 H0 rfl rfl ?_
  refine e_sipush (v := nI 266) f_64_4 (by decide) rfl ?_
  refine e_icmp_ge f_64_7 rfl (fun c_7 => ?_) (fun c_7 => ?_)
  · skip
    have c_7 : 266 ≤ xs.length := cv_le (by omega) (by omega) c_7
    refine e_vret f_64_30 rfl ?_
    unfold sadd
    rw [if_neg (by omega)]
    exact ⟨rfl, H0, H1, fr0⟩
  · skip
    have c_7 : xs.length < 266 := cv_nle (by omega) (by omega) c_7
    refine e_aload_n f_64_10 rfl rfl ?_
    refine e_getf f_64_11 H0 rfl rfl ?_
    refine e_aload_n f_64_14 rfl rfl ?_
    refine e_getf f_64_15 H0 rfl rfl ?_
    refine e_iload_n f_64_18 rfl rfl ?_
    refine e_iastore_a (xs := xs) (x := v) f_64_19 H1 (by omega) (rfl) (by omega) (rfl) rfl (fun h1 g2 fx3 => ?_)
    have fr4 : px_fi 258 2 h h1 := fi_tr fr0 fx3 (by omega)
    refine e_aload_n f_64_20 rfl rfl ?_
    refine e_dup f_64_21 rfl rfl ?_
    have g5 : h1.2.2 258 = some (7, [.ref (259), .ref (260), .int (nI xs.length), .int (A), .int (B)]) := fi_at H0 fx3 (by omega)
    refine e_getf f_64_22 g5 rfl rfl ?_
    refine e_iconst (v := nI 1) f_64_25 (by decide) rfl ?_
    refine e_iadd (z := nI (xs.length + 1)) f_64_26 (nI_add _ _) rfl ?_
    refine e_putp (vs' := [.ref (259), .ref (260), .int (nI (xs.length + 1)), .int (A), .int (B)]) f_64_27 g5 (Nat.le_of_ble_eq_true rfl) (rfl) (rfl) rfl rfl (fun h6 g7 fx8 => ?_)
    have fr9 : px_fi 258 2 h h6 := fi_tr fr4 fx8 (by omega)
    refine e_vret f_64_30 rfl ?_
    have g10 : px_pa h6 259 50 266 vN (xs ++ [v]) := pa_fi g2 fx8 (by omega)
    unfold sadd
    rw [if_pos (by omega)]
    exact ⟨rfl, by rw [List.length_append]; exact g7, g10, fr9⟩

set_option maxRecDepth 20000 in
set_option maxHeartbeats 4000000 in
theorem ll_Sch_twoA {P : px_H → Option Value → Prop} {h0 : px_H} {a b : Nat} {A B : Int32} {y : List Nat} (p0 : a + b ≤ 24) (kx : ∀ g, g.2.2 258 = some (7, [.ref (259), .ref (260), .int (nI y.length), .int (A), .int (B)]) → px_pa g 259 50 266 vN y → px_fi 258 2 h0 g → px_to 62 27 [some (.ref (258)), some (.int (nI a)), some (.int (nI b)), none] [] g P) : ∀ (d : Nat) (i : Nat) (xs : List Nat) (g : px_H), (a ≤ i + d ∧ i ≤ 24) → ((f2a a b i).foldl sadd xs = y) → g.2.2 258 = some (7, [.ref (259), .ref (260), .int (nI xs.length), .int (A), .int (B)]) → px_pa g 259 50 266 vN xs → px_fi 258 2 h0 g → px_to 62 2 [some (.ref (258)), some (.int (nI a)), some (.int (nI b)), some (.int (nI (i + 1)))] [] g P := by
  intro d
  induction d using Nat.strongRecOn with
  | ind d ih =>
    intro i xs g q0 q1 G0 G1 frg
    refine e_iload_n f_62_2 rfl rfl ?_
    refine e_iload_n f_62_3 rfl rfl ?_
    refine e_icmp_ge f_62_4 rfl (fun c_4 => ?_) (fun c_4 => ?_)
    · skip
      have c_4 : a ≤ i + 1 := cv_le (by omega) (by omega) c_4
      have ey : xs = y := by
        unfold f2a at q1; rw [range_nil (by omega)] at q1; simp at q1; exact q1
      refine px_to_L (L := [some (.ref (258)), some (.int (nI a)), some (.int (nI b)), none]) ⟨Or.inr rfl, Or.inr rfl, Or.inr rfl, Or.inl rfl, trivial⟩ ?_
      subst ey
      exact kx g G0 G1 frg
    · skip
      have c_4 : i + 1 < a := cv_nle (by omega) (by omega) c_4
      refine e_iload_n f_62_7 rfl rfl ?_
      refine e_if_le f_62_8 rfl (fun c_8 => ?_) (fun c_8 => ?_)
      · skip
        rw [← nI_0] at c_8
        have c_8 : b ≤ 0 := cv_le (by omega) (by omega) c_8
        have ey : xs = y := by
          unfold f2a at q1; rw [if_neg (by omega)] at q1; exact q1
        refine px_to_L (L := [some (.ref (258)), some (.int (nI a)), some (.int (nI b)), none]) ⟨Or.inr rfl, Or.inr rfl, Or.inr rfl, Or.inl rfl, trivial⟩ ?_
        subst ey
        exact kx g G0 G1 frg
      · skip
        rw [← nI_0] at c_8
        have c_8 : 0 < b := cv_nle (by omega) (by omega) c_8
        have c_8x : 0 < b := by omega
        refine e_aload_n f_62_11 rfl rfl ?_
        refine e_iload_n f_62_12 rfl rfl ?_
        refine e_callS (As := [.int (nI b)]) (rest := [.ref (258)]) f_62_13 rfl rfl rfl (Nat.le_of_ble_eq_true rfl) (Nat.le_of_ble_eq_true rfl) (cc_Sch_ones (n := b)  (by omega)) rfl (fun h1 r2 q3 => ?_)
        obtain ⟨rfl, qe⟩ := q3
        have qe := qe.symm
        subst qe
        show px_to 62 16 [some (.ref (258)), some (.int (nI a)), some (.int (nI b)), some (.int (nI (i + 1)))] [.int (nI (ones b)), .ref (258)] g _
        refine e_iload_n f_62_16 rfl rfl ?_
        refine e_ishl (z := nI (g2a b i)) f_62_17 (shlN _ (by omega)) rfl ?_
        refine e_callV (As := [.int (nI (g2a b i))]) (rest := []) f_62_18 rfl rfl rfl (Nat.le_of_ble_eq_true rfl) (Nat.le_of_ble_eq_true rfl) G0 rfl (Nat.le_of_ble_eq_true rfl) (cc_Sch_add (v := g2a b i) (xs := xs) (A := A) (B := B) G0 G1 ) rfl (fun h4 r5 q6 => ?_)
        obtain ⟨rfl, g7, g8, fx9⟩ := q6
        have fr10 : px_fi 258 2 h0 h4 := fi_tr frg fx9 (by omega)
        show px_to 62 21 [some (.ref (258)), some (.int (nI a)), some (.int (nI b)), some (.int (nI (i + 1)))] [] h4 _
        refine e_iinc (y := nI (i + 2)) (L' := [some (.ref (258)), some (.int (nI a)), some (.int (nI b)), some (.int (nI (i + 2)))]) f_62_21 rfl (by rw [show Int32.ofInt 1 = nI 1 by decide]; exact (nI_add _ _).trans (congrArg nI (by omega))) rfl rfl ?_
        refine e_goto f_62_24 ?_
        refine px_to_L (L := [some (.ref (258)), some (.int (nI a)), some (.int (nI b)), some (.int (nI ((i + 1) + 1)))]) ⟨Or.inr rfl, Or.inr rfl, Or.inr rfl, Or.inr rfl, trivial⟩ ?_
        first | (exfalso; omega) | exact ih (d - 1) (by omega) (i + 1) (sadd xs (g2a b i)) h4 (by omega) (by unfold f2a at q1; rw [if_pos c_8x, range_drop (by omega), List.map_cons, List.foldl_cons] at q1; unfold f2a; rw [if_pos c_8x]; exact q1) g7 g8 fr10

set_option maxRecDepth 20000 in
set_option maxHeartbeats 4000000 in
theorem ll_Sch_twoB {h0 : px_H} {a b : Nat} {A B : Int32} {y : List Nat} (p0 : a + b ≤ 24) : ∀ (d : Nat) (i : Nat) (xs : List Nat) (g : px_H), (b ≤ i + d ∧ i ≤ 24) → ((f2b a b i).foldl sadd xs = y) → g.2.2 258 = some (7, [.ref (259), .ref (260), .int (nI xs.length), .int (A), .int (B)]) → px_pa g 259 50 266 vN xs → px_fi 258 2 h0 g → px_to 62 29 [some (.ref (258)), some (.int (nI a)), some (.int (nI b)), some (.int (nI (i + 1)))] [] g (fun h1 r => r = none ∧ h1.2.2 258 = some (7, [.ref (259), .ref (260), .int (nI y.length), .int (A), .int (B)]) ∧ px_pa h1 259 50 266 vN y ∧ px_fi 258 2 h0 h1) := by
  intro d
  induction d using Nat.strongRecOn with
  | ind d ih =>
    intro i xs g q0 q1 G0 G1 frg
    refine e_iload_n f_62_29 rfl rfl ?_
    refine e_iload_n f_62_30 rfl rfl ?_
    refine e_icmp_ge f_62_31 rfl (fun c_31 => ?_) (fun c_31 => ?_)
    · skip
      have c_31 : b ≤ i + 1 := cv_le (by omega) (by omega) c_31
      refine e_vret f_62_63 rfl ?_
      have ey : xs = y := by
        unfold f2b at q1; rw [range_nil (by omega)] at q1; simp at q1; exact q1
      subst ey
      exact ⟨rfl, G0, G1, frg⟩
    · skip
      have c_31 : i + 1 < b := cv_nle (by omega) (by omega) c_31
      refine e_iload_n f_62_34 rfl rfl ?_
      refine e_if_le f_62_35 rfl (fun c_35 => ?_) (fun c_35 => ?_)
      · skip
        rw [← nI_0] at c_35
        have c_35 : a ≤ 0 := cv_le (by omega) (by omega) c_35
        refine e_vret f_62_63 rfl ?_
        have ey : xs = y := by
          unfold f2b at q1; rw [if_neg (by omega)] at q1; exact q1
        subst ey
        exact ⟨rfl, G0, G1, frg⟩
      · skip
        rw [← nI_0] at c_35
        have c_35 : 0 < a := cv_nle (by omega) (by omega) c_35
        have c_35x : 0 < a := by omega
        refine e_aload_n f_62_38 rfl rfl ?_
        refine e_iload_n f_62_39 rfl rfl ?_
        refine e_callS (As := [.int (nI (i + 1))]) (rest := [.ref (258)]) f_62_40 rfl rfl rfl (Nat.le_of_ble_eq_true rfl) (Nat.le_of_ble_eq_true rfl) (cc_Sch_ones (n := i + 1)  (by omega)) rfl (fun h1 r2 q3 => ?_)
        obtain ⟨rfl, qe⟩ := q3
        have qe := qe.symm
        subst qe
        show px_to 62 43 [some (.ref (258)), some (.int (nI a)), some (.int (nI b)), some (.int (nI (i + 1)))] [.int (nI (ones (i + 1))), .ref (258)] g _
        refine e_iload_n f_62_43 rfl rfl ?_
        refine e_iload_n f_62_44 rfl rfl ?_
        refine e_isub (z := nI (b - (i + 1))) f_62_45 (pk_sub (by omega)) rfl ?_
        refine e_callS (As := [.int (nI (b - (i + 1)))]) (rest := [.int (nI (ones (i + 1))), .ref (258)]) f_62_46 rfl rfl rfl (Nat.le_of_ble_eq_true rfl) (Nat.le_of_ble_eq_true rfl) (cc_Sch_ones (n := b - (i + 1))  (by omega)) rfl (fun h4 r5 q6 => ?_)
        obtain ⟨rfl, qe⟩ := q6
        have qe := qe.symm
        subst qe
        show px_to 62 49 [some (.ref (258)), some (.int (nI a)), some (.int (nI b)), some (.int (nI (i + 1)))] [.int (nI (ones (b - (i + 1)))), .int (nI (ones (i + 1))), .ref (258)] g _
        refine e_iload_n f_62_49 rfl rfl ?_
        refine e_iload_n f_62_50 rfl rfl ?_
        refine e_iadd (z := nI (i + 1 + a)) f_62_51 (nI_add _ _) rfl ?_
        refine e_ishl (z := nI (ones (b - (i + 1)) * 2 ^ (i + 1 + a))) f_62_52 (shlN _ (by omega)) rfl ?_
        refine e_ior (z := nI (g2b a b i)) f_62_53 (orN (ones_lt (by omega))) rfl ?_
        refine e_callV (As := [.int (nI (g2b a b i))]) (rest := []) f_62_54 rfl rfl rfl (Nat.le_of_ble_eq_true rfl) (Nat.le_of_ble_eq_true rfl) G0 rfl (Nat.le_of_ble_eq_true rfl) (cc_Sch_add (v := g2b a b i) (xs := xs) (A := A) (B := B) G0 G1 ) rfl (fun h7 r8 q9 => ?_)
        obtain ⟨rfl, g10, g11, fx12⟩ := q9
        have fr13 : px_fi 258 2 h0 h7 := fi_tr frg fx12 (by omega)
        show px_to 62 57 [some (.ref (258)), some (.int (nI a)), some (.int (nI b)), some (.int (nI (i + 1)))] [] h7 _
        refine e_iinc (y := nI (i + 2)) (L' := [some (.ref (258)), some (.int (nI a)), some (.int (nI b)), some (.int (nI (i + 2)))]) f_62_57 rfl (by rw [show Int32.ofInt 1 = nI 1 by decide]; exact (nI_add _ _).trans (congrArg nI (by omega))) rfl rfl ?_
        refine e_goto f_62_60 ?_
        refine px_to_L (L := [some (.ref (258)), some (.int (nI a)), some (.int (nI b)), some (.int (nI ((i + 1) + 1)))]) ⟨Or.inr rfl, Or.inr rfl, Or.inr rfl, Or.inr rfl, trivial⟩ ?_
        first | (exfalso; omega) | exact ih (d - 1) (by omega) (i + 1) (sadd xs (g2b a b i)) h7 (by omega) (by unfold f2b at q1; rw [if_pos c_35x, range_drop (by omega), List.map_cons, List.foldl_cons] at q1; unfold f2b; rw [if_pos c_35x]; exact q1) g10 g11 fr13

set_option maxRecDepth 20000 in
set_option maxHeartbeats 4000000 in
theorem cc_Sch_two {h : px_H} {a b : Nat} {xs : List Nat} {A B : Int32} (H0 : h.2.2 258 = some (7, [.ref (259), .ref (260), .int (nI xs.length), .int (A), .int (B)])) (H1 : px_pa h 259 50 266 vN xs) (p0 : a + b ≤ 24) : px_wp 62 [.ref (258), .int (nI a), .int (nI b)] h (fun h1 r => r = none ∧ h1.2.2 258 = some (7, [.ref (259), .ref (260), .int (nI (((sL2 a b).foldl sadd xs).length)), .int (A), .int (B)]) ∧ px_pa h1 259 50 266 vN ((sL2 a b).foldl sadd xs) ∧ px_fi 258 2 h h1) := by
  have fr0 : px_fi 258 2 h h := fi_rf _ _ _
  show px_to 62 0 [some (.ref (258)), some (.int (nI a)), some (.int (nI b)), none] [] h _
  refine e_iconst (v := nI 1) f_62_0 (by decide) rfl ?_
  refine e_istore_n (L' := [some (.ref (258)), some (.int (nI a)), some (.int (nI b)), some (.int (nI 1))]) f_62_1 (Nat.le_of_ble_eq_true rfl) rfl rfl ?_
  refine ll_Sch_twoA (h0 := h) p0 (fun g1 z0 z1 zf => ?_) a 0 xs h (by omega) rfl H0 H1 fr0
  refine e_iconst (v := nI 1) f_62_27 (by decide) rfl ?_
  refine e_istore_n (L' := [some (.ref (258)), some (.int (nI a)), some (.int (nI b)), some (.int (nI 1))]) f_62_28 (Nat.le_of_ble_eq_true rfl) rfl rfl ?_
  exact ll_Sch_twoB (h0 := h) p0 b 0 _ g1 (by omega) (by unfold sL2; rw [List.foldl_append]) z0 z1 zf

set_option maxRecDepth 20000 in
set_option maxHeartbeats 4000000 in
theorem ll_Sch_thrA1 {P : px_H → Option Value → Prop} {h0 : px_H} {i : Nat} {a b : Nat} {A B : Int32} {y : List Nat} (p0 : a + b ≤ 24) (hi : i + 1 < a) (kx : ∀ g, g.2.2 258 = some (7, [.ref (259), .ref (260), .int (nI y.length), .int (A), .int (B)]) → px_pa g 259 50 266 vN y → px_fi 258 2 h0 g → px_to 63 46 [some (.ref (258)), some (.int (nI a)), some (.int (nI b)), some (.int (nI (i + 1))), none] [] g P) : ∀ (d : Nat) (q : Nat) (xs : List Nat) (g : px_H), (b ≤ q + d ∧ q ≤ 24) → ((((List.range (b - 1)).drop q).map (g3a a b i)).foldl sadd xs = y) → g.2.2 258 = some (7, [.ref (259), .ref (260), .int (nI xs.length), .int (A), .int (B)]) → px_pa g 259 50 266 vN xs → px_fi 258 2 h0 g → px_to 63 10 [some (.ref (258)), some (.int (nI a)), some (.int (nI b)), some (.int (nI (i + 1))), some (.int (nI (q + 1)))] [] g P := by
  intro d
  induction d using Nat.strongRecOn with
  | ind d ih =>
    intro q xs g q0 q1 G0 G1 frg
    refine e_iload f_63_10 rfl rfl ?_
    refine e_iload_n f_63_12 rfl rfl ?_
    refine e_icmp_ge f_63_13 rfl (fun c_13 => ?_) (fun c_13 => ?_)
    · skip
      have c_13 : b ≤ q + 1 := cv_le (by omega) (by omega) c_13
      have ey : xs = y := by
        rw [range_nil (by omega)] at q1; exact q1
      refine px_to_L (L := [some (.ref (258)), some (.int (nI a)), some (.int (nI b)), some (.int (nI (i + 1))), none]) ⟨Or.inr rfl, Or.inr rfl, Or.inr rfl, Or.inr rfl, Or.inl rfl, trivial⟩ ?_
      subst ey
      exact kx g G0 G1 frg
    · skip
      have c_13 : q + 1 < b := cv_nle (by omega) (by omega) c_13
      refine e_aload_n f_63_16 rfl rfl ?_
      refine e_iload f_63_17 rfl rfl ?_
      refine e_callS (As := [.int (nI (q + 1))]) (rest := [.ref (258)]) f_63_19 rfl rfl rfl (Nat.le_of_ble_eq_true rfl) (Nat.le_of_ble_eq_true rfl) (cc_Sch_ones (n := q + 1)  (by omega)) rfl (fun h1 r2 q3 => ?_)
      obtain ⟨rfl, qe⟩ := q3
      have qe := qe.symm
      subst qe
      show px_to 63 22 [some (.ref (258)), some (.int (nI a)), some (.int (nI b)), some (.int (nI (i + 1))), some (.int (nI (q + 1)))] [.int (nI (ones (q + 1))), .ref (258)] g _
      refine e_iload_n f_63_22 rfl rfl ?_
      refine e_ishl (z := nI (ones (q + 1) * 2 ^ (i + 1))) f_63_23 (shlN _ (by omega)) rfl ?_
      refine e_iload_n f_63_24 rfl rfl ?_
      refine e_iload f_63_25 rfl rfl ?_
      refine e_isub (z := nI (b - (q + 1))) f_63_27 (pk_sub (by omega)) rfl ?_
      refine e_callS (As := [.int (nI (b - (q + 1)))]) (rest := [.int (nI (ones (q + 1) * 2 ^ (i + 1))), .ref (258)]) f_63_28 rfl rfl rfl (Nat.le_of_ble_eq_true rfl) (Nat.le_of_ble_eq_true rfl) (cc_Sch_ones (n := b - (q + 1))  (by omega)) rfl (fun h4 r5 q6 => ?_)
      obtain ⟨rfl, qe⟩ := q6
      have qe := qe.symm
      subst qe
      show px_to 63 31 [some (.ref (258)), some (.int (nI a)), some (.int (nI b)), some (.int (nI (i + 1))), some (.int (nI (q + 1)))] [.int (nI (ones (b - (q + 1)))), .int (nI (ones (q + 1) * 2 ^ (i + 1))), .ref (258)] g _
      refine e_iload_n f_63_31 rfl rfl ?_
      refine e_iload f_63_32 rfl rfl ?_
      refine e_iadd (z := nI (a + q + 1)) f_63_34 (nI_add _ _) rfl ?_
      refine e_ishl (z := nI (ones (b - (q + 1)) * 2 ^ (a + (q + 1)))) f_63_35 (shlN _ (by omega)) rfl ?_
      refine e_ior (z := nI (g3a a b i q)) f_63_36 (orN (ones_sh (by omega))) rfl ?_
      refine e_callV (As := [.int (nI (g3a a b i q))]) (rest := []) f_63_37 rfl rfl rfl (Nat.le_of_ble_eq_true rfl) (Nat.le_of_ble_eq_true rfl) G0 rfl (Nat.le_of_ble_eq_true rfl) (cc_Sch_add (v := g3a a b i q) (xs := xs) (A := A) (B := B) G0 G1 ) rfl (fun h7 r8 q9 => ?_)
      obtain ⟨rfl, g10, g11, fx12⟩ := q9
      have fr13 : px_fi 258 2 h0 h7 := fi_tr frg fx12 (by omega)
      show px_to 63 40 [some (.ref (258)), some (.int (nI a)), some (.int (nI b)), some (.int (nI (i + 1))), some (.int (nI (q + 1)))] [] h7 _
      refine e_iinc (y := nI (q + 2)) (L' := [some (.ref (258)), some (.int (nI a)), some (.int (nI b)), some (.int (nI (i + 1))), some (.int (nI (q + 2)))]) f_63_40 rfl (by rw [show Int32.ofInt 1 = nI 1 by decide]; exact (nI_add _ _).trans (congrArg nI (by omega))) rfl rfl ?_
      refine e_goto f_63_43 ?_
      refine px_to_L (L := [some (.ref (258)), some (.int (nI a)), some (.int (nI b)), some (.int (nI (i + 1))), some (.int (nI ((q + 1) + 1)))]) ⟨Or.inr rfl, Or.inr rfl, Or.inr rfl, Or.inr rfl, Or.inr rfl, trivial⟩ ?_
      first | (exfalso; omega) | exact ih (d - 1) (by omega) (q + 1) (sadd xs (g3a a b i q)) h7 (by omega) (by rw [range_drop (by omega), List.map_cons, List.foldl_cons] at q1; exact q1) g10 g11 fr13

set_option maxRecDepth 20000 in
set_option maxHeartbeats 4000000 in
theorem ll_Sch_thrB1 {P : px_H → Option Value → Prop} {h0 : px_H} {i : Nat} {a b : Nat} {A B : Int32} {y : List Nat} (p0 : a + b ≤ 24) (hi : i + 1 < b) (kx : ∀ g, g.2.2 258 = some (7, [.ref (259), .ref (260), .int (nI y.length), .int (A), .int (B)]) → px_pa g 259 50 266 vN y → px_fi 258 2 h0 g → px_to 63 94 [some (.ref (258)), some (.int (nI a)), some (.int (nI b)), some (.int (nI (i + 1))), none] [] g P) : ∀ (d : Nat) (q : Nat) (xs : List Nat) (g : px_H), (a ≤ q + d ∧ q ≤ 24) → ((((List.range (a - 1)).drop q).map (g3b b i)).foldl sadd xs = y) → g.2.2 258 = some (7, [.ref (259), .ref (260), .int (nI xs.length), .int (A), .int (B)]) → px_pa g 259 50 266 vN xs → px_fi 258 2 h0 g → px_to 63 62 [some (.ref (258)), some (.int (nI a)), some (.int (nI b)), some (.int (nI (i + 1))), some (.int (nI (q + 1)))] [] g P := by
  intro d
  induction d using Nat.strongRecOn with
  | ind d ih =>
    intro q xs g q0 q1 G0 G1 frg
    refine e_iload f_63_62 rfl rfl ?_
    refine e_iload_n f_63_64 rfl rfl ?_
    refine e_icmp_ge f_63_65 rfl (fun c_65 => ?_) (fun c_65 => ?_)
    · skip
      have c_65 : a ≤ q + 1 := cv_le (by omega) (by omega) c_65
      have ey : xs = y := by
        rw [range_nil (by omega)] at q1; exact q1
      refine px_to_L (L := [some (.ref (258)), some (.int (nI a)), some (.int (nI b)), some (.int (nI (i + 1))), none]) ⟨Or.inr rfl, Or.inr rfl, Or.inr rfl, Or.inr rfl, Or.inl rfl, trivial⟩ ?_
      subst ey
      exact kx g G0 G1 frg
    · skip
      have c_65 : q + 1 < a := cv_nle (by omega) (by omega) c_65
      refine e_aload_n f_63_68 rfl rfl ?_
      refine e_iload_n f_63_69 rfl rfl ?_
      refine e_callS (As := [.int (nI (i + 1))]) (rest := [.ref (258)]) f_63_70 rfl rfl rfl (Nat.le_of_ble_eq_true rfl) (Nat.le_of_ble_eq_true rfl) (cc_Sch_ones (n := i + 1)  (by omega)) rfl (fun h1 r2 q3 => ?_)
      obtain ⟨rfl, qe⟩ := q3
      have qe := qe.symm
      subst qe
      show px_to 63 73 [some (.ref (258)), some (.int (nI a)), some (.int (nI b)), some (.int (nI (i + 1))), some (.int (nI (q + 1)))] [.int (nI (ones (i + 1))), .ref (258)] g _
      refine e_iload_n f_63_73 rfl rfl ?_
      refine e_iload_n f_63_74 rfl rfl ?_
      refine e_isub (z := nI (b - (i + 1))) f_63_75 (pk_sub (by omega)) rfl ?_
      refine e_callS (As := [.int (nI (b - (i + 1)))]) (rest := [.int (nI (ones (i + 1))), .ref (258)]) f_63_76 rfl rfl rfl (Nat.le_of_ble_eq_true rfl) (Nat.le_of_ble_eq_true rfl) (cc_Sch_ones (n := b - (i + 1))  (by omega)) rfl (fun h4 r5 q6 => ?_)
      obtain ⟨rfl, qe⟩ := q6
      have qe := qe.symm
      subst qe
      show px_to 63 79 [some (.ref (258)), some (.int (nI a)), some (.int (nI b)), some (.int (nI (i + 1))), some (.int (nI (q + 1)))] [.int (nI (ones (b - (i + 1)))), .int (nI (ones (i + 1))), .ref (258)] g _
      refine e_iload_n f_63_79 rfl rfl ?_
      refine e_iload f_63_80 rfl rfl ?_
      refine e_iadd (z := nI (i + 1 + q + 1)) f_63_82 (nI_add _ _) rfl ?_
      refine e_ishl (z := nI (ones (b - (i + 1)) * 2 ^ (i + 1 + (q + 1)))) f_63_83 (shlN _ (by omega)) rfl ?_
      refine e_ior (z := nI (g3b b i q)) f_63_84 (orN (ones_lt (by omega))) rfl ?_
      refine e_callV (As := [.int (nI (g3b b i q))]) (rest := []) f_63_85 rfl rfl rfl (Nat.le_of_ble_eq_true rfl) (Nat.le_of_ble_eq_true rfl) G0 rfl (Nat.le_of_ble_eq_true rfl) (cc_Sch_add (v := g3b b i q) (xs := xs) (A := A) (B := B) G0 G1 ) rfl (fun h7 r8 q9 => ?_)
      obtain ⟨rfl, g10, g11, fx12⟩ := q9
      have fr13 : px_fi 258 2 h0 h7 := fi_tr frg fx12 (by omega)
      show px_to 63 88 [some (.ref (258)), some (.int (nI a)), some (.int (nI b)), some (.int (nI (i + 1))), some (.int (nI (q + 1)))] [] h7 _
      refine e_iinc (y := nI (q + 2)) (L' := [some (.ref (258)), some (.int (nI a)), some (.int (nI b)), some (.int (nI (i + 1))), some (.int (nI (q + 2)))]) f_63_88 rfl (by rw [show Int32.ofInt 1 = nI 1 by decide]; exact (nI_add _ _).trans (congrArg nI (by omega))) rfl rfl ?_
      refine e_goto f_63_91 ?_
      refine px_to_L (L := [some (.ref (258)), some (.int (nI a)), some (.int (nI b)), some (.int (nI (i + 1))), some (.int (nI ((q + 1) + 1)))]) ⟨Or.inr rfl, Or.inr rfl, Or.inr rfl, Or.inr rfl, Or.inr rfl, trivial⟩ ?_
      first | (exfalso; omega) | exact ih (d - 1) (by omega) (q + 1) (sadd xs (g3b b i q)) h7 (by omega) (by rw [range_drop (by omega), List.map_cons, List.foldl_cons] at q1; exact q1) g10 g11 fr13

set_option maxRecDepth 20000 in
set_option maxHeartbeats 4000000 in
theorem ll_Sch_thrA {P : px_H → Option Value → Prop} {h0 : px_H} {a b : Nat} {A B : Int32} {y : List Nat} (p0 : a + b ≤ 24) (kx : ∀ g, g.2.2 258 = some (7, [.ref (259), .ref (260), .int (nI y.length), .int (A), .int (B)]) → px_pa g 259 50 266 vN y → px_fi 258 2 h0 g → px_to 63 52 [some (.ref (258)), some (.int (nI a)), some (.int (nI b)), none, none] [] g P) : ∀ (d : Nat) (i : Nat) (xs : List Nat) (g : px_H), (a ≤ i + d ∧ i ≤ 24) → ((f3a a b i).foldl sadd xs = y) → g.2.2 258 = some (7, [.ref (259), .ref (260), .int (nI xs.length), .int (A), .int (B)]) → px_pa g 259 50 266 vN xs → px_fi 258 2 h0 g → px_to 63 2 [some (.ref (258)), some (.int (nI a)), some (.int (nI b)), some (.int (nI (i + 1))), none] [] g P := by
  intro d
  induction d using Nat.strongRecOn with
  | ind d ih =>
    intro i xs g q0 q1 G0 G1 frg
    refine e_iload_n f_63_2 rfl rfl ?_
    refine e_iload_n f_63_3 rfl rfl ?_
    refine e_icmp_ge f_63_4 rfl (fun c_4 => ?_) (fun c_4 => ?_)
    · skip
      have c_4 : a ≤ i + 1 := cv_le (by omega) (by omega) c_4
      have ey : xs = y := by
        unfold f3a at q1; rw [range_nil (by omega)] at q1; exact q1
      refine px_to_L (L := [some (.ref (258)), some (.int (nI a)), some (.int (nI b)), none, none]) ⟨Or.inr rfl, Or.inr rfl, Or.inr rfl, Or.inl rfl, Or.inr rfl, trivial⟩ ?_
      subst ey
      exact kx g G0 G1 frg
    · skip
      have c_4 : i + 1 < a := cv_nle (by omega) (by omega) c_4
      refine e_iconst (v := nI 1) f_63_7 (by decide) rfl ?_
      refine e_istore (L' := [some (.ref (258)), some (.int (nI a)), some (.int (nI b)), some (.int (nI (i + 1))), some (.int (nI 1))]) f_63_8 (Nat.le_of_ble_eq_true rfl) rfl rfl ?_
      refine ll_Sch_thrA1 (h0 := h0) p0 (show i + 1 < a by omega) (fun g1 z0 z1 zf => ?_) b 0 xs g (by omega) rfl G0 G1 frg
      refine e_iinc (y := nI (i + 2)) (L' := [some (.ref (258)), some (.int (nI a)), some (.int (nI b)), some (.int (nI (i + 2))), none]) f_63_46 rfl (by rw [show Int32.ofInt 1 = nI 1 by decide]; exact (nI_add _ _).trans (congrArg nI (by omega))) rfl rfl ?_
      refine e_goto f_63_49 ?_
      refine px_to_L (L := [some (.ref (258)), some (.int (nI a)), some (.int (nI b)), some (.int (nI ((i + 1) + 1))), none]) ⟨Or.inr rfl, Or.inr rfl, Or.inr rfl, Or.inr rfl, Or.inr rfl, trivial⟩ ?_
      first | (exfalso; omega) | exact ih (d - 1) (by omega) (i + 1) (((List.range (b - 1)).map (g3a a b i)).foldl sadd xs) g1 (by omega) (by unfold f3a at q1; rw [range_drop (by omega), List.flatMap_cons, List.foldl_append] at q1; exact q1) z0 z1 zf

set_option maxRecDepth 20000 in
set_option maxHeartbeats 4000000 in
theorem ll_Sch_thrB {h0 : px_H} {a b : Nat} {A B : Int32} {y : List Nat} (p0 : a + b ≤ 24) : ∀ (d : Nat) (i : Nat) (xs : List Nat) (g : px_H), (b ≤ i + d ∧ i ≤ 24) → ((f3b a b i).foldl sadd xs = y) → g.2.2 258 = some (7, [.ref (259), .ref (260), .int (nI xs.length), .int (A), .int (B)]) → px_pa g 259 50 266 vN xs → px_fi 258 2 h0 g → px_to 63 54 [some (.ref (258)), some (.int (nI a)), some (.int (nI b)), some (.int (nI (i + 1))), none] [] g (fun h1 r => r = none ∧ h1.2.2 258 = some (7, [.ref (259), .ref (260), .int (nI y.length), .int (A), .int (B)]) ∧ px_pa h1 259 50 266 vN y ∧ px_fi 258 2 h0 h1) := by
  intro d
  induction d using Nat.strongRecOn with
  | ind d ih =>
    intro i xs g q0 q1 G0 G1 frg
    refine e_iload_n f_63_54 rfl rfl ?_
    refine e_iload_n f_63_55 rfl rfl ?_
    refine e_icmp_ge f_63_56 rfl (fun c_56 => ?_) (fun c_56 => ?_)
    · skip
      have c_56 : b ≤ i + 1 := cv_le (by omega) (by omega) c_56
      refine e_vret f_63_100 rfl ?_
      have ey : xs = y := by
        unfold f3b at q1; rw [range_nil (by omega)] at q1; exact q1
      subst ey
      exact ⟨rfl, G0, G1, frg⟩
    · skip
      have c_56 : i + 1 < b := cv_nle (by omega) (by omega) c_56
      refine e_iconst (v := nI 1) f_63_59 (by decide) rfl ?_
      refine e_istore (L' := [some (.ref (258)), some (.int (nI a)), some (.int (nI b)), some (.int (nI (i + 1))), some (.int (nI 1))]) f_63_60 (Nat.le_of_ble_eq_true rfl) rfl rfl ?_
      refine ll_Sch_thrB1 (h0 := h0) p0 (show i + 1 < b by omega) (fun g1 z0 z1 zf => ?_) a 0 xs g (by omega) rfl G0 G1 frg
      refine e_iinc (y := nI (i + 2)) (L' := [some (.ref (258)), some (.int (nI a)), some (.int (nI b)), some (.int (nI (i + 2))), none]) f_63_94 rfl (by rw [show Int32.ofInt 1 = nI 1 by decide]; exact (nI_add _ _).trans (congrArg nI (by omega))) rfl rfl ?_
      refine e_goto f_63_97 ?_
      refine px_to_L (L := [some (.ref (258)), some (.int (nI a)), some (.int (nI b)), some (.int (nI ((i + 1) + 1))), none]) ⟨Or.inr rfl, Or.inr rfl, Or.inr rfl, Or.inr rfl, Or.inr rfl, trivial⟩ ?_
      first | (exfalso; omega) | exact ih (d - 1) (by omega) (i + 1) (((List.range (a - 1)).map (g3b b i)).foldl sadd xs) g1 (by omega) (by unfold f3b at q1; rw [range_drop (by omega), List.flatMap_cons, List.foldl_append] at q1; exact q1) z0 z1 zf

set_option maxRecDepth 20000 in
set_option maxHeartbeats 4000000 in
theorem cc_Sch_three {h : px_H} {a b : Nat} {xs : List Nat} {A B : Int32} (H0 : h.2.2 258 = some (7, [.ref (259), .ref (260), .int (nI xs.length), .int (A), .int (B)])) (H1 : px_pa h 259 50 266 vN xs) (p0 : a + b ≤ 24) : px_wp 63 [.ref (258), .int (nI a), .int (nI b)] h (fun h1 r => r = none ∧ h1.2.2 258 = some (7, [.ref (259), .ref (260), .int (nI (((sL3 a b).foldl sadd xs).length)), .int (A), .int (B)]) ∧ px_pa h1 259 50 266 vN ((sL3 a b).foldl sadd xs) ∧ px_fi 258 2 h h1) := by
  have fr0 : px_fi 258 2 h h := fi_rf _ _ _
  show px_to 63 0 [some (.ref (258)), some (.int (nI a)), some (.int (nI b)), none, none] [] h _
  refine e_iconst (v := nI 1) f_63_0 (by decide) rfl ?_
  refine e_istore_n (L' := [some (.ref (258)), some (.int (nI a)), some (.int (nI b)), some (.int (nI 1)), none]) f_63_1 (Nat.le_of_ble_eq_true rfl) rfl rfl ?_
  refine ll_Sch_thrA (h0 := h) p0 (fun g1 z0 z1 zf => ?_) a 0 xs h (by omega) rfl H0 H1 fr0
  refine e_iconst (v := nI 1) f_63_52 (by decide) rfl ?_
  refine e_istore_n (L' := [some (.ref (258)), some (.int (nI a)), some (.int (nI b)), some (.int (nI 1)), none]) f_63_53 (Nat.le_of_ble_eq_true rfl) rfl rfl ?_
  exact ll_Sch_thrB (h0 := h) p0 b 0 _ g1 (by omega) (by unfold sL3; rw [List.foldl_append]) z0 z1 zf

theorem set4 {es : List Nat} (h : es.length = 4) {x y z u : Nat} : (((es.set 0 x).set 1 y).set 2 z).set 3 u = [x, y, z, u] := by
  match es, h with
  | [_, _, _, _], _ => rfl

set_option maxRecDepth 20000 in
set_option maxHeartbeats 4000000 in
theorem cc_Sch_list {h : px_H} {a b n : Nat} {A0 B0 : Int32} {xs es : List Nat} (H0 : h.2.2 258 = some (7, [.ref (259), .ref (260), .int (nI n), .int (A0), .int (B0)])) (H1 : px_pa h 259 50 266 vN xs) (H2 : px_pa h 260 50 4 vN es) (p0 : a + b ≤ 24) (p1 : es.length = 4) (p2 : (nI a = A0 ∧ nI b = B0 → n = (schU a b 3).length ∧ xs = schU a b 3 ∧ es = schE a b)) : px_wp 61 [.ref (258), .int (nI a), .int (nI b)] h (fun h1 r => r = none ∧ h1.2.2 258 = some (7, [.ref (259), .ref (260), .int (nI ((schU a b 3).length)), .int (nI a), .int (nI b)]) ∧ px_pa h1 259 50 266 vN (schU a b 3) ∧ px_pa h1 260 50 4 vN (schE a b) ∧ px_fi 258 3 h h1) := by
  have fr0 : px_fi 258 3 h h := fi_rf _ _ _
  have l24 : a ≤ 24 ∧ b ≤ 24 := by omega
  show px_to 61 0 [some (.ref (258)), some (.int (nI a)), some (.int (nI b))] [] h _
  refine e_iload_n f_61_0 rfl rfl ?_
  refine e_aload_n f_61_1 rfl rfl ?_
  refine e_getf f_61_2 H0 rfl rfl ?_
  refine e_icmp_ne f_61_5 rfl (fun c_5 => ?_) (fun c_5 => ?_)
  · skip
    refine e_aload_n f_61_17 rfl rfl ?_
    refine e_iload_n f_61_18 rfl rfl ?_
    refine e_putp (vs' := [.ref (259), .ref (260), .int (nI n), .int (nI a), .int (B0)]) f_61_19 H0 (Nat.le_of_ble_eq_true rfl) (rfl) (rfl) rfl rfl (fun h1 g2 fx3 => ?_)
    have fr4 : px_fi 258 3 h h1 := fi_tr fr0 fx3 (by omega)
    refine e_aload_n f_61_22 rfl rfl ?_
    refine e_iload_n f_61_23 rfl rfl ?_
    refine e_putp (vs' := [.ref (259), .ref (260), .int (nI n), .int (nI a), .int (nI b)]) f_61_24 g2 (Nat.le_of_ble_eq_true rfl) (rfl) (rfl) rfl rfl (fun h5 g6 fx7 => ?_)
    have fr8 : px_fi 258 3 h h5 := fi_tr fr4 fx7 (by omega)
    refine e_aload_n f_61_27 rfl rfl ?_
    refine e_iconst (v := nI 0) f_61_28 (by decide) rfl ?_
    refine e_putp (vs' := [.ref (259), .ref (260), .int (nI 0), .int (nI a), .int (nI b)]) f_61_29 g6 (Nat.le_of_ble_eq_true rfl) (rfl) (rfl) rfl rfl (fun h9 g10 fx11 => ?_)
    have fr12 : px_fi 258 3 h h9 := fi_tr fr8 fx11 (by omega)
    have g13 : px_pa h1 259 50 266 vN xs := pa_fi H1 fx3 (by omega)
    have g14 : px_pa h5 259 50 266 vN xs := pa_fi g13 fx7 (by omega)
    have g15 : px_pa h9 259 50 266 vN xs := pa_fi g14 fx11 (by omega)
    have g16 : px_pa h9 259 50 266 vN ([] : List Nat) := pa_nil g15
    have g17 : h9.2.2 258 = some (7, [.ref (259), .ref (260), .int (nI (([] : List Nat).length)), .int (nI a), .int (nI b)]) := g10
    refine e_iload_n f_61_32 rfl rfl ?_
    refine e_if_eq f_61_33 rfl (fun c_33 => ?_) (fun c_33 => ?_)
    · skip
      rw [← nI_0] at c_33
      have c_33 : a = 0 := cv_eq (by omega) (by omega) c_33
      refine e_aload_n f_61_40 rfl rfl ?_
      refine e_iload_n f_61_41 rfl rfl ?_
      refine e_callS (As := [.int (nI b)]) (rest := [.ref (258)]) f_61_42 rfl rfl rfl (Nat.le_of_ble_eq_true rfl) (Nat.le_of_ble_eq_true rfl) (cc_Sch_ones (n := b)  (by omega)) rfl (fun h18 r19 q20 => ?_)
      obtain ⟨rfl, qe⟩ := q20
      have qe := qe.symm
      subst qe
      show px_to 61 45 [some (.ref (258)), some (.int (nI a)), some (.int (nI b))] [.int (nI (ones b)), .ref (258)] h9 _
      refine e_callV (As := [.int (nI (ones b))]) (rest := []) f_61_45 rfl rfl rfl (Nat.le_of_ble_eq_true rfl) (Nat.le_of_ble_eq_true rfl) g17 rfl (Nat.le_of_ble_eq_true rfl) (cc_Sch_add (v := ones b) (xs := ([] : List Nat)) (A := nI a) (B := nI b) g17 g16 ) rfl (fun h21 r22 q23 => ?_)
      obtain ⟨rfl, g24, g25, fx26⟩ := q23
      have fr27 : px_fi 258 3 h h21 := fi_tr fr12 fx26 (by omega)
      show px_to 61 48 [some (.ref (258)), some (.int (nI a)), some (.int (nI b))] [] h21 _
      have e28 : sadd ([] : List Nat) (ones b) = schU a b 0 := by show _ = sL0 a b; unfold sL0; rw [if_pos (by omega)]; rfl
      have g29 : px_pa h21 259 50 266 vN (schU a b 0) := pa_eq g25 e28
      have g30 : h21.2.2 258 = some (7, [.ref (259), .ref (260), .int (nI ((schU a b 0).length)), .int (nI a), .int (nI b)]) := by rw [← e28]; exact g24
      refine e_aload_n f_61_48 rfl rfl ?_
      refine e_getf f_61_49 g30 rfl rfl ?_
      refine e_iconst (v := nI 0) f_61_52 (by decide) rfl ?_
      refine e_aload_n f_61_53 rfl rfl ?_
      refine e_getf f_61_54 g30 rfl rfl ?_
      have g31 : px_pa h1 260 50 4 vN es := pa_fi H2 fx3 (by omega)
      have g32 : px_pa h5 260 50 4 vN es := pa_fi g31 fx7 (by omega)
      have g33 : px_pa h9 260 50 4 vN es := pa_fi g32 fx11 (by omega)
      have g34 : px_pa h21 260 50 4 vN es := pa_fi g33 fx26 (by omega)
      refine e_iastore_p (xs := es) (x := (schU a b 0).length) f_61_57 g34 (by omega) (by first | omega | (simp only [List.length_set]; omega)) (rfl) rfl (fun h35 g36 fx37 => ?_)
      have fr38 : px_fi 258 3 h h35 := fi_tr fr27 fx37 (by omega)
      refine e_iload_n f_61_58 rfl rfl ?_
      refine e_if_le f_61_59 rfl (fun c_59 => ?_) (fun c_59 => ?_)
      · skip
        rw [← nI_0] at c_59
        have c_59 : a ≤ 0 := cv_le (by omega) (by omega) c_59
        have g39 : px_pa h35 259 50 266 vN (schU a b 0) := pa_fi g29 fx37 (by omega)
        have e40 : schU a b 0 = schU a b 1 := by show _ = sL0 a b ++ sL1 a b; unfold sL1; rw [if_neg (by omega), List.append_nil]; rfl
        have g41 : px_pa h35 259 50 266 vN (schU a b 1) := pa_eq g39 e40
        have g42 : h35.2.2 258 = some (7, [.ref (259), .ref (260), .int (nI ((schU a b 0).length)), .int (nI a), .int (nI b)]) := fi_at g30 fx37 (by omega)
        have g43 : h35.2.2 258 = some (7, [.ref (259), .ref (260), .int (nI ((schU a b 1).length)), .int (nI a), .int (nI b)]) := by rw [← e40]; exact g42
        have u1 := sL01_len a b
        have u2 := sL2_len p0
        have u3 := sL3_len p0
        refine e_aload_n f_61_84 rfl rfl ?_
        refine e_getf f_61_85 g43 rfl rfl ?_
        refine e_iconst (v := nI 1) f_61_88 (by decide) rfl ?_
        refine e_aload_n f_61_89 rfl rfl ?_
        refine e_getf f_61_90 g43 rfl rfl ?_
        refine e_iastore_p (xs := es.set 0 ((schU a b 0).length)) (x := (schU a b 1).length) f_61_93 g36 (by omega) (by first | omega | (simp only [List.length_set]; omega)) (rfl) rfl (fun h44 g45 fx46 => ?_)
        have fr47 : px_fi 258 3 h h44 := fi_tr fr38 fx46 (by omega)
        refine e_aload_n f_61_94 rfl rfl ?_
        refine e_iload_n f_61_95 rfl rfl ?_
        refine e_iload_n f_61_96 rfl rfl ?_
        have g48 : h44.2.2 258 = some (7, [.ref (259), .ref (260), .int (nI ((schU a b 1).length)), .int (nI a), .int (nI b)]) := fi_at g43 fx46 (by omega)
        have g49 : px_pa h44 259 50 266 vN (schU a b 1) := pa_fi g41 fx46 (by omega)
        refine e_callV (As := [.int (nI a), .int (nI b)]) (rest := []) f_61_97 rfl rfl rfl (Nat.le_of_ble_eq_true rfl) (Nat.le_of_ble_eq_true rfl) g48 rfl (Nat.le_of_ble_eq_true rfl) (cc_Sch_two (a := a) (b := b) (xs := schU a b 1) (A := nI a) (B := nI b) g48 g49 (by omega)) rfl (fun h50 r51 q52 => ?_)
        obtain ⟨rfl, g53, g54, fx55⟩ := q52
        have fr56 : px_fi 258 3 h h50 := fi_tr fr47 fx55 (by omega)
        show px_to 61 100 [some (.ref (258)), some (.int (nI a)), some (.int (nI b))] [] h50 _
        have e57 : (sL2 a b).foldl sadd (schU a b 1) = schU a b 2 := sadd_all (by show (sL0 a b ++ sL1 a b).length + _ ≤ _; omega)
        have g58 : px_pa h50 259 50 266 vN (schU a b 2) := pa_eq g54 e57
        have g59 : h50.2.2 258 = some (7, [.ref (259), .ref (260), .int (nI ((schU a b 2).length)), .int (nI a), .int (nI b)]) := by rw [← e57]; exact g53
        refine e_aload_n f_61_100 rfl rfl ?_
        refine e_getf f_61_101 g59 rfl rfl ?_
        refine e_iconst (v := nI 2) f_61_104 (by decide) rfl ?_
        refine e_aload_n f_61_105 rfl rfl ?_
        refine e_getf f_61_106 g59 rfl rfl ?_
        have g60 : px_pa h50 260 50 4 vN ((es.set 0 ((schU a b 0).length)).set 1 ((schU a b 1).length)) := pa_fi g45 fx55 (by omega)
        refine e_iastore_p (xs := (es.set 0 ((schU a b 0).length)).set 1 ((schU a b 1).length)) (x := (schU a b 2).length) f_61_109 g60 (by omega) (by first | omega | (simp only [List.length_set]; omega)) (rfl) rfl (fun h61 g62 fx63 => ?_)
        have fr64 : px_fi 258 3 h h61 := fi_tr fr56 fx63 (by omega)
        refine e_aload_n f_61_110 rfl rfl ?_
        refine e_iload_n f_61_111 rfl rfl ?_
        refine e_iload_n f_61_112 rfl rfl ?_
        have g65 : h61.2.2 258 = some (7, [.ref (259), .ref (260), .int (nI ((schU a b 2).length)), .int (nI a), .int (nI b)]) := fi_at g59 fx63 (by omega)
        have g66 : px_pa h61 259 50 266 vN (schU a b 2) := pa_fi g58 fx63 (by omega)
        refine e_callV (As := [.int (nI a), .int (nI b)]) (rest := []) f_61_113 rfl rfl rfl (Nat.le_of_ble_eq_true rfl) (Nat.le_of_ble_eq_true rfl) g65 rfl (Nat.le_of_ble_eq_true rfl) (cc_Sch_three (a := a) (b := b) (xs := schU a b 2) (A := nI a) (B := nI b) g65 g66 (by omega)) rfl (fun h67 r68 q69 => ?_)
        obtain ⟨rfl, g70, g71, fx72⟩ := q69
        have fr73 : px_fi 258 3 h h67 := fi_tr fr64 fx72 (by omega)
        show px_to 61 116 [some (.ref (258)), some (.int (nI a)), some (.int (nI b))] [] h67 _
        have e74 : (sL3 a b).foldl sadd (schU a b 2) = schU a b 3 := sadd_all (by show (sL0 a b ++ sL1 a b ++ sL2 a b).length + _ ≤ _; rw [List.length_append]; omega)
        have g75 : px_pa h67 259 50 266 vN (schU a b 3) := pa_eq g71 e74
        have g76 : h67.2.2 258 = some (7, [.ref (259), .ref (260), .int (nI ((schU a b 3).length)), .int (nI a), .int (nI b)]) := by rw [← e74]; exact g70
        refine e_aload_n f_61_116 rfl rfl ?_
        refine e_getf f_61_117 g76 rfl rfl ?_
        refine e_iconst (v := nI 3) f_61_120 (by decide) rfl ?_
        refine e_aload_n f_61_121 rfl rfl ?_
        refine e_getf f_61_122 g76 rfl rfl ?_
        have g77 : px_pa h67 260 50 4 vN (((es.set 0 ((schU a b 0).length)).set 1 ((schU a b 1).length)).set 2 ((schU a b 2).length)) := pa_fi g62 fx72 (by omega)
        refine e_iastore_p (xs := ((es.set 0 ((schU a b 0).length)).set 1 ((schU a b 1).length)).set 2 ((schU a b 2).length)) (x := (schU a b 3).length) f_61_125 g77 (by omega) (by first | omega | (simp only [List.length_set]; omega)) (rfl) rfl (fun h78 g79 fx80 => ?_)
        have fr81 : px_fi 258 3 h h78 := fi_tr fr73 fx80 (by omega)
        refine e_vret f_61_126 rfl ?_
        have g82 : h78.2.2 258 = some (7, [.ref (259), .ref (260), .int (nI ((schU a b 3).length)), .int (nI a), .int (nI b)]) := fi_at g76 fx80 (by omega)
        have g83 : px_pa h78 259 50 266 vN (schU a b 3) := pa_fi g75 fx80 (by omega)
        exact ⟨rfl, g82, g83, pa_eq g79 (set4 p1), fr81⟩
      · skip
        rw [← nI_0] at c_59
        have c_59 : 0 < a := cv_nle (by omega) (by omega) c_59
        refine e_iload_n f_61_62 rfl rfl ?_
        refine e_if_le f_61_63 rfl (fun c_63 => ?_) (fun c_63 => ?_)
        · skip
          rw [← nI_0] at c_63
          have c_63 : b ≤ 0 := cv_le (by omega) (by omega) c_63
          have g84 : px_pa h35 259 50 266 vN (schU a b 0) := pa_fi g29 fx37 (by omega)
          have e85 : schU a b 0 = schU a b 1 := by show _ = sL0 a b ++ sL1 a b; unfold sL1; rw [if_neg (by omega), List.append_nil]; rfl
          have g86 : px_pa h35 259 50 266 vN (schU a b 1) := pa_eq g84 e85
          have g87 : h35.2.2 258 = some (7, [.ref (259), .ref (260), .int (nI ((schU a b 0).length)), .int (nI a), .int (nI b)]) := fi_at g30 fx37 (by omega)
          have g88 : h35.2.2 258 = some (7, [.ref (259), .ref (260), .int (nI ((schU a b 1).length)), .int (nI a), .int (nI b)]) := by rw [← e85]; exact g87
          have u1 := sL01_len a b
          have u2 := sL2_len p0
          have u3 := sL3_len p0
          refine e_aload_n f_61_84 rfl rfl ?_
          refine e_getf f_61_85 g88 rfl rfl ?_
          refine e_iconst (v := nI 1) f_61_88 (by decide) rfl ?_
          refine e_aload_n f_61_89 rfl rfl ?_
          refine e_getf f_61_90 g88 rfl rfl ?_
          refine e_iastore_p (xs := es.set 0 ((schU a b 0).length)) (x := (schU a b 1).length) f_61_93 g36 (by omega) (by first | omega | (simp only [List.length_set]; omega)) (rfl) rfl (fun h89 g90 fx91 => ?_)
          have fr92 : px_fi 258 3 h h89 := fi_tr fr38 fx91 (by omega)
          refine e_aload_n f_61_94 rfl rfl ?_
          refine e_iload_n f_61_95 rfl rfl ?_
          refine e_iload_n f_61_96 rfl rfl ?_
          have g93 : h89.2.2 258 = some (7, [.ref (259), .ref (260), .int (nI ((schU a b 1).length)), .int (nI a), .int (nI b)]) := fi_at g88 fx91 (by omega)
          have g94 : px_pa h89 259 50 266 vN (schU a b 1) := pa_fi g86 fx91 (by omega)
          refine e_callV (As := [.int (nI a), .int (nI b)]) (rest := []) f_61_97 rfl rfl rfl (Nat.le_of_ble_eq_true rfl) (Nat.le_of_ble_eq_true rfl) g93 rfl (Nat.le_of_ble_eq_true rfl) (cc_Sch_two (a := a) (b := b) (xs := schU a b 1) (A := nI a) (B := nI b) g93 g94 (by omega)) rfl (fun h95 r96 q97 => ?_)
          obtain ⟨rfl, g98, g99, fx100⟩ := q97
          have fr101 : px_fi 258 3 h h95 := fi_tr fr92 fx100 (by omega)
          show px_to 61 100 [some (.ref (258)), some (.int (nI a)), some (.int (nI b))] [] h95 _
          have e102 : (sL2 a b).foldl sadd (schU a b 1) = schU a b 2 := sadd_all (by show (sL0 a b ++ sL1 a b).length + _ ≤ _; omega)
          have g103 : px_pa h95 259 50 266 vN (schU a b 2) := pa_eq g99 e102
          have g104 : h95.2.2 258 = some (7, [.ref (259), .ref (260), .int (nI ((schU a b 2).length)), .int (nI a), .int (nI b)]) := by rw [← e102]; exact g98
          refine e_aload_n f_61_100 rfl rfl ?_
          refine e_getf f_61_101 g104 rfl rfl ?_
          refine e_iconst (v := nI 2) f_61_104 (by decide) rfl ?_
          refine e_aload_n f_61_105 rfl rfl ?_
          refine e_getf f_61_106 g104 rfl rfl ?_
          have g105 : px_pa h95 260 50 4 vN ((es.set 0 ((schU a b 0).length)).set 1 ((schU a b 1).length)) := pa_fi g90 fx100 (by omega)
          refine e_iastore_p (xs := (es.set 0 ((schU a b 0).length)).set 1 ((schU a b 1).length)) (x := (schU a b 2).length) f_61_109 g105 (by omega) (by first | omega | (simp only [List.length_set]; omega)) (rfl) rfl (fun h106 g107 fx108 => ?_)
          have fr109 : px_fi 258 3 h h106 := fi_tr fr101 fx108 (by omega)
          refine e_aload_n f_61_110 rfl rfl ?_
          refine e_iload_n f_61_111 rfl rfl ?_
          refine e_iload_n f_61_112 rfl rfl ?_
          have g110 : h106.2.2 258 = some (7, [.ref (259), .ref (260), .int (nI ((schU a b 2).length)), .int (nI a), .int (nI b)]) := fi_at g104 fx108 (by omega)
          have g111 : px_pa h106 259 50 266 vN (schU a b 2) := pa_fi g103 fx108 (by omega)
          refine e_callV (As := [.int (nI a), .int (nI b)]) (rest := []) f_61_113 rfl rfl rfl (Nat.le_of_ble_eq_true rfl) (Nat.le_of_ble_eq_true rfl) g110 rfl (Nat.le_of_ble_eq_true rfl) (cc_Sch_three (a := a) (b := b) (xs := schU a b 2) (A := nI a) (B := nI b) g110 g111 (by omega)) rfl (fun h112 r113 q114 => ?_)
          obtain ⟨rfl, g115, g116, fx117⟩ := q114
          have fr118 : px_fi 258 3 h h112 := fi_tr fr109 fx117 (by omega)
          show px_to 61 116 [some (.ref (258)), some (.int (nI a)), some (.int (nI b))] [] h112 _
          have e119 : (sL3 a b).foldl sadd (schU a b 2) = schU a b 3 := sadd_all (by show (sL0 a b ++ sL1 a b ++ sL2 a b).length + _ ≤ _; rw [List.length_append]; omega)
          have g120 : px_pa h112 259 50 266 vN (schU a b 3) := pa_eq g116 e119
          have g121 : h112.2.2 258 = some (7, [.ref (259), .ref (260), .int (nI ((schU a b 3).length)), .int (nI a), .int (nI b)]) := by rw [← e119]; exact g115
          refine e_aload_n f_61_116 rfl rfl ?_
          refine e_getf f_61_117 g121 rfl rfl ?_
          refine e_iconst (v := nI 3) f_61_120 (by decide) rfl ?_
          refine e_aload_n f_61_121 rfl rfl ?_
          refine e_getf f_61_122 g121 rfl rfl ?_
          have g122 : px_pa h112 260 50 4 vN (((es.set 0 ((schU a b 0).length)).set 1 ((schU a b 1).length)).set 2 ((schU a b 2).length)) := pa_fi g107 fx117 (by omega)
          refine e_iastore_p (xs := ((es.set 0 ((schU a b 0).length)).set 1 ((schU a b 1).length)).set 2 ((schU a b 2).length)) (x := (schU a b 3).length) f_61_125 g122 (by omega) (by first | omega | (simp only [List.length_set]; omega)) (rfl) rfl (fun h123 g124 fx125 => ?_)
          have fr126 : px_fi 258 3 h h123 := fi_tr fr118 fx125 (by omega)
          refine e_vret f_61_126 rfl ?_
          have g127 : h123.2.2 258 = some (7, [.ref (259), .ref (260), .int (nI ((schU a b 3).length)), .int (nI a), .int (nI b)]) := fi_at g121 fx125 (by omega)
          have g128 : px_pa h123 259 50 266 vN (schU a b 3) := pa_fi g120 fx125 (by omega)
          exact ⟨rfl, g127, g128, pa_eq g124 (set4 p1), fr126⟩
        · skip
          rw [← nI_0] at c_63
          have c_63 : 0 < b := cv_nle (by omega) (by omega) c_63
          refine e_aload_n f_61_66 rfl rfl ?_
          refine e_iload_n f_61_67 rfl rfl ?_
          refine e_callS (As := [.int (nI b)]) (rest := [.ref (258)]) f_61_68 rfl rfl rfl (Nat.le_of_ble_eq_true rfl) (Nat.le_of_ble_eq_true rfl) (cc_Sch_ones (n := b)  (by omega)) rfl (fun h129 r130 q131 => ?_)
          obtain ⟨rfl, qe⟩ := q131
          have qe := qe.symm
          subst qe
          show px_to 61 71 [some (.ref (258)), some (.int (nI a)), some (.int (nI b))] [.int (nI (ones b)), .ref (258)] h35 _
          refine e_iload_n f_61_71 rfl rfl ?_
          refine e_ishl (z := nI (ones b * 2 ^ a)) f_61_72 (shlN _ (by omega)) rfl ?_
          have g132 : h35.2.2 258 = some (7, [.ref (259), .ref (260), .int (nI ((schU a b 0).length)), .int (nI a), .int (nI b)]) := fi_at g30 fx37 (by omega)
          have g133 : px_pa h35 259 50 266 vN (schU a b 0) := pa_fi g29 fx37 (by omega)
          refine e_callV (As := [.int (nI (ones b * 2 ^ a))]) (rest := []) f_61_73 rfl rfl rfl (Nat.le_of_ble_eq_true rfl) (Nat.le_of_ble_eq_true rfl) g132 rfl (Nat.le_of_ble_eq_true rfl) (cc_Sch_add (v := ones b * 2 ^ a) (xs := schU a b 0) (A := nI a) (B := nI b) g132 g133 ) rfl (fun h134 r135 q136 => ?_)
          obtain ⟨rfl, g137, g138, fx139⟩ := q136
          have fr140 : px_fi 258 3 h h134 := fi_tr fr38 fx139 (by omega)
          show px_to 61 76 [some (.ref (258)), some (.int (nI a)), some (.int (nI b))] [] h134 _
          refine e_aload_n f_61_76 rfl rfl ?_
          refine e_iload_n f_61_77 rfl rfl ?_
          refine e_callS (As := [.int (nI b)]) (rest := [.ref (258)]) f_61_78 rfl rfl rfl (Nat.le_of_ble_eq_true rfl) (Nat.le_of_ble_eq_true rfl) (cc_Sch_ones (n := b)  (by omega)) rfl (fun h141 r142 q143 => ?_)
          obtain ⟨rfl, qe⟩ := q143
          have qe := qe.symm
          subst qe
          show px_to 61 81 [some (.ref (258)), some (.int (nI a)), some (.int (nI b))] [.int (nI (ones b)), .ref (258)] h134 _
          refine e_callV (As := [.int (nI (ones b))]) (rest := []) f_61_81 rfl rfl rfl (Nat.le_of_ble_eq_true rfl) (Nat.le_of_ble_eq_true rfl) g137 rfl (Nat.le_of_ble_eq_true rfl) (cc_Sch_add (v := ones b) (xs := sadd (schU a b 0) (ones b * 2 ^ a)) (A := nI a) (B := nI b) g137 g138 ) rfl (fun h144 r145 q146 => ?_)
          obtain ⟨rfl, g147, g148, fx149⟩ := q146
          have fr150 : px_fi 258 3 h h144 := fi_tr fr140 fx149 (by omega)
          show px_to 61 84 [some (.ref (258)), some (.int (nI a)), some (.int (nI b))] [] h144 _
          have e151 : sadd (sadd (schU a b 0) (ones b * 2 ^ a)) (ones b) = schU a b 1 := by show _ = sL0 a b ++ sL1 a b; unfold sL1; rw [if_pos (by omega)]; show sadd (sadd (sL0 a b) _) _ = _; unfold sL0; rw [if_neg (by omega)]; rfl
          have g152 : px_pa h144 259 50 266 vN (schU a b 1) := pa_eq g148 e151
          have g153 : h144.2.2 258 = some (7, [.ref (259), .ref (260), .int (nI ((schU a b 1).length)), .int (nI a), .int (nI b)]) := by rw [← e151]; exact g147
          have u1 := sL01_len a b
          have u2 := sL2_len p0
          have u3 := sL3_len p0
          refine e_aload_n f_61_84 rfl rfl ?_
          refine e_getf f_61_85 g153 rfl rfl ?_
          refine e_iconst (v := nI 1) f_61_88 (by decide) rfl ?_
          refine e_aload_n f_61_89 rfl rfl ?_
          refine e_getf f_61_90 g153 rfl rfl ?_
          have g154 : px_pa h134 260 50 4 vN (es.set 0 ((schU a b 0).length)) := pa_fi g36 fx139 (by omega)
          have g155 : px_pa h144 260 50 4 vN (es.set 0 ((schU a b 0).length)) := pa_fi g154 fx149 (by omega)
          refine e_iastore_p (xs := es.set 0 ((schU a b 0).length)) (x := (schU a b 1).length) f_61_93 g155 (by omega) (by first | omega | (simp only [List.length_set]; omega)) (rfl) rfl (fun h156 g157 fx158 => ?_)
          have fr159 : px_fi 258 3 h h156 := fi_tr fr150 fx158 (by omega)
          refine e_aload_n f_61_94 rfl rfl ?_
          refine e_iload_n f_61_95 rfl rfl ?_
          refine e_iload_n f_61_96 rfl rfl ?_
          have g160 : h156.2.2 258 = some (7, [.ref (259), .ref (260), .int (nI ((schU a b 1).length)), .int (nI a), .int (nI b)]) := fi_at g153 fx158 (by omega)
          have g161 : px_pa h156 259 50 266 vN (schU a b 1) := pa_fi g152 fx158 (by omega)
          refine e_callV (As := [.int (nI a), .int (nI b)]) (rest := []) f_61_97 rfl rfl rfl (Nat.le_of_ble_eq_true rfl) (Nat.le_of_ble_eq_true rfl) g160 rfl (Nat.le_of_ble_eq_true rfl) (cc_Sch_two (a := a) (b := b) (xs := schU a b 1) (A := nI a) (B := nI b) g160 g161 (by omega)) rfl (fun h162 r163 q164 => ?_)
          obtain ⟨rfl, g165, g166, fx167⟩ := q164
          have fr168 : px_fi 258 3 h h162 := fi_tr fr159 fx167 (by omega)
          show px_to 61 100 [some (.ref (258)), some (.int (nI a)), some (.int (nI b))] [] h162 _
          have e169 : (sL2 a b).foldl sadd (schU a b 1) = schU a b 2 := sadd_all (by show (sL0 a b ++ sL1 a b).length + _ ≤ _; omega)
          have g170 : px_pa h162 259 50 266 vN (schU a b 2) := pa_eq g166 e169
          have g171 : h162.2.2 258 = some (7, [.ref (259), .ref (260), .int (nI ((schU a b 2).length)), .int (nI a), .int (nI b)]) := by rw [← e169]; exact g165
          refine e_aload_n f_61_100 rfl rfl ?_
          refine e_getf f_61_101 g171 rfl rfl ?_
          refine e_iconst (v := nI 2) f_61_104 (by decide) rfl ?_
          refine e_aload_n f_61_105 rfl rfl ?_
          refine e_getf f_61_106 g171 rfl rfl ?_
          have g172 : px_pa h162 260 50 4 vN ((es.set 0 ((schU a b 0).length)).set 1 ((schU a b 1).length)) := pa_fi g157 fx167 (by omega)
          refine e_iastore_p (xs := (es.set 0 ((schU a b 0).length)).set 1 ((schU a b 1).length)) (x := (schU a b 2).length) f_61_109 g172 (by omega) (by first | omega | (simp only [List.length_set]; omega)) (rfl) rfl (fun h173 g174 fx175 => ?_)
          have fr176 : px_fi 258 3 h h173 := fi_tr fr168 fx175 (by omega)
          refine e_aload_n f_61_110 rfl rfl ?_
          refine e_iload_n f_61_111 rfl rfl ?_
          refine e_iload_n f_61_112 rfl rfl ?_
          have g177 : h173.2.2 258 = some (7, [.ref (259), .ref (260), .int (nI ((schU a b 2).length)), .int (nI a), .int (nI b)]) := fi_at g171 fx175 (by omega)
          have g178 : px_pa h173 259 50 266 vN (schU a b 2) := pa_fi g170 fx175 (by omega)
          refine e_callV (As := [.int (nI a), .int (nI b)]) (rest := []) f_61_113 rfl rfl rfl (Nat.le_of_ble_eq_true rfl) (Nat.le_of_ble_eq_true rfl) g177 rfl (Nat.le_of_ble_eq_true rfl) (cc_Sch_three (a := a) (b := b) (xs := schU a b 2) (A := nI a) (B := nI b) g177 g178 (by omega)) rfl (fun h179 r180 q181 => ?_)
          obtain ⟨rfl, g182, g183, fx184⟩ := q181
          have fr185 : px_fi 258 3 h h179 := fi_tr fr176 fx184 (by omega)
          show px_to 61 116 [some (.ref (258)), some (.int (nI a)), some (.int (nI b))] [] h179 _
          have e186 : (sL3 a b).foldl sadd (schU a b 2) = schU a b 3 := sadd_all (by show (sL0 a b ++ sL1 a b ++ sL2 a b).length + _ ≤ _; rw [List.length_append]; omega)
          have g187 : px_pa h179 259 50 266 vN (schU a b 3) := pa_eq g183 e186
          have g188 : h179.2.2 258 = some (7, [.ref (259), .ref (260), .int (nI ((schU a b 3).length)), .int (nI a), .int (nI b)]) := by rw [← e186]; exact g182
          refine e_aload_n f_61_116 rfl rfl ?_
          refine e_getf f_61_117 g188 rfl rfl ?_
          refine e_iconst (v := nI 3) f_61_120 (by decide) rfl ?_
          refine e_aload_n f_61_121 rfl rfl ?_
          refine e_getf f_61_122 g188 rfl rfl ?_
          have g189 : px_pa h179 260 50 4 vN (((es.set 0 ((schU a b 0).length)).set 1 ((schU a b 1).length)).set 2 ((schU a b 2).length)) := pa_fi g174 fx184 (by omega)
          refine e_iastore_p (xs := ((es.set 0 ((schU a b 0).length)).set 1 ((schU a b 1).length)).set 2 ((schU a b 2).length)) (x := (schU a b 3).length) f_61_125 g189 (by omega) (by first | omega | (simp only [List.length_set]; omega)) (rfl) rfl (fun h190 g191 fx192 => ?_)
          have fr193 : px_fi 258 3 h h190 := fi_tr fr185 fx192 (by omega)
          refine e_vret f_61_126 rfl ?_
          have g194 : h190.2.2 258 = some (7, [.ref (259), .ref (260), .int (nI ((schU a b 3).length)), .int (nI a), .int (nI b)]) := fi_at g188 fx192 (by omega)
          have g195 : px_pa h190 259 50 266 vN (schU a b 3) := pa_fi g187 fx192 (by omega)
          exact ⟨rfl, g194, g195, pa_eq g191 (set4 p1), fr193⟩
    · skip
      rw [← nI_0] at c_33
      have c_33 : a ≠ 0 := cv_ne c_33
      refine e_iload_n f_61_36 rfl rfl ?_
      refine e_if_ne f_61_37 rfl (fun c_37 => ?_) (fun c_37 => ?_)
      · skip
        rw [← nI_0] at c_37
        have c_37 : b ≠ 0 := cv_ne c_37
        have e196 : ([] : List Nat) = schU a b 0 := by show _ = sL0 a b; unfold sL0; rw [if_neg (by omega)]
        have g197 : px_pa h9 259 50 266 vN (schU a b 0) := pa_eq g16 e196
        have g198 : h9.2.2 258 = some (7, [.ref (259), .ref (260), .int (nI ((schU a b 0).length)), .int (nI a), .int (nI b)]) := by rw [← e196]; exact g17
        refine e_aload_n f_61_48 rfl rfl ?_
        refine e_getf f_61_49 g198 rfl rfl ?_
        refine e_iconst (v := nI 0) f_61_52 (by decide) rfl ?_
        refine e_aload_n f_61_53 rfl rfl ?_
        refine e_getf f_61_54 g198 rfl rfl ?_
        have g199 : px_pa h1 260 50 4 vN es := pa_fi H2 fx3 (by omega)
        have g200 : px_pa h5 260 50 4 vN es := pa_fi g199 fx7 (by omega)
        have g201 : px_pa h9 260 50 4 vN es := pa_fi g200 fx11 (by omega)
        refine e_iastore_p (xs := es) (x := (schU a b 0).length) f_61_57 g201 (by omega) (by first | omega | (simp only [List.length_set]; omega)) (rfl) rfl (fun h202 g203 fx204 => ?_)
        have fr205 : px_fi 258 3 h h202 := fi_tr fr12 fx204 (by omega)
        refine e_iload_n f_61_58 rfl rfl ?_
        refine e_if_le f_61_59 rfl (fun c_59 => ?_) (fun c_59 => ?_)
        · skip
          rw [← nI_0] at c_59
          have c_59 : a ≤ 0 := cv_le (by omega) (by omega) c_59
          have g206 : px_pa h202 259 50 266 vN (schU a b 0) := pa_fi g197 fx204 (by omega)
          have e207 : schU a b 0 = schU a b 1 := by show _ = sL0 a b ++ sL1 a b; unfold sL1; rw [if_neg (by omega), List.append_nil]; rfl
          have g208 : px_pa h202 259 50 266 vN (schU a b 1) := pa_eq g206 e207
          have g209 : h202.2.2 258 = some (7, [.ref (259), .ref (260), .int (nI ((schU a b 0).length)), .int (nI a), .int (nI b)]) := fi_at g198 fx204 (by omega)
          have g210 : h202.2.2 258 = some (7, [.ref (259), .ref (260), .int (nI ((schU a b 1).length)), .int (nI a), .int (nI b)]) := by rw [← e207]; exact g209
          have u1 := sL01_len a b
          have u2 := sL2_len p0
          have u3 := sL3_len p0
          refine e_aload_n f_61_84 rfl rfl ?_
          refine e_getf f_61_85 g210 rfl rfl ?_
          refine e_iconst (v := nI 1) f_61_88 (by decide) rfl ?_
          refine e_aload_n f_61_89 rfl rfl ?_
          refine e_getf f_61_90 g210 rfl rfl ?_
          refine e_iastore_p (xs := es.set 0 ((schU a b 0).length)) (x := (schU a b 1).length) f_61_93 g203 (by omega) (by first | omega | (simp only [List.length_set]; omega)) (rfl) rfl (fun h211 g212 fx213 => ?_)
          have fr214 : px_fi 258 3 h h211 := fi_tr fr205 fx213 (by omega)
          refine e_aload_n f_61_94 rfl rfl ?_
          refine e_iload_n f_61_95 rfl rfl ?_
          refine e_iload_n f_61_96 rfl rfl ?_
          have g215 : h211.2.2 258 = some (7, [.ref (259), .ref (260), .int (nI ((schU a b 1).length)), .int (nI a), .int (nI b)]) := fi_at g210 fx213 (by omega)
          have g216 : px_pa h211 259 50 266 vN (schU a b 1) := pa_fi g208 fx213 (by omega)
          refine e_callV (As := [.int (nI a), .int (nI b)]) (rest := []) f_61_97 rfl rfl rfl (Nat.le_of_ble_eq_true rfl) (Nat.le_of_ble_eq_true rfl) g215 rfl (Nat.le_of_ble_eq_true rfl) (cc_Sch_two (a := a) (b := b) (xs := schU a b 1) (A := nI a) (B := nI b) g215 g216 (by omega)) rfl (fun h217 r218 q219 => ?_)
          obtain ⟨rfl, g220, g221, fx222⟩ := q219
          have fr223 : px_fi 258 3 h h217 := fi_tr fr214 fx222 (by omega)
          show px_to 61 100 [some (.ref (258)), some (.int (nI a)), some (.int (nI b))] [] h217 _
          have e224 : (sL2 a b).foldl sadd (schU a b 1) = schU a b 2 := sadd_all (by show (sL0 a b ++ sL1 a b).length + _ ≤ _; omega)
          have g225 : px_pa h217 259 50 266 vN (schU a b 2) := pa_eq g221 e224
          have g226 : h217.2.2 258 = some (7, [.ref (259), .ref (260), .int (nI ((schU a b 2).length)), .int (nI a), .int (nI b)]) := by rw [← e224]; exact g220
          refine e_aload_n f_61_100 rfl rfl ?_
          refine e_getf f_61_101 g226 rfl rfl ?_
          refine e_iconst (v := nI 2) f_61_104 (by decide) rfl ?_
          refine e_aload_n f_61_105 rfl rfl ?_
          refine e_getf f_61_106 g226 rfl rfl ?_
          have g227 : px_pa h217 260 50 4 vN ((es.set 0 ((schU a b 0).length)).set 1 ((schU a b 1).length)) := pa_fi g212 fx222 (by omega)
          refine e_iastore_p (xs := (es.set 0 ((schU a b 0).length)).set 1 ((schU a b 1).length)) (x := (schU a b 2).length) f_61_109 g227 (by omega) (by first | omega | (simp only [List.length_set]; omega)) (rfl) rfl (fun h228 g229 fx230 => ?_)
          have fr231 : px_fi 258 3 h h228 := fi_tr fr223 fx230 (by omega)
          refine e_aload_n f_61_110 rfl rfl ?_
          refine e_iload_n f_61_111 rfl rfl ?_
          refine e_iload_n f_61_112 rfl rfl ?_
          have g232 : h228.2.2 258 = some (7, [.ref (259), .ref (260), .int (nI ((schU a b 2).length)), .int (nI a), .int (nI b)]) := fi_at g226 fx230 (by omega)
          have g233 : px_pa h228 259 50 266 vN (schU a b 2) := pa_fi g225 fx230 (by omega)
          refine e_callV (As := [.int (nI a), .int (nI b)]) (rest := []) f_61_113 rfl rfl rfl (Nat.le_of_ble_eq_true rfl) (Nat.le_of_ble_eq_true rfl) g232 rfl (Nat.le_of_ble_eq_true rfl) (cc_Sch_three (a := a) (b := b) (xs := schU a b 2) (A := nI a) (B := nI b) g232 g233 (by omega)) rfl (fun h234 r235 q236 => ?_)
          obtain ⟨rfl, g237, g238, fx239⟩ := q236
          have fr240 : px_fi 258 3 h h234 := fi_tr fr231 fx239 (by omega)
          show px_to 61 116 [some (.ref (258)), some (.int (nI a)), some (.int (nI b))] [] h234 _
          have e241 : (sL3 a b).foldl sadd (schU a b 2) = schU a b 3 := sadd_all (by show (sL0 a b ++ sL1 a b ++ sL2 a b).length + _ ≤ _; rw [List.length_append]; omega)
          have g242 : px_pa h234 259 50 266 vN (schU a b 3) := pa_eq g238 e241
          have g243 : h234.2.2 258 = some (7, [.ref (259), .ref (260), .int (nI ((schU a b 3).length)), .int (nI a), .int (nI b)]) := by rw [← e241]; exact g237
          refine e_aload_n f_61_116 rfl rfl ?_
          refine e_getf f_61_117 g243 rfl rfl ?_
          refine e_iconst (v := nI 3) f_61_120 (by decide) rfl ?_
          refine e_aload_n f_61_121 rfl rfl ?_
          refine e_getf f_61_122 g243 rfl rfl ?_
          have g244 : px_pa h234 260 50 4 vN (((es.set 0 ((schU a b 0).length)).set 1 ((schU a b 1).length)).set 2 ((schU a b 2).length)) := pa_fi g229 fx239 (by omega)
          refine e_iastore_p (xs := ((es.set 0 ((schU a b 0).length)).set 1 ((schU a b 1).length)).set 2 ((schU a b 2).length)) (x := (schU a b 3).length) f_61_125 g244 (by omega) (by first | omega | (simp only [List.length_set]; omega)) (rfl) rfl (fun h245 g246 fx247 => ?_)
          have fr248 : px_fi 258 3 h h245 := fi_tr fr240 fx247 (by omega)
          refine e_vret f_61_126 rfl ?_
          have g249 : h245.2.2 258 = some (7, [.ref (259), .ref (260), .int (nI ((schU a b 3).length)), .int (nI a), .int (nI b)]) := fi_at g243 fx247 (by omega)
          have g250 : px_pa h245 259 50 266 vN (schU a b 3) := pa_fi g242 fx247 (by omega)
          exact ⟨rfl, g249, g250, pa_eq g246 (set4 p1), fr248⟩
        · skip
          rw [← nI_0] at c_59
          have c_59 : 0 < a := cv_nle (by omega) (by omega) c_59
          refine e_iload_n f_61_62 rfl rfl ?_
          refine e_if_le f_61_63 rfl (fun c_63 => ?_) (fun c_63 => ?_)
          · skip
            rw [← nI_0] at c_63
            have c_63 : b ≤ 0 := cv_le (by omega) (by omega) c_63
            have g251 : px_pa h202 259 50 266 vN (schU a b 0) := pa_fi g197 fx204 (by omega)
            have e252 : schU a b 0 = schU a b 1 := by show _ = sL0 a b ++ sL1 a b; unfold sL1; rw [if_neg (by omega), List.append_nil]; rfl
            have g253 : px_pa h202 259 50 266 vN (schU a b 1) := pa_eq g251 e252
            have g254 : h202.2.2 258 = some (7, [.ref (259), .ref (260), .int (nI ((schU a b 0).length)), .int (nI a), .int (nI b)]) := fi_at g198 fx204 (by omega)
            have g255 : h202.2.2 258 = some (7, [.ref (259), .ref (260), .int (nI ((schU a b 1).length)), .int (nI a), .int (nI b)]) := by rw [← e252]; exact g254
            have u1 := sL01_len a b
            have u2 := sL2_len p0
            have u3 := sL3_len p0
            refine e_aload_n f_61_84 rfl rfl ?_
            refine e_getf f_61_85 g255 rfl rfl ?_
            refine e_iconst (v := nI 1) f_61_88 (by decide) rfl ?_
            refine e_aload_n f_61_89 rfl rfl ?_
            refine e_getf f_61_90 g255 rfl rfl ?_
            refine e_iastore_p (xs := es.set 0 ((schU a b 0).length)) (x := (schU a b 1).length) f_61_93 g203 (by omega) (by first | omega | (simp only [List.length_set]; omega)) (rfl) rfl (fun h256 g257 fx258 => ?_)
            have fr259 : px_fi 258 3 h h256 := fi_tr fr205 fx258 (by omega)
            refine e_aload_n f_61_94 rfl rfl ?_
            refine e_iload_n f_61_95 rfl rfl ?_
            refine e_iload_n f_61_96 rfl rfl ?_
            have g260 : h256.2.2 258 = some (7, [.ref (259), .ref (260), .int (nI ((schU a b 1).length)), .int (nI a), .int (nI b)]) := fi_at g255 fx258 (by omega)
            have g261 : px_pa h256 259 50 266 vN (schU a b 1) := pa_fi g253 fx258 (by omega)
            refine e_callV (As := [.int (nI a), .int (nI b)]) (rest := []) f_61_97 rfl rfl rfl (Nat.le_of_ble_eq_true rfl) (Nat.le_of_ble_eq_true rfl) g260 rfl (Nat.le_of_ble_eq_true rfl) (cc_Sch_two (a := a) (b := b) (xs := schU a b 1) (A := nI a) (B := nI b) g260 g261 (by omega)) rfl (fun h262 r263 q264 => ?_)
            obtain ⟨rfl, g265, g266, fx267⟩ := q264
            have fr268 : px_fi 258 3 h h262 := fi_tr fr259 fx267 (by omega)
            show px_to 61 100 [some (.ref (258)), some (.int (nI a)), some (.int (nI b))] [] h262 _
            have e269 : (sL2 a b).foldl sadd (schU a b 1) = schU a b 2 := sadd_all (by show (sL0 a b ++ sL1 a b).length + _ ≤ _; omega)
            have g270 : px_pa h262 259 50 266 vN (schU a b 2) := pa_eq g266 e269
            have g271 : h262.2.2 258 = some (7, [.ref (259), .ref (260), .int (nI ((schU a b 2).length)), .int (nI a), .int (nI b)]) := by rw [← e269]; exact g265
            refine e_aload_n f_61_100 rfl rfl ?_
            refine e_getf f_61_101 g271 rfl rfl ?_
            refine e_iconst (v := nI 2) f_61_104 (by decide) rfl ?_
            refine e_aload_n f_61_105 rfl rfl ?_
            refine e_getf f_61_106 g271 rfl rfl ?_
            have g272 : px_pa h262 260 50 4 vN ((es.set 0 ((schU a b 0).length)).set 1 ((schU a b 1).length)) := pa_fi g257 fx267 (by omega)
            refine e_iastore_p (xs := (es.set 0 ((schU a b 0).length)).set 1 ((schU a b 1).length)) (x := (schU a b 2).length) f_61_109 g272 (by omega) (by first | omega | (simp only [List.length_set]; omega)) (rfl) rfl (fun h273 g274 fx275 => ?_)
            have fr276 : px_fi 258 3 h h273 := fi_tr fr268 fx275 (by omega)
            refine e_aload_n f_61_110 rfl rfl ?_
            refine e_iload_n f_61_111 rfl rfl ?_
            refine e_iload_n f_61_112 rfl rfl ?_
            have g277 : h273.2.2 258 = some (7, [.ref (259), .ref (260), .int (nI ((schU a b 2).length)), .int (nI a), .int (nI b)]) := fi_at g271 fx275 (by omega)
            have g278 : px_pa h273 259 50 266 vN (schU a b 2) := pa_fi g270 fx275 (by omega)
            refine e_callV (As := [.int (nI a), .int (nI b)]) (rest := []) f_61_113 rfl rfl rfl (Nat.le_of_ble_eq_true rfl) (Nat.le_of_ble_eq_true rfl) g277 rfl (Nat.le_of_ble_eq_true rfl) (cc_Sch_three (a := a) (b := b) (xs := schU a b 2) (A := nI a) (B := nI b) g277 g278 (by omega)) rfl (fun h279 r280 q281 => ?_)
            obtain ⟨rfl, g282, g283, fx284⟩ := q281
            have fr285 : px_fi 258 3 h h279 := fi_tr fr276 fx284 (by omega)
            show px_to 61 116 [some (.ref (258)), some (.int (nI a)), some (.int (nI b))] [] h279 _
            have e286 : (sL3 a b).foldl sadd (schU a b 2) = schU a b 3 := sadd_all (by show (sL0 a b ++ sL1 a b ++ sL2 a b).length + _ ≤ _; rw [List.length_append]; omega)
            have g287 : px_pa h279 259 50 266 vN (schU a b 3) := pa_eq g283 e286
            have g288 : h279.2.2 258 = some (7, [.ref (259), .ref (260), .int (nI ((schU a b 3).length)), .int (nI a), .int (nI b)]) := by rw [← e286]; exact g282
            refine e_aload_n f_61_116 rfl rfl ?_
            refine e_getf f_61_117 g288 rfl rfl ?_
            refine e_iconst (v := nI 3) f_61_120 (by decide) rfl ?_
            refine e_aload_n f_61_121 rfl rfl ?_
            refine e_getf f_61_122 g288 rfl rfl ?_
            have g289 : px_pa h279 260 50 4 vN (((es.set 0 ((schU a b 0).length)).set 1 ((schU a b 1).length)).set 2 ((schU a b 2).length)) := pa_fi g274 fx284 (by omega)
            refine e_iastore_p (xs := ((es.set 0 ((schU a b 0).length)).set 1 ((schU a b 1).length)).set 2 ((schU a b 2).length)) (x := (schU a b 3).length) f_61_125 g289 (by omega) (by first | omega | (simp only [List.length_set]; omega)) (rfl) rfl (fun h290 g291 fx292 => ?_)
            have fr293 : px_fi 258 3 h h290 := fi_tr fr285 fx292 (by omega)
            refine e_vret f_61_126 rfl ?_
            have g294 : h290.2.2 258 = some (7, [.ref (259), .ref (260), .int (nI ((schU a b 3).length)), .int (nI a), .int (nI b)]) := fi_at g288 fx292 (by omega)
            have g295 : px_pa h290 259 50 266 vN (schU a b 3) := pa_fi g287 fx292 (by omega)
            exact ⟨rfl, g294, g295, pa_eq g291 (set4 p1), fr293⟩
          · skip
            rw [← nI_0] at c_63
            have c_63 : 0 < b := cv_nle (by omega) (by omega) c_63
            refine e_aload_n f_61_66 rfl rfl ?_
            refine e_iload_n f_61_67 rfl rfl ?_
            refine e_callS (As := [.int (nI b)]) (rest := [.ref (258)]) f_61_68 rfl rfl rfl (Nat.le_of_ble_eq_true rfl) (Nat.le_of_ble_eq_true rfl) (cc_Sch_ones (n := b)  (by omega)) rfl (fun h296 r297 q298 => ?_)
            obtain ⟨rfl, qe⟩ := q298
            have qe := qe.symm
            subst qe
            show px_to 61 71 [some (.ref (258)), some (.int (nI a)), some (.int (nI b))] [.int (nI (ones b)), .ref (258)] h202 _
            refine e_iload_n f_61_71 rfl rfl ?_
            refine e_ishl (z := nI (ones b * 2 ^ a)) f_61_72 (shlN _ (by omega)) rfl ?_
            have g299 : h202.2.2 258 = some (7, [.ref (259), .ref (260), .int (nI ((schU a b 0).length)), .int (nI a), .int (nI b)]) := fi_at g198 fx204 (by omega)
            have g300 : px_pa h202 259 50 266 vN (schU a b 0) := pa_fi g197 fx204 (by omega)
            refine e_callV (As := [.int (nI (ones b * 2 ^ a))]) (rest := []) f_61_73 rfl rfl rfl (Nat.le_of_ble_eq_true rfl) (Nat.le_of_ble_eq_true rfl) g299 rfl (Nat.le_of_ble_eq_true rfl) (cc_Sch_add (v := ones b * 2 ^ a) (xs := schU a b 0) (A := nI a) (B := nI b) g299 g300 ) rfl (fun h301 r302 q303 => ?_)
            obtain ⟨rfl, g304, g305, fx306⟩ := q303
            have fr307 : px_fi 258 3 h h301 := fi_tr fr205 fx306 (by omega)
            show px_to 61 76 [some (.ref (258)), some (.int (nI a)), some (.int (nI b))] [] h301 _
            refine e_aload_n f_61_76 rfl rfl ?_
            refine e_iload_n f_61_77 rfl rfl ?_
            refine e_callS (As := [.int (nI b)]) (rest := [.ref (258)]) f_61_78 rfl rfl rfl (Nat.le_of_ble_eq_true rfl) (Nat.le_of_ble_eq_true rfl) (cc_Sch_ones (n := b)  (by omega)) rfl (fun h308 r309 q310 => ?_)
            obtain ⟨rfl, qe⟩ := q310
            have qe := qe.symm
            subst qe
            show px_to 61 81 [some (.ref (258)), some (.int (nI a)), some (.int (nI b))] [.int (nI (ones b)), .ref (258)] h301 _
            refine e_callV (As := [.int (nI (ones b))]) (rest := []) f_61_81 rfl rfl rfl (Nat.le_of_ble_eq_true rfl) (Nat.le_of_ble_eq_true rfl) g304 rfl (Nat.le_of_ble_eq_true rfl) (cc_Sch_add (v := ones b) (xs := sadd (schU a b 0) (ones b * 2 ^ a)) (A := nI a) (B := nI b) g304 g305 ) rfl (fun h311 r312 q313 => ?_)
            obtain ⟨rfl, g314, g315, fx316⟩ := q313
            have fr317 : px_fi 258 3 h h311 := fi_tr fr307 fx316 (by omega)
            show px_to 61 84 [some (.ref (258)), some (.int (nI a)), some (.int (nI b))] [] h311 _
            have e318 : sadd (sadd (schU a b 0) (ones b * 2 ^ a)) (ones b) = schU a b 1 := by show _ = sL0 a b ++ sL1 a b; unfold sL1; rw [if_pos (by omega)]; show sadd (sadd (sL0 a b) _) _ = _; unfold sL0; rw [if_neg (by omega)]; rfl
            have g319 : px_pa h311 259 50 266 vN (schU a b 1) := pa_eq g315 e318
            have g320 : h311.2.2 258 = some (7, [.ref (259), .ref (260), .int (nI ((schU a b 1).length)), .int (nI a), .int (nI b)]) := by rw [← e318]; exact g314
            have u1 := sL01_len a b
            have u2 := sL2_len p0
            have u3 := sL3_len p0
            refine e_aload_n f_61_84 rfl rfl ?_
            refine e_getf f_61_85 g320 rfl rfl ?_
            refine e_iconst (v := nI 1) f_61_88 (by decide) rfl ?_
            refine e_aload_n f_61_89 rfl rfl ?_
            refine e_getf f_61_90 g320 rfl rfl ?_
            have g321 : px_pa h301 260 50 4 vN (es.set 0 ((schU a b 0).length)) := pa_fi g203 fx306 (by omega)
            have g322 : px_pa h311 260 50 4 vN (es.set 0 ((schU a b 0).length)) := pa_fi g321 fx316 (by omega)
            refine e_iastore_p (xs := es.set 0 ((schU a b 0).length)) (x := (schU a b 1).length) f_61_93 g322 (by omega) (by first | omega | (simp only [List.length_set]; omega)) (rfl) rfl (fun h323 g324 fx325 => ?_)
            have fr326 : px_fi 258 3 h h323 := fi_tr fr317 fx325 (by omega)
            refine e_aload_n f_61_94 rfl rfl ?_
            refine e_iload_n f_61_95 rfl rfl ?_
            refine e_iload_n f_61_96 rfl rfl ?_
            have g327 : h323.2.2 258 = some (7, [.ref (259), .ref (260), .int (nI ((schU a b 1).length)), .int (nI a), .int (nI b)]) := fi_at g320 fx325 (by omega)
            have g328 : px_pa h323 259 50 266 vN (schU a b 1) := pa_fi g319 fx325 (by omega)
            refine e_callV (As := [.int (nI a), .int (nI b)]) (rest := []) f_61_97 rfl rfl rfl (Nat.le_of_ble_eq_true rfl) (Nat.le_of_ble_eq_true rfl) g327 rfl (Nat.le_of_ble_eq_true rfl) (cc_Sch_two (a := a) (b := b) (xs := schU a b 1) (A := nI a) (B := nI b) g327 g328 (by omega)) rfl (fun h329 r330 q331 => ?_)
            obtain ⟨rfl, g332, g333, fx334⟩ := q331
            have fr335 : px_fi 258 3 h h329 := fi_tr fr326 fx334 (by omega)
            show px_to 61 100 [some (.ref (258)), some (.int (nI a)), some (.int (nI b))] [] h329 _
            have e336 : (sL2 a b).foldl sadd (schU a b 1) = schU a b 2 := sadd_all (by show (sL0 a b ++ sL1 a b).length + _ ≤ _; omega)
            have g337 : px_pa h329 259 50 266 vN (schU a b 2) := pa_eq g333 e336
            have g338 : h329.2.2 258 = some (7, [.ref (259), .ref (260), .int (nI ((schU a b 2).length)), .int (nI a), .int (nI b)]) := by rw [← e336]; exact g332
            refine e_aload_n f_61_100 rfl rfl ?_
            refine e_getf f_61_101 g338 rfl rfl ?_
            refine e_iconst (v := nI 2) f_61_104 (by decide) rfl ?_
            refine e_aload_n f_61_105 rfl rfl ?_
            refine e_getf f_61_106 g338 rfl rfl ?_
            have g339 : px_pa h329 260 50 4 vN ((es.set 0 ((schU a b 0).length)).set 1 ((schU a b 1).length)) := pa_fi g324 fx334 (by omega)
            refine e_iastore_p (xs := (es.set 0 ((schU a b 0).length)).set 1 ((schU a b 1).length)) (x := (schU a b 2).length) f_61_109 g339 (by omega) (by first | omega | (simp only [List.length_set]; omega)) (rfl) rfl (fun h340 g341 fx342 => ?_)
            have fr343 : px_fi 258 3 h h340 := fi_tr fr335 fx342 (by omega)
            refine e_aload_n f_61_110 rfl rfl ?_
            refine e_iload_n f_61_111 rfl rfl ?_
            refine e_iload_n f_61_112 rfl rfl ?_
            have g344 : h340.2.2 258 = some (7, [.ref (259), .ref (260), .int (nI ((schU a b 2).length)), .int (nI a), .int (nI b)]) := fi_at g338 fx342 (by omega)
            have g345 : px_pa h340 259 50 266 vN (schU a b 2) := pa_fi g337 fx342 (by omega)
            refine e_callV (As := [.int (nI a), .int (nI b)]) (rest := []) f_61_113 rfl rfl rfl (Nat.le_of_ble_eq_true rfl) (Nat.le_of_ble_eq_true rfl) g344 rfl (Nat.le_of_ble_eq_true rfl) (cc_Sch_three (a := a) (b := b) (xs := schU a b 2) (A := nI a) (B := nI b) g344 g345 (by omega)) rfl (fun h346 r347 q348 => ?_)
            obtain ⟨rfl, g349, g350, fx351⟩ := q348
            have fr352 : px_fi 258 3 h h346 := fi_tr fr343 fx351 (by omega)
            show px_to 61 116 [some (.ref (258)), some (.int (nI a)), some (.int (nI b))] [] h346 _
            have e353 : (sL3 a b).foldl sadd (schU a b 2) = schU a b 3 := sadd_all (by show (sL0 a b ++ sL1 a b ++ sL2 a b).length + _ ≤ _; rw [List.length_append]; omega)
            have g354 : px_pa h346 259 50 266 vN (schU a b 3) := pa_eq g350 e353
            have g355 : h346.2.2 258 = some (7, [.ref (259), .ref (260), .int (nI ((schU a b 3).length)), .int (nI a), .int (nI b)]) := by rw [← e353]; exact g349
            refine e_aload_n f_61_116 rfl rfl ?_
            refine e_getf f_61_117 g355 rfl rfl ?_
            refine e_iconst (v := nI 3) f_61_120 (by decide) rfl ?_
            refine e_aload_n f_61_121 rfl rfl ?_
            refine e_getf f_61_122 g355 rfl rfl ?_
            have g356 : px_pa h346 260 50 4 vN (((es.set 0 ((schU a b 0).length)).set 1 ((schU a b 1).length)).set 2 ((schU a b 2).length)) := pa_fi g341 fx351 (by omega)
            refine e_iastore_p (xs := ((es.set 0 ((schU a b 0).length)).set 1 ((schU a b 1).length)).set 2 ((schU a b 2).length)) (x := (schU a b 3).length) f_61_125 g356 (by omega) (by first | omega | (simp only [List.length_set]; omega)) (rfl) rfl (fun h357 g358 fx359 => ?_)
            have fr360 : px_fi 258 3 h h357 := fi_tr fr352 fx359 (by omega)
            refine e_vret f_61_126 rfl ?_
            have g361 : h357.2.2 258 = some (7, [.ref (259), .ref (260), .int (nI ((schU a b 3).length)), .int (nI a), .int (nI b)]) := fi_at g355 fx359 (by omega)
            have g362 : px_pa h357 259 50 266 vN (schU a b 3) := pa_fi g354 fx359 (by omega)
            exact ⟨rfl, g361, g362, pa_eq g358 (set4 p1), fr360⟩
      · skip
        rw [← nI_0] at c_37
        have c_37 : b = 0 := cv_nne (by omega) (by omega) c_37
        refine e_aload_n f_61_40 rfl rfl ?_
        refine e_iload_n f_61_41 rfl rfl ?_
        refine e_callS (As := [.int (nI b)]) (rest := [.ref (258)]) f_61_42 rfl rfl rfl (Nat.le_of_ble_eq_true rfl) (Nat.le_of_ble_eq_true rfl) (cc_Sch_ones (n := b)  (by omega)) rfl (fun h363 r364 q365 => ?_)
        obtain ⟨rfl, qe⟩ := q365
        have qe := qe.symm
        subst qe
        show px_to 61 45 [some (.ref (258)), some (.int (nI a)), some (.int (nI b))] [.int (nI (ones b)), .ref (258)] h9 _
        refine e_callV (As := [.int (nI (ones b))]) (rest := []) f_61_45 rfl rfl rfl (Nat.le_of_ble_eq_true rfl) (Nat.le_of_ble_eq_true rfl) g17 rfl (Nat.le_of_ble_eq_true rfl) (cc_Sch_add (v := ones b) (xs := ([] : List Nat)) (A := nI a) (B := nI b) g17 g16 ) rfl (fun h366 r367 q368 => ?_)
        obtain ⟨rfl, g369, g370, fx371⟩ := q368
        have fr372 : px_fi 258 3 h h366 := fi_tr fr12 fx371 (by omega)
        show px_to 61 48 [some (.ref (258)), some (.int (nI a)), some (.int (nI b))] [] h366 _
        have e373 : sadd ([] : List Nat) (ones b) = schU a b 0 := by show _ = sL0 a b; unfold sL0; rw [if_pos (by omega)]; rfl
        have g374 : px_pa h366 259 50 266 vN (schU a b 0) := pa_eq g370 e373
        have g375 : h366.2.2 258 = some (7, [.ref (259), .ref (260), .int (nI ((schU a b 0).length)), .int (nI a), .int (nI b)]) := by rw [← e373]; exact g369
        refine e_aload_n f_61_48 rfl rfl ?_
        refine e_getf f_61_49 g375 rfl rfl ?_
        refine e_iconst (v := nI 0) f_61_52 (by decide) rfl ?_
        refine e_aload_n f_61_53 rfl rfl ?_
        refine e_getf f_61_54 g375 rfl rfl ?_
        have g376 : px_pa h1 260 50 4 vN es := pa_fi H2 fx3 (by omega)
        have g377 : px_pa h5 260 50 4 vN es := pa_fi g376 fx7 (by omega)
        have g378 : px_pa h9 260 50 4 vN es := pa_fi g377 fx11 (by omega)
        have g379 : px_pa h366 260 50 4 vN es := pa_fi g378 fx371 (by omega)
        refine e_iastore_p (xs := es) (x := (schU a b 0).length) f_61_57 g379 (by omega) (by first | omega | (simp only [List.length_set]; omega)) (rfl) rfl (fun h380 g381 fx382 => ?_)
        have fr383 : px_fi 258 3 h h380 := fi_tr fr372 fx382 (by omega)
        refine e_iload_n f_61_58 rfl rfl ?_
        refine e_if_le f_61_59 rfl (fun c_59 => ?_) (fun c_59 => ?_)
        · skip
          rw [← nI_0] at c_59
          have c_59 : a ≤ 0 := cv_le (by omega) (by omega) c_59
          have g384 : px_pa h380 259 50 266 vN (schU a b 0) := pa_fi g374 fx382 (by omega)
          have e385 : schU a b 0 = schU a b 1 := by show _ = sL0 a b ++ sL1 a b; unfold sL1; rw [if_neg (by omega), List.append_nil]; rfl
          have g386 : px_pa h380 259 50 266 vN (schU a b 1) := pa_eq g384 e385
          have g387 : h380.2.2 258 = some (7, [.ref (259), .ref (260), .int (nI ((schU a b 0).length)), .int (nI a), .int (nI b)]) := fi_at g375 fx382 (by omega)
          have g388 : h380.2.2 258 = some (7, [.ref (259), .ref (260), .int (nI ((schU a b 1).length)), .int (nI a), .int (nI b)]) := by rw [← e385]; exact g387
          have u1 := sL01_len a b
          have u2 := sL2_len p0
          have u3 := sL3_len p0
          refine e_aload_n f_61_84 rfl rfl ?_
          refine e_getf f_61_85 g388 rfl rfl ?_
          refine e_iconst (v := nI 1) f_61_88 (by decide) rfl ?_
          refine e_aload_n f_61_89 rfl rfl ?_
          refine e_getf f_61_90 g388 rfl rfl ?_
          refine e_iastore_p (xs := es.set 0 ((schU a b 0).length)) (x := (schU a b 1).length) f_61_93 g381 (by omega) (by first | omega | (simp only [List.length_set]; omega)) (rfl) rfl (fun h389 g390 fx391 => ?_)
          have fr392 : px_fi 258 3 h h389 := fi_tr fr383 fx391 (by omega)
          refine e_aload_n f_61_94 rfl rfl ?_
          refine e_iload_n f_61_95 rfl rfl ?_
          refine e_iload_n f_61_96 rfl rfl ?_
          have g393 : h389.2.2 258 = some (7, [.ref (259), .ref (260), .int (nI ((schU a b 1).length)), .int (nI a), .int (nI b)]) := fi_at g388 fx391 (by omega)
          have g394 : px_pa h389 259 50 266 vN (schU a b 1) := pa_fi g386 fx391 (by omega)
          refine e_callV (As := [.int (nI a), .int (nI b)]) (rest := []) f_61_97 rfl rfl rfl (Nat.le_of_ble_eq_true rfl) (Nat.le_of_ble_eq_true rfl) g393 rfl (Nat.le_of_ble_eq_true rfl) (cc_Sch_two (a := a) (b := b) (xs := schU a b 1) (A := nI a) (B := nI b) g393 g394 (by omega)) rfl (fun h395 r396 q397 => ?_)
          obtain ⟨rfl, g398, g399, fx400⟩ := q397
          have fr401 : px_fi 258 3 h h395 := fi_tr fr392 fx400 (by omega)
          show px_to 61 100 [some (.ref (258)), some (.int (nI a)), some (.int (nI b))] [] h395 _
          have e402 : (sL2 a b).foldl sadd (schU a b 1) = schU a b 2 := sadd_all (by show (sL0 a b ++ sL1 a b).length + _ ≤ _; omega)
          have g403 : px_pa h395 259 50 266 vN (schU a b 2) := pa_eq g399 e402
          have g404 : h395.2.2 258 = some (7, [.ref (259), .ref (260), .int (nI ((schU a b 2).length)), .int (nI a), .int (nI b)]) := by rw [← e402]; exact g398
          refine e_aload_n f_61_100 rfl rfl ?_
          refine e_getf f_61_101 g404 rfl rfl ?_
          refine e_iconst (v := nI 2) f_61_104 (by decide) rfl ?_
          refine e_aload_n f_61_105 rfl rfl ?_
          refine e_getf f_61_106 g404 rfl rfl ?_
          have g405 : px_pa h395 260 50 4 vN ((es.set 0 ((schU a b 0).length)).set 1 ((schU a b 1).length)) := pa_fi g390 fx400 (by omega)
          refine e_iastore_p (xs := (es.set 0 ((schU a b 0).length)).set 1 ((schU a b 1).length)) (x := (schU a b 2).length) f_61_109 g405 (by omega) (by first | omega | (simp only [List.length_set]; omega)) (rfl) rfl (fun h406 g407 fx408 => ?_)
          have fr409 : px_fi 258 3 h h406 := fi_tr fr401 fx408 (by omega)
          refine e_aload_n f_61_110 rfl rfl ?_
          refine e_iload_n f_61_111 rfl rfl ?_
          refine e_iload_n f_61_112 rfl rfl ?_
          have g410 : h406.2.2 258 = some (7, [.ref (259), .ref (260), .int (nI ((schU a b 2).length)), .int (nI a), .int (nI b)]) := fi_at g404 fx408 (by omega)
          have g411 : px_pa h406 259 50 266 vN (schU a b 2) := pa_fi g403 fx408 (by omega)
          refine e_callV (As := [.int (nI a), .int (nI b)]) (rest := []) f_61_113 rfl rfl rfl (Nat.le_of_ble_eq_true rfl) (Nat.le_of_ble_eq_true rfl) g410 rfl (Nat.le_of_ble_eq_true rfl) (cc_Sch_three (a := a) (b := b) (xs := schU a b 2) (A := nI a) (B := nI b) g410 g411 (by omega)) rfl (fun h412 r413 q414 => ?_)
          obtain ⟨rfl, g415, g416, fx417⟩ := q414
          have fr418 : px_fi 258 3 h h412 := fi_tr fr409 fx417 (by omega)
          show px_to 61 116 [some (.ref (258)), some (.int (nI a)), some (.int (nI b))] [] h412 _
          have e419 : (sL3 a b).foldl sadd (schU a b 2) = schU a b 3 := sadd_all (by show (sL0 a b ++ sL1 a b ++ sL2 a b).length + _ ≤ _; rw [List.length_append]; omega)
          have g420 : px_pa h412 259 50 266 vN (schU a b 3) := pa_eq g416 e419
          have g421 : h412.2.2 258 = some (7, [.ref (259), .ref (260), .int (nI ((schU a b 3).length)), .int (nI a), .int (nI b)]) := by rw [← e419]; exact g415
          refine e_aload_n f_61_116 rfl rfl ?_
          refine e_getf f_61_117 g421 rfl rfl ?_
          refine e_iconst (v := nI 3) f_61_120 (by decide) rfl ?_
          refine e_aload_n f_61_121 rfl rfl ?_
          refine e_getf f_61_122 g421 rfl rfl ?_
          have g422 : px_pa h412 260 50 4 vN (((es.set 0 ((schU a b 0).length)).set 1 ((schU a b 1).length)).set 2 ((schU a b 2).length)) := pa_fi g407 fx417 (by omega)
          refine e_iastore_p (xs := ((es.set 0 ((schU a b 0).length)).set 1 ((schU a b 1).length)).set 2 ((schU a b 2).length)) (x := (schU a b 3).length) f_61_125 g422 (by omega) (by first | omega | (simp only [List.length_set]; omega)) (rfl) rfl (fun h423 g424 fx425 => ?_)
          have fr426 : px_fi 258 3 h h423 := fi_tr fr418 fx425 (by omega)
          refine e_vret f_61_126 rfl ?_
          have g427 : h423.2.2 258 = some (7, [.ref (259), .ref (260), .int (nI ((schU a b 3).length)), .int (nI a), .int (nI b)]) := fi_at g421 fx425 (by omega)
          have g428 : px_pa h423 259 50 266 vN (schU a b 3) := pa_fi g420 fx425 (by omega)
          exact ⟨rfl, g427, g428, pa_eq g424 (set4 p1), fr426⟩
        · skip
          rw [← nI_0] at c_59
          have c_59 : 0 < a := cv_nle (by omega) (by omega) c_59
          refine e_iload_n f_61_62 rfl rfl ?_
          refine e_if_le f_61_63 rfl (fun c_63 => ?_) (fun c_63 => ?_)
          · skip
            rw [← nI_0] at c_63
            have c_63 : b ≤ 0 := cv_le (by omega) (by omega) c_63
            have g429 : px_pa h380 259 50 266 vN (schU a b 0) := pa_fi g374 fx382 (by omega)
            have e430 : schU a b 0 = schU a b 1 := by show _ = sL0 a b ++ sL1 a b; unfold sL1; rw [if_neg (by omega), List.append_nil]; rfl
            have g431 : px_pa h380 259 50 266 vN (schU a b 1) := pa_eq g429 e430
            have g432 : h380.2.2 258 = some (7, [.ref (259), .ref (260), .int (nI ((schU a b 0).length)), .int (nI a), .int (nI b)]) := fi_at g375 fx382 (by omega)
            have g433 : h380.2.2 258 = some (7, [.ref (259), .ref (260), .int (nI ((schU a b 1).length)), .int (nI a), .int (nI b)]) := by rw [← e430]; exact g432
            have u1 := sL01_len a b
            have u2 := sL2_len p0
            have u3 := sL3_len p0
            refine e_aload_n f_61_84 rfl rfl ?_
            refine e_getf f_61_85 g433 rfl rfl ?_
            refine e_iconst (v := nI 1) f_61_88 (by decide) rfl ?_
            refine e_aload_n f_61_89 rfl rfl ?_
            refine e_getf f_61_90 g433 rfl rfl ?_
            refine e_iastore_p (xs := es.set 0 ((schU a b 0).length)) (x := (schU a b 1).length) f_61_93 g381 (by omega) (by first | omega | (simp only [List.length_set]; omega)) (rfl) rfl (fun h434 g435 fx436 => ?_)
            have fr437 : px_fi 258 3 h h434 := fi_tr fr383 fx436 (by omega)
            refine e_aload_n f_61_94 rfl rfl ?_
            refine e_iload_n f_61_95 rfl rfl ?_
            refine e_iload_n f_61_96 rfl rfl ?_
            have g438 : h434.2.2 258 = some (7, [.ref (259), .ref (260), .int (nI ((schU a b 1).length)), .int (nI a), .int (nI b)]) := fi_at g433 fx436 (by omega)
            have g439 : px_pa h434 259 50 266 vN (schU a b 1) := pa_fi g431 fx436 (by omega)
            refine e_callV (As := [.int (nI a), .int (nI b)]) (rest := []) f_61_97 rfl rfl rfl (Nat.le_of_ble_eq_true rfl) (Nat.le_of_ble_eq_true rfl) g438 rfl (Nat.le_of_ble_eq_true rfl) (cc_Sch_two (a := a) (b := b) (xs := schU a b 1) (A := nI a) (B := nI b) g438 g439 (by omega)) rfl (fun h440 r441 q442 => ?_)
            obtain ⟨rfl, g443, g444, fx445⟩ := q442
            have fr446 : px_fi 258 3 h h440 := fi_tr fr437 fx445 (by omega)
            show px_to 61 100 [some (.ref (258)), some (.int (nI a)), some (.int (nI b))] [] h440 _
            have e447 : (sL2 a b).foldl sadd (schU a b 1) = schU a b 2 := sadd_all (by show (sL0 a b ++ sL1 a b).length + _ ≤ _; omega)
            have g448 : px_pa h440 259 50 266 vN (schU a b 2) := pa_eq g444 e447
            have g449 : h440.2.2 258 = some (7, [.ref (259), .ref (260), .int (nI ((schU a b 2).length)), .int (nI a), .int (nI b)]) := by rw [← e447]; exact g443
            refine e_aload_n f_61_100 rfl rfl ?_
            refine e_getf f_61_101 g449 rfl rfl ?_
            refine e_iconst (v := nI 2) f_61_104 (by decide) rfl ?_
            refine e_aload_n f_61_105 rfl rfl ?_
            refine e_getf f_61_106 g449 rfl rfl ?_
            have g450 : px_pa h440 260 50 4 vN ((es.set 0 ((schU a b 0).length)).set 1 ((schU a b 1).length)) := pa_fi g435 fx445 (by omega)
            refine e_iastore_p (xs := (es.set 0 ((schU a b 0).length)).set 1 ((schU a b 1).length)) (x := (schU a b 2).length) f_61_109 g450 (by omega) (by first | omega | (simp only [List.length_set]; omega)) (rfl) rfl (fun h451 g452 fx453 => ?_)
            have fr454 : px_fi 258 3 h h451 := fi_tr fr446 fx453 (by omega)
            refine e_aload_n f_61_110 rfl rfl ?_
            refine e_iload_n f_61_111 rfl rfl ?_
            refine e_iload_n f_61_112 rfl rfl ?_
            have g455 : h451.2.2 258 = some (7, [.ref (259), .ref (260), .int (nI ((schU a b 2).length)), .int (nI a), .int (nI b)]) := fi_at g449 fx453 (by omega)
            have g456 : px_pa h451 259 50 266 vN (schU a b 2) := pa_fi g448 fx453 (by omega)
            refine e_callV (As := [.int (nI a), .int (nI b)]) (rest := []) f_61_113 rfl rfl rfl (Nat.le_of_ble_eq_true rfl) (Nat.le_of_ble_eq_true rfl) g455 rfl (Nat.le_of_ble_eq_true rfl) (cc_Sch_three (a := a) (b := b) (xs := schU a b 2) (A := nI a) (B := nI b) g455 g456 (by omega)) rfl (fun h457 r458 q459 => ?_)
            obtain ⟨rfl, g460, g461, fx462⟩ := q459
            have fr463 : px_fi 258 3 h h457 := fi_tr fr454 fx462 (by omega)
            show px_to 61 116 [some (.ref (258)), some (.int (nI a)), some (.int (nI b))] [] h457 _
            have e464 : (sL3 a b).foldl sadd (schU a b 2) = schU a b 3 := sadd_all (by show (sL0 a b ++ sL1 a b ++ sL2 a b).length + _ ≤ _; rw [List.length_append]; omega)
            have g465 : px_pa h457 259 50 266 vN (schU a b 3) := pa_eq g461 e464
            have g466 : h457.2.2 258 = some (7, [.ref (259), .ref (260), .int (nI ((schU a b 3).length)), .int (nI a), .int (nI b)]) := by rw [← e464]; exact g460
            refine e_aload_n f_61_116 rfl rfl ?_
            refine e_getf f_61_117 g466 rfl rfl ?_
            refine e_iconst (v := nI 3) f_61_120 (by decide) rfl ?_
            refine e_aload_n f_61_121 rfl rfl ?_
            refine e_getf f_61_122 g466 rfl rfl ?_
            have g467 : px_pa h457 260 50 4 vN (((es.set 0 ((schU a b 0).length)).set 1 ((schU a b 1).length)).set 2 ((schU a b 2).length)) := pa_fi g452 fx462 (by omega)
            refine e_iastore_p (xs := ((es.set 0 ((schU a b 0).length)).set 1 ((schU a b 1).length)).set 2 ((schU a b 2).length)) (x := (schU a b 3).length) f_61_125 g467 (by omega) (by first | omega | (simp only [List.length_set]; omega)) (rfl) rfl (fun h468 g469 fx470 => ?_)
            have fr471 : px_fi 258 3 h h468 := fi_tr fr463 fx470 (by omega)
            refine e_vret f_61_126 rfl ?_
            have g472 : h468.2.2 258 = some (7, [.ref (259), .ref (260), .int (nI ((schU a b 3).length)), .int (nI a), .int (nI b)]) := fi_at g466 fx470 (by omega)
            have g473 : px_pa h468 259 50 266 vN (schU a b 3) := pa_fi g465 fx470 (by omega)
            exact ⟨rfl, g472, g473, pa_eq g469 (set4 p1), fr471⟩
          · skip
            rw [← nI_0] at c_63
            have c_63 : 0 < b := cv_nle (by omega) (by omega) c_63
            refine e_aload_n f_61_66 rfl rfl ?_
            refine e_iload_n f_61_67 rfl rfl ?_
            refine e_callS (As := [.int (nI b)]) (rest := [.ref (258)]) f_61_68 rfl rfl rfl (Nat.le_of_ble_eq_true rfl) (Nat.le_of_ble_eq_true rfl) (cc_Sch_ones (n := b)  (by omega)) rfl (fun h474 r475 q476 => ?_)
            obtain ⟨rfl, qe⟩ := q476
            have qe := qe.symm
            subst qe
            show px_to 61 71 [some (.ref (258)), some (.int (nI a)), some (.int (nI b))] [.int (nI (ones b)), .ref (258)] h380 _
            refine e_iload_n f_61_71 rfl rfl ?_
            refine e_ishl (z := nI (ones b * 2 ^ a)) f_61_72 (shlN _ (by omega)) rfl ?_
            have g477 : h380.2.2 258 = some (7, [.ref (259), .ref (260), .int (nI ((schU a b 0).length)), .int (nI a), .int (nI b)]) := fi_at g375 fx382 (by omega)
            have g478 : px_pa h380 259 50 266 vN (schU a b 0) := pa_fi g374 fx382 (by omega)
            refine e_callV (As := [.int (nI (ones b * 2 ^ a))]) (rest := []) f_61_73 rfl rfl rfl (Nat.le_of_ble_eq_true rfl) (Nat.le_of_ble_eq_true rfl) g477 rfl (Nat.le_of_ble_eq_true rfl) (cc_Sch_add (v := ones b * 2 ^ a) (xs := schU a b 0) (A := nI a) (B := nI b) g477 g478 ) rfl (fun h479 r480 q481 => ?_)
            obtain ⟨rfl, g482, g483, fx484⟩ := q481
            have fr485 : px_fi 258 3 h h479 := fi_tr fr383 fx484 (by omega)
            show px_to 61 76 [some (.ref (258)), some (.int (nI a)), some (.int (nI b))] [] h479 _
            refine e_aload_n f_61_76 rfl rfl ?_
            refine e_iload_n f_61_77 rfl rfl ?_
            refine e_callS (As := [.int (nI b)]) (rest := [.ref (258)]) f_61_78 rfl rfl rfl (Nat.le_of_ble_eq_true rfl) (Nat.le_of_ble_eq_true rfl) (cc_Sch_ones (n := b)  (by omega)) rfl (fun h486 r487 q488 => ?_)
            obtain ⟨rfl, qe⟩ := q488
            have qe := qe.symm
            subst qe
            show px_to 61 81 [some (.ref (258)), some (.int (nI a)), some (.int (nI b))] [.int (nI (ones b)), .ref (258)] h479 _
            refine e_callV (As := [.int (nI (ones b))]) (rest := []) f_61_81 rfl rfl rfl (Nat.le_of_ble_eq_true rfl) (Nat.le_of_ble_eq_true rfl) g482 rfl (Nat.le_of_ble_eq_true rfl) (cc_Sch_add (v := ones b) (xs := sadd (schU a b 0) (ones b * 2 ^ a)) (A := nI a) (B := nI b) g482 g483 ) rfl (fun h489 r490 q491 => ?_)
            obtain ⟨rfl, g492, g493, fx494⟩ := q491
            have fr495 : px_fi 258 3 h h489 := fi_tr fr485 fx494 (by omega)
            show px_to 61 84 [some (.ref (258)), some (.int (nI a)), some (.int (nI b))] [] h489 _
            have e496 : sadd (sadd (schU a b 0) (ones b * 2 ^ a)) (ones b) = schU a b 1 := by show _ = sL0 a b ++ sL1 a b; unfold sL1; rw [if_pos (by omega)]; show sadd (sadd (sL0 a b) _) _ = _; unfold sL0; rw [if_neg (by omega)]; rfl
            have g497 : px_pa h489 259 50 266 vN (schU a b 1) := pa_eq g493 e496
            have g498 : h489.2.2 258 = some (7, [.ref (259), .ref (260), .int (nI ((schU a b 1).length)), .int (nI a), .int (nI b)]) := by rw [← e496]; exact g492
            have u1 := sL01_len a b
            have u2 := sL2_len p0
            have u3 := sL3_len p0
            refine e_aload_n f_61_84 rfl rfl ?_
            refine e_getf f_61_85 g498 rfl rfl ?_
            refine e_iconst (v := nI 1) f_61_88 (by decide) rfl ?_
            refine e_aload_n f_61_89 rfl rfl ?_
            refine e_getf f_61_90 g498 rfl rfl ?_
            have g499 : px_pa h479 260 50 4 vN (es.set 0 ((schU a b 0).length)) := pa_fi g381 fx484 (by omega)
            have g500 : px_pa h489 260 50 4 vN (es.set 0 ((schU a b 0).length)) := pa_fi g499 fx494 (by omega)
            refine e_iastore_p (xs := es.set 0 ((schU a b 0).length)) (x := (schU a b 1).length) f_61_93 g500 (by omega) (by first | omega | (simp only [List.length_set]; omega)) (rfl) rfl (fun h501 g502 fx503 => ?_)
            have fr504 : px_fi 258 3 h h501 := fi_tr fr495 fx503 (by omega)
            refine e_aload_n f_61_94 rfl rfl ?_
            refine e_iload_n f_61_95 rfl rfl ?_
            refine e_iload_n f_61_96 rfl rfl ?_
            have g505 : h501.2.2 258 = some (7, [.ref (259), .ref (260), .int (nI ((schU a b 1).length)), .int (nI a), .int (nI b)]) := fi_at g498 fx503 (by omega)
            have g506 : px_pa h501 259 50 266 vN (schU a b 1) := pa_fi g497 fx503 (by omega)
            refine e_callV (As := [.int (nI a), .int (nI b)]) (rest := []) f_61_97 rfl rfl rfl (Nat.le_of_ble_eq_true rfl) (Nat.le_of_ble_eq_true rfl) g505 rfl (Nat.le_of_ble_eq_true rfl) (cc_Sch_two (a := a) (b := b) (xs := schU a b 1) (A := nI a) (B := nI b) g505 g506 (by omega)) rfl (fun h507 r508 q509 => ?_)
            obtain ⟨rfl, g510, g511, fx512⟩ := q509
            have fr513 : px_fi 258 3 h h507 := fi_tr fr504 fx512 (by omega)
            show px_to 61 100 [some (.ref (258)), some (.int (nI a)), some (.int (nI b))] [] h507 _
            have e514 : (sL2 a b).foldl sadd (schU a b 1) = schU a b 2 := sadd_all (by show (sL0 a b ++ sL1 a b).length + _ ≤ _; omega)
            have g515 : px_pa h507 259 50 266 vN (schU a b 2) := pa_eq g511 e514
            have g516 : h507.2.2 258 = some (7, [.ref (259), .ref (260), .int (nI ((schU a b 2).length)), .int (nI a), .int (nI b)]) := by rw [← e514]; exact g510
            refine e_aload_n f_61_100 rfl rfl ?_
            refine e_getf f_61_101 g516 rfl rfl ?_
            refine e_iconst (v := nI 2) f_61_104 (by decide) rfl ?_
            refine e_aload_n f_61_105 rfl rfl ?_
            refine e_getf f_61_106 g516 rfl rfl ?_
            have g517 : px_pa h507 260 50 4 vN ((es.set 0 ((schU a b 0).length)).set 1 ((schU a b 1).length)) := pa_fi g502 fx512 (by omega)
            refine e_iastore_p (xs := (es.set 0 ((schU a b 0).length)).set 1 ((schU a b 1).length)) (x := (schU a b 2).length) f_61_109 g517 (by omega) (by first | omega | (simp only [List.length_set]; omega)) (rfl) rfl (fun h518 g519 fx520 => ?_)
            have fr521 : px_fi 258 3 h h518 := fi_tr fr513 fx520 (by omega)
            refine e_aload_n f_61_110 rfl rfl ?_
            refine e_iload_n f_61_111 rfl rfl ?_
            refine e_iload_n f_61_112 rfl rfl ?_
            have g522 : h518.2.2 258 = some (7, [.ref (259), .ref (260), .int (nI ((schU a b 2).length)), .int (nI a), .int (nI b)]) := fi_at g516 fx520 (by omega)
            have g523 : px_pa h518 259 50 266 vN (schU a b 2) := pa_fi g515 fx520 (by omega)
            refine e_callV (As := [.int (nI a), .int (nI b)]) (rest := []) f_61_113 rfl rfl rfl (Nat.le_of_ble_eq_true rfl) (Nat.le_of_ble_eq_true rfl) g522 rfl (Nat.le_of_ble_eq_true rfl) (cc_Sch_three (a := a) (b := b) (xs := schU a b 2) (A := nI a) (B := nI b) g522 g523 (by omega)) rfl (fun h524 r525 q526 => ?_)
            obtain ⟨rfl, g527, g528, fx529⟩ := q526
            have fr530 : px_fi 258 3 h h524 := fi_tr fr521 fx529 (by omega)
            show px_to 61 116 [some (.ref (258)), some (.int (nI a)), some (.int (nI b))] [] h524 _
            have e531 : (sL3 a b).foldl sadd (schU a b 2) = schU a b 3 := sadd_all (by show (sL0 a b ++ sL1 a b ++ sL2 a b).length + _ ≤ _; rw [List.length_append]; omega)
            have g532 : px_pa h524 259 50 266 vN (schU a b 3) := pa_eq g528 e531
            have g533 : h524.2.2 258 = some (7, [.ref (259), .ref (260), .int (nI ((schU a b 3).length)), .int (nI a), .int (nI b)]) := by rw [← e531]; exact g527
            refine e_aload_n f_61_116 rfl rfl ?_
            refine e_getf f_61_117 g533 rfl rfl ?_
            refine e_iconst (v := nI 3) f_61_120 (by decide) rfl ?_
            refine e_aload_n f_61_121 rfl rfl ?_
            refine e_getf f_61_122 g533 rfl rfl ?_
            have g534 : px_pa h524 260 50 4 vN (((es.set 0 ((schU a b 0).length)).set 1 ((schU a b 1).length)).set 2 ((schU a b 2).length)) := pa_fi g519 fx529 (by omega)
            refine e_iastore_p (xs := ((es.set 0 ((schU a b 0).length)).set 1 ((schU a b 1).length)).set 2 ((schU a b 2).length)) (x := (schU a b 3).length) f_61_125 g534 (by omega) (by first | omega | (simp only [List.length_set]; omega)) (rfl) rfl (fun h535 g536 fx537 => ?_)
            have fr538 : px_fi 258 3 h h535 := fi_tr fr530 fx537 (by omega)
            refine e_vret f_61_126 rfl ?_
            have g539 : h535.2.2 258 = some (7, [.ref (259), .ref (260), .int (nI ((schU a b 3).length)), .int (nI a), .int (nI b)]) := fi_at g533 fx537 (by omega)
            have g540 : px_pa h535 259 50 266 vN (schU a b 3) := pa_fi g532 fx537 (by omega)
            exact ⟨rfl, g539, g540, pa_eq g536 (set4 p1), fr538⟩
  · skip
    refine e_iload_n f_61_8 rfl rfl ?_
    refine e_aload_n f_61_9 rfl rfl ?_
    refine e_getf f_61_10 H0 rfl rfl ?_
    refine e_icmp_ne f_61_13 rfl (fun c_13 => ?_) (fun c_13 => ?_)
    · skip
      refine e_aload_n f_61_17 rfl rfl ?_
      refine e_iload_n f_61_18 rfl rfl ?_
      refine e_putp (vs' := [.ref (259), .ref (260), .int (nI n), .int (nI a), .int (B0)]) f_61_19 H0 (Nat.le_of_ble_eq_true rfl) (rfl) (rfl) rfl rfl (fun h541 g542 fx543 => ?_)
      have fr544 : px_fi 258 3 h h541 := fi_tr fr0 fx543 (by omega)
      refine e_aload_n f_61_22 rfl rfl ?_
      refine e_iload_n f_61_23 rfl rfl ?_
      refine e_putp (vs' := [.ref (259), .ref (260), .int (nI n), .int (nI a), .int (nI b)]) f_61_24 g542 (Nat.le_of_ble_eq_true rfl) (rfl) (rfl) rfl rfl (fun h545 g546 fx547 => ?_)
      have fr548 : px_fi 258 3 h h545 := fi_tr fr544 fx547 (by omega)
      refine e_aload_n f_61_27 rfl rfl ?_
      refine e_iconst (v := nI 0) f_61_28 (by decide) rfl ?_
      refine e_putp (vs' := [.ref (259), .ref (260), .int (nI 0), .int (nI a), .int (nI b)]) f_61_29 g546 (Nat.le_of_ble_eq_true rfl) (rfl) (rfl) rfl rfl (fun h549 g550 fx551 => ?_)
      have fr552 : px_fi 258 3 h h549 := fi_tr fr548 fx551 (by omega)
      have g553 : px_pa h541 259 50 266 vN xs := pa_fi H1 fx543 (by omega)
      have g554 : px_pa h545 259 50 266 vN xs := pa_fi g553 fx547 (by omega)
      have g555 : px_pa h549 259 50 266 vN xs := pa_fi g554 fx551 (by omega)
      have g556 : px_pa h549 259 50 266 vN ([] : List Nat) := pa_nil g555
      have g557 : h549.2.2 258 = some (7, [.ref (259), .ref (260), .int (nI (([] : List Nat).length)), .int (nI a), .int (nI b)]) := g550
      refine e_iload_n f_61_32 rfl rfl ?_
      refine e_if_eq f_61_33 rfl (fun c_33 => ?_) (fun c_33 => ?_)
      · skip
        rw [← nI_0] at c_33
        have c_33 : a = 0 := cv_eq (by omega) (by omega) c_33
        refine e_aload_n f_61_40 rfl rfl ?_
        refine e_iload_n f_61_41 rfl rfl ?_
        refine e_callS (As := [.int (nI b)]) (rest := [.ref (258)]) f_61_42 rfl rfl rfl (Nat.le_of_ble_eq_true rfl) (Nat.le_of_ble_eq_true rfl) (cc_Sch_ones (n := b)  (by omega)) rfl (fun h558 r559 q560 => ?_)
        obtain ⟨rfl, qe⟩ := q560
        have qe := qe.symm
        subst qe
        show px_to 61 45 [some (.ref (258)), some (.int (nI a)), some (.int (nI b))] [.int (nI (ones b)), .ref (258)] h549 _
        refine e_callV (As := [.int (nI (ones b))]) (rest := []) f_61_45 rfl rfl rfl (Nat.le_of_ble_eq_true rfl) (Nat.le_of_ble_eq_true rfl) g557 rfl (Nat.le_of_ble_eq_true rfl) (cc_Sch_add (v := ones b) (xs := ([] : List Nat)) (A := nI a) (B := nI b) g557 g556 ) rfl (fun h561 r562 q563 => ?_)
        obtain ⟨rfl, g564, g565, fx566⟩ := q563
        have fr567 : px_fi 258 3 h h561 := fi_tr fr552 fx566 (by omega)
        show px_to 61 48 [some (.ref (258)), some (.int (nI a)), some (.int (nI b))] [] h561 _
        have e568 : sadd ([] : List Nat) (ones b) = schU a b 0 := by show _ = sL0 a b; unfold sL0; rw [if_pos (by omega)]; rfl
        have g569 : px_pa h561 259 50 266 vN (schU a b 0) := pa_eq g565 e568
        have g570 : h561.2.2 258 = some (7, [.ref (259), .ref (260), .int (nI ((schU a b 0).length)), .int (nI a), .int (nI b)]) := by rw [← e568]; exact g564
        refine e_aload_n f_61_48 rfl rfl ?_
        refine e_getf f_61_49 g570 rfl rfl ?_
        refine e_iconst (v := nI 0) f_61_52 (by decide) rfl ?_
        refine e_aload_n f_61_53 rfl rfl ?_
        refine e_getf f_61_54 g570 rfl rfl ?_
        have g571 : px_pa h541 260 50 4 vN es := pa_fi H2 fx543 (by omega)
        have g572 : px_pa h545 260 50 4 vN es := pa_fi g571 fx547 (by omega)
        have g573 : px_pa h549 260 50 4 vN es := pa_fi g572 fx551 (by omega)
        have g574 : px_pa h561 260 50 4 vN es := pa_fi g573 fx566 (by omega)
        refine e_iastore_p (xs := es) (x := (schU a b 0).length) f_61_57 g574 (by omega) (by first | omega | (simp only [List.length_set]; omega)) (rfl) rfl (fun h575 g576 fx577 => ?_)
        have fr578 : px_fi 258 3 h h575 := fi_tr fr567 fx577 (by omega)
        refine e_iload_n f_61_58 rfl rfl ?_
        refine e_if_le f_61_59 rfl (fun c_59 => ?_) (fun c_59 => ?_)
        · skip
          rw [← nI_0] at c_59
          have c_59 : a ≤ 0 := cv_le (by omega) (by omega) c_59
          have g579 : px_pa h575 259 50 266 vN (schU a b 0) := pa_fi g569 fx577 (by omega)
          have e580 : schU a b 0 = schU a b 1 := by show _ = sL0 a b ++ sL1 a b; unfold sL1; rw [if_neg (by omega), List.append_nil]; rfl
          have g581 : px_pa h575 259 50 266 vN (schU a b 1) := pa_eq g579 e580
          have g582 : h575.2.2 258 = some (7, [.ref (259), .ref (260), .int (nI ((schU a b 0).length)), .int (nI a), .int (nI b)]) := fi_at g570 fx577 (by omega)
          have g583 : h575.2.2 258 = some (7, [.ref (259), .ref (260), .int (nI ((schU a b 1).length)), .int (nI a), .int (nI b)]) := by rw [← e580]; exact g582
          have u1 := sL01_len a b
          have u2 := sL2_len p0
          have u3 := sL3_len p0
          refine e_aload_n f_61_84 rfl rfl ?_
          refine e_getf f_61_85 g583 rfl rfl ?_
          refine e_iconst (v := nI 1) f_61_88 (by decide) rfl ?_
          refine e_aload_n f_61_89 rfl rfl ?_
          refine e_getf f_61_90 g583 rfl rfl ?_
          refine e_iastore_p (xs := es.set 0 ((schU a b 0).length)) (x := (schU a b 1).length) f_61_93 g576 (by omega) (by first | omega | (simp only [List.length_set]; omega)) (rfl) rfl (fun h584 g585 fx586 => ?_)
          have fr587 : px_fi 258 3 h h584 := fi_tr fr578 fx586 (by omega)
          refine e_aload_n f_61_94 rfl rfl ?_
          refine e_iload_n f_61_95 rfl rfl ?_
          refine e_iload_n f_61_96 rfl rfl ?_
          have g588 : h584.2.2 258 = some (7, [.ref (259), .ref (260), .int (nI ((schU a b 1).length)), .int (nI a), .int (nI b)]) := fi_at g583 fx586 (by omega)
          have g589 : px_pa h584 259 50 266 vN (schU a b 1) := pa_fi g581 fx586 (by omega)
          refine e_callV (As := [.int (nI a), .int (nI b)]) (rest := []) f_61_97 rfl rfl rfl (Nat.le_of_ble_eq_true rfl) (Nat.le_of_ble_eq_true rfl) g588 rfl (Nat.le_of_ble_eq_true rfl) (cc_Sch_two (a := a) (b := b) (xs := schU a b 1) (A := nI a) (B := nI b) g588 g589 (by omega)) rfl (fun h590 r591 q592 => ?_)
          obtain ⟨rfl, g593, g594, fx595⟩ := q592
          have fr596 : px_fi 258 3 h h590 := fi_tr fr587 fx595 (by omega)
          show px_to 61 100 [some (.ref (258)), some (.int (nI a)), some (.int (nI b))] [] h590 _
          have e597 : (sL2 a b).foldl sadd (schU a b 1) = schU a b 2 := sadd_all (by show (sL0 a b ++ sL1 a b).length + _ ≤ _; omega)
          have g598 : px_pa h590 259 50 266 vN (schU a b 2) := pa_eq g594 e597
          have g599 : h590.2.2 258 = some (7, [.ref (259), .ref (260), .int (nI ((schU a b 2).length)), .int (nI a), .int (nI b)]) := by rw [← e597]; exact g593
          refine e_aload_n f_61_100 rfl rfl ?_
          refine e_getf f_61_101 g599 rfl rfl ?_
          refine e_iconst (v := nI 2) f_61_104 (by decide) rfl ?_
          refine e_aload_n f_61_105 rfl rfl ?_
          refine e_getf f_61_106 g599 rfl rfl ?_
          have g600 : px_pa h590 260 50 4 vN ((es.set 0 ((schU a b 0).length)).set 1 ((schU a b 1).length)) := pa_fi g585 fx595 (by omega)
          refine e_iastore_p (xs := (es.set 0 ((schU a b 0).length)).set 1 ((schU a b 1).length)) (x := (schU a b 2).length) f_61_109 g600 (by omega) (by first | omega | (simp only [List.length_set]; omega)) (rfl) rfl (fun h601 g602 fx603 => ?_)
          have fr604 : px_fi 258 3 h h601 := fi_tr fr596 fx603 (by omega)
          refine e_aload_n f_61_110 rfl rfl ?_
          refine e_iload_n f_61_111 rfl rfl ?_
          refine e_iload_n f_61_112 rfl rfl ?_
          have g605 : h601.2.2 258 = some (7, [.ref (259), .ref (260), .int (nI ((schU a b 2).length)), .int (nI a), .int (nI b)]) := fi_at g599 fx603 (by omega)
          have g606 : px_pa h601 259 50 266 vN (schU a b 2) := pa_fi g598 fx603 (by omega)
          refine e_callV (As := [.int (nI a), .int (nI b)]) (rest := []) f_61_113 rfl rfl rfl (Nat.le_of_ble_eq_true rfl) (Nat.le_of_ble_eq_true rfl) g605 rfl (Nat.le_of_ble_eq_true rfl) (cc_Sch_three (a := a) (b := b) (xs := schU a b 2) (A := nI a) (B := nI b) g605 g606 (by omega)) rfl (fun h607 r608 q609 => ?_)
          obtain ⟨rfl, g610, g611, fx612⟩ := q609
          have fr613 : px_fi 258 3 h h607 := fi_tr fr604 fx612 (by omega)
          show px_to 61 116 [some (.ref (258)), some (.int (nI a)), some (.int (nI b))] [] h607 _
          have e614 : (sL3 a b).foldl sadd (schU a b 2) = schU a b 3 := sadd_all (by show (sL0 a b ++ sL1 a b ++ sL2 a b).length + _ ≤ _; rw [List.length_append]; omega)
          have g615 : px_pa h607 259 50 266 vN (schU a b 3) := pa_eq g611 e614
          have g616 : h607.2.2 258 = some (7, [.ref (259), .ref (260), .int (nI ((schU a b 3).length)), .int (nI a), .int (nI b)]) := by rw [← e614]; exact g610
          refine e_aload_n f_61_116 rfl rfl ?_
          refine e_getf f_61_117 g616 rfl rfl ?_
          refine e_iconst (v := nI 3) f_61_120 (by decide) rfl ?_
          refine e_aload_n f_61_121 rfl rfl ?_
          refine e_getf f_61_122 g616 rfl rfl ?_
          have g617 : px_pa h607 260 50 4 vN (((es.set 0 ((schU a b 0).length)).set 1 ((schU a b 1).length)).set 2 ((schU a b 2).length)) := pa_fi g602 fx612 (by omega)
          refine e_iastore_p (xs := ((es.set 0 ((schU a b 0).length)).set 1 ((schU a b 1).length)).set 2 ((schU a b 2).length)) (x := (schU a b 3).length) f_61_125 g617 (by omega) (by first | omega | (simp only [List.length_set]; omega)) (rfl) rfl (fun h618 g619 fx620 => ?_)
          have fr621 : px_fi 258 3 h h618 := fi_tr fr613 fx620 (by omega)
          refine e_vret f_61_126 rfl ?_
          have g622 : h618.2.2 258 = some (7, [.ref (259), .ref (260), .int (nI ((schU a b 3).length)), .int (nI a), .int (nI b)]) := fi_at g616 fx620 (by omega)
          have g623 : px_pa h618 259 50 266 vN (schU a b 3) := pa_fi g615 fx620 (by omega)
          exact ⟨rfl, g622, g623, pa_eq g619 (set4 p1), fr621⟩
        · skip
          rw [← nI_0] at c_59
          have c_59 : 0 < a := cv_nle (by omega) (by omega) c_59
          refine e_iload_n f_61_62 rfl rfl ?_
          refine e_if_le f_61_63 rfl (fun c_63 => ?_) (fun c_63 => ?_)
          · skip
            rw [← nI_0] at c_63
            have c_63 : b ≤ 0 := cv_le (by omega) (by omega) c_63
            have g624 : px_pa h575 259 50 266 vN (schU a b 0) := pa_fi g569 fx577 (by omega)
            have e625 : schU a b 0 = schU a b 1 := by show _ = sL0 a b ++ sL1 a b; unfold sL1; rw [if_neg (by omega), List.append_nil]; rfl
            have g626 : px_pa h575 259 50 266 vN (schU a b 1) := pa_eq g624 e625
            have g627 : h575.2.2 258 = some (7, [.ref (259), .ref (260), .int (nI ((schU a b 0).length)), .int (nI a), .int (nI b)]) := fi_at g570 fx577 (by omega)
            have g628 : h575.2.2 258 = some (7, [.ref (259), .ref (260), .int (nI ((schU a b 1).length)), .int (nI a), .int (nI b)]) := by rw [← e625]; exact g627
            have u1 := sL01_len a b
            have u2 := sL2_len p0
            have u3 := sL3_len p0
            refine e_aload_n f_61_84 rfl rfl ?_
            refine e_getf f_61_85 g628 rfl rfl ?_
            refine e_iconst (v := nI 1) f_61_88 (by decide) rfl ?_
            refine e_aload_n f_61_89 rfl rfl ?_
            refine e_getf f_61_90 g628 rfl rfl ?_
            refine e_iastore_p (xs := es.set 0 ((schU a b 0).length)) (x := (schU a b 1).length) f_61_93 g576 (by omega) (by first | omega | (simp only [List.length_set]; omega)) (rfl) rfl (fun h629 g630 fx631 => ?_)
            have fr632 : px_fi 258 3 h h629 := fi_tr fr578 fx631 (by omega)
            refine e_aload_n f_61_94 rfl rfl ?_
            refine e_iload_n f_61_95 rfl rfl ?_
            refine e_iload_n f_61_96 rfl rfl ?_
            have g633 : h629.2.2 258 = some (7, [.ref (259), .ref (260), .int (nI ((schU a b 1).length)), .int (nI a), .int (nI b)]) := fi_at g628 fx631 (by omega)
            have g634 : px_pa h629 259 50 266 vN (schU a b 1) := pa_fi g626 fx631 (by omega)
            refine e_callV (As := [.int (nI a), .int (nI b)]) (rest := []) f_61_97 rfl rfl rfl (Nat.le_of_ble_eq_true rfl) (Nat.le_of_ble_eq_true rfl) g633 rfl (Nat.le_of_ble_eq_true rfl) (cc_Sch_two (a := a) (b := b) (xs := schU a b 1) (A := nI a) (B := nI b) g633 g634 (by omega)) rfl (fun h635 r636 q637 => ?_)
            obtain ⟨rfl, g638, g639, fx640⟩ := q637
            have fr641 : px_fi 258 3 h h635 := fi_tr fr632 fx640 (by omega)
            show px_to 61 100 [some (.ref (258)), some (.int (nI a)), some (.int (nI b))] [] h635 _
            have e642 : (sL2 a b).foldl sadd (schU a b 1) = schU a b 2 := sadd_all (by show (sL0 a b ++ sL1 a b).length + _ ≤ _; omega)
            have g643 : px_pa h635 259 50 266 vN (schU a b 2) := pa_eq g639 e642
            have g644 : h635.2.2 258 = some (7, [.ref (259), .ref (260), .int (nI ((schU a b 2).length)), .int (nI a), .int (nI b)]) := by rw [← e642]; exact g638
            refine e_aload_n f_61_100 rfl rfl ?_
            refine e_getf f_61_101 g644 rfl rfl ?_
            refine e_iconst (v := nI 2) f_61_104 (by decide) rfl ?_
            refine e_aload_n f_61_105 rfl rfl ?_
            refine e_getf f_61_106 g644 rfl rfl ?_
            have g645 : px_pa h635 260 50 4 vN ((es.set 0 ((schU a b 0).length)).set 1 ((schU a b 1).length)) := pa_fi g630 fx640 (by omega)
            refine e_iastore_p (xs := (es.set 0 ((schU a b 0).length)).set 1 ((schU a b 1).length)) (x := (schU a b 2).length) f_61_109 g645 (by omega) (by first | omega | (simp only [List.length_set]; omega)) (rfl) rfl (fun h646 g647 fx648 => ?_)
            have fr649 : px_fi 258 3 h h646 := fi_tr fr641 fx648 (by omega)
            refine e_aload_n f_61_110 rfl rfl ?_
            refine e_iload_n f_61_111 rfl rfl ?_
            refine e_iload_n f_61_112 rfl rfl ?_
            have g650 : h646.2.2 258 = some (7, [.ref (259), .ref (260), .int (nI ((schU a b 2).length)), .int (nI a), .int (nI b)]) := fi_at g644 fx648 (by omega)
            have g651 : px_pa h646 259 50 266 vN (schU a b 2) := pa_fi g643 fx648 (by omega)
            refine e_callV (As := [.int (nI a), .int (nI b)]) (rest := []) f_61_113 rfl rfl rfl (Nat.le_of_ble_eq_true rfl) (Nat.le_of_ble_eq_true rfl) g650 rfl (Nat.le_of_ble_eq_true rfl) (cc_Sch_three (a := a) (b := b) (xs := schU a b 2) (A := nI a) (B := nI b) g650 g651 (by omega)) rfl (fun h652 r653 q654 => ?_)
            obtain ⟨rfl, g655, g656, fx657⟩ := q654
            have fr658 : px_fi 258 3 h h652 := fi_tr fr649 fx657 (by omega)
            show px_to 61 116 [some (.ref (258)), some (.int (nI a)), some (.int (nI b))] [] h652 _
            have e659 : (sL3 a b).foldl sadd (schU a b 2) = schU a b 3 := sadd_all (by show (sL0 a b ++ sL1 a b ++ sL2 a b).length + _ ≤ _; rw [List.length_append]; omega)
            have g660 : px_pa h652 259 50 266 vN (schU a b 3) := pa_eq g656 e659
            have g661 : h652.2.2 258 = some (7, [.ref (259), .ref (260), .int (nI ((schU a b 3).length)), .int (nI a), .int (nI b)]) := by rw [← e659]; exact g655
            refine e_aload_n f_61_116 rfl rfl ?_
            refine e_getf f_61_117 g661 rfl rfl ?_
            refine e_iconst (v := nI 3) f_61_120 (by decide) rfl ?_
            refine e_aload_n f_61_121 rfl rfl ?_
            refine e_getf f_61_122 g661 rfl rfl ?_
            have g662 : px_pa h652 260 50 4 vN (((es.set 0 ((schU a b 0).length)).set 1 ((schU a b 1).length)).set 2 ((schU a b 2).length)) := pa_fi g647 fx657 (by omega)
            refine e_iastore_p (xs := ((es.set 0 ((schU a b 0).length)).set 1 ((schU a b 1).length)).set 2 ((schU a b 2).length)) (x := (schU a b 3).length) f_61_125 g662 (by omega) (by first | omega | (simp only [List.length_set]; omega)) (rfl) rfl (fun h663 g664 fx665 => ?_)
            have fr666 : px_fi 258 3 h h663 := fi_tr fr658 fx665 (by omega)
            refine e_vret f_61_126 rfl ?_
            have g667 : h663.2.2 258 = some (7, [.ref (259), .ref (260), .int (nI ((schU a b 3).length)), .int (nI a), .int (nI b)]) := fi_at g661 fx665 (by omega)
            have g668 : px_pa h663 259 50 266 vN (schU a b 3) := pa_fi g660 fx665 (by omega)
            exact ⟨rfl, g667, g668, pa_eq g664 (set4 p1), fr666⟩
          · skip
            rw [← nI_0] at c_63
            have c_63 : 0 < b := cv_nle (by omega) (by omega) c_63
            refine e_aload_n f_61_66 rfl rfl ?_
            refine e_iload_n f_61_67 rfl rfl ?_
            refine e_callS (As := [.int (nI b)]) (rest := [.ref (258)]) f_61_68 rfl rfl rfl (Nat.le_of_ble_eq_true rfl) (Nat.le_of_ble_eq_true rfl) (cc_Sch_ones (n := b)  (by omega)) rfl (fun h669 r670 q671 => ?_)
            obtain ⟨rfl, qe⟩ := q671
            have qe := qe.symm
            subst qe
            show px_to 61 71 [some (.ref (258)), some (.int (nI a)), some (.int (nI b))] [.int (nI (ones b)), .ref (258)] h575 _
            refine e_iload_n f_61_71 rfl rfl ?_
            refine e_ishl (z := nI (ones b * 2 ^ a)) f_61_72 (shlN _ (by omega)) rfl ?_
            have g672 : h575.2.2 258 = some (7, [.ref (259), .ref (260), .int (nI ((schU a b 0).length)), .int (nI a), .int (nI b)]) := fi_at g570 fx577 (by omega)
            have g673 : px_pa h575 259 50 266 vN (schU a b 0) := pa_fi g569 fx577 (by omega)
            refine e_callV (As := [.int (nI (ones b * 2 ^ a))]) (rest := []) f_61_73 rfl rfl rfl (Nat.le_of_ble_eq_true rfl) (Nat.le_of_ble_eq_true rfl) g672 rfl (Nat.le_of_ble_eq_true rfl) (cc_Sch_add (v := ones b * 2 ^ a) (xs := schU a b 0) (A := nI a) (B := nI b) g672 g673 ) rfl (fun h674 r675 q676 => ?_)
            obtain ⟨rfl, g677, g678, fx679⟩ := q676
            have fr680 : px_fi 258 3 h h674 := fi_tr fr578 fx679 (by omega)
            show px_to 61 76 [some (.ref (258)), some (.int (nI a)), some (.int (nI b))] [] h674 _
            refine e_aload_n f_61_76 rfl rfl ?_
            refine e_iload_n f_61_77 rfl rfl ?_
            refine e_callS (As := [.int (nI b)]) (rest := [.ref (258)]) f_61_78 rfl rfl rfl (Nat.le_of_ble_eq_true rfl) (Nat.le_of_ble_eq_true rfl) (cc_Sch_ones (n := b)  (by omega)) rfl (fun h681 r682 q683 => ?_)
            obtain ⟨rfl, qe⟩ := q683
            have qe := qe.symm
            subst qe
            show px_to 61 81 [some (.ref (258)), some (.int (nI a)), some (.int (nI b))] [.int (nI (ones b)), .ref (258)] h674 _
            refine e_callV (As := [.int (nI (ones b))]) (rest := []) f_61_81 rfl rfl rfl (Nat.le_of_ble_eq_true rfl) (Nat.le_of_ble_eq_true rfl) g677 rfl (Nat.le_of_ble_eq_true rfl) (cc_Sch_add (v := ones b) (xs := sadd (schU a b 0) (ones b * 2 ^ a)) (A := nI a) (B := nI b) g677 g678 ) rfl (fun h684 r685 q686 => ?_)
            obtain ⟨rfl, g687, g688, fx689⟩ := q686
            have fr690 : px_fi 258 3 h h684 := fi_tr fr680 fx689 (by omega)
            show px_to 61 84 [some (.ref (258)), some (.int (nI a)), some (.int (nI b))] [] h684 _
            have e691 : sadd (sadd (schU a b 0) (ones b * 2 ^ a)) (ones b) = schU a b 1 := by show _ = sL0 a b ++ sL1 a b; unfold sL1; rw [if_pos (by omega)]; show sadd (sadd (sL0 a b) _) _ = _; unfold sL0; rw [if_neg (by omega)]; rfl
            have g692 : px_pa h684 259 50 266 vN (schU a b 1) := pa_eq g688 e691
            have g693 : h684.2.2 258 = some (7, [.ref (259), .ref (260), .int (nI ((schU a b 1).length)), .int (nI a), .int (nI b)]) := by rw [← e691]; exact g687
            have u1 := sL01_len a b
            have u2 := sL2_len p0
            have u3 := sL3_len p0
            refine e_aload_n f_61_84 rfl rfl ?_
            refine e_getf f_61_85 g693 rfl rfl ?_
            refine e_iconst (v := nI 1) f_61_88 (by decide) rfl ?_
            refine e_aload_n f_61_89 rfl rfl ?_
            refine e_getf f_61_90 g693 rfl rfl ?_
            have g694 : px_pa h674 260 50 4 vN (es.set 0 ((schU a b 0).length)) := pa_fi g576 fx679 (by omega)
            have g695 : px_pa h684 260 50 4 vN (es.set 0 ((schU a b 0).length)) := pa_fi g694 fx689 (by omega)
            refine e_iastore_p (xs := es.set 0 ((schU a b 0).length)) (x := (schU a b 1).length) f_61_93 g695 (by omega) (by first | omega | (simp only [List.length_set]; omega)) (rfl) rfl (fun h696 g697 fx698 => ?_)
            have fr699 : px_fi 258 3 h h696 := fi_tr fr690 fx698 (by omega)
            refine e_aload_n f_61_94 rfl rfl ?_
            refine e_iload_n f_61_95 rfl rfl ?_
            refine e_iload_n f_61_96 rfl rfl ?_
            have g700 : h696.2.2 258 = some (7, [.ref (259), .ref (260), .int (nI ((schU a b 1).length)), .int (nI a), .int (nI b)]) := fi_at g693 fx698 (by omega)
            have g701 : px_pa h696 259 50 266 vN (schU a b 1) := pa_fi g692 fx698 (by omega)
            refine e_callV (As := [.int (nI a), .int (nI b)]) (rest := []) f_61_97 rfl rfl rfl (Nat.le_of_ble_eq_true rfl) (Nat.le_of_ble_eq_true rfl) g700 rfl (Nat.le_of_ble_eq_true rfl) (cc_Sch_two (a := a) (b := b) (xs := schU a b 1) (A := nI a) (B := nI b) g700 g701 (by omega)) rfl (fun h702 r703 q704 => ?_)
            obtain ⟨rfl, g705, g706, fx707⟩ := q704
            have fr708 : px_fi 258 3 h h702 := fi_tr fr699 fx707 (by omega)
            show px_to 61 100 [some (.ref (258)), some (.int (nI a)), some (.int (nI b))] [] h702 _
            have e709 : (sL2 a b).foldl sadd (schU a b 1) = schU a b 2 := sadd_all (by show (sL0 a b ++ sL1 a b).length + _ ≤ _; omega)
            have g710 : px_pa h702 259 50 266 vN (schU a b 2) := pa_eq g706 e709
            have g711 : h702.2.2 258 = some (7, [.ref (259), .ref (260), .int (nI ((schU a b 2).length)), .int (nI a), .int (nI b)]) := by rw [← e709]; exact g705
            refine e_aload_n f_61_100 rfl rfl ?_
            refine e_getf f_61_101 g711 rfl rfl ?_
            refine e_iconst (v := nI 2) f_61_104 (by decide) rfl ?_
            refine e_aload_n f_61_105 rfl rfl ?_
            refine e_getf f_61_106 g711 rfl rfl ?_
            have g712 : px_pa h702 260 50 4 vN ((es.set 0 ((schU a b 0).length)).set 1 ((schU a b 1).length)) := pa_fi g697 fx707 (by omega)
            refine e_iastore_p (xs := (es.set 0 ((schU a b 0).length)).set 1 ((schU a b 1).length)) (x := (schU a b 2).length) f_61_109 g712 (by omega) (by first | omega | (simp only [List.length_set]; omega)) (rfl) rfl (fun h713 g714 fx715 => ?_)
            have fr716 : px_fi 258 3 h h713 := fi_tr fr708 fx715 (by omega)
            refine e_aload_n f_61_110 rfl rfl ?_
            refine e_iload_n f_61_111 rfl rfl ?_
            refine e_iload_n f_61_112 rfl rfl ?_
            have g717 : h713.2.2 258 = some (7, [.ref (259), .ref (260), .int (nI ((schU a b 2).length)), .int (nI a), .int (nI b)]) := fi_at g711 fx715 (by omega)
            have g718 : px_pa h713 259 50 266 vN (schU a b 2) := pa_fi g710 fx715 (by omega)
            refine e_callV (As := [.int (nI a), .int (nI b)]) (rest := []) f_61_113 rfl rfl rfl (Nat.le_of_ble_eq_true rfl) (Nat.le_of_ble_eq_true rfl) g717 rfl (Nat.le_of_ble_eq_true rfl) (cc_Sch_three (a := a) (b := b) (xs := schU a b 2) (A := nI a) (B := nI b) g717 g718 (by omega)) rfl (fun h719 r720 q721 => ?_)
            obtain ⟨rfl, g722, g723, fx724⟩ := q721
            have fr725 : px_fi 258 3 h h719 := fi_tr fr716 fx724 (by omega)
            show px_to 61 116 [some (.ref (258)), some (.int (nI a)), some (.int (nI b))] [] h719 _
            have e726 : (sL3 a b).foldl sadd (schU a b 2) = schU a b 3 := sadd_all (by show (sL0 a b ++ sL1 a b ++ sL2 a b).length + _ ≤ _; rw [List.length_append]; omega)
            have g727 : px_pa h719 259 50 266 vN (schU a b 3) := pa_eq g723 e726
            have g728 : h719.2.2 258 = some (7, [.ref (259), .ref (260), .int (nI ((schU a b 3).length)), .int (nI a), .int (nI b)]) := by rw [← e726]; exact g722
            refine e_aload_n f_61_116 rfl rfl ?_
            refine e_getf f_61_117 g728 rfl rfl ?_
            refine e_iconst (v := nI 3) f_61_120 (by decide) rfl ?_
            refine e_aload_n f_61_121 rfl rfl ?_
            refine e_getf f_61_122 g728 rfl rfl ?_
            have g729 : px_pa h719 260 50 4 vN (((es.set 0 ((schU a b 0).length)).set 1 ((schU a b 1).length)).set 2 ((schU a b 2).length)) := pa_fi g714 fx724 (by omega)
            refine e_iastore_p (xs := ((es.set 0 ((schU a b 0).length)).set 1 ((schU a b 1).length)).set 2 ((schU a b 2).length)) (x := (schU a b 3).length) f_61_125 g729 (by omega) (by first | omega | (simp only [List.length_set]; omega)) (rfl) rfl (fun h730 g731 fx732 => ?_)
            have fr733 : px_fi 258 3 h h730 := fi_tr fr725 fx732 (by omega)
            refine e_vret f_61_126 rfl ?_
            have g734 : h730.2.2 258 = some (7, [.ref (259), .ref (260), .int (nI ((schU a b 3).length)), .int (nI a), .int (nI b)]) := fi_at g728 fx732 (by omega)
            have g735 : px_pa h730 259 50 266 vN (schU a b 3) := pa_fi g727 fx732 (by omega)
            exact ⟨rfl, g734, g735, pa_eq g731 (set4 p1), fr733⟩
      · skip
        rw [← nI_0] at c_33
        have c_33 : a ≠ 0 := cv_ne c_33
        refine e_iload_n f_61_36 rfl rfl ?_
        refine e_if_ne f_61_37 rfl (fun c_37 => ?_) (fun c_37 => ?_)
        · skip
          rw [← nI_0] at c_37
          have c_37 : b ≠ 0 := cv_ne c_37
          have e736 : ([] : List Nat) = schU a b 0 := by show _ = sL0 a b; unfold sL0; rw [if_neg (by omega)]
          have g737 : px_pa h549 259 50 266 vN (schU a b 0) := pa_eq g556 e736
          have g738 : h549.2.2 258 = some (7, [.ref (259), .ref (260), .int (nI ((schU a b 0).length)), .int (nI a), .int (nI b)]) := by rw [← e736]; exact g557
          refine e_aload_n f_61_48 rfl rfl ?_
          refine e_getf f_61_49 g738 rfl rfl ?_
          refine e_iconst (v := nI 0) f_61_52 (by decide) rfl ?_
          refine e_aload_n f_61_53 rfl rfl ?_
          refine e_getf f_61_54 g738 rfl rfl ?_
          have g739 : px_pa h541 260 50 4 vN es := pa_fi H2 fx543 (by omega)
          have g740 : px_pa h545 260 50 4 vN es := pa_fi g739 fx547 (by omega)
          have g741 : px_pa h549 260 50 4 vN es := pa_fi g740 fx551 (by omega)
          refine e_iastore_p (xs := es) (x := (schU a b 0).length) f_61_57 g741 (by omega) (by first | omega | (simp only [List.length_set]; omega)) (rfl) rfl (fun h742 g743 fx744 => ?_)
          have fr745 : px_fi 258 3 h h742 := fi_tr fr552 fx744 (by omega)
          refine e_iload_n f_61_58 rfl rfl ?_
          refine e_if_le f_61_59 rfl (fun c_59 => ?_) (fun c_59 => ?_)
          · skip
            rw [← nI_0] at c_59
            have c_59 : a ≤ 0 := cv_le (by omega) (by omega) c_59
            have g746 : px_pa h742 259 50 266 vN (schU a b 0) := pa_fi g737 fx744 (by omega)
            have e747 : schU a b 0 = schU a b 1 := by show _ = sL0 a b ++ sL1 a b; unfold sL1; rw [if_neg (by omega), List.append_nil]; rfl
            have g748 : px_pa h742 259 50 266 vN (schU a b 1) := pa_eq g746 e747
            have g749 : h742.2.2 258 = some (7, [.ref (259), .ref (260), .int (nI ((schU a b 0).length)), .int (nI a), .int (nI b)]) := fi_at g738 fx744 (by omega)
            have g750 : h742.2.2 258 = some (7, [.ref (259), .ref (260), .int (nI ((schU a b 1).length)), .int (nI a), .int (nI b)]) := by rw [← e747]; exact g749
            have u1 := sL01_len a b
            have u2 := sL2_len p0
            have u3 := sL3_len p0
            refine e_aload_n f_61_84 rfl rfl ?_
            refine e_getf f_61_85 g750 rfl rfl ?_
            refine e_iconst (v := nI 1) f_61_88 (by decide) rfl ?_
            refine e_aload_n f_61_89 rfl rfl ?_
            refine e_getf f_61_90 g750 rfl rfl ?_
            refine e_iastore_p (xs := es.set 0 ((schU a b 0).length)) (x := (schU a b 1).length) f_61_93 g743 (by omega) (by first | omega | (simp only [List.length_set]; omega)) (rfl) rfl (fun h751 g752 fx753 => ?_)
            have fr754 : px_fi 258 3 h h751 := fi_tr fr745 fx753 (by omega)
            refine e_aload_n f_61_94 rfl rfl ?_
            refine e_iload_n f_61_95 rfl rfl ?_
            refine e_iload_n f_61_96 rfl rfl ?_
            have g755 : h751.2.2 258 = some (7, [.ref (259), .ref (260), .int (nI ((schU a b 1).length)), .int (nI a), .int (nI b)]) := fi_at g750 fx753 (by omega)
            have g756 : px_pa h751 259 50 266 vN (schU a b 1) := pa_fi g748 fx753 (by omega)
            refine e_callV (As := [.int (nI a), .int (nI b)]) (rest := []) f_61_97 rfl rfl rfl (Nat.le_of_ble_eq_true rfl) (Nat.le_of_ble_eq_true rfl) g755 rfl (Nat.le_of_ble_eq_true rfl) (cc_Sch_two (a := a) (b := b) (xs := schU a b 1) (A := nI a) (B := nI b) g755 g756 (by omega)) rfl (fun h757 r758 q759 => ?_)
            obtain ⟨rfl, g760, g761, fx762⟩ := q759
            have fr763 : px_fi 258 3 h h757 := fi_tr fr754 fx762 (by omega)
            show px_to 61 100 [some (.ref (258)), some (.int (nI a)), some (.int (nI b))] [] h757 _
            have e764 : (sL2 a b).foldl sadd (schU a b 1) = schU a b 2 := sadd_all (by show (sL0 a b ++ sL1 a b).length + _ ≤ _; omega)
            have g765 : px_pa h757 259 50 266 vN (schU a b 2) := pa_eq g761 e764
            have g766 : h757.2.2 258 = some (7, [.ref (259), .ref (260), .int (nI ((schU a b 2).length)), .int (nI a), .int (nI b)]) := by rw [← e764]; exact g760
            refine e_aload_n f_61_100 rfl rfl ?_
            refine e_getf f_61_101 g766 rfl rfl ?_
            refine e_iconst (v := nI 2) f_61_104 (by decide) rfl ?_
            refine e_aload_n f_61_105 rfl rfl ?_
            refine e_getf f_61_106 g766 rfl rfl ?_
            have g767 : px_pa h757 260 50 4 vN ((es.set 0 ((schU a b 0).length)).set 1 ((schU a b 1).length)) := pa_fi g752 fx762 (by omega)
            refine e_iastore_p (xs := (es.set 0 ((schU a b 0).length)).set 1 ((schU a b 1).length)) (x := (schU a b 2).length) f_61_109 g767 (by omega) (by first | omega | (simp only [List.length_set]; omega)) (rfl) rfl (fun h768 g769 fx770 => ?_)
            have fr771 : px_fi 258 3 h h768 := fi_tr fr763 fx770 (by omega)
            refine e_aload_n f_61_110 rfl rfl ?_
            refine e_iload_n f_61_111 rfl rfl ?_
            refine e_iload_n f_61_112 rfl rfl ?_
            have g772 : h768.2.2 258 = some (7, [.ref (259), .ref (260), .int (nI ((schU a b 2).length)), .int (nI a), .int (nI b)]) := fi_at g766 fx770 (by omega)
            have g773 : px_pa h768 259 50 266 vN (schU a b 2) := pa_fi g765 fx770 (by omega)
            refine e_callV (As := [.int (nI a), .int (nI b)]) (rest := []) f_61_113 rfl rfl rfl (Nat.le_of_ble_eq_true rfl) (Nat.le_of_ble_eq_true rfl) g772 rfl (Nat.le_of_ble_eq_true rfl) (cc_Sch_three (a := a) (b := b) (xs := schU a b 2) (A := nI a) (B := nI b) g772 g773 (by omega)) rfl (fun h774 r775 q776 => ?_)
            obtain ⟨rfl, g777, g778, fx779⟩ := q776
            have fr780 : px_fi 258 3 h h774 := fi_tr fr771 fx779 (by omega)
            show px_to 61 116 [some (.ref (258)), some (.int (nI a)), some (.int (nI b))] [] h774 _
            have e781 : (sL3 a b).foldl sadd (schU a b 2) = schU a b 3 := sadd_all (by show (sL0 a b ++ sL1 a b ++ sL2 a b).length + _ ≤ _; rw [List.length_append]; omega)
            have g782 : px_pa h774 259 50 266 vN (schU a b 3) := pa_eq g778 e781
            have g783 : h774.2.2 258 = some (7, [.ref (259), .ref (260), .int (nI ((schU a b 3).length)), .int (nI a), .int (nI b)]) := by rw [← e781]; exact g777
            refine e_aload_n f_61_116 rfl rfl ?_
            refine e_getf f_61_117 g783 rfl rfl ?_
            refine e_iconst (v := nI 3) f_61_120 (by decide) rfl ?_
            refine e_aload_n f_61_121 rfl rfl ?_
            refine e_getf f_61_122 g783 rfl rfl ?_
            have g784 : px_pa h774 260 50 4 vN (((es.set 0 ((schU a b 0).length)).set 1 ((schU a b 1).length)).set 2 ((schU a b 2).length)) := pa_fi g769 fx779 (by omega)
            refine e_iastore_p (xs := ((es.set 0 ((schU a b 0).length)).set 1 ((schU a b 1).length)).set 2 ((schU a b 2).length)) (x := (schU a b 3).length) f_61_125 g784 (by omega) (by first | omega | (simp only [List.length_set]; omega)) (rfl) rfl (fun h785 g786 fx787 => ?_)
            have fr788 : px_fi 258 3 h h785 := fi_tr fr780 fx787 (by omega)
            refine e_vret f_61_126 rfl ?_
            have g789 : h785.2.2 258 = some (7, [.ref (259), .ref (260), .int (nI ((schU a b 3).length)), .int (nI a), .int (nI b)]) := fi_at g783 fx787 (by omega)
            have g790 : px_pa h785 259 50 266 vN (schU a b 3) := pa_fi g782 fx787 (by omega)
            exact ⟨rfl, g789, g790, pa_eq g786 (set4 p1), fr788⟩
          · skip
            rw [← nI_0] at c_59
            have c_59 : 0 < a := cv_nle (by omega) (by omega) c_59
            refine e_iload_n f_61_62 rfl rfl ?_
            refine e_if_le f_61_63 rfl (fun c_63 => ?_) (fun c_63 => ?_)
            · skip
              rw [← nI_0] at c_63
              have c_63 : b ≤ 0 := cv_le (by omega) (by omega) c_63
              have g791 : px_pa h742 259 50 266 vN (schU a b 0) := pa_fi g737 fx744 (by omega)
              have e792 : schU a b 0 = schU a b 1 := by show _ = sL0 a b ++ sL1 a b; unfold sL1; rw [if_neg (by omega), List.append_nil]; rfl
              have g793 : px_pa h742 259 50 266 vN (schU a b 1) := pa_eq g791 e792
              have g794 : h742.2.2 258 = some (7, [.ref (259), .ref (260), .int (nI ((schU a b 0).length)), .int (nI a), .int (nI b)]) := fi_at g738 fx744 (by omega)
              have g795 : h742.2.2 258 = some (7, [.ref (259), .ref (260), .int (nI ((schU a b 1).length)), .int (nI a), .int (nI b)]) := by rw [← e792]; exact g794
              have u1 := sL01_len a b
              have u2 := sL2_len p0
              have u3 := sL3_len p0
              refine e_aload_n f_61_84 rfl rfl ?_
              refine e_getf f_61_85 g795 rfl rfl ?_
              refine e_iconst (v := nI 1) f_61_88 (by decide) rfl ?_
              refine e_aload_n f_61_89 rfl rfl ?_
              refine e_getf f_61_90 g795 rfl rfl ?_
              refine e_iastore_p (xs := es.set 0 ((schU a b 0).length)) (x := (schU a b 1).length) f_61_93 g743 (by omega) (by first | omega | (simp only [List.length_set]; omega)) (rfl) rfl (fun h796 g797 fx798 => ?_)
              have fr799 : px_fi 258 3 h h796 := fi_tr fr745 fx798 (by omega)
              refine e_aload_n f_61_94 rfl rfl ?_
              refine e_iload_n f_61_95 rfl rfl ?_
              refine e_iload_n f_61_96 rfl rfl ?_
              have g800 : h796.2.2 258 = some (7, [.ref (259), .ref (260), .int (nI ((schU a b 1).length)), .int (nI a), .int (nI b)]) := fi_at g795 fx798 (by omega)
              have g801 : px_pa h796 259 50 266 vN (schU a b 1) := pa_fi g793 fx798 (by omega)
              refine e_callV (As := [.int (nI a), .int (nI b)]) (rest := []) f_61_97 rfl rfl rfl (Nat.le_of_ble_eq_true rfl) (Nat.le_of_ble_eq_true rfl) g800 rfl (Nat.le_of_ble_eq_true rfl) (cc_Sch_two (a := a) (b := b) (xs := schU a b 1) (A := nI a) (B := nI b) g800 g801 (by omega)) rfl (fun h802 r803 q804 => ?_)
              obtain ⟨rfl, g805, g806, fx807⟩ := q804
              have fr808 : px_fi 258 3 h h802 := fi_tr fr799 fx807 (by omega)
              show px_to 61 100 [some (.ref (258)), some (.int (nI a)), some (.int (nI b))] [] h802 _
              have e809 : (sL2 a b).foldl sadd (schU a b 1) = schU a b 2 := sadd_all (by show (sL0 a b ++ sL1 a b).length + _ ≤ _; omega)
              have g810 : px_pa h802 259 50 266 vN (schU a b 2) := pa_eq g806 e809
              have g811 : h802.2.2 258 = some (7, [.ref (259), .ref (260), .int (nI ((schU a b 2).length)), .int (nI a), .int (nI b)]) := by rw [← e809]; exact g805
              refine e_aload_n f_61_100 rfl rfl ?_
              refine e_getf f_61_101 g811 rfl rfl ?_
              refine e_iconst (v := nI 2) f_61_104 (by decide) rfl ?_
              refine e_aload_n f_61_105 rfl rfl ?_
              refine e_getf f_61_106 g811 rfl rfl ?_
              have g812 : px_pa h802 260 50 4 vN ((es.set 0 ((schU a b 0).length)).set 1 ((schU a b 1).length)) := pa_fi g797 fx807 (by omega)
              refine e_iastore_p (xs := (es.set 0 ((schU a b 0).length)).set 1 ((schU a b 1).length)) (x := (schU a b 2).length) f_61_109 g812 (by omega) (by first | omega | (simp only [List.length_set]; omega)) (rfl) rfl (fun h813 g814 fx815 => ?_)
              have fr816 : px_fi 258 3 h h813 := fi_tr fr808 fx815 (by omega)
              refine e_aload_n f_61_110 rfl rfl ?_
              refine e_iload_n f_61_111 rfl rfl ?_
              refine e_iload_n f_61_112 rfl rfl ?_
              have g817 : h813.2.2 258 = some (7, [.ref (259), .ref (260), .int (nI ((schU a b 2).length)), .int (nI a), .int (nI b)]) := fi_at g811 fx815 (by omega)
              have g818 : px_pa h813 259 50 266 vN (schU a b 2) := pa_fi g810 fx815 (by omega)
              refine e_callV (As := [.int (nI a), .int (nI b)]) (rest := []) f_61_113 rfl rfl rfl (Nat.le_of_ble_eq_true rfl) (Nat.le_of_ble_eq_true rfl) g817 rfl (Nat.le_of_ble_eq_true rfl) (cc_Sch_three (a := a) (b := b) (xs := schU a b 2) (A := nI a) (B := nI b) g817 g818 (by omega)) rfl (fun h819 r820 q821 => ?_)
              obtain ⟨rfl, g822, g823, fx824⟩ := q821
              have fr825 : px_fi 258 3 h h819 := fi_tr fr816 fx824 (by omega)
              show px_to 61 116 [some (.ref (258)), some (.int (nI a)), some (.int (nI b))] [] h819 _
              have e826 : (sL3 a b).foldl sadd (schU a b 2) = schU a b 3 := sadd_all (by show (sL0 a b ++ sL1 a b ++ sL2 a b).length + _ ≤ _; rw [List.length_append]; omega)
              have g827 : px_pa h819 259 50 266 vN (schU a b 3) := pa_eq g823 e826
              have g828 : h819.2.2 258 = some (7, [.ref (259), .ref (260), .int (nI ((schU a b 3).length)), .int (nI a), .int (nI b)]) := by rw [← e826]; exact g822
              refine e_aload_n f_61_116 rfl rfl ?_
              refine e_getf f_61_117 g828 rfl rfl ?_
              refine e_iconst (v := nI 3) f_61_120 (by decide) rfl ?_
              refine e_aload_n f_61_121 rfl rfl ?_
              refine e_getf f_61_122 g828 rfl rfl ?_
              have g829 : px_pa h819 260 50 4 vN (((es.set 0 ((schU a b 0).length)).set 1 ((schU a b 1).length)).set 2 ((schU a b 2).length)) := pa_fi g814 fx824 (by omega)
              refine e_iastore_p (xs := ((es.set 0 ((schU a b 0).length)).set 1 ((schU a b 1).length)).set 2 ((schU a b 2).length)) (x := (schU a b 3).length) f_61_125 g829 (by omega) (by first | omega | (simp only [List.length_set]; omega)) (rfl) rfl (fun h830 g831 fx832 => ?_)
              have fr833 : px_fi 258 3 h h830 := fi_tr fr825 fx832 (by omega)
              refine e_vret f_61_126 rfl ?_
              have g834 : h830.2.2 258 = some (7, [.ref (259), .ref (260), .int (nI ((schU a b 3).length)), .int (nI a), .int (nI b)]) := fi_at g828 fx832 (by omega)
              have g835 : px_pa h830 259 50 266 vN (schU a b 3) := pa_fi g827 fx832 (by omega)
              exact ⟨rfl, g834, g835, pa_eq g831 (set4 p1), fr833⟩
            · skip
              rw [← nI_0] at c_63
              have c_63 : 0 < b := cv_nle (by omega) (by omega) c_63
              refine e_aload_n f_61_66 rfl rfl ?_
              refine e_iload_n f_61_67 rfl rfl ?_
              refine e_callS (As := [.int (nI b)]) (rest := [.ref (258)]) f_61_68 rfl rfl rfl (Nat.le_of_ble_eq_true rfl) (Nat.le_of_ble_eq_true rfl) (cc_Sch_ones (n := b)  (by omega)) rfl (fun h836 r837 q838 => ?_)
              obtain ⟨rfl, qe⟩ := q838
              have qe := qe.symm
              subst qe
              show px_to 61 71 [some (.ref (258)), some (.int (nI a)), some (.int (nI b))] [.int (nI (ones b)), .ref (258)] h742 _
              refine e_iload_n f_61_71 rfl rfl ?_
              refine e_ishl (z := nI (ones b * 2 ^ a)) f_61_72 (shlN _ (by omega)) rfl ?_
              have g839 : h742.2.2 258 = some (7, [.ref (259), .ref (260), .int (nI ((schU a b 0).length)), .int (nI a), .int (nI b)]) := fi_at g738 fx744 (by omega)
              have g840 : px_pa h742 259 50 266 vN (schU a b 0) := pa_fi g737 fx744 (by omega)
              refine e_callV (As := [.int (nI (ones b * 2 ^ a))]) (rest := []) f_61_73 rfl rfl rfl (Nat.le_of_ble_eq_true rfl) (Nat.le_of_ble_eq_true rfl) g839 rfl (Nat.le_of_ble_eq_true rfl) (cc_Sch_add (v := ones b * 2 ^ a) (xs := schU a b 0) (A := nI a) (B := nI b) g839 g840 ) rfl (fun h841 r842 q843 => ?_)
              obtain ⟨rfl, g844, g845, fx846⟩ := q843
              have fr847 : px_fi 258 3 h h841 := fi_tr fr745 fx846 (by omega)
              show px_to 61 76 [some (.ref (258)), some (.int (nI a)), some (.int (nI b))] [] h841 _
              refine e_aload_n f_61_76 rfl rfl ?_
              refine e_iload_n f_61_77 rfl rfl ?_
              refine e_callS (As := [.int (nI b)]) (rest := [.ref (258)]) f_61_78 rfl rfl rfl (Nat.le_of_ble_eq_true rfl) (Nat.le_of_ble_eq_true rfl) (cc_Sch_ones (n := b)  (by omega)) rfl (fun h848 r849 q850 => ?_)
              obtain ⟨rfl, qe⟩ := q850
              have qe := qe.symm
              subst qe
              show px_to 61 81 [some (.ref (258)), some (.int (nI a)), some (.int (nI b))] [.int (nI (ones b)), .ref (258)] h841 _
              refine e_callV (As := [.int (nI (ones b))]) (rest := []) f_61_81 rfl rfl rfl (Nat.le_of_ble_eq_true rfl) (Nat.le_of_ble_eq_true rfl) g844 rfl (Nat.le_of_ble_eq_true rfl) (cc_Sch_add (v := ones b) (xs := sadd (schU a b 0) (ones b * 2 ^ a)) (A := nI a) (B := nI b) g844 g845 ) rfl (fun h851 r852 q853 => ?_)
              obtain ⟨rfl, g854, g855, fx856⟩ := q853
              have fr857 : px_fi 258 3 h h851 := fi_tr fr847 fx856 (by omega)
              show px_to 61 84 [some (.ref (258)), some (.int (nI a)), some (.int (nI b))] [] h851 _
              have e858 : sadd (sadd (schU a b 0) (ones b * 2 ^ a)) (ones b) = schU a b 1 := by show _ = sL0 a b ++ sL1 a b; unfold sL1; rw [if_pos (by omega)]; show sadd (sadd (sL0 a b) _) _ = _; unfold sL0; rw [if_neg (by omega)]; rfl
              have g859 : px_pa h851 259 50 266 vN (schU a b 1) := pa_eq g855 e858
              have g860 : h851.2.2 258 = some (7, [.ref (259), .ref (260), .int (nI ((schU a b 1).length)), .int (nI a), .int (nI b)]) := by rw [← e858]; exact g854
              have u1 := sL01_len a b
              have u2 := sL2_len p0
              have u3 := sL3_len p0
              refine e_aload_n f_61_84 rfl rfl ?_
              refine e_getf f_61_85 g860 rfl rfl ?_
              refine e_iconst (v := nI 1) f_61_88 (by decide) rfl ?_
              refine e_aload_n f_61_89 rfl rfl ?_
              refine e_getf f_61_90 g860 rfl rfl ?_
              have g861 : px_pa h841 260 50 4 vN (es.set 0 ((schU a b 0).length)) := pa_fi g743 fx846 (by omega)
              have g862 : px_pa h851 260 50 4 vN (es.set 0 ((schU a b 0).length)) := pa_fi g861 fx856 (by omega)
              refine e_iastore_p (xs := es.set 0 ((schU a b 0).length)) (x := (schU a b 1).length) f_61_93 g862 (by omega) (by first | omega | (simp only [List.length_set]; omega)) (rfl) rfl (fun h863 g864 fx865 => ?_)
              have fr866 : px_fi 258 3 h h863 := fi_tr fr857 fx865 (by omega)
              refine e_aload_n f_61_94 rfl rfl ?_
              refine e_iload_n f_61_95 rfl rfl ?_
              refine e_iload_n f_61_96 rfl rfl ?_
              have g867 : h863.2.2 258 = some (7, [.ref (259), .ref (260), .int (nI ((schU a b 1).length)), .int (nI a), .int (nI b)]) := fi_at g860 fx865 (by omega)
              have g868 : px_pa h863 259 50 266 vN (schU a b 1) := pa_fi g859 fx865 (by omega)
              refine e_callV (As := [.int (nI a), .int (nI b)]) (rest := []) f_61_97 rfl rfl rfl (Nat.le_of_ble_eq_true rfl) (Nat.le_of_ble_eq_true rfl) g867 rfl (Nat.le_of_ble_eq_true rfl) (cc_Sch_two (a := a) (b := b) (xs := schU a b 1) (A := nI a) (B := nI b) g867 g868 (by omega)) rfl (fun h869 r870 q871 => ?_)
              obtain ⟨rfl, g872, g873, fx874⟩ := q871
              have fr875 : px_fi 258 3 h h869 := fi_tr fr866 fx874 (by omega)
              show px_to 61 100 [some (.ref (258)), some (.int (nI a)), some (.int (nI b))] [] h869 _
              have e876 : (sL2 a b).foldl sadd (schU a b 1) = schU a b 2 := sadd_all (by show (sL0 a b ++ sL1 a b).length + _ ≤ _; omega)
              have g877 : px_pa h869 259 50 266 vN (schU a b 2) := pa_eq g873 e876
              have g878 : h869.2.2 258 = some (7, [.ref (259), .ref (260), .int (nI ((schU a b 2).length)), .int (nI a), .int (nI b)]) := by rw [← e876]; exact g872
              refine e_aload_n f_61_100 rfl rfl ?_
              refine e_getf f_61_101 g878 rfl rfl ?_
              refine e_iconst (v := nI 2) f_61_104 (by decide) rfl ?_
              refine e_aload_n f_61_105 rfl rfl ?_
              refine e_getf f_61_106 g878 rfl rfl ?_
              have g879 : px_pa h869 260 50 4 vN ((es.set 0 ((schU a b 0).length)).set 1 ((schU a b 1).length)) := pa_fi g864 fx874 (by omega)
              refine e_iastore_p (xs := (es.set 0 ((schU a b 0).length)).set 1 ((schU a b 1).length)) (x := (schU a b 2).length) f_61_109 g879 (by omega) (by first | omega | (simp only [List.length_set]; omega)) (rfl) rfl (fun h880 g881 fx882 => ?_)
              have fr883 : px_fi 258 3 h h880 := fi_tr fr875 fx882 (by omega)
              refine e_aload_n f_61_110 rfl rfl ?_
              refine e_iload_n f_61_111 rfl rfl ?_
              refine e_iload_n f_61_112 rfl rfl ?_
              have g884 : h880.2.2 258 = some (7, [.ref (259), .ref (260), .int (nI ((schU a b 2).length)), .int (nI a), .int (nI b)]) := fi_at g878 fx882 (by omega)
              have g885 : px_pa h880 259 50 266 vN (schU a b 2) := pa_fi g877 fx882 (by omega)
              refine e_callV (As := [.int (nI a), .int (nI b)]) (rest := []) f_61_113 rfl rfl rfl (Nat.le_of_ble_eq_true rfl) (Nat.le_of_ble_eq_true rfl) g884 rfl (Nat.le_of_ble_eq_true rfl) (cc_Sch_three (a := a) (b := b) (xs := schU a b 2) (A := nI a) (B := nI b) g884 g885 (by omega)) rfl (fun h886 r887 q888 => ?_)
              obtain ⟨rfl, g889, g890, fx891⟩ := q888
              have fr892 : px_fi 258 3 h h886 := fi_tr fr883 fx891 (by omega)
              show px_to 61 116 [some (.ref (258)), some (.int (nI a)), some (.int (nI b))] [] h886 _
              have e893 : (sL3 a b).foldl sadd (schU a b 2) = schU a b 3 := sadd_all (by show (sL0 a b ++ sL1 a b ++ sL2 a b).length + _ ≤ _; rw [List.length_append]; omega)
              have g894 : px_pa h886 259 50 266 vN (schU a b 3) := pa_eq g890 e893
              have g895 : h886.2.2 258 = some (7, [.ref (259), .ref (260), .int (nI ((schU a b 3).length)), .int (nI a), .int (nI b)]) := by rw [← e893]; exact g889
              refine e_aload_n f_61_116 rfl rfl ?_
              refine e_getf f_61_117 g895 rfl rfl ?_
              refine e_iconst (v := nI 3) f_61_120 (by decide) rfl ?_
              refine e_aload_n f_61_121 rfl rfl ?_
              refine e_getf f_61_122 g895 rfl rfl ?_
              have g896 : px_pa h886 260 50 4 vN (((es.set 0 ((schU a b 0).length)).set 1 ((schU a b 1).length)).set 2 ((schU a b 2).length)) := pa_fi g881 fx891 (by omega)
              refine e_iastore_p (xs := ((es.set 0 ((schU a b 0).length)).set 1 ((schU a b 1).length)).set 2 ((schU a b 2).length)) (x := (schU a b 3).length) f_61_125 g896 (by omega) (by first | omega | (simp only [List.length_set]; omega)) (rfl) rfl (fun h897 g898 fx899 => ?_)
              have fr900 : px_fi 258 3 h h897 := fi_tr fr892 fx899 (by omega)
              refine e_vret f_61_126 rfl ?_
              have g901 : h897.2.2 258 = some (7, [.ref (259), .ref (260), .int (nI ((schU a b 3).length)), .int (nI a), .int (nI b)]) := fi_at g895 fx899 (by omega)
              have g902 : px_pa h897 259 50 266 vN (schU a b 3) := pa_fi g894 fx899 (by omega)
              exact ⟨rfl, g901, g902, pa_eq g898 (set4 p1), fr900⟩
        · skip
          rw [← nI_0] at c_37
          have c_37 : b = 0 := cv_nne (by omega) (by omega) c_37
          refine e_aload_n f_61_40 rfl rfl ?_
          refine e_iload_n f_61_41 rfl rfl ?_
          refine e_callS (As := [.int (nI b)]) (rest := [.ref (258)]) f_61_42 rfl rfl rfl (Nat.le_of_ble_eq_true rfl) (Nat.le_of_ble_eq_true rfl) (cc_Sch_ones (n := b)  (by omega)) rfl (fun h903 r904 q905 => ?_)
          obtain ⟨rfl, qe⟩ := q905
          have qe := qe.symm
          subst qe
          show px_to 61 45 [some (.ref (258)), some (.int (nI a)), some (.int (nI b))] [.int (nI (ones b)), .ref (258)] h549 _
          refine e_callV (As := [.int (nI (ones b))]) (rest := []) f_61_45 rfl rfl rfl (Nat.le_of_ble_eq_true rfl) (Nat.le_of_ble_eq_true rfl) g557 rfl (Nat.le_of_ble_eq_true rfl) (cc_Sch_add (v := ones b) (xs := ([] : List Nat)) (A := nI a) (B := nI b) g557 g556 ) rfl (fun h906 r907 q908 => ?_)
          obtain ⟨rfl, g909, g910, fx911⟩ := q908
          have fr912 : px_fi 258 3 h h906 := fi_tr fr552 fx911 (by omega)
          show px_to 61 48 [some (.ref (258)), some (.int (nI a)), some (.int (nI b))] [] h906 _
          have e913 : sadd ([] : List Nat) (ones b) = schU a b 0 := by show _ = sL0 a b; unfold sL0; rw [if_pos (by omega)]; rfl
          have g914 : px_pa h906 259 50 266 vN (schU a b 0) := pa_eq g910 e913
          have g915 : h906.2.2 258 = some (7, [.ref (259), .ref (260), .int (nI ((schU a b 0).length)), .int (nI a), .int (nI b)]) := by rw [← e913]; exact g909
          refine e_aload_n f_61_48 rfl rfl ?_
          refine e_getf f_61_49 g915 rfl rfl ?_
          refine e_iconst (v := nI 0) f_61_52 (by decide) rfl ?_
          refine e_aload_n f_61_53 rfl rfl ?_
          refine e_getf f_61_54 g915 rfl rfl ?_
          have g916 : px_pa h541 260 50 4 vN es := pa_fi H2 fx543 (by omega)
          have g917 : px_pa h545 260 50 4 vN es := pa_fi g916 fx547 (by omega)
          have g918 : px_pa h549 260 50 4 vN es := pa_fi g917 fx551 (by omega)
          have g919 : px_pa h906 260 50 4 vN es := pa_fi g918 fx911 (by omega)
          refine e_iastore_p (xs := es) (x := (schU a b 0).length) f_61_57 g919 (by omega) (by first | omega | (simp only [List.length_set]; omega)) (rfl) rfl (fun h920 g921 fx922 => ?_)
          have fr923 : px_fi 258 3 h h920 := fi_tr fr912 fx922 (by omega)
          refine e_iload_n f_61_58 rfl rfl ?_
          refine e_if_le f_61_59 rfl (fun c_59 => ?_) (fun c_59 => ?_)
          · skip
            rw [← nI_0] at c_59
            have c_59 : a ≤ 0 := cv_le (by omega) (by omega) c_59
            have g924 : px_pa h920 259 50 266 vN (schU a b 0) := pa_fi g914 fx922 (by omega)
            have e925 : schU a b 0 = schU a b 1 := by show _ = sL0 a b ++ sL1 a b; unfold sL1; rw [if_neg (by omega), List.append_nil]; rfl
            have g926 : px_pa h920 259 50 266 vN (schU a b 1) := pa_eq g924 e925
            have g927 : h920.2.2 258 = some (7, [.ref (259), .ref (260), .int (nI ((schU a b 0).length)), .int (nI a), .int (nI b)]) := fi_at g915 fx922 (by omega)
            have g928 : h920.2.2 258 = some (7, [.ref (259), .ref (260), .int (nI ((schU a b 1).length)), .int (nI a), .int (nI b)]) := by rw [← e925]; exact g927
            have u1 := sL01_len a b
            have u2 := sL2_len p0
            have u3 := sL3_len p0
            refine e_aload_n f_61_84 rfl rfl ?_
            refine e_getf f_61_85 g928 rfl rfl ?_
            refine e_iconst (v := nI 1) f_61_88 (by decide) rfl ?_
            refine e_aload_n f_61_89 rfl rfl ?_
            refine e_getf f_61_90 g928 rfl rfl ?_
            refine e_iastore_p (xs := es.set 0 ((schU a b 0).length)) (x := (schU a b 1).length) f_61_93 g921 (by omega) (by first | omega | (simp only [List.length_set]; omega)) (rfl) rfl (fun h929 g930 fx931 => ?_)
            have fr932 : px_fi 258 3 h h929 := fi_tr fr923 fx931 (by omega)
            refine e_aload_n f_61_94 rfl rfl ?_
            refine e_iload_n f_61_95 rfl rfl ?_
            refine e_iload_n f_61_96 rfl rfl ?_
            have g933 : h929.2.2 258 = some (7, [.ref (259), .ref (260), .int (nI ((schU a b 1).length)), .int (nI a), .int (nI b)]) := fi_at g928 fx931 (by omega)
            have g934 : px_pa h929 259 50 266 vN (schU a b 1) := pa_fi g926 fx931 (by omega)
            refine e_callV (As := [.int (nI a), .int (nI b)]) (rest := []) f_61_97 rfl rfl rfl (Nat.le_of_ble_eq_true rfl) (Nat.le_of_ble_eq_true rfl) g933 rfl (Nat.le_of_ble_eq_true rfl) (cc_Sch_two (a := a) (b := b) (xs := schU a b 1) (A := nI a) (B := nI b) g933 g934 (by omega)) rfl (fun h935 r936 q937 => ?_)
            obtain ⟨rfl, g938, g939, fx940⟩ := q937
            have fr941 : px_fi 258 3 h h935 := fi_tr fr932 fx940 (by omega)
            show px_to 61 100 [some (.ref (258)), some (.int (nI a)), some (.int (nI b))] [] h935 _
            have e942 : (sL2 a b).foldl sadd (schU a b 1) = schU a b 2 := sadd_all (by show (sL0 a b ++ sL1 a b).length + _ ≤ _; omega)
            have g943 : px_pa h935 259 50 266 vN (schU a b 2) := pa_eq g939 e942
            have g944 : h935.2.2 258 = some (7, [.ref (259), .ref (260), .int (nI ((schU a b 2).length)), .int (nI a), .int (nI b)]) := by rw [← e942]; exact g938
            refine e_aload_n f_61_100 rfl rfl ?_
            refine e_getf f_61_101 g944 rfl rfl ?_
            refine e_iconst (v := nI 2) f_61_104 (by decide) rfl ?_
            refine e_aload_n f_61_105 rfl rfl ?_
            refine e_getf f_61_106 g944 rfl rfl ?_
            have g945 : px_pa h935 260 50 4 vN ((es.set 0 ((schU a b 0).length)).set 1 ((schU a b 1).length)) := pa_fi g930 fx940 (by omega)
            refine e_iastore_p (xs := (es.set 0 ((schU a b 0).length)).set 1 ((schU a b 1).length)) (x := (schU a b 2).length) f_61_109 g945 (by omega) (by first | omega | (simp only [List.length_set]; omega)) (rfl) rfl (fun h946 g947 fx948 => ?_)
            have fr949 : px_fi 258 3 h h946 := fi_tr fr941 fx948 (by omega)
            refine e_aload_n f_61_110 rfl rfl ?_
            refine e_iload_n f_61_111 rfl rfl ?_
            refine e_iload_n f_61_112 rfl rfl ?_
            have g950 : h946.2.2 258 = some (7, [.ref (259), .ref (260), .int (nI ((schU a b 2).length)), .int (nI a), .int (nI b)]) := fi_at g944 fx948 (by omega)
            have g951 : px_pa h946 259 50 266 vN (schU a b 2) := pa_fi g943 fx948 (by omega)
            refine e_callV (As := [.int (nI a), .int (nI b)]) (rest := []) f_61_113 rfl rfl rfl (Nat.le_of_ble_eq_true rfl) (Nat.le_of_ble_eq_true rfl) g950 rfl (Nat.le_of_ble_eq_true rfl) (cc_Sch_three (a := a) (b := b) (xs := schU a b 2) (A := nI a) (B := nI b) g950 g951 (by omega)) rfl (fun h952 r953 q954 => ?_)
            obtain ⟨rfl, g955, g956, fx957⟩ := q954
            have fr958 : px_fi 258 3 h h952 := fi_tr fr949 fx957 (by omega)
            show px_to 61 116 [some (.ref (258)), some (.int (nI a)), some (.int (nI b))] [] h952 _
            have e959 : (sL3 a b).foldl sadd (schU a b 2) = schU a b 3 := sadd_all (by show (sL0 a b ++ sL1 a b ++ sL2 a b).length + _ ≤ _; rw [List.length_append]; omega)
            have g960 : px_pa h952 259 50 266 vN (schU a b 3) := pa_eq g956 e959
            have g961 : h952.2.2 258 = some (7, [.ref (259), .ref (260), .int (nI ((schU a b 3).length)), .int (nI a), .int (nI b)]) := by rw [← e959]; exact g955
            refine e_aload_n f_61_116 rfl rfl ?_
            refine e_getf f_61_117 g961 rfl rfl ?_
            refine e_iconst (v := nI 3) f_61_120 (by decide) rfl ?_
            refine e_aload_n f_61_121 rfl rfl ?_
            refine e_getf f_61_122 g961 rfl rfl ?_
            have g962 : px_pa h952 260 50 4 vN (((es.set 0 ((schU a b 0).length)).set 1 ((schU a b 1).length)).set 2 ((schU a b 2).length)) := pa_fi g947 fx957 (by omega)
            refine e_iastore_p (xs := ((es.set 0 ((schU a b 0).length)).set 1 ((schU a b 1).length)).set 2 ((schU a b 2).length)) (x := (schU a b 3).length) f_61_125 g962 (by omega) (by first | omega | (simp only [List.length_set]; omega)) (rfl) rfl (fun h963 g964 fx965 => ?_)
            have fr966 : px_fi 258 3 h h963 := fi_tr fr958 fx965 (by omega)
            refine e_vret f_61_126 rfl ?_
            have g967 : h963.2.2 258 = some (7, [.ref (259), .ref (260), .int (nI ((schU a b 3).length)), .int (nI a), .int (nI b)]) := fi_at g961 fx965 (by omega)
            have g968 : px_pa h963 259 50 266 vN (schU a b 3) := pa_fi g960 fx965 (by omega)
            exact ⟨rfl, g967, g968, pa_eq g964 (set4 p1), fr966⟩
          · skip
            rw [← nI_0] at c_59
            have c_59 : 0 < a := cv_nle (by omega) (by omega) c_59
            refine e_iload_n f_61_62 rfl rfl ?_
            refine e_if_le f_61_63 rfl (fun c_63 => ?_) (fun c_63 => ?_)
            · skip
              rw [← nI_0] at c_63
              have c_63 : b ≤ 0 := cv_le (by omega) (by omega) c_63
              have g969 : px_pa h920 259 50 266 vN (schU a b 0) := pa_fi g914 fx922 (by omega)
              have e970 : schU a b 0 = schU a b 1 := by show _ = sL0 a b ++ sL1 a b; unfold sL1; rw [if_neg (by omega), List.append_nil]; rfl
              have g971 : px_pa h920 259 50 266 vN (schU a b 1) := pa_eq g969 e970
              have g972 : h920.2.2 258 = some (7, [.ref (259), .ref (260), .int (nI ((schU a b 0).length)), .int (nI a), .int (nI b)]) := fi_at g915 fx922 (by omega)
              have g973 : h920.2.2 258 = some (7, [.ref (259), .ref (260), .int (nI ((schU a b 1).length)), .int (nI a), .int (nI b)]) := by rw [← e970]; exact g972
              have u1 := sL01_len a b
              have u2 := sL2_len p0
              have u3 := sL3_len p0
              refine e_aload_n f_61_84 rfl rfl ?_
              refine e_getf f_61_85 g973 rfl rfl ?_
              refine e_iconst (v := nI 1) f_61_88 (by decide) rfl ?_
              refine e_aload_n f_61_89 rfl rfl ?_
              refine e_getf f_61_90 g973 rfl rfl ?_
              refine e_iastore_p (xs := es.set 0 ((schU a b 0).length)) (x := (schU a b 1).length) f_61_93 g921 (by omega) (by first | omega | (simp only [List.length_set]; omega)) (rfl) rfl (fun h974 g975 fx976 => ?_)
              have fr977 : px_fi 258 3 h h974 := fi_tr fr923 fx976 (by omega)
              refine e_aload_n f_61_94 rfl rfl ?_
              refine e_iload_n f_61_95 rfl rfl ?_
              refine e_iload_n f_61_96 rfl rfl ?_
              have g978 : h974.2.2 258 = some (7, [.ref (259), .ref (260), .int (nI ((schU a b 1).length)), .int (nI a), .int (nI b)]) := fi_at g973 fx976 (by omega)
              have g979 : px_pa h974 259 50 266 vN (schU a b 1) := pa_fi g971 fx976 (by omega)
              refine e_callV (As := [.int (nI a), .int (nI b)]) (rest := []) f_61_97 rfl rfl rfl (Nat.le_of_ble_eq_true rfl) (Nat.le_of_ble_eq_true rfl) g978 rfl (Nat.le_of_ble_eq_true rfl) (cc_Sch_two (a := a) (b := b) (xs := schU a b 1) (A := nI a) (B := nI b) g978 g979 (by omega)) rfl (fun h980 r981 q982 => ?_)
              obtain ⟨rfl, g983, g984, fx985⟩ := q982
              have fr986 : px_fi 258 3 h h980 := fi_tr fr977 fx985 (by omega)
              show px_to 61 100 [some (.ref (258)), some (.int (nI a)), some (.int (nI b))] [] h980 _
              have e987 : (sL2 a b).foldl sadd (schU a b 1) = schU a b 2 := sadd_all (by show (sL0 a b ++ sL1 a b).length + _ ≤ _; omega)
              have g988 : px_pa h980 259 50 266 vN (schU a b 2) := pa_eq g984 e987
              have g989 : h980.2.2 258 = some (7, [.ref (259), .ref (260), .int (nI ((schU a b 2).length)), .int (nI a), .int (nI b)]) := by rw [← e987]; exact g983
              refine e_aload_n f_61_100 rfl rfl ?_
              refine e_getf f_61_101 g989 rfl rfl ?_
              refine e_iconst (v := nI 2) f_61_104 (by decide) rfl ?_
              refine e_aload_n f_61_105 rfl rfl ?_
              refine e_getf f_61_106 g989 rfl rfl ?_
              have g990 : px_pa h980 260 50 4 vN ((es.set 0 ((schU a b 0).length)).set 1 ((schU a b 1).length)) := pa_fi g975 fx985 (by omega)
              refine e_iastore_p (xs := (es.set 0 ((schU a b 0).length)).set 1 ((schU a b 1).length)) (x := (schU a b 2).length) f_61_109 g990 (by omega) (by first | omega | (simp only [List.length_set]; omega)) (rfl) rfl (fun h991 g992 fx993 => ?_)
              have fr994 : px_fi 258 3 h h991 := fi_tr fr986 fx993 (by omega)
              refine e_aload_n f_61_110 rfl rfl ?_
              refine e_iload_n f_61_111 rfl rfl ?_
              refine e_iload_n f_61_112 rfl rfl ?_
              have g995 : h991.2.2 258 = some (7, [.ref (259), .ref (260), .int (nI ((schU a b 2).length)), .int (nI a), .int (nI b)]) := fi_at g989 fx993 (by omega)
              have g996 : px_pa h991 259 50 266 vN (schU a b 2) := pa_fi g988 fx993 (by omega)
              refine e_callV (As := [.int (nI a), .int (nI b)]) (rest := []) f_61_113 rfl rfl rfl (Nat.le_of_ble_eq_true rfl) (Nat.le_of_ble_eq_true rfl) g995 rfl (Nat.le_of_ble_eq_true rfl) (cc_Sch_three (a := a) (b := b) (xs := schU a b 2) (A := nI a) (B := nI b) g995 g996 (by omega)) rfl (fun h997 r998 q999 => ?_)
              obtain ⟨rfl, g1000, g1001, fx1002⟩ := q999
              have fr1003 : px_fi 258 3 h h997 := fi_tr fr994 fx1002 (by omega)
              show px_to 61 116 [some (.ref (258)), some (.int (nI a)), some (.int (nI b))] [] h997 _
              have e1004 : (sL3 a b).foldl sadd (schU a b 2) = schU a b 3 := sadd_all (by show (sL0 a b ++ sL1 a b ++ sL2 a b).length + _ ≤ _; rw [List.length_append]; omega)
              have g1005 : px_pa h997 259 50 266 vN (schU a b 3) := pa_eq g1001 e1004
              have g1006 : h997.2.2 258 = some (7, [.ref (259), .ref (260), .int (nI ((schU a b 3).length)), .int (nI a), .int (nI b)]) := by rw [← e1004]; exact g1000
              refine e_aload_n f_61_116 rfl rfl ?_
              refine e_getf f_61_117 g1006 rfl rfl ?_
              refine e_iconst (v := nI 3) f_61_120 (by decide) rfl ?_
              refine e_aload_n f_61_121 rfl rfl ?_
              refine e_getf f_61_122 g1006 rfl rfl ?_
              have g1007 : px_pa h997 260 50 4 vN (((es.set 0 ((schU a b 0).length)).set 1 ((schU a b 1).length)).set 2 ((schU a b 2).length)) := pa_fi g992 fx1002 (by omega)
              refine e_iastore_p (xs := ((es.set 0 ((schU a b 0).length)).set 1 ((schU a b 1).length)).set 2 ((schU a b 2).length)) (x := (schU a b 3).length) f_61_125 g1007 (by omega) (by first | omega | (simp only [List.length_set]; omega)) (rfl) rfl (fun h1008 g1009 fx1010 => ?_)
              have fr1011 : px_fi 258 3 h h1008 := fi_tr fr1003 fx1010 (by omega)
              refine e_vret f_61_126 rfl ?_
              have g1012 : h1008.2.2 258 = some (7, [.ref (259), .ref (260), .int (nI ((schU a b 3).length)), .int (nI a), .int (nI b)]) := fi_at g1006 fx1010 (by omega)
              have g1013 : px_pa h1008 259 50 266 vN (schU a b 3) := pa_fi g1005 fx1010 (by omega)
              exact ⟨rfl, g1012, g1013, pa_eq g1009 (set4 p1), fr1011⟩
            · skip
              rw [← nI_0] at c_63
              have c_63 : 0 < b := cv_nle (by omega) (by omega) c_63
              refine e_aload_n f_61_66 rfl rfl ?_
              refine e_iload_n f_61_67 rfl rfl ?_
              refine e_callS (As := [.int (nI b)]) (rest := [.ref (258)]) f_61_68 rfl rfl rfl (Nat.le_of_ble_eq_true rfl) (Nat.le_of_ble_eq_true rfl) (cc_Sch_ones (n := b)  (by omega)) rfl (fun h1014 r1015 q1016 => ?_)
              obtain ⟨rfl, qe⟩ := q1016
              have qe := qe.symm
              subst qe
              show px_to 61 71 [some (.ref (258)), some (.int (nI a)), some (.int (nI b))] [.int (nI (ones b)), .ref (258)] h920 _
              refine e_iload_n f_61_71 rfl rfl ?_
              refine e_ishl (z := nI (ones b * 2 ^ a)) f_61_72 (shlN _ (by omega)) rfl ?_
              have g1017 : h920.2.2 258 = some (7, [.ref (259), .ref (260), .int (nI ((schU a b 0).length)), .int (nI a), .int (nI b)]) := fi_at g915 fx922 (by omega)
              have g1018 : px_pa h920 259 50 266 vN (schU a b 0) := pa_fi g914 fx922 (by omega)
              refine e_callV (As := [.int (nI (ones b * 2 ^ a))]) (rest := []) f_61_73 rfl rfl rfl (Nat.le_of_ble_eq_true rfl) (Nat.le_of_ble_eq_true rfl) g1017 rfl (Nat.le_of_ble_eq_true rfl) (cc_Sch_add (v := ones b * 2 ^ a) (xs := schU a b 0) (A := nI a) (B := nI b) g1017 g1018 ) rfl (fun h1019 r1020 q1021 => ?_)
              obtain ⟨rfl, g1022, g1023, fx1024⟩ := q1021
              have fr1025 : px_fi 258 3 h h1019 := fi_tr fr923 fx1024 (by omega)
              show px_to 61 76 [some (.ref (258)), some (.int (nI a)), some (.int (nI b))] [] h1019 _
              refine e_aload_n f_61_76 rfl rfl ?_
              refine e_iload_n f_61_77 rfl rfl ?_
              refine e_callS (As := [.int (nI b)]) (rest := [.ref (258)]) f_61_78 rfl rfl rfl (Nat.le_of_ble_eq_true rfl) (Nat.le_of_ble_eq_true rfl) (cc_Sch_ones (n := b)  (by omega)) rfl (fun h1026 r1027 q1028 => ?_)
              obtain ⟨rfl, qe⟩ := q1028
              have qe := qe.symm
              subst qe
              show px_to 61 81 [some (.ref (258)), some (.int (nI a)), some (.int (nI b))] [.int (nI (ones b)), .ref (258)] h1019 _
              refine e_callV (As := [.int (nI (ones b))]) (rest := []) f_61_81 rfl rfl rfl (Nat.le_of_ble_eq_true rfl) (Nat.le_of_ble_eq_true rfl) g1022 rfl (Nat.le_of_ble_eq_true rfl) (cc_Sch_add (v := ones b) (xs := sadd (schU a b 0) (ones b * 2 ^ a)) (A := nI a) (B := nI b) g1022 g1023 ) rfl (fun h1029 r1030 q1031 => ?_)
              obtain ⟨rfl, g1032, g1033, fx1034⟩ := q1031
              have fr1035 : px_fi 258 3 h h1029 := fi_tr fr1025 fx1034 (by omega)
              show px_to 61 84 [some (.ref (258)), some (.int (nI a)), some (.int (nI b))] [] h1029 _
              have e1036 : sadd (sadd (schU a b 0) (ones b * 2 ^ a)) (ones b) = schU a b 1 := by show _ = sL0 a b ++ sL1 a b; unfold sL1; rw [if_pos (by omega)]; show sadd (sadd (sL0 a b) _) _ = _; unfold sL0; rw [if_neg (by omega)]; rfl
              have g1037 : px_pa h1029 259 50 266 vN (schU a b 1) := pa_eq g1033 e1036
              have g1038 : h1029.2.2 258 = some (7, [.ref (259), .ref (260), .int (nI ((schU a b 1).length)), .int (nI a), .int (nI b)]) := by rw [← e1036]; exact g1032
              have u1 := sL01_len a b
              have u2 := sL2_len p0
              have u3 := sL3_len p0
              refine e_aload_n f_61_84 rfl rfl ?_
              refine e_getf f_61_85 g1038 rfl rfl ?_
              refine e_iconst (v := nI 1) f_61_88 (by decide) rfl ?_
              refine e_aload_n f_61_89 rfl rfl ?_
              refine e_getf f_61_90 g1038 rfl rfl ?_
              have g1039 : px_pa h1019 260 50 4 vN (es.set 0 ((schU a b 0).length)) := pa_fi g921 fx1024 (by omega)
              have g1040 : px_pa h1029 260 50 4 vN (es.set 0 ((schU a b 0).length)) := pa_fi g1039 fx1034 (by omega)
              refine e_iastore_p (xs := es.set 0 ((schU a b 0).length)) (x := (schU a b 1).length) f_61_93 g1040 (by omega) (by first | omega | (simp only [List.length_set]; omega)) (rfl) rfl (fun h1041 g1042 fx1043 => ?_)
              have fr1044 : px_fi 258 3 h h1041 := fi_tr fr1035 fx1043 (by omega)
              refine e_aload_n f_61_94 rfl rfl ?_
              refine e_iload_n f_61_95 rfl rfl ?_
              refine e_iload_n f_61_96 rfl rfl ?_
              have g1045 : h1041.2.2 258 = some (7, [.ref (259), .ref (260), .int (nI ((schU a b 1).length)), .int (nI a), .int (nI b)]) := fi_at g1038 fx1043 (by omega)
              have g1046 : px_pa h1041 259 50 266 vN (schU a b 1) := pa_fi g1037 fx1043 (by omega)
              refine e_callV (As := [.int (nI a), .int (nI b)]) (rest := []) f_61_97 rfl rfl rfl (Nat.le_of_ble_eq_true rfl) (Nat.le_of_ble_eq_true rfl) g1045 rfl (Nat.le_of_ble_eq_true rfl) (cc_Sch_two (a := a) (b := b) (xs := schU a b 1) (A := nI a) (B := nI b) g1045 g1046 (by omega)) rfl (fun h1047 r1048 q1049 => ?_)
              obtain ⟨rfl, g1050, g1051, fx1052⟩ := q1049
              have fr1053 : px_fi 258 3 h h1047 := fi_tr fr1044 fx1052 (by omega)
              show px_to 61 100 [some (.ref (258)), some (.int (nI a)), some (.int (nI b))] [] h1047 _
              have e1054 : (sL2 a b).foldl sadd (schU a b 1) = schU a b 2 := sadd_all (by show (sL0 a b ++ sL1 a b).length + _ ≤ _; omega)
              have g1055 : px_pa h1047 259 50 266 vN (schU a b 2) := pa_eq g1051 e1054
              have g1056 : h1047.2.2 258 = some (7, [.ref (259), .ref (260), .int (nI ((schU a b 2).length)), .int (nI a), .int (nI b)]) := by rw [← e1054]; exact g1050
              refine e_aload_n f_61_100 rfl rfl ?_
              refine e_getf f_61_101 g1056 rfl rfl ?_
              refine e_iconst (v := nI 2) f_61_104 (by decide) rfl ?_
              refine e_aload_n f_61_105 rfl rfl ?_
              refine e_getf f_61_106 g1056 rfl rfl ?_
              have g1057 : px_pa h1047 260 50 4 vN ((es.set 0 ((schU a b 0).length)).set 1 ((schU a b 1).length)) := pa_fi g1042 fx1052 (by omega)
              refine e_iastore_p (xs := (es.set 0 ((schU a b 0).length)).set 1 ((schU a b 1).length)) (x := (schU a b 2).length) f_61_109 g1057 (by omega) (by first | omega | (simp only [List.length_set]; omega)) (rfl) rfl (fun h1058 g1059 fx1060 => ?_)
              have fr1061 : px_fi 258 3 h h1058 := fi_tr fr1053 fx1060 (by omega)
              refine e_aload_n f_61_110 rfl rfl ?_
              refine e_iload_n f_61_111 rfl rfl ?_
              refine e_iload_n f_61_112 rfl rfl ?_
              have g1062 : h1058.2.2 258 = some (7, [.ref (259), .ref (260), .int (nI ((schU a b 2).length)), .int (nI a), .int (nI b)]) := fi_at g1056 fx1060 (by omega)
              have g1063 : px_pa h1058 259 50 266 vN (schU a b 2) := pa_fi g1055 fx1060 (by omega)
              refine e_callV (As := [.int (nI a), .int (nI b)]) (rest := []) f_61_113 rfl rfl rfl (Nat.le_of_ble_eq_true rfl) (Nat.le_of_ble_eq_true rfl) g1062 rfl (Nat.le_of_ble_eq_true rfl) (cc_Sch_three (a := a) (b := b) (xs := schU a b 2) (A := nI a) (B := nI b) g1062 g1063 (by omega)) rfl (fun h1064 r1065 q1066 => ?_)
              obtain ⟨rfl, g1067, g1068, fx1069⟩ := q1066
              have fr1070 : px_fi 258 3 h h1064 := fi_tr fr1061 fx1069 (by omega)
              show px_to 61 116 [some (.ref (258)), some (.int (nI a)), some (.int (nI b))] [] h1064 _
              have e1071 : (sL3 a b).foldl sadd (schU a b 2) = schU a b 3 := sadd_all (by show (sL0 a b ++ sL1 a b ++ sL2 a b).length + _ ≤ _; rw [List.length_append]; omega)
              have g1072 : px_pa h1064 259 50 266 vN (schU a b 3) := pa_eq g1068 e1071
              have g1073 : h1064.2.2 258 = some (7, [.ref (259), .ref (260), .int (nI ((schU a b 3).length)), .int (nI a), .int (nI b)]) := by rw [← e1071]; exact g1067
              refine e_aload_n f_61_116 rfl rfl ?_
              refine e_getf f_61_117 g1073 rfl rfl ?_
              refine e_iconst (v := nI 3) f_61_120 (by decide) rfl ?_
              refine e_aload_n f_61_121 rfl rfl ?_
              refine e_getf f_61_122 g1073 rfl rfl ?_
              have g1074 : px_pa h1064 260 50 4 vN (((es.set 0 ((schU a b 0).length)).set 1 ((schU a b 1).length)).set 2 ((schU a b 2).length)) := pa_fi g1059 fx1069 (by omega)
              refine e_iastore_p (xs := ((es.set 0 ((schU a b 0).length)).set 1 ((schU a b 1).length)).set 2 ((schU a b 2).length)) (x := (schU a b 3).length) f_61_125 g1074 (by omega) (by first | omega | (simp only [List.length_set]; omega)) (rfl) rfl (fun h1075 g1076 fx1077 => ?_)
              have fr1078 : px_fi 258 3 h h1075 := fi_tr fr1070 fx1077 (by omega)
              refine e_vret f_61_126 rfl ?_
              have g1079 : h1075.2.2 258 = some (7, [.ref (259), .ref (260), .int (nI ((schU a b 3).length)), .int (nI a), .int (nI b)]) := fi_at g1073 fx1077 (by omega)
              have g1080 : px_pa h1075 259 50 266 vN (schU a b 3) := pa_fi g1072 fx1077 (by omega)
              exact ⟨rfl, g1079, g1080, pa_eq g1076 (set4 p1), fr1078⟩
    · skip
      refine e_vret f_61_16 rfl ?_
      obtain ⟨e1, e2, e3⟩ := p2 ⟨Classical.not_not.mp c_5, Classical.not_not.mp c_13⟩
      subst e1
      subst e2
      subst e3
      have c5 := Classical.not_not.mp c_5
      have c13 := Classical.not_not.mp c_13
      subst c5
      subst c13
      exact ⟨rfl, H0, H1, H2, fr0⟩
