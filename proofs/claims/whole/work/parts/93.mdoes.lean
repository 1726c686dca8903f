/-- what a memory holds, of the job's steps and its marks -/
def relB (j : List St) (A B W S : Int32) (sms : List SM) (sl : List Int32) : Prop := sl.length = 3070 ∧ (sl.getD 0 0 = A ∧ sl.getD 1 0 = B ∧ sl.getD 2 0 = W ∧ sl.getD 3 0 = S) ∧ MSt sl j sms
theorem relB_cpy {j : List St} {A B W S : Int32} {sms : List SM} {s d : List Int32} (h : relB j A B W S sms s) (hd : d.length = 3070) (h6 : j.length ≤ 6) : relB j A B W S sms (cpy s d (4 + 511 * j.length)) := ⟨cpy_len h.1 hd (by omega), ⟨by rw [cpy_get h.1 (by omega) (by omega)]; exact h.2.1.1, by rw [cpy_get h.1 (by omega) (by omega)]; exact h.2.1.2.1, by rw [cpy_get h.1 (by omega) (by omega)]; exact h.2.1.2.2.1, by rw [cpy_get h.1 (by omega) (by omega)]; exact h.2.1.2.2.2⟩, MSt_eq h.2.2 (fun i h1 h2 => cpy_get h.1 (by omega) h2)⟩
def frZ (y : List Int32) (n : Nat) : Prop := y.getD 3 0 = nI 0 ∧ ∀ k, k < n → y.getD (4 + 511 * k) 0 = nI 0 ∧ (∀ r, r < 4 → y.getD (4 + 511 * k + 201 + r) 0 = nI 0) ∧ y.getD (4 + 511 * k + 206) 0 = nI 0
def frT (y : List Int32) (k : Nat) : Prop := y.getD (4 + 511 * k + 205) 0 = -1 ∧ ∀ r, r < 4 → y.getD (4 + 511 * k + 507 + r) 0 = -3
def frM (y : List Int32) : Prop := y.length = 3070 ∧ y.getD 0 0 = -1 ∧ y.getD 1 0 = -1 ∧ y.getD 2 0 = -1
def frY (y : List Int32) (k : Nat) : List Int32 := ((((y.set (4 + 511 * k + 205) (-1)).set (4 + 511 * k + 507) (-3)).set (4 + 511 * k + 508) (-3)).set (4 + 511 * k + 509) (-3)).set (4 + 511 * k + 510) (-3)
theorem frY_ne {y : List Int32} {k i : Nat} (h1 : i ≠ 4 + 511 * k + 205) (h2 : i < 4 + 511 * k + 507 ∨ 4 + 511 * k + 511 ≤ i) : (frY y k).getD i 0 = y.getD i 0 := by
  unfold frY
  rw [getD_set_ne (by omega), getD_set_ne (by omega), getD_set_ne (by omega), getD_set_ne (by omega), getD_set_ne (by omega)]
theorem frY_M {y : List Int32} {k : Nat} (h : frM y) : frM (frY y k) := ⟨by unfold frY; simp only [List.length_set]; exact h.1, by rw [frY_ne (by omega) (by omega)]; exact h.2.1, by rw [frY_ne (by omega) (by omega)]; exact h.2.2.1, by rw [frY_ne (by omega) (by omega)]; exact h.2.2.2⟩
theorem frY_Z {y : List Int32} {k n : Nat} (h : frZ y n) : frZ (frY y k) n := ⟨by rw [frY_ne (by omega) (by omega)]; exact h.1, fun q hq => ⟨by rw [frY_ne (by omega) (by omega)]; exact (h.2 q hq).1, fun r hr => by rw [frY_ne (by omega) (by omega)]; exact (h.2 q hq).2.1 r hr, by rw [frY_ne (by omega) (by omega)]; exact (h.2 q hq).2.2⟩⟩
theorem frY_T {y : List Int32} {k : Nat} (hl : y.length = 3070) (hk : k < 6) (h : ∀ q, q < k → frT y q) : ∀ q, q < k + 1 → frT (frY y k) q := fun q hq => by
  rcases Nat.lt_or_ge q k with z | z
  · exact ⟨by rw [frY_ne (by omega) (by omega)]; exact (h q z).1, fun r hr => by rw [frY_ne (by omega) (by omega)]; exact (h q z).2 r hr⟩
  · rw [show q = k by omega]
    unfold frY
    refine ⟨?_, fun r hr => ?_⟩
    · rw [getD_set_ne (by omega), getD_set_ne (by omega), getD_set_ne (by omega), getD_set_ne (by omega), getD_set_same (by omega)]
    · rcases (show r = 0 ∨ r = 1 ∨ r = 2 ∨ r = 3 by omega) with e | e | e | e
      · subst e
        rw [getD_set_ne (by omega), getD_set_ne (by omega), getD_set_ne (by omega)]
        exact getD_set_same (by simp only [List.length_set]; omega)
      · subst e
        rw [getD_set_ne (by omega), getD_set_ne (by omega)]
        exact getD_set_same (by simp only [List.length_set]; omega)
      · subst e
        rw [getD_set_ne (by omega)]
        exact getD_set_same (by simp only [List.length_set]; omega)
      · subst e
        exact getD_set_same (by simp only [List.length_set]; omega)
theorem rep_sm {n k : Nat} (h : k < n) : (List.replicate n sm0).getD k sm0 = sm0 := by
  rw [getD_lt sm0 (by rw [List.length_replicate]; exact h), List.getElem_replicate]
theorem fr_rel {j : List St} {y : List Int32} (hM : frM y) (hZ : frZ y j.length) (hT : ∀ q, q < j.length → frT y q) : relB j (-1) (-1) (-1) (nI 0) (List.replicate j.length sm0) y := by
  refine ⟨hM.1, ⟨hM.2.1, hM.2.2.1, hM.2.2.2, hZ.1⟩, fun k hk => ?_⟩
  rw [rep_sm hk]
  have z := hZ.2 k hk
  have t := hT k hk
  refine ⟨t.1, fun _ => ⟨[], ⟨Nat.zero_le _, z.1, fun i hi => absurd hi (Nat.not_lt_zero _)⟩, rfl⟩, fun _ q hq => ?_, fun _ => ⟨[], ⟨Nat.zero_le _, z.2.2, fun i hi => absurd hi (Nat.not_lt_zero _)⟩, List.Perm.refl _, rfl, List.Pairwise.nil, fun t ht => nomatch ht⟩, fun _ q hq => ?_⟩
  · rw [z.2.1 q hq]
    rcases (show q = 0 ∨ q = 1 ∨ q = 2 ∨ q = 3 by omega) with e | e | e | e <;> subst e <;> rfl
  · rw [t.2 q hq]
    rcases (show q = 0 ∨ q = 1 ∨ q = 2 ∨ q = 3 by omega) with e | e | e | e <;> subst e <;> rfl

def pFr (h : px_H) (ga : gA) (gp : gP) (gw : gW) (gu : gU) (gv : gV) (j : List St) (la lb cb : Bool) : Prop := ∃ (sl sl2 : List Int32), h.2.2 269 = some (12, mB ga gp (nI j.length, false, (-3), nI 0, la, lb, cb) (nI 0, nI 0) gw gu gv) ∧ px_pa h 287 50 3070 Value.int sl ∧ px_pa h 288 50 3070 Value.int sl2 ∧ relB j (-1) (-1) (-1) (nI 0) (List.replicate j.length sm0) sl ∧ relB j (-1) (-1) (-1) (nI 0) (List.replicate j.length sm0) sl2

set_option maxRecDepth 20000 in
set_option maxHeartbeats 4000000 in
theorem ll_Md_fre1 {P : px_H → Option Value → Prop} {h0 : px_H} {j : List St} {la lb cb : Bool} {ga : gA} {gp : gP} {gq : gQ} {gh : gH} {gw : gW} {gu : gU} {gv : gV} (H0 : h0.2.2 269 = some (12, mB ga gp (nI j.length, gq.2.1, gq.2.2.1, gq.2.2.2.1, la, lb, cb) gh gw gu gv)) (p2 : j.length ≤ 6) (kx : ∀ g y, px_pa g 287 50 3070 Value.int y → y.length = 3070 → (∀ q, q < 4 + 511 * j.length → y.getD q 0 = nI 0) → px_fi 287 1 h0 g → px_to 155 29 [some (.ref (269)), none, none] [] g P) : ∀ (d : Nat) (i : Nat) (y : List Int32) (g : px_H), (4 + 511 * j.length ≤ i + d) → (i ≤ 4 + 511 * j.length) → (y.length = 3070) → (∀ q, q < i → y.getD q 0 = nI 0) → px_pa g 287 50 3070 Value.int y → px_fi 287 1 h0 g → px_to 155 2 [some (.ref (269)), some (.int (nI i)), none] [] g P := by
  intro d
  induction d using Nat.strongRecOn with
  | ind d ih =>
    intro i y g q0 q1 q2 q3 G0 frg
    refine e_iload_n f_155_2 rfl rfl ?_
    refine e_iconst (v := nI 4) f_155_3 (by decide) rfl ?_
    refine e_sipush (v := nI 511) f_155_4 (by decide) rfl ?_
    refine e_aload_n f_155_7 rfl rfl ?_
    have g1 : g.2.2 269 = some (12, mB ga gp (nI j.length, gq.2.1, gq.2.2.1, gq.2.2.2.1, la, lb, cb) gh gw gu gv) := fi_at H0 frg (by omega)
    refine e_getf f_155_8 g1 rfl rfl ?_
    show px_to 155 11 [some (.ref (269)), some (.int (nI i)), none] [.int (nI j.length), .int (nI 511), .int (nI 4), .int (nI i)] g _
    refine e_imul (z := nI (511 * j.length)) f_155_11 (pk_mul _ _) rfl ?_
    refine e_iadd (z := nI (4 + 511 * j.length)) f_155_12 (nI_add _ _) rfl ?_
    refine e_icmp_ge f_155_13 rfl (fun c_13 => ?_) (fun c_13 => ?_)
    · skip
      have c_13 : 4 + 511 * j.length ≤ i := cv_le (by omega) (by omega) c_13
      refine px_to_L (L := [some (.ref (269)), none, none]) ⟨Or.inr rfl, Or.inl rfl, Or.inr rfl, trivial⟩ ?_
      exact kx g y G0 q2 (fun q hq => q3 q (by omega)) frg
    · skip
      have c_13 : i < 4 + 511 * j.length := cv_nle (by omega) (by omega) c_13
      refine e_aload_n f_155_16 rfl rfl ?_
      refine e_getf f_155_17 g1 rfl rfl ?_
      refine e_iload_n f_155_20 rfl rfl ?_
      refine e_iconst (v := nI 0) f_155_21 (by decide) rfl ?_
      refine e_iastore_p (xs := y) (x := nI 0) f_155_22 G0 (by omega) (by first | omega | (simp only [List.length_set]; omega)) (rfl) rfl (fun h2 g3 fx4 => ?_)
      have fr5 : px_fi 287 1 h0 h2 := fi_tr frg fx4 (by omega)
      refine e_iinc (y := nI (i + 1)) (L' := [some (.ref (269)), some (.int (nI (i + 1))), none]) f_155_23 rfl (by rw [show Int32.ofInt 1 = nI 1 by decide]; exact (nI_add _ _)) rfl rfl ?_
      refine e_goto f_155_26 ?_
      first | (exfalso; omega) | exact ih (d - 1) (by omega) (i + 1) (y.set i (nI 0)) h2 (by omega) (by omega) (by rw [List.length_set]; exact q2) (fun q hq => by
        rcases Nat.lt_or_ge q i with z | z
        · rw [getD_set_ne (by omega)]; exact q3 q z
        · rw [show q = i by omega]; exact getD_set_same (by omega)) g3 fr5

set_option maxRecDepth 20000 in
set_option maxHeartbeats 4000000 in
theorem ll_Md_fre2 {P : px_H → Option Value → Prop} {h0 : px_H} {j : List St} {la lb cb : Bool} {ga : gA} {gp : gP} {gq : gQ} {gh : gH} {gw : gW} {gu : gU} {gv : gV} (H0 : h0.2.2 269 = some (12, mB ga gp (nI j.length, gq.2.1, gq.2.2.1, gq.2.2.2.1, la, lb, cb) gh gw gu gv)) (p2 : j.length ≤ 6) (kx : ∀ g y, px_pa g 287 50 3070 Value.int y → frM y → frZ y j.length → (∀ q, q < j.length → frT y q) → px_fi 287 1 h0 g → px_to 155 116 [some (.ref (269)), none, none] [] g P) : ∀ (d : Nat) (k : Nat) (y : List Int32) (g : px_H), (j.length ≤ k + d) → (k ≤ j.length) → (frM y) → (frZ y j.length) → (∀ q, q < k → frT y q) → px_pa g 287 50 3070 Value.int y → px_fi 287 1 h0 g → px_to 155 52 [some (.ref (269)), some (.int (nI k)), none] [] g P := by
  intro d
  induction d using Nat.strongRecOn with
  | ind d ih =>
    intro k y g q0 q1 q2 q3 q4 G0 frg
    have hl := q2.1
    refine e_iload_n f_155_52 rfl rfl ?_
    refine e_aload_n f_155_53 rfl rfl ?_
    have g1 : g.2.2 269 = some (12, mB ga gp (nI j.length, gq.2.1, gq.2.2.1, gq.2.2.2.1, la, lb, cb) gh gw gu gv) := fi_at H0 frg (by omega)
    refine e_getf f_155_54 g1 rfl rfl ?_
    show px_to 155 57 [some (.ref (269)), some (.int (nI k)), none] [.int (nI j.length), .int (nI k)] g _
    refine e_icmp_ge f_155_57 rfl (fun c_57 => ?_) (fun c_57 => ?_)
    · skip
      have c_57 : j.length ≤ k := cv_le (by omega) (by omega) c_57
      refine px_to_L (L := [some (.ref (269)), none, none]) ⟨Or.inr rfl, Or.inl rfl, Or.inr rfl, trivial⟩ ?_
      exact kx g y G0 q2 q3 (fun q hq => q4 q (by omega)) frg
    · skip
      have c_57 : k < j.length := cv_nle (by omega) (by omega) c_57
      refine e_aload_n f_155_60 rfl rfl ?_
      refine e_getf f_155_61 g1 rfl rfl ?_
      refine e_iconst (v := nI 4) f_155_64 (by decide) rfl ?_
      refine e_sipush (v := nI 511) f_155_65 (by decide) rfl ?_
      refine e_iload_n f_155_68 rfl rfl ?_
      refine e_imul (z := nI (511 * k)) f_155_69 (pk_mul _ _) rfl ?_
      refine e_iadd (z := nI (4 + 511 * k)) f_155_70 (nI_add _ _) rfl ?_
      refine e_sipush (v := nI 205) f_155_71 (by decide) rfl ?_
      refine e_iadd (z := nI (4 + 511 * k + 205)) f_155_74 (nI_add _ _) rfl ?_
      refine e_iconst (v := (-1)) f_155_75 (by decide) rfl ?_
      refine e_iastore_p (xs := y) (x := (-1)) f_155_76 G0 (by omega) (by first | omega | (simp only [List.length_set]; omega)) (rfl) rfl (fun h2 g3 fx4 => ?_)
      have fr5 : px_fi 287 1 h0 h2 := fi_tr frg fx4 (by omega)
      refine e_iconst (v := nI 0) f_155_77 (by decide) rfl ?_
      refine e_istore_n (L' := [some (.ref (269)), some (.int (nI k)), some (.int (nI 0))]) f_155_78 (Nat.le_of_ble_eq_true rfl) rfl rfl ?_
      refine e_iload_n f_155_79 rfl rfl ?_
      refine e_iconst (v := nI 4) f_155_80 (by decide) rfl ?_
      refine e_icmp_ge_f f_155_81 (by decide) rfl ?_
      refine e_aload_n f_155_84 rfl rfl ?_
      have g6 : h2.2.2 269 = some (12, mB ga gp (nI j.length, gq.2.1, gq.2.2.1, gq.2.2.2.1, la, lb, cb) gh gw gu gv) := fi_at H0 fr5 (by omega)
      refine e_getf f_155_85 g6 rfl rfl ?_
      refine e_iconst (v := nI 4) f_155_88 (by decide) rfl ?_
      refine e_sipush (v := nI 511) f_155_89 (by decide) rfl ?_
      refine e_iload_n f_155_92 rfl rfl ?_
      refine e_imul (z := nI (511 * k)) f_155_93 (pk_mul _ _) rfl ?_
      refine e_iadd (z := nI (4 + 511 * k)) f_155_94 (nI_add _ _) rfl ?_
      refine e_sipush (v := nI 507) f_155_95 (by decide) rfl ?_
      refine e_iadd (z := nI (4 + 511 * k + 507)) f_155_98 (nI_add _ _) rfl ?_
      refine e_iload_n f_155_99 rfl rfl ?_
      refine e_iadd (z := nI (4 + 511 * k + 507)) f_155_100 ((nI_add _ _).trans (congrArg nI (by omega))) rfl ?_
      refine e_bipush (v := (-3)) f_155_101 (by decide) rfl ?_
      refine e_iastore_p (xs := y.set (4 + 511 * k + 205) (-1)) (x := (-3)) f_155_103 g3 (by omega) (by first | omega | (simp only [List.length_set]; omega)) (rfl) rfl (fun h7 g8 fx9 => ?_)
      have fr10 : px_fi 287 1 h0 h7 := fi_tr fr5 fx9 (by omega)
      refine e_iinc (y := nI 1) (L' := [some (.ref (269)), some (.int (nI k)), some (.int (nI 1))]) f_155_104 rfl (by rw [show Int32.ofInt 1 = nI 1 by decide]; exact (nI_add _ _).trans (congrArg nI (by omega))) rfl rfl ?_
      refine e_goto f_155_107 ?_
      refine e_iload_n f_155_79 rfl rfl ?_
      refine e_iconst (v := nI 4) f_155_80 (by decide) rfl ?_
      refine e_icmp_ge_f f_155_81 (by decide) rfl ?_
      refine e_aload_n f_155_84 rfl rfl ?_
      have g11 : h7.2.2 269 = some (12, mB ga gp (nI j.length, gq.2.1, gq.2.2.1, gq.2.2.2.1, la, lb, cb) gh gw gu gv) := fi_at H0 fr10 (by omega)
      refine e_getf f_155_85 g11 rfl rfl ?_
      refine e_iconst (v := nI 4) f_155_88 (by decide) rfl ?_
      refine e_sipush (v := nI 511) f_155_89 (by decide) rfl ?_
      refine e_iload_n f_155_92 rfl rfl ?_
      refine e_imul (z := nI (511 * k)) f_155_93 (pk_mul _ _) rfl ?_
      refine e_iadd (z := nI (4 + 511 * k)) f_155_94 (nI_add _ _) rfl ?_
      refine e_sipush (v := nI 507) f_155_95 (by decide) rfl ?_
      refine e_iadd (z := nI (4 + 511 * k + 507)) f_155_98 (nI_add _ _) rfl ?_
      refine e_iload_n f_155_99 rfl rfl ?_
      refine e_iadd (z := nI (4 + 511 * k + 508)) f_155_100 ((nI_add _ _).trans (congrArg nI (by omega))) rfl ?_
      refine e_bipush (v := (-3)) f_155_101 (by decide) rfl ?_
      refine e_iastore_p (xs := (y.set (4 + 511 * k + 205) (-1)).set (4 + 511 * k + 507) (-3)) (x := (-3)) f_155_103 g8 (by omega) (by first | omega | (simp only [List.length_set]; omega)) (rfl) rfl (fun h12 g13 fx14 => ?_)
      have fr15 : px_fi 287 1 h0 h12 := fi_tr fr10 fx14 (by omega)
      refine e_iinc (y := nI 2) (L' := [some (.ref (269)), some (.int (nI k)), some (.int (nI 2))]) f_155_104 rfl (by rw [show Int32.ofInt 1 = nI 1 by decide]; exact (nI_add _ _).trans (congrArg nI (by omega))) rfl rfl ?_
      refine e_goto f_155_107 ?_
      refine e_iload_n f_155_79 rfl rfl ?_
      refine e_iconst (v := nI 4) f_155_80 (by decide) rfl ?_
      refine e_icmp_ge_f f_155_81 (by decide) rfl ?_
      refine e_aload_n f_155_84 rfl rfl ?_
      have g16 : h12.2.2 269 = some (12, mB ga gp (nI j.length, gq.2.1, gq.2.2.1, gq.2.2.2.1, la, lb, cb) gh gw gu gv) := fi_at H0 fr15 (by omega)
      refine e_getf f_155_85 g16 rfl rfl ?_
      refine e_iconst (v := nI 4) f_155_88 (by decide) rfl ?_
      refine e_sipush (v := nI 511) f_155_89 (by decide) rfl ?_
      refine e_iload_n f_155_92 rfl rfl ?_
      refine e_imul (z := nI (511 * k)) f_155_93 (pk_mul _ _) rfl ?_
      refine e_iadd (z := nI (4 + 511 * k)) f_155_94 (nI_add _ _) rfl ?_
      refine e_sipush (v := nI 507) f_155_95 (by decide) rfl ?_
      refine e_iadd (z := nI (4 + 511 * k + 507)) f_155_98 (nI_add _ _) rfl ?_
      refine e_iload_n f_155_99 rfl rfl ?_
      refine e_iadd (z := nI (4 + 511 * k + 509)) f_155_100 ((nI_add _ _).trans (congrArg nI (by omega))) rfl ?_
      refine e_bipush (v := (-3)) f_155_101 (by decide) rfl ?_
      refine e_iastore_p (xs := ((y.set (4 + 511 * k + 205) (-1)).set (4 + 511 * k + 507) (-3)).set (4 + 511 * k + 508) (-3)) (x := (-3)) f_155_103 g13 (by omega) (by first | omega | (simp only [List.length_set]; omega)) (rfl) rfl (fun h17 g18 fx19 => ?_)
      have fr20 : px_fi 287 1 h0 h17 := fi_tr fr15 fx19 (by omega)
      refine e_iinc (y := nI 3) (L' := [some (.ref (269)), some (.int (nI k)), some (.int (nI 3))]) f_155_104 rfl (by rw [show Int32.ofInt 1 = nI 1 by decide]; exact (nI_add _ _).trans (congrArg nI (by omega))) rfl rfl ?_
      refine e_goto f_155_107 ?_
      refine e_iload_n f_155_79 rfl rfl ?_
      refine e_iconst (v := nI 4) f_155_80 (by decide) rfl ?_
      refine e_icmp_ge_f f_155_81 (by decide) rfl ?_
      refine e_aload_n f_155_84 rfl rfl ?_
      have g21 : h17.2.2 269 = some (12, mB ga gp (nI j.length, gq.2.1, gq.2.2.1, gq.2.2.2.1, la, lb, cb) gh gw gu gv) := fi_at H0 fr20 (by omega)
      refine e_getf f_155_85 g21 rfl rfl ?_
      refine e_iconst (v := nI 4) f_155_88 (by decide) rfl ?_
      refine e_sipush (v := nI 511) f_155_89 (by decide) rfl ?_
      refine e_iload_n f_155_92 rfl rfl ?_
      refine e_imul (z := nI (511 * k)) f_155_93 (pk_mul _ _) rfl ?_
      refine e_iadd (z := nI (4 + 511 * k)) f_155_94 (nI_add _ _) rfl ?_
      refine e_sipush (v := nI 507) f_155_95 (by decide) rfl ?_
      refine e_iadd (z := nI (4 + 511 * k + 507)) f_155_98 (nI_add _ _) rfl ?_
      refine e_iload_n f_155_99 rfl rfl ?_
      refine e_iadd (z := nI (4 + 511 * k + 510)) f_155_100 ((nI_add _ _).trans (congrArg nI (by omega))) rfl ?_
      refine e_bipush (v := (-3)) f_155_101 (by decide) rfl ?_
      refine e_iastore_p (xs := (((y.set (4 + 511 * k + 205) (-1)).set (4 + 511 * k + 507) (-3)).set (4 + 511 * k + 508) (-3)).set (4 + 511 * k + 509) (-3)) (x := (-3)) f_155_103 g18 (by omega) (by first | omega | (simp only [List.length_set]; omega)) (rfl) rfl (fun h22 g23 fx24 => ?_)
      have fr25 : px_fi 287 1 h0 h22 := fi_tr fr20 fx24 (by omega)
      refine e_iinc (y := nI 4) (L' := [some (.ref (269)), some (.int (nI k)), some (.int (nI 4))]) f_155_104 rfl (by rw [show Int32.ofInt 1 = nI 1 by decide]; exact (nI_add _ _).trans (congrArg nI (by omega))) rfl rfl ?_
      refine e_goto f_155_107 ?_
      refine e_iload_n f_155_79 rfl rfl ?_
      refine e_iconst (v := nI 4) f_155_80 (by decide) rfl ?_
      refine e_icmp_ge_t f_155_81 (by decide) ?_
      refine e_iinc (y := nI (k + 1)) (L' := [some (.ref (269)), some (.int (nI (k + 1))), some (.int (nI 4))]) f_155_110 rfl (by rw [show Int32.ofInt 1 = nI 1 by decide]; exact (nI_add _ _)) rfl rfl ?_
      refine e_goto f_155_113 ?_
      refine px_to_L (L := [some (.ref (269)), some (.int (nI (k + 1))), none]) ⟨Or.inr rfl, Or.inr rfl, Or.inl rfl, trivial⟩ ?_
      first | (exfalso; omega) | exact ih (d - 1) (by omega) (k + 1) (frY y k) h22 (by omega) (by omega) (frY_M q2) (frY_Z q3) (frY_T q2.1 (by omega) q4) g23 fr25

set_option maxRecDepth 20000 in
set_option maxHeartbeats 4000000 in
theorem cc_Md_fre {h : px_H} {j : List St} {la lb cb : Bool} {sl sl2 : List Int32} {gq : gQ} {gh : gH} {ga : gA} {gp : gP} {gw : gW} {gu : gU} {gv : gV} (H0 : h.2.2 269 = some (12, mB ga gp (nI j.length, gq.2.1, gq.2.2.1, gq.2.2.2.1, la, lb, cb) gh gw gu gv)) (H1 : px_pa h 287 50 3070 Value.int sl) (H2 : px_pa h 288 50 3070 Value.int sl2) (p0 : sl.length = 3070) (p1 : sl2.length = 3070) (p2 : j.length ≤ 6) : px_wp 155 [.ref (269)] h (fun h1 r => r = none ∧ pFr h1 ga gp gw gu gv j la lb cb ∧ px_fj 269 1 287 2 h h1) := by
  have fr0 : px_fj 269 1 287 2 h h := fj_rf _ _ _ _ _
  show px_to 155 0 [some (.ref (269)), none, none] [] h _
  refine e_iconst (v := nI 0) f_155_0 (by decide) rfl ?_
  refine e_istore_n (L' := [some (.ref (269)), some (.int (nI 0)), none]) f_155_1 (Nat.le_of_ble_eq_true rfl) rfl rfl ?_
  refine ll_Md_fre1 (h0 := h) H0 p2 (fun g1 y1 z0 z1 z2 zf => ?_) (4 + 511 * j.length) 0 sl h (by omega) (Nat.zero_le _) p0 (fun q hq => absurd hq (Nat.not_lt_zero _)) H1 (fi_rf _ _ _)
  have fr1 : px_fj 269 1 287 2 h g1 := fj_tr fr0 zf (by omega)
  refine e_aload_n f_155_29 rfl rfl ?_
  have g2 : g1.2.2 269 = some (12, mB ga gp (nI j.length, gq.2.1, gq.2.2.1, gq.2.2.2.1, la, lb, cb) gh gw gu gv) := fi_at H0 zf (by omega)
  refine e_getf f_155_30 g2 rfl rfl ?_
  refine e_iconst (v := nI 0) f_155_33 (by decide) rfl ?_
  refine e_iconst (v := (-1)) f_155_34 (by decide) rfl ?_
  refine e_iastore_p (xs := y1) (x := (-1)) f_155_35 z0 (by omega) (by first | omega | (simp only [List.length_set]; omega)) (rfl) rfl (fun h3 g4 fx5 => ?_)
  have fr6 : px_fj 269 1 287 2 h h3 := fj_tr fr1 fx5 (by omega)
  refine e_aload_n f_155_36 rfl rfl ?_
  have g7 : h3.2.2 269 = some (12, mB ga gp (nI j.length, gq.2.1, gq.2.2.1, gq.2.2.2.1, la, lb, cb) gh gw gu gv) := fi_at g2 fx5 (by omega)
  refine e_getf f_155_37 g7 rfl rfl ?_
  refine e_iconst (v := nI 1) f_155_40 (by decide) rfl ?_
  refine e_iconst (v := (-1)) f_155_41 (by decide) rfl ?_
  refine e_iastore_p (xs := y1.set 0 (-1)) (x := (-1)) f_155_42 g4 (by omega) (by first | omega | (simp only [List.length_set]; omega)) (rfl) rfl (fun h8 g9 fx10 => ?_)
  have fr11 : px_fj 269 1 287 2 h h8 := fj_tr fr6 fx10 (by omega)
  refine e_aload_n f_155_43 rfl rfl ?_
  have g12 : h8.2.2 269 = some (12, mB ga gp (nI j.length, gq.2.1, gq.2.2.1, gq.2.2.2.1, la, lb, cb) gh gw gu gv) := fi_at g7 fx10 (by omega)
  refine e_getf f_155_44 g12 rfl rfl ?_
  refine e_iconst (v := nI 2) f_155_47 (by decide) rfl ?_
  refine e_iconst (v := (-1)) f_155_48 (by decide) rfl ?_
  refine e_iastore_p (xs := (y1.set 0 (-1)).set 1 (-1)) (x := (-1)) f_155_49 g9 (by omega) (by first | omega | (simp only [List.length_set]; omega)) (rfl) rfl (fun h13 g14 fx15 => ?_)
  have fr16 : px_fj 269 1 287 2 h h13 := fj_tr fr11 fx15 (by omega)
  refine e_iconst (v := nI 0) f_155_50 (by decide) rfl ?_
  refine e_istore_n (L' := [some (.ref (269)), some (.int (nI 0)), none]) f_155_51 (Nat.le_of_ble_eq_true rfl) rfl rfl ?_
  have g17 : h13.2.2 269 = some (12, mB ga gp (nI j.length, gq.2.1, gq.2.2.1, gq.2.2.2.1, la, lb, cb) gh gw gu gv) := fi_at g12 fx15 (by omega)
  have hY : frM (((y1.set 0 (-1)).set 1 (-1)).set 2 (-1)) := ⟨by simp only [List.length_set]; exact z1, by rw [getD_set_ne (by omega), getD_set_ne (by omega)]; exact getD_set_same (by omega), by rw [getD_set_ne (by omega)]; exact getD_set_same (by simp only [List.length_set]; omega), getD_set_same (by simp only [List.length_set]; omega)⟩
  have hZ : frZ (((y1.set 0 (-1)).set 1 (-1)).set 2 (-1)) j.length := ⟨by rw [getD_set_ne (by omega), getD_set_ne (by omega), getD_set_ne (by omega)]; exact z2 3 (by omega), fun k hk => ⟨by rw [getD_set_ne (by omega), getD_set_ne (by omega), getD_set_ne (by omega)]; exact z2 _ (by omega), fun r hr => by rw [getD_set_ne (by omega), getD_set_ne (by omega), getD_set_ne (by omega)]; exact z2 _ (by omega), by rw [getD_set_ne (by omega), getD_set_ne (by omega), getD_set_ne (by omega)]; exact z2 _ (by omega)⟩⟩
  refine ll_Md_fre2 (h0 := h13) g17 p2 (fun g2 y2 w0 w1 w2 w3 wf => ?_) j.length 0 _ h13 (by omega) (Nat.zero_le _) hY hZ (fun q hq => absurd hq (Nat.not_lt_zero _)) g14 (fi_rf _ _ _)
  have fr18 : px_fj 269 1 287 2 h g2 := fj_tr fr16 wf (by omega)
  have hB := fr_rel w1 w2 w3
  have hyl := w1.1
  refine e_aload_n f_155_116 rfl rfl ?_
  refine e_iconst (v := nI 0) f_155_117 (by decide) rfl ?_
  have g19 : g2.2.2 269 = some (12, mB ga gp (nI j.length, gq.2.1, gq.2.2.1, gq.2.2.2.1, la, lb, cb) gh gw gu gv) := fi_at g17 wf (by omega)
  refine e_putp (vs' := mB ga gp (nI j.length, gq.2.1, gq.2.2.1, gq.2.2.2.1, la, lb, cb) (nI 0, gh.2) gw gu gv) f_155_118 g19 (Nat.le_of_ble_eq_true rfl) (rfl) (rfl) rfl rfl (fun h20 g21 fx22 => ?_)
  have fr23 : px_fj 269 1 287 2 h h20 := fj_tr fr18 fx22 (by omega)
  refine e_aload_n f_155_121 rfl rfl ?_
  refine e_iconst (v := nI 0) f_155_122 (by decide) rfl ?_
  refine e_putp (vs' := mB ga gp (nI j.length, gq.2.1, gq.2.2.1, gq.2.2.2.1, la, lb, cb) (nI 0, nI 0) gw gu gv) f_155_123 g21 (Nat.le_of_ble_eq_true rfl) (rfl) (rfl) rfl rfl (fun h24 g25 fx26 => ?_)
  have fr27 : px_fj 269 1 287 2 h h24 := fj_tr fr23 fx26 (by omega)
  refine e_aload_n f_155_126 rfl rfl ?_
  refine e_iconst (v := nI 0) f_155_127 (by decide) rfl ?_
  refine e_putp (vs' := mB ga gp (nI j.length, false, gq.2.2.1, gq.2.2.2.1, la, lb, cb) (nI 0, nI 0) gw gu gv) f_155_128 g25 (Nat.le_of_ble_eq_true rfl) (rfl) (rfl) rfl rfl (fun h28 g29 fx30 => ?_)
  have fr31 : px_fj 269 1 287 2 h h28 := fj_tr fr27 fx30 (by omega)
  refine e_aload_n f_155_131 rfl rfl ?_
  refine e_bipush (v := (-3)) f_155_132 (by decide) rfl ?_
  refine e_putp (vs' := mB ga gp (nI j.length, false, (-3), gq.2.2.2.1, la, lb, cb) (nI 0, nI 0) gw gu gv) f_155_134 g29 (Nat.le_of_ble_eq_true rfl) (rfl) (rfl) rfl rfl (fun h32 g33 fx34 => ?_)
  have fr35 : px_fj 269 1 287 2 h h32 := fj_tr fr31 fx34 (by omega)
  refine e_aload_n f_155_137 rfl rfl ?_
  refine e_iconst (v := nI 0) f_155_138 (by decide) rfl ?_
  refine e_putp (vs' := mB ga gp (nI j.length, false, (-3), nI 0, la, lb, cb) (nI 0, nI 0) gw gu gv) f_155_139 g33 (Nat.le_of_ble_eq_true rfl) (rfl) (rfl) rfl rfl (fun h36 g37 fx38 => ?_)
  have fr39 : px_fj 269 1 287 2 h h36 := fj_tr fr35 fx38 (by omega)
  refine e_aload_n f_155_142 rfl rfl ?_
  refine e_aload_n f_155_143 rfl rfl ?_
  refine e_getf f_155_144 g37 rfl rfl ?_
  refine e_aload_n f_155_147 rfl rfl ?_
  refine e_getf f_155_148 g37 rfl rfl ?_
  have g40 : px_pa h20 287 50 3070 Value.int y2 := pa_fi w0 fx22 (by omega)
  have g41 : px_pa h24 287 50 3070 Value.int y2 := pa_fi g40 fx26 (by omega)
  have g42 : px_pa h28 287 50 3070 Value.int y2 := pa_fi g41 fx30 (by omega)
  have g43 : px_pa h32 287 50 3070 Value.int y2 := pa_fi g42 fx34 (by omega)
  have g44 : px_pa h36 287 50 3070 Value.int y2 := pa_fi g43 fx38 (by omega)
  have g45 : px_pa g1 288 50 3070 Value.int sl2 := pa_fi H2 zf (by omega)
  have g46 : px_pa h3 288 50 3070 Value.int sl2 := pa_fi g45 fx5 (by omega)
  have g47 : px_pa h8 288 50 3070 Value.int sl2 := pa_fi g46 fx10 (by omega)
  have g48 : px_pa h13 288 50 3070 Value.int sl2 := pa_fi g47 fx15 (by omega)
  have g49 : px_pa g2 288 50 3070 Value.int sl2 := pa_fi g48 wf (by omega)
  have g50 : px_pa h20 288 50 3070 Value.int sl2 := pa_fi g49 fx22 (by omega)
  have g51 : px_pa h24 288 50 3070 Value.int sl2 := pa_fi g50 fx26 (by omega)
  have g52 : px_pa h28 288 50 3070 Value.int sl2 := pa_fi g51 fx30 (by omega)
  have g53 : px_pa h32 288 50 3070 Value.int sl2 := pa_fi g52 fx34 (by omega)
  have g54 : px_pa h36 288 50 3070 Value.int sl2 := pa_fi g53 fx38 (by omega)
  refine e_callV (As := [.ref (287), .ref (288)]) (rest := []) f_155_151 rfl rfl rfl (Nat.le_of_ble_eq_true rfl) (Nat.le_of_ble_eq_true rfl) g37 rfl (Nat.le_of_ble_eq_true rfl) (cc_Md_cpy (a := 287) (b := 288) (s := y2) (d := sl2) (j := j) (ga := ga) (gp := gp) (gq := (nI j.length, false, (-3), nI 0, la, lb, cb)) (gh := (nI 0, nI 0)) (gw := gw) (gu := gu) (gv := gv) g37 g44 g54 (by omega) (by omega) (hyl) (by omega) (by omega)) rfl (fun h55 r56 q57 => ?_)
  obtain ⟨rfl, g58, fx59⟩ := q57
  have fr60 : px_fj 269 1 287 2 h h55 := fj_tr fr39 fx59 (by omega)
  show px_to 155 154 [some (.ref (269)), none, none] [] h55 _
  refine e_vret f_155_154 rfl ?_
  have g61 : h55.2.2 269 = some (12, mB ga gp (nI j.length, false, (-3), nI 0, la, lb, cb) (nI 0, nI 0) gw gu gv) := fi_at g37 fx59 (by omega)
  have g62 : px_pa h55 287 50 3070 Value.int y2 := pa_fi g44 fx59 (by omega)
  exact ⟨rfl, ⟨_, _, g61, g62, g58, hB, relB_cpy hB p1 p2⟩, fr60⟩

def okW9 (x : Int32) : Prop := x = -1 ∨ ∃ n, n ≤ 999 ∧ x = nI n
theorem okW9_okW {x : Int32} (h : okW9 x) : okW x := by
  rcases h with h | ⟨n, hn, h⟩
  · exact Or.inl h
  · exact Or.inr ⟨n, by omega, h⟩
theorem okW9_max {x y : Int32} (hx : okW9 x) (hy : okW9 y) : okW9 (iMax x y) := by unfold iMax; split <;> assumption
theorem okW9_min {x y : Int32} (hx : okW9 x) (hy : okW9 y) : okW9 (iMin x y) := by unfold iMin; split <;> assumption
theorem okW9_upA {b : Bool} {x y : Int32} (hx : okW9 x) (hy : okW9 y) : okW9 (upA b x y) := by unfold upA; split <;> first | exact hx | exact okW9_max hx hy
theorem okW9_upB {b : Bool} {x y : Int32} (hx : okW9 x) (hy : okW9 y) : okW9 (upB b x y) := by unfold upB; split <;> first | exact hx | exact okW9_max hx hy
theorem okW9_les {a b : Bool} {x y : Int32} (hx : okW9 x) (hy : okW9 y) : okW9 (lesW a b x y) := by
  unfold lesW
  split
  · split
    · exact okW9_min hx hy
    · exact hx
  · split
    · exact hy
    · exact Or.inl rfl
theorem okW9_gt {x y : Int32} (hx : okW9 x) (hy : okW9 y) (h : x < y) : ∃ n, n ≤ 999 ∧ y = nI n := by
  rcases hy with z | z
  · exfalso
    rw [z] at h
    rcases hx with e | ⟨n, hn, e⟩
    · rw [e] at h; exact absurd h (by decide)
    · rw [e, Int32.lt_iff_toInt_lt, nI_toInt (by omega), show (-1 : Int32).toInt = -1 by decide] at h
      omega
  · exact z
theorem okW9_last {x : Int32} (h : okW9 x) : x < nI 5000 := by
  rcases h with e | ⟨n, hn, e⟩
  · rw [e]; decide
  · rw [e]; exact (nI_ltI (by omega) (by omega)).mpr (by omega)
def okS9 (s : RS) : Prop := okW9 s.2.1.1 ∧ okW9 s.2.1.2.1 ∧ okW9 s.2.1.2.2

set_option maxRecDepth 20000 in
set_option maxHeartbeats 4000000 in
theorem cc_Md_doe {h : px_H} {e n : Nat} {s : RS} {es : List Ev} {ga : gA} {gp : gP} {gu : gU} {gv : gV} {j : List St} {la lb cb : Bool} {lg : List Row}  (H0 : pRZ h ga gp gu gv j s.2.2.2.2 la lb cb lg s.2.1.1 s.2.1.2.1 s.2.1.2.2 s.1) (H1 : px_pa h 284 52 6 stS j) (H2 : px_pa h 285 52 6 stA j) (H3 : px_pa h 286 50 6 stN j) (H4 : px_pa h 275 52 192 evS es) (H5 : px_pa h 276 54 192 evK es) (H6 : px_pa h 277 53 192 evV es) (H7 : px_pa h 278 53 192 evT es) (p0 : okZ j) (p1 : es.length = 192) (p2 : e < 192) (p3 : okEv (es.getD e (0, 0, 0, 0))) (p4 : (es.getD e (0, 0, 0, 0)).1 ≠ 107 ∧ (es.getD e (0, 0, 0, 0)).1 ≠ 120) (p5 : okX j s.1) (p6 : s.1.2.2.2.2 = none) (p7 : PB j s.1 n) (p8 : n + 4 ≤ 96) (p9 : okS9 s) (p10 : ((es.getD e (0, 0, 0, 0)).1 = 104 → la = true) ∧ ((es.getD e (0, 0, 0, 0)).1 = 72 → lb = true)) : px_wp 154 [.ref (269), .int (nI e)] h (fun h1 r => r = none ∧ pRZ h1 ga gp gu gv j ((doEv j la lb (es.getD e (0, 0, 0, 0)) s).2.2.2.2) la lb cb lg ((doEv j la lb (es.getD e (0, 0, 0, 0)) s).2.1.1) ((doEv j la lb (es.getD e (0, 0, 0, 0)) s).2.1.2.1) ((doEv j la lb (es.getD e (0, 0, 0, 0)) s).2.1.2.2) ((doEv j la lb (es.getD e (0, 0, 0, 0)) s).1) ∧ px_fl [(269, 1), (287, 1), (289, 3), (295, 1)] h h1) := by
  have fr0 : px_fl [(269, 1), (287, 1), (289, 3), (295, 1)] h h := fl_rf _ _
  have h6 := p0.1.1
  have hsg1 := p3.1
  show px_to 154 0 [some (.ref (269)), some (.int (nI e)), none, none, none, none] [] h _
  obtain ⟨gw1, sl2, lh3, cv4, g5, g6, g7, g8, g9, g10, hR11⟩ := id H0
  have hR0 := hR11
  have hsl := hR0.1
  have hRx := relX_of hR0 p6
  refine e_aload_n f_154_0 rfl rfl ?_
  refine e_dup f_154_1 rfl rfl ?_
  refine e_getf f_154_2 g5 rfl rfl ?_
  show px_to 154 5 [some (.ref (269)), some (.int (nI e)), none, none, none, none] [.int (s.2.2.2.2), .ref (269)] h _
  refine e_iconst (v := nI 1) f_154_5 (by decide) rfl ?_
  refine e_iadd (z := s.2.2.2.2 + (nI 1)) f_154_6 rfl rfl ?_
  refine e_putp (vs' := mB ga gp (nI j.length, s.1.2.2.2.2.isSome, oI s.1.2.2.2.2, s.2.2.2.2 + (nI 1), la, lb, cb) (nI lh3.length, nI lg.length) gw1 gu gv) f_154_7 g5 (Nat.le_of_ble_eq_true rfl) (rfl) (rfl) rfl rfl (fun h12 g13 fx14 => ?_)
  have fr15 : px_fl [(269, 1), (287, 1), (289, 3), (295, 1)] h h12 := fl_tr fr0 fx14 (by first | exact ⟨_, List.mem_cons_self, by omega, by omega⟩ | exact ⟨_, List.mem_cons_of_mem _ (List.mem_cons_self), by omega, by omega⟩ | exact ⟨_, List.mem_cons_of_mem _ (List.mem_cons_of_mem _ (List.mem_cons_self)), by omega, by omega⟩ | exact ⟨_, List.mem_cons_of_mem _ (List.mem_cons_of_mem _ (List.mem_cons_of_mem _ (List.mem_cons_self))), by omega, by omega⟩)
  refine e_aload_n f_154_10 rfl rfl ?_
  refine e_getf f_154_11 g13 rfl rfl ?_
  refine e_iload_n f_154_14 rfl rfl ?_
  obtain ⟨hm17, fa18, fb19⟩ := fl_mid fr15
  obtain ⟨hm20, fa21, fb22⟩ := fl_mid fb19
  obtain ⟨hm23, fa24, fb25⟩ := fl_mid fb22
  have g16 : px_pa h12 275 52 192 evS es := pa_fi (pa_fi (pa_fi (pa_fi H4 fa18 (by omega)) fa21 (by omega)) fa24 (by omega)) (fl_one fb25) (by omega)
  refine e_caload_p (xs := es) f_154_15 g16 (d := (0, 0, 0, 0)) (by first | omega | (simp only [List.length_set]; omega)) rfl ?_
  show px_to 154 16 [some (.ref (269)), some (.int (nI e)), none, none, none, none] [.int (nI ((es.getD e (0, 0, 0, 0)).1))] h12 _
  refine e_istore_n (L' := [some (.ref (269)), some (.int (nI e)), some (.int (nI ((es.getD e (0, 0, 0, 0)).1))), none, none, none]) f_154_16 (Nat.le_of_ble_eq_true rfl) rfl rfl ?_
  refine e_iload_n f_154_17 rfl rfl ?_
  refine e_bipush (v := nI 114) f_154_18 (by decide) rfl ?_
  refine e_icmp_eq f_154_20 rfl (fun c_20 => ?_) (fun c_20 => ?_)
  · skip
    have c_20 : (es.getD e (0, 0, 0, 0)).1 = 114 := cv_eq (by omega) (by omega) c_20
    have hrr : (es.getD e (0, 0, 0, 0)).1 = 114 ∨ (es.getD e (0, 0, 0, 0)).1 = 82 := by omega
    obtain ⟨kk, hk4, hkk⟩ := p3.2.1 hrr
    obtain ⟨tt, ht9, htt⟩ := p3.2.2 p4
    refine e_aload_n f_154_29 rfl rfl ?_
    refine e_aload_n f_154_30 rfl rfl ?_
    refine e_getf f_154_31 g13 rfl rfl ?_
    refine e_iload_n f_154_34 rfl rfl ?_
    obtain ⟨hm27, fa28, fb29⟩ := fl_mid fr15
    obtain ⟨hm30, fa31, fb32⟩ := fl_mid fb29
    obtain ⟨hm33, fa34, fb35⟩ := fl_mid fb32
    have g26 : px_pa h12 276 54 192 evK es := pa_fi (pa_fi (pa_fi (pa_fi H5 fa28 (by omega)) fa31 (by omega)) fa34 (by omega)) (fl_one fb35) (by omega)
    refine e_baload_p (xs := es) f_154_35 g26 (d := (0, 0, 0, 0)) (by first | omega | (simp only [List.length_set]; omega)) rfl ?_
    show px_to 154 36 [some (.ref (269)), some (.int (nI e)), some (.int (nI ((es.getD e (0, 0, 0, 0)).1))), none, none, none] [.int ((es.getD e (0, 0, 0, 0)).2.1), .ref (269)] h12 _
    rw [hkk]
    refine e_putp (vs' := mB ga gp (nI j.length, s.1.2.2.2.2.isSome, oI s.1.2.2.2.2, s.2.2.2.2 + (nI 1), la, lb, cb) (nI lh3.length, nI lg.length) (nI kk, gw1.2.1, gw1.2.2) gu gv) f_154_36 g13 (Nat.le_of_ble_eq_true rfl) (rfl) (rfl) rfl rfl (fun h36 g37 fx38 => ?_)
    have fr39 : px_fl [(269, 1), (287, 1), (289, 3), (295, 1)] h h36 := fl_tr fr15 fx38 (by first | exact ⟨_, List.mem_cons_self, by omega, by omega⟩ | exact ⟨_, List.mem_cons_of_mem _ (List.mem_cons_self), by omega, by omega⟩ | exact ⟨_, List.mem_cons_of_mem _ (List.mem_cons_of_mem _ (List.mem_cons_self)), by omega, by omega⟩ | exact ⟨_, List.mem_cons_of_mem _ (List.mem_cons_of_mem _ (List.mem_cons_of_mem _ (List.mem_cons_self))), by omega, by omega⟩)
    refine e_aload_n f_154_39 rfl rfl ?_
    refine e_aload_n f_154_40 rfl rfl ?_
    refine e_getf f_154_41 g37 rfl rfl ?_
    refine e_iload_n f_154_44 rfl rfl ?_
    obtain ⟨hm41, fa42, fb43⟩ := fl_mid fr39
    obtain ⟨hm44, fa45, fb46⟩ := fl_mid fb43
    obtain ⟨hm47, fa48, fb49⟩ := fl_mid fb46
    have g40 : px_pa h36 277 53 192 evV es := pa_fi (pa_fi (pa_fi (pa_fi H6 fa42 (by omega)) fa45 (by omega)) fa48 (by omega)) (fl_one fb49) (by omega)
    refine e_saload_p (xs := es) f_154_45 g40 (d := (0, 0, 0, 0)) (by first | omega | (simp only [List.length_set]; omega)) rfl ?_
    show px_to 154 46 [some (.ref (269)), some (.int (nI e)), some (.int (nI ((es.getD e (0, 0, 0, 0)).1))), none, none, none] [.int ((es.getD e (0, 0, 0, 0)).2.2.1), .ref (269)] h36 _
    refine e_putp (vs' := mB ga gp (nI j.length, s.1.2.2.2.2.isSome, oI s.1.2.2.2.2, s.2.2.2.2 + (nI 1), la, lb, cb) (nI lh3.length, nI lg.length) (nI kk, (es.getD e (0, 0, 0, 0)).2.2.1, gw1.2.2) gu gv) f_154_46 g37 (Nat.le_of_ble_eq_true rfl) (rfl) (rfl) rfl rfl (fun h50 g51 fx52 => ?_)
    have fr53 : px_fl [(269, 1), (287, 1), (289, 3), (295, 1)] h h50 := fl_tr fr39 fx52 (by first | exact ⟨_, List.mem_cons_self, by omega, by omega⟩ | exact ⟨_, List.mem_cons_of_mem _ (List.mem_cons_self), by omega, by omega⟩ | exact ⟨_, List.mem_cons_of_mem _ (List.mem_cons_of_mem _ (List.mem_cons_self)), by omega, by omega⟩ | exact ⟨_, List.mem_cons_of_mem _ (List.mem_cons_of_mem _ (List.mem_cons_of_mem _ (List.mem_cons_self))), by omega, by omega⟩)
    refine e_aload_n f_154_49 rfl rfl ?_
    refine e_aload_n f_154_50 rfl rfl ?_
    refine e_getf f_154_51 g51 rfl rfl ?_
    refine e_iload_n f_154_54 rfl rfl ?_
    obtain ⟨hm55, fa56, fb57⟩ := fl_mid fr53
    obtain ⟨hm58, fa59, fb60⟩ := fl_mid fb57
    obtain ⟨hm61, fa62, fb63⟩ := fl_mid fb60
    have g54 : px_pa h50 278 53 192 evT es := pa_fi (pa_fi (pa_fi (pa_fi H7 fa56 (by omega)) fa59 (by omega)) fa62 (by omega)) (fl_one fb63) (by omega)
    refine e_saload_p (xs := es) f_154_55 g54 (d := (0, 0, 0, 0)) (by first | omega | (simp only [List.length_set]; omega)) rfl ?_
    show px_to 154 56 [some (.ref (269)), some (.int (nI e)), some (.int (nI ((es.getD e (0, 0, 0, 0)).1))), none, none, none] [.int ((es.getD e (0, 0, 0, 0)).2.2.2), .ref (269)] h50 _
    rw [htt]
    refine e_putp (vs' := mB ga gp (nI j.length, s.1.2.2.2.2.isSome, oI s.1.2.2.2.2, s.2.2.2.2 + (nI 1), la, lb, cb) (nI lh3.length, nI lg.length) (nI kk, (es.getD e (0, 0, 0, 0)).2.2.1, nI tt) gu gv) f_154_56 g51 (Nat.le_of_ble_eq_true rfl) (rfl) (rfl) rfl rfl (fun h64 g65 fx66 => ?_)
    have fr67 : px_fl [(269, 1), (287, 1), (289, 3), (295, 1)] h h64 := fl_tr fr53 fx66 (by first | exact ⟨_, List.mem_cons_self, by omega, by omega⟩ | exact ⟨_, List.mem_cons_of_mem _ (List.mem_cons_self), by omega, by omega⟩ | exact ⟨_, List.mem_cons_of_mem _ (List.mem_cons_of_mem _ (List.mem_cons_self)), by omega, by omega⟩ | exact ⟨_, List.mem_cons_of_mem _ (List.mem_cons_of_mem _ (List.mem_cons_of_mem _ (List.mem_cons_self))), by omega, by omega⟩)
    refine e_aload_n f_154_59 rfl rfl ?_
    refine e_iconst (v := nI 0) f_154_60 (by decide) rfl ?_
    obtain ⟨hm69, fa70, fb71⟩ := fl_mid fr67
    obtain ⟨hm72, fa73, fb74⟩ := fl_mid fb71
    obtain ⟨hm75, fa76, fb77⟩ := fl_mid fb74
    have g68 : px_pa h64 284 52 6 stS j := pa_fi (pa_fi (pa_fi (pa_fi H1 fa70 (by omega)) fa73 (by omega)) fa76 (by omega)) (fl_one fb77) (by omega)
    obtain ⟨hm79, fa80, fb81⟩ := fl_mid fr67
    obtain ⟨hm82, fa83, fb84⟩ := fl_mid fb81
    obtain ⟨hm85, fa86, fb87⟩ := fl_mid fb84
    have g78 : px_pa h64 285 52 6 stA j := pa_fi (pa_fi (pa_fi (pa_fi H2 fa80 (by omega)) fa83 (by omega)) fa86 (by omega)) (fl_one fb87) (by omega)
    obtain ⟨hm89, fa90, fb91⟩ := fl_mid fr67
    obtain ⟨hm92, fa93, fb94⟩ := fl_mid fb91
    obtain ⟨hm95, fa96, fb97⟩ := fl_mid fb94
    have g88 : px_pa h64 286 50 6 stN j := pa_fi (pa_fi (pa_fi (pa_fi H3 fa90 (by omega)) fa93 (by omega)) fa96 (by omega)) (fl_one fb97) (by omega)
    have g98 : px_pa h12 287 50 3070 Value.int sl2 := pa_fi g6 fx14 (by omega)
    have g99 : px_pa h36 287 50 3070 Value.int sl2 := pa_fi g98 fx38 (by omega)
    have g100 : px_pa h50 287 50 3070 Value.int sl2 := pa_fi g99 fx52 (by omega)
    have g101 : px_pa h64 287 50 3070 Value.int sl2 := pa_fi g100 fx66 (by omega)
    have g102 : px_pa h12 295 50 30 Value.int cv4 := pa_fi g7 fx14 (by omega)
    have g103 : px_pa h36 295 50 30 Value.int cv4 := pa_fi g102 fx38 (by omega)
    have g104 : px_pa h50 295 50 30 Value.int cv4 := pa_fi g103 fx52 (by omega)
    have g105 : px_pa h64 295 50 30 Value.int cv4 := pa_fi g104 fx66 (by omega)
    have g106 : px_pa h12 289 54 100 rK lh3 := pa_fi g8 fx14 (by omega)
    have g107 : px_pa h36 289 54 100 rK lh3 := pa_fi g106 fx38 (by omega)
    have g108 : px_pa h50 289 54 100 rK lh3 := pa_fi g107 fx52 (by omega)
    have g109 : px_pa h64 289 54 100 rK lh3 := pa_fi g108 fx66 (by omega)
    have g110 : px_pa h12 290 50 100 rV lh3 := pa_fi g9 fx14 (by omega)
    have g111 : px_pa h36 290 50 100 rV lh3 := pa_fi g110 fx38 (by omega)
    have g112 : px_pa h50 290 50 100 rV lh3 := pa_fi g111 fx52 (by omega)
    have g113 : px_pa h64 290 50 100 rV lh3 := pa_fi g112 fx66 (by omega)
    have g114 : px_pa h12 291 50 100 rT lh3 := pa_fi g10 fx14 (by omega)
    have g115 : px_pa h36 291 50 100 rT lh3 := pa_fi g114 fx38 (by omega)
    have g116 : px_pa h50 291 50 100 rT lh3 := pa_fi g115 fx52 (by omega)
    have g117 : px_pa h64 291 50 100 rT lh3 := pa_fi g116 fx66 (by omega)
    refine e_callV (As := [.int (nI 0)]) (rest := []) f_154_61 rfl rfl rfl (Nat.le_of_ble_eq_true rfl) (Nat.le_of_ble_eq_true rfl) g65 rfl (Nat.le_of_ble_eq_true rfl) (cc_Md_flo (f := 0) (key := kk) (t := tt) (v := (es.getD e (0, 0, 0, 0)).2.2.1) (x := s.1) (sl := sl2) (lh := lh3) (cv := cv4) (A := s.2.1.1) (B := s.2.1.2.1) (W := s.2.1.2.2) (ga := ga) (gp := gp) (gu := gu) (gv := gv) (j := j) (dn := s.2.2.2.2 + nI 1) (la := la) (lb := lb) (cb := cb) (lg := lg) g65 g68 g78 g88 g101 g105 g109 g113 g117 (p0) (Nat.zero_le _) (hk4) (by omega) (p5.1) (p6) (hRx) (bd_of p0.2.2 p7 p8)) rfl (fun h118 r119 q120 => ?_)
    obtain ⟨rfl, g121, fx122⟩ := q120
    obtain ⟨hm123, fa124, fb125⟩ := fl_mid fx122
    have fr126 : px_fl [(269, 1), (287, 1), (289, 3), (295, 1)] h hm123 := fl_tr fr67 fa124 (by first | exact ⟨_, List.mem_cons_self, by omega, by omega⟩ | exact ⟨_, List.mem_cons_of_mem _ (List.mem_cons_self), by omega, by omega⟩ | exact ⟨_, List.mem_cons_of_mem _ (List.mem_cons_of_mem _ (List.mem_cons_self)), by omega, by omega⟩ | exact ⟨_, List.mem_cons_of_mem _ (List.mem_cons_of_mem _ (List.mem_cons_of_mem _ (List.mem_cons_self))), by omega, by omega⟩)
    obtain ⟨hm127, fa128, fb129⟩ := fl_mid fb125
    have fr130 : px_fl [(269, 1), (287, 1), (289, 3), (295, 1)] h hm127 := fl_tr fr126 fa128 (by first | exact ⟨_, List.mem_cons_self, by omega, by omega⟩ | exact ⟨_, List.mem_cons_of_mem _ (List.mem_cons_self), by omega, by omega⟩ | exact ⟨_, List.mem_cons_of_mem _ (List.mem_cons_of_mem _ (List.mem_cons_self)), by omega, by omega⟩ | exact ⟨_, List.mem_cons_of_mem _ (List.mem_cons_of_mem _ (List.mem_cons_of_mem _ (List.mem_cons_self))), by omega, by omega⟩)
    obtain ⟨hm131, fa132, fb133⟩ := fl_mid fb129
    have fr134 : px_fl [(269, 1), (287, 1), (289, 3), (295, 1)] h hm131 := fl_tr fr130 fa132 (by first | exact ⟨_, List.mem_cons_self, by omega, by omega⟩ | exact ⟨_, List.mem_cons_of_mem _ (List.mem_cons_self), by omega, by omega⟩ | exact ⟨_, List.mem_cons_of_mem _ (List.mem_cons_of_mem _ (List.mem_cons_self)), by omega, by omega⟩ | exact ⟨_, List.mem_cons_of_mem _ (List.mem_cons_of_mem _ (List.mem_cons_of_mem _ (List.mem_cons_self))), by omega, by omega⟩)
    have fb135 := fl_one fb133
    have fr136 : px_fl [(269, 1), (287, 1), (289, 3), (295, 1)] h h118 := fl_tr fr134 fb135 (by first | exact ⟨_, List.mem_cons_self, by omega, by omega⟩ | exact ⟨_, List.mem_cons_of_mem _ (List.mem_cons_self), by omega, by omega⟩ | exact ⟨_, List.mem_cons_of_mem _ (List.mem_cons_of_mem _ (List.mem_cons_self)), by omega, by omega⟩ | exact ⟨_, List.mem_cons_of_mem _ (List.mem_cons_of_mem _ (List.mem_cons_of_mem _ (List.mem_cons_self))), by omega, by omega⟩)
    show px_to 154 64 [some (.ref (269)), some (.int (nI e)), some (.int (nI ((es.getD e (0, 0, 0, 0)).1))), none, none, none] [] h118 _
    refine e_vret f_154_64 rfl ?_
    have ed := doEv_r (j := j) (la := la) (lb := lb) (s := s) hrr hkk hk4 htt ht9
    rw [ed]
    obtain ⟨gw1, sl1, lh1, cv1, y1, y2, y3, y4, y5, y6, y7⟩ := g121
    exact ⟨rfl, ⟨gw1, sl1, lh1, cv1, y1, y2, y3, y4, y5, y6, relZ_of y7⟩, fr136⟩
  · skip
    have c_20 : (es.getD e (0, 0, 0, 0)).1 ≠ 114 := cv_ne c_20
    refine e_iload_n f_154_23 rfl rfl ?_
    refine e_bipush (v := nI 82) f_154_24 (by decide) rfl ?_
    refine e_icmp_ne f_154_26 rfl (fun c_26 => ?_) (fun c_26 => ?_)
    · skip
      have c_26 : (es.getD e (0, 0, 0, 0)).1 ≠ 82 := cv_ne c_26
      have hhh : (es.getD e (0, 0, 0, 0)).1 = 104 ∨ (es.getD e (0, 0, 0, 0)).1 = 72 := by have := p3.1; omega
      obtain ⟨tt, ht9, htt⟩ := p3.2.2 p4
      refine e_iload_n f_154_65 rfl rfl ?_
      refine e_bipush (v := nI 104) f_154_66 (by decide) rfl ?_
      refine e_icmp_ne f_154_68 rfl (fun c_68 => ?_) (fun c_68 => ?_)
      · skip
        have c_68 : (es.getD e (0, 0, 0, 0)).1 ≠ 104 := cv_ne c_68
        refine e_iconst (v := nI 1) f_154_75 (by decide) rfl ?_
        refine e_istore_n (L' := [some (.ref (269)), some (.int (nI e)), some (.int (nI ((es.getD e (0, 0, 0, 0)).1))), some (.int (nI 1)), none, none]) f_154_76 (Nat.le_of_ble_eq_true rfl) rfl rfl ?_
        refine e_aload_n f_154_77 rfl rfl ?_
        refine e_getf f_154_78 g13 rfl rfl ?_
        refine e_iconst (v := nI 0) f_154_81 (by decide) rfl ?_
        refine e_iload_n f_154_82 rfl rfl ?_
        refine e_iadd (z := nI 1) f_154_83 ((nI_add _ _).trans (congrArg nI (by omega))) rfl ?_
        refine e_aload_n f_154_84 rfl rfl ?_
        refine e_getf f_154_85 g13 rfl rfl ?_
        refine e_iload_n f_154_88 rfl rfl ?_
        obtain ⟨hm138, fa139, fb140⟩ := fl_mid fr15
        obtain ⟨hm141, fa142, fb143⟩ := fl_mid fb140
        obtain ⟨hm144, fa145, fb146⟩ := fl_mid fb143
        have g137 : px_pa h12 278 53 192 evT es := pa_fi (pa_fi (pa_fi (pa_fi H7 fa139 (by omega)) fa142 (by omega)) fa145 (by omega)) (fl_one fb146) (by omega)
        refine e_saload_p (xs := es) f_154_89 g137 (d := (0, 0, 0, 0)) (by first | omega | (simp only [List.length_set]; omega)) rfl ?_
        show px_to 154 90 [some (.ref (269)), some (.int (nI e)), some (.int (nI ((es.getD e (0, 0, 0, 0)).1))), some (.int (nI 1)), none, none] [.int ((es.getD e (0, 0, 0, 0)).2.2.2), .int (nI 1), .ref (287)] h12 _
        rw [htt]
        refine e_aload_n f_154_90 rfl rfl ?_
        refine e_getf f_154_91 g13 rfl rfl ?_
        refine e_iconst (v := nI 0) f_154_94 (by decide) rfl ?_
        refine e_iload_n f_154_95 rfl rfl ?_
        refine e_iadd (z := nI 1) f_154_96 ((nI_add _ _).trans (congrArg nI (by omega))) rfl ?_
        have g147 : px_pa h12 287 50 3070 Value.int sl2 := pa_fi g6 fx14 (by omega)
        refine e_iaload_p (xs := sl2) f_154_97 g147 (d := 0) (by first | omega | (simp only [List.length_set]; omega)) rfl ?_
        show px_to 154 98 [some (.ref (269)), some (.int (nI e)), some (.int (nI ((es.getD e (0, 0, 0, 0)).1))), some (.int (nI 1)), none, none] [.int (sl2.getD 1 0), .int (nI tt), .int (nI 1), .ref (287)] h12 _
        rw [hR0.2.1.2.1]
        refine e_icmp_le f_154_98 rfl (fun c_98 => ?_) (fun c_98 => ?_)
        · skip
          refine e_aload_n f_154_110 rfl rfl ?_
          refine e_getf f_154_111 g13 rfl rfl ?_
          refine e_iconst (v := nI 0) f_154_114 (by decide) rfl ?_
          refine e_iload_n f_154_115 rfl rfl ?_
          refine e_iadd (z := nI 1) f_154_116 ((nI_add _ _).trans (congrArg nI (by omega))) rfl ?_
          refine e_iaload_p (xs := sl2) f_154_117 g147 (d := 0) (by first | omega | (simp only [List.length_set]; omega)) rfl ?_
          show px_to 154 118 [some (.ref (269)), some (.int (nI e)), some (.int (nI ((es.getD e (0, 0, 0, 0)).1))), some (.int (nI 1)), none, none] [.int (sl2.getD 1 0), .int (nI 1), .ref (287)] h12 _
          rw [hR0.2.1.2.1]
          refine e_iastore_p (xs := sl2) (x := s.2.1.2.1) f_154_118 g147 (by omega) (by first | omega | (simp only [List.length_set]; omega)) (rfl) rfl (fun h148 g149 fx150 => ?_)
          have fr151 : px_fl [(269, 1), (287, 1), (289, 3), (295, 1)] h h148 := fl_tr fr15 fx150 (by first | exact ⟨_, List.mem_cons_self, by omega, by omega⟩ | exact ⟨_, List.mem_cons_of_mem _ (List.mem_cons_self), by omega, by omega⟩ | exact ⟨_, List.mem_cons_of_mem _ (List.mem_cons_of_mem _ (List.mem_cons_self)), by omega, by omega⟩ | exact ⟨_, List.mem_cons_of_mem _ (List.mem_cons_of_mem _ (List.mem_cons_of_mem _ (List.mem_cons_self))), by omega, by omega⟩)
          have hmx : iMax s.2.1.2.1 (nI tt) = s.2.1.2.1 := by unfold iMax; rw [if_neg (Int32.not_lt.mpr c_98)]
          have eA : (sl2.set 1 (s.2.1.2.1)).getD 0 0 = upA true s.2.1.1 (nI tt) := by rw [getD_set_ne (by omega)]; exact hR0.2.1.1
          have eB : (sl2.set 1 (s.2.1.2.1)).getD 1 0 = upB true s.2.1.2.1 (nI tt) := by rw [getD_set_same (by omega)]; exact hmx.symm
          have hbb : decide ((es.getD e (0, 0, 0, 0)).1 = 72) = true := decide_eq_true (by omega)
          have hW2 : relZ j cb lg (upA true s.2.1.1 (nI tt)) (upB true s.2.1.2.1 (nI tt)) s.2.1.2.2 s.1 (sl2.set 1 (s.2.1.2.1)) lh3 cv4 := ⟨by rw [List.length_set]; exact hR0.1, ⟨eA, eB, by rw [getD_set_ne (by omega)]; exact hR0.2.1.2.2.1, by rw [getD_set_ne (by omega)]; exact hR0.2.1.2.2.2⟩, fun z => MSt_eq (hR0.2.2.1 z) (fun i h1 h2 => getD_set_ne (by omega)), hR0.2.2.2⟩
          refine e_aload_n f_154_119 rfl rfl ?_
          have g152 : h148.2.2 269 = some (12, mB ga gp (nI j.length, s.1.2.2.2.2.isSome, oI s.1.2.2.2.2, s.2.2.2.2 + (nI 1), la, lb, cb) (nI lh3.length, nI lg.length) gw1 gu gv) := fi_at g13 fx150 (by omega)
          refine e_getf f_154_120 g152 rfl rfl ?_
          show px_to 154 123 [some (.ref (269)), some (.int (nI e)), some (.int (nI ((es.getD e (0, 0, 0, 0)).1))), some (.int (nI 1)), none, none] [.int (bI la)] h148 _
          refine e_if_eq f_154_123 rfl (fun c_123 => ?_) (fun c_123 => ?_)
          · skip
            have c_123 : la = false := bI_f c_123
            refine e_iconst (v := nI 1) f_154_148 (by decide) rfl ?_
            refine e_goto f_154_149 ?_
            refine e_istore (L' := [some (.ref (269)), some (.int (nI e)), some (.int (nI ((es.getD e (0, 0, 0, 0)).1))), some (.int (nI 1)), some (.int (nI 1)), none]) f_154_153 (Nat.le_of_ble_eq_true rfl) rfl rfl ?_
            refine e_iload f_154_155 rfl rfl ?_
            refine e_if_eq_f f_154_157 (by decide) rfl ?_
            refine e_aload_n f_154_160 rfl rfl ?_
            refine e_getf f_154_161 g152 rfl rfl ?_
            refine e_iconst (v := nI 1) f_154_164 (by decide) rfl ?_
            refine e_iaload_p (xs := sl2.set 1 s.2.1.2.1) f_154_165 g149 (d := 0) (by first | omega | (simp only [List.length_set]; omega)) rfl ?_
            show px_to 154 166 [some (.ref (269)), some (.int (nI e)), some (.int (nI ((es.getD e (0, 0, 0, 0)).1))), some (.int (nI 1)), some (.int (nI 1)), none] [.int ((sl2.set 1 s.2.1.2.1).getD 1 0)] h148 _
            rw [eB]
            refine e_goto f_154_166 ?_
            refine e_istore (L' := [some (.ref (269)), some (.int (nI e)), some (.int (nI ((es.getD e (0, 0, 0, 0)).1))), some (.int (nI 1)), some (.int (nI 1)), some (.int (upB true s.2.1.2.1 (nI tt)))]) f_154_175 (Nat.le_of_ble_eq_true rfl) rfl rfl ?_
            have hLW : lesW la lb (upA true s.2.1.1 (nI tt)) (upB true s.2.1.2.1 (nI tt)) = upB true s.2.1.2.1 (nI tt) := by unfold lesW; rw [c_123, if_neg (by decide), if_pos (p10.2 (by omega))]
            have hW9 : okW9 (lesW la lb (upA true s.2.1.1 (nI tt)) (upB true s.2.1.2.1 (nI tt))) := okW9_les (okW9_upA p9.1 (Or.inr ⟨tt, ht9, rfl⟩)) (okW9_upB p9.2.1 (Or.inr ⟨tt, ht9, rfl⟩))
            by_cases hr : s.2.1.2.2 < lesW la lb (upA true s.2.1.1 (nI tt)) (upB true s.2.1.2.1 (nI tt))
            · skip
              obtain ⟨n1, hn9, hn1⟩ := okW9_gt p9.2.2 hW9 hr
              rw [hLW] at hn1
              rw [hn1]
              have g153 : px_pa h12 295 50 30 Value.int cv4 := pa_fi g7 fx14 (by omega)
              have g154 : px_pa h148 295 50 30 Value.int cv4 := pa_fi g153 fx150 (by omega)
              have g155 : px_pa h12 289 54 100 rK lh3 := pa_fi g8 fx14 (by omega)
              have g156 : px_pa h148 289 54 100 rK lh3 := pa_fi g155 fx150 (by omega)
              have g157 : px_pa h12 290 50 100 rV lh3 := pa_fi g9 fx14 (by omega)
              have g158 : px_pa h148 290 50 100 rV lh3 := pa_fi g157 fx150 (by omega)
              have g159 : px_pa h12 291 50 100 rT lh3 := pa_fi g10 fx14 (by omega)
              have g160 : px_pa h148 291 50 100 rT lh3 := pa_fi g159 fx150 (by omega)
              have g161 : pRZ h148 ga gp gu gv j (s.2.2.2.2 + nI 1) la lb cb lg (upA true s.2.1.1 (nI tt)) (upB true s.2.1.2.1 (nI tt)) s.2.1.2.2 s.1 := by exact ⟨_, _, _, _, g152, g149, g154, g156, g158, g160, hW2⟩
              refine e_aload_n f_154_177 rfl rfl ?_
              refine e_iload f_154_178 rfl rfl ?_
              obtain ⟨gw162, sl163, lh164, cv165, g166, g167, g168, g169, g170, g171, hR172⟩ := id g161
              have g173 : pRZ h148 ga gp gu gv j (s.2.2.2.2 + nI 1) la lb cb lg (upA true s.2.1.1 (nI tt)) (upB true s.2.1.2.1 (nI tt)) s.2.1.2.2 s.1 := ⟨_, _, _, _, g166, g167, g168, g169, g170, g171, hR172⟩
              obtain ⟨hm175, fa176, fb177⟩ := fl_mid fr151
              obtain ⟨hm178, fa179, fb180⟩ := fl_mid fb177
              obtain ⟨hm181, fa182, fb183⟩ := fl_mid fb180
              have g174 : px_pa h148 284 52 6 stS j := pa_fi (pa_fi (pa_fi (pa_fi H1 fa176 (by omega)) fa179 (by omega)) fa182 (by omega)) (fl_one fb183) (by omega)
              obtain ⟨hm185, fa186, fb187⟩ := fl_mid fr151
              obtain ⟨hm188, fa189, fb190⟩ := fl_mid fb187
              obtain ⟨hm191, fa192, fb193⟩ := fl_mid fb190
              have g184 : px_pa h148 285 52 6 stA j := pa_fi (pa_fi (pa_fi (pa_fi H2 fa186 (by omega)) fa189 (by omega)) fa192 (by omega)) (fl_one fb193) (by omega)
              obtain ⟨hm195, fa196, fb197⟩ := fl_mid fr151
              obtain ⟨hm198, fa199, fb200⟩ := fl_mid fb197
              obtain ⟨hm201, fa202, fb203⟩ := fl_mid fb200
              have g194 : px_pa h148 286 50 6 stN j := pa_fi (pa_fi (pa_fi (pa_fi H3 fa196 (by omega)) fa199 (by omega)) fa202 (by omega)) (fl_one fb203) (by omega)
              refine e_callV (As := [.int (nI n1)]) (rest := []) f_154_180 rfl rfl rfl (Nat.le_of_ble_eq_true rfl) (Nat.le_of_ble_eq_true rfl) g166 rfl (Nat.le_of_ble_eq_true rfl) (cc_Md_ri1 (n := n1) (x := s.1) (A := upA true s.2.1.1 (nI tt)) (B := upB true s.2.1.2.1 (nI tt)) (W := s.2.1.2.2) (ga := ga) (gp := gp) (gu := gu) (gv := gv) (j := j) (dn := s.2.2.2.2 + nI 1) (la := la) (lb := lb) (cb := cb) (lg := lg) g173 g174 g184 g194 (p0) (by omega) (by rw [← hn1, ← hLW]; exact hr) (p5) (p6) (fun k hk => Nat.le_trans (p7 k hk) (by omega))) rfl (fun h204 r205 q206 => ?_)
              obtain ⟨rfl, g207, fx208⟩ := q206
              obtain ⟨hm209, fa210, fb211⟩ := fl_mid fx208
              have fr212 : px_fl [(269, 1), (287, 1), (289, 3), (295, 1)] h hm209 := fl_tr fr151 fa210 (by first | exact ⟨_, List.mem_cons_self, by omega, by omega⟩ | exact ⟨_, List.mem_cons_of_mem _ (List.mem_cons_self), by omega, by omega⟩ | exact ⟨_, List.mem_cons_of_mem _ (List.mem_cons_of_mem _ (List.mem_cons_self)), by omega, by omega⟩ | exact ⟨_, List.mem_cons_of_mem _ (List.mem_cons_of_mem _ (List.mem_cons_of_mem _ (List.mem_cons_self))), by omega, by omega⟩)
              obtain ⟨hm213, fa214, fb215⟩ := fl_mid fb211
              have fr216 : px_fl [(269, 1), (287, 1), (289, 3), (295, 1)] h hm213 := fl_tr fr212 fa214 (by first | exact ⟨_, List.mem_cons_self, by omega, by omega⟩ | exact ⟨_, List.mem_cons_of_mem _ (List.mem_cons_self), by omega, by omega⟩ | exact ⟨_, List.mem_cons_of_mem _ (List.mem_cons_of_mem _ (List.mem_cons_self)), by omega, by omega⟩ | exact ⟨_, List.mem_cons_of_mem _ (List.mem_cons_of_mem _ (List.mem_cons_of_mem _ (List.mem_cons_self))), by omega, by omega⟩)
              obtain ⟨hm217, fa218, fb219⟩ := fl_mid fb215
              have fr220 : px_fl [(269, 1), (287, 1), (289, 3), (295, 1)] h hm217 := fl_tr fr216 fa218 (by first | exact ⟨_, List.mem_cons_self, by omega, by omega⟩ | exact ⟨_, List.mem_cons_of_mem _ (List.mem_cons_self), by omega, by omega⟩ | exact ⟨_, List.mem_cons_of_mem _ (List.mem_cons_of_mem _ (List.mem_cons_self)), by omega, by omega⟩ | exact ⟨_, List.mem_cons_of_mem _ (List.mem_cons_of_mem _ (List.mem_cons_of_mem _ (List.mem_cons_self))), by omega, by omega⟩)
              have fb221 := fl_one fb219
              have fr222 : px_fl [(269, 1), (287, 1), (289, 3), (295, 1)] h h204 := fl_tr fr220 fb221 (by first | exact ⟨_, List.mem_cons_self, by omega, by omega⟩ | exact ⟨_, List.mem_cons_of_mem _ (List.mem_cons_self), by omega, by omega⟩ | exact ⟨_, List.mem_cons_of_mem _ (List.mem_cons_of_mem _ (List.mem_cons_self)), by omega, by omega⟩ | exact ⟨_, List.mem_cons_of_mem _ (List.mem_cons_of_mem _ (List.mem_cons_of_mem _ (List.mem_cons_self))), by omega, by omega⟩)
              show px_to 154 183 [some (.ref (269)), some (.int (nI e)), some (.int (nI ((es.getD e (0, 0, 0, 0)).1))), some (.int (nI 1)), some (.int (nI 1)), some (.int (nI n1))] [] h204 _
              refine e_vret f_154_183 rfl ?_
              have ed := doEv_h1 (j := j) (la := la) (lb := lb) (s := s) (n := n1) hhh hbb (by rw [htt]; exact hr) (by rw [htt, hLW]; exact hn1) (by omega)
              rw [ed, htt]
              exact ⟨rfl, g207, fr222⟩
            · skip
              refine e_aload_n f_154_177 rfl rfl ?_
              refine e_iload f_154_178 rfl rfl ?_
              refine e_callV (As := [.int (upB true s.2.1.2.1 (nI tt))]) (rest := []) f_154_180 rfl rfl rfl (Nat.le_of_ble_eq_true rfl) (Nat.le_of_ble_eq_true rfl) g152 rfl (Nat.le_of_ble_eq_true rfl) (cc_Md_ri0 (w := upB true s.2.1.2.1 (nI tt)) (x := s.1) (sl := sl2.set 1 s.2.1.2.1) (ga := ga) (gp := gp) (gq := (nI j.length, s.1.2.2.2.2.isSome, oI s.1.2.2.2.2, s.2.2.2.2 + (nI 1), la, lb, cb)) (gh := (nI lh3.length, nI lg.length)) (gw := gw1) (gu := gu) (gv := gv) g152 g149 (by rw [getD_set_ne (by omega), hR0.2.1.2.2.1, ← hLW]; exact Int32.not_lt.mp hr) (by rw [List.length_set]; exact hR0.1)) rfl (fun h223 r224 q225 => ?_)
              obtain ⟨rfl, qe⟩ := q225
              have qe := qe.symm
              subst qe
              show px_to 154 183 [some (.ref (269)), some (.int (nI e)), some (.int (nI ((es.getD e (0, 0, 0, 0)).1))), some (.int (nI 1)), some (.int (nI 1)), some (.int (upB true s.2.1.2.1 (nI tt)))] [] h148 _
              refine e_vret f_154_183 rfl ?_
              have ed := doEv_h0 (j := j) (la := la) (lb := lb) (s := s) hhh hbb (by rw [htt]; exact Int32.not_lt.mp hr)
              rw [ed, htt]
              have g226 : px_pa h12 295 50 30 Value.int cv4 := pa_fi g7 fx14 (by omega)
              have g227 : px_pa h148 295 50 30 Value.int cv4 := pa_fi g226 fx150 (by omega)
              have g228 : px_pa h12 289 54 100 rK lh3 := pa_fi g8 fx14 (by omega)
              have g229 : px_pa h148 289 54 100 rK lh3 := pa_fi g228 fx150 (by omega)
              have g230 : px_pa h12 290 50 100 rV lh3 := pa_fi g9 fx14 (by omega)
              have g231 : px_pa h148 290 50 100 rV lh3 := pa_fi g230 fx150 (by omega)
              have g232 : px_pa h12 291 50 100 rT lh3 := pa_fi g10 fx14 (by omega)
              have g233 : px_pa h148 291 50 100 rT lh3 := pa_fi g232 fx150 (by omega)
              exact ⟨rfl, ⟨_, _, _, _, g152, g149, g227, g229, g231, g233, hW2⟩, fr151⟩
          · skip
            have c_123 : la = true := bI_t' c_123
            refine e_aload_n f_154_126 rfl rfl ?_
            refine e_getf f_154_127 g152 rfl rfl ?_
            show px_to 154 130 [some (.ref (269)), some (.int (nI e)), some (.int (nI ((es.getD e (0, 0, 0, 0)).1))), some (.int (nI 1)), none, none] [.int (bI lb)] h148 _
            refine e_if_eq f_154_130 rfl (fun c_130 => ?_) (fun c_130 => ?_)
            · skip
              have c_130 : lb = false := bI_f c_130
              refine e_iconst (v := nI 0) f_154_152 (by decide) rfl ?_
              refine e_istore (L' := [some (.ref (269)), some (.int (nI e)), some (.int (nI ((es.getD e (0, 0, 0, 0)).1))), some (.int (nI 1)), some (.int (nI 0)), none]) f_154_153 (Nat.le_of_ble_eq_true rfl) rfl rfl ?_
              refine e_iload f_154_155 rfl rfl ?_
              refine e_if_eq_t f_154_157 (by decide) ?_
              refine e_aload_n f_154_169 rfl rfl ?_
              refine e_getf f_154_170 g152 rfl rfl ?_
              refine e_iconst (v := nI 0) f_154_173 (by decide) rfl ?_
              refine e_iaload_p (xs := sl2.set 1 s.2.1.2.1) f_154_174 g149 (d := 0) (by first | omega | (simp only [List.length_set]; omega)) rfl ?_
              show px_to 154 175 [some (.ref (269)), some (.int (nI e)), some (.int (nI ((es.getD e (0, 0, 0, 0)).1))), some (.int (nI 1)), some (.int (nI 0)), none] [.int ((sl2.set 1 s.2.1.2.1).getD 0 0)] h148 _
              rw [eA]
              refine e_istore (L' := [some (.ref (269)), some (.int (nI e)), some (.int (nI ((es.getD e (0, 0, 0, 0)).1))), some (.int (nI 1)), some (.int (nI 0)), some (.int (upA true s.2.1.1 (nI tt)))]) f_154_175 (Nat.le_of_ble_eq_true rfl) rfl rfl ?_
              have hLW : lesW la lb (upA true s.2.1.1 (nI tt)) (upB true s.2.1.2.1 (nI tt)) = upA true s.2.1.1 (nI tt) := by unfold lesW; rw [c_123, if_pos rfl, c_130, if_neg (by decide)]
              have hW9 : okW9 (lesW la lb (upA true s.2.1.1 (nI tt)) (upB true s.2.1.2.1 (nI tt))) := okW9_les (okW9_upA p9.1 (Or.inr ⟨tt, ht9, rfl⟩)) (okW9_upB p9.2.1 (Or.inr ⟨tt, ht9, rfl⟩))
              by_cases hr : s.2.1.2.2 < lesW la lb (upA true s.2.1.1 (nI tt)) (upB true s.2.1.2.1 (nI tt))
              · skip
                obtain ⟨n1, hn9, hn1⟩ := okW9_gt p9.2.2 hW9 hr
                rw [hLW] at hn1
                rw [hn1]
                have g234 : px_pa h12 295 50 30 Value.int cv4 := pa_fi g7 fx14 (by omega)
                have g235 : px_pa h148 295 50 30 Value.int cv4 := pa_fi g234 fx150 (by omega)
                have g236 : px_pa h12 289 54 100 rK lh3 := pa_fi g8 fx14 (by omega)
                have g237 : px_pa h148 289 54 100 rK lh3 := pa_fi g236 fx150 (by omega)
                have g238 : px_pa h12 290 50 100 rV lh3 := pa_fi g9 fx14 (by omega)
                have g239 : px_pa h148 290 50 100 rV lh3 := pa_fi g238 fx150 (by omega)
                have g240 : px_pa h12 291 50 100 rT lh3 := pa_fi g10 fx14 (by omega)
                have g241 : px_pa h148 291 50 100 rT lh3 := pa_fi g240 fx150 (by omega)
                have g242 : pRZ h148 ga gp gu gv j (s.2.2.2.2 + nI 1) la lb cb lg (upA true s.2.1.1 (nI tt)) (upB true s.2.1.2.1 (nI tt)) s.2.1.2.2 s.1 := by exact ⟨_, _, _, _, g152, g149, g235, g237, g239, g241, hW2⟩
                refine e_aload_n f_154_177 rfl rfl ?_
                refine e_iload f_154_178 rfl rfl ?_
                obtain ⟨gw243, sl244, lh245, cv246, g247, g248, g249, g250, g251, g252, hR253⟩ := id g242
                have g254 : pRZ h148 ga gp gu gv j (s.2.2.2.2 + nI 1) la lb cb lg (upA true s.2.1.1 (nI tt)) (upB true s.2.1.2.1 (nI tt)) s.2.1.2.2 s.1 := ⟨_, _, _, _, g247, g248, g249, g250, g251, g252, hR253⟩
                obtain ⟨hm256, fa257, fb258⟩ := fl_mid fr151
                obtain ⟨hm259, fa260, fb261⟩ := fl_mid fb258
                obtain ⟨hm262, fa263, fb264⟩ := fl_mid fb261
                have g255 : px_pa h148 284 52 6 stS j := pa_fi (pa_fi (pa_fi (pa_fi H1 fa257 (by omega)) fa260 (by omega)) fa263 (by omega)) (fl_one fb264) (by omega)
                obtain ⟨hm266, fa267, fb268⟩ := fl_mid fr151
                obtain ⟨hm269, fa270, fb271⟩ := fl_mid fb268
                obtain ⟨hm272, fa273, fb274⟩ := fl_mid fb271
                have g265 : px_pa h148 285 52 6 stA j := pa_fi (pa_fi (pa_fi (pa_fi H2 fa267 (by omega)) fa270 (by omega)) fa273 (by omega)) (fl_one fb274) (by omega)
                obtain ⟨hm276, fa277, fb278⟩ := fl_mid fr151
                obtain ⟨hm279, fa280, fb281⟩ := fl_mid fb278
                obtain ⟨hm282, fa283, fb284⟩ := fl_mid fb281
                have g275 : px_pa h148 286 50 6 stN j := pa_fi (pa_fi (pa_fi (pa_fi H3 fa277 (by omega)) fa280 (by omega)) fa283 (by omega)) (fl_one fb284) (by omega)
                refine e_callV (As := [.int (nI n1)]) (rest := []) f_154_180 rfl rfl rfl (Nat.le_of_ble_eq_true rfl) (Nat.le_of_ble_eq_true rfl) g247 rfl (Nat.le_of_ble_eq_true rfl) (cc_Md_ri1 (n := n1) (x := s.1) (A := upA true s.2.1.1 (nI tt)) (B := upB true s.2.1.2.1 (nI tt)) (W := s.2.1.2.2) (ga := ga) (gp := gp) (gu := gu) (gv := gv) (j := j) (dn := s.2.2.2.2 + nI 1) (la := la) (lb := lb) (cb := cb) (lg := lg) g254 g255 g265 g275 (p0) (by omega) (by rw [← hn1, ← hLW]; exact hr) (p5) (p6) (fun k hk => Nat.le_trans (p7 k hk) (by omega))) rfl (fun h285 r286 q287 => ?_)
                obtain ⟨rfl, g288, fx289⟩ := q287
                obtain ⟨hm290, fa291, fb292⟩ := fl_mid fx289
                have fr293 : px_fl [(269, 1), (287, 1), (289, 3), (295, 1)] h hm290 := fl_tr fr151 fa291 (by first | exact ⟨_, List.mem_cons_self, by omega, by omega⟩ | exact ⟨_, List.mem_cons_of_mem _ (List.mem_cons_self), by omega, by omega⟩ | exact ⟨_, List.mem_cons_of_mem _ (List.mem_cons_of_mem _ (List.mem_cons_self)), by omega, by omega⟩ | exact ⟨_, List.mem_cons_of_mem _ (List.mem_cons_of_mem _ (List.mem_cons_of_mem _ (List.mem_cons_self))), by omega, by omega⟩)
                obtain ⟨hm294, fa295, fb296⟩ := fl_mid fb292
                have fr297 : px_fl [(269, 1), (287, 1), (289, 3), (295, 1)] h hm294 := fl_tr fr293 fa295 (by first | exact ⟨_, List.mem_cons_self, by omega, by omega⟩ | exact ⟨_, List.mem_cons_of_mem _ (List.mem_cons_self), by omega, by omega⟩ | exact ⟨_, List.mem_cons_of_mem _ (List.mem_cons_of_mem _ (List.mem_cons_self)), by omega, by omega⟩ | exact ⟨_, List.mem_cons_of_mem _ (List.mem_cons_of_mem _ (List.mem_cons_of_mem _ (List.mem_cons_self))), by omega, by omega⟩)
                obtain ⟨hm298, fa299, fb300⟩ := fl_mid fb296
                have fr301 : px_fl [(269, 1), (287, 1), (289, 3), (295, 1)] h hm298 := fl_tr fr297 fa299 (by first | exact ⟨_, List.mem_cons_self, by omega, by omega⟩ | exact ⟨_, List.mem_cons_of_mem _ (List.mem_cons_self), by omega, by omega⟩ | exact ⟨_, List.mem_cons_of_mem _ (List.mem_cons_of_mem _ (List.mem_cons_self)), by omega, by omega⟩ | exact ⟨_, List.mem_cons_of_mem _ (List.mem_cons_of_mem _ (List.mem_cons_of_mem _ (List.mem_cons_self))), by omega, by omega⟩)
                have fb302 := fl_one fb300
                have fr303 : px_fl [(269, 1), (287, 1), (289, 3), (295, 1)] h h285 := fl_tr fr301 fb302 (by first | exact ⟨_, List.mem_cons_self, by omega, by omega⟩ | exact ⟨_, List.mem_cons_of_mem _ (List.mem_cons_self), by omega, by omega⟩ | exact ⟨_, List.mem_cons_of_mem _ (List.mem_cons_of_mem _ (List.mem_cons_self)), by omega, by omega⟩ | exact ⟨_, List.mem_cons_of_mem _ (List.mem_cons_of_mem _ (List.mem_cons_of_mem _ (List.mem_cons_self))), by omega, by omega⟩)
                show px_to 154 183 [some (.ref (269)), some (.int (nI e)), some (.int (nI ((es.getD e (0, 0, 0, 0)).1))), some (.int (nI 1)), some (.int (nI 0)), some (.int (nI n1))] [] h285 _
                refine e_vret f_154_183 rfl ?_
                have ed := doEv_h1 (j := j) (la := la) (lb := lb) (s := s) (n := n1) hhh hbb (by rw [htt]; exact hr) (by rw [htt, hLW]; exact hn1) (by omega)
                rw [ed, htt]
                exact ⟨rfl, g288, fr303⟩
              · skip
                refine e_aload_n f_154_177 rfl rfl ?_
                refine e_iload f_154_178 rfl rfl ?_
                refine e_callV (As := [.int (upA true s.2.1.1 (nI tt))]) (rest := []) f_154_180 rfl rfl rfl (Nat.le_of_ble_eq_true rfl) (Nat.le_of_ble_eq_true rfl) g152 rfl (Nat.le_of_ble_eq_true rfl) (cc_Md_ri0 (w := upA true s.2.1.1 (nI tt)) (x := s.1) (sl := sl2.set 1 s.2.1.2.1) (ga := ga) (gp := gp) (gq := (nI j.length, s.1.2.2.2.2.isSome, oI s.1.2.2.2.2, s.2.2.2.2 + (nI 1), la, lb, cb)) (gh := (nI lh3.length, nI lg.length)) (gw := gw1) (gu := gu) (gv := gv) g152 g149 (by rw [getD_set_ne (by omega), hR0.2.1.2.2.1, ← hLW]; exact Int32.not_lt.mp hr) (by rw [List.length_set]; exact hR0.1)) rfl (fun h304 r305 q306 => ?_)
                obtain ⟨rfl, qe⟩ := q306
                have qe := qe.symm
                subst qe
                show px_to 154 183 [some (.ref (269)), some (.int (nI e)), some (.int (nI ((es.getD e (0, 0, 0, 0)).1))), some (.int (nI 1)), some (.int (nI 0)), some (.int (upA true s.2.1.1 (nI tt)))] [] h148 _
                refine e_vret f_154_183 rfl ?_
                have ed := doEv_h0 (j := j) (la := la) (lb := lb) (s := s) hhh hbb (by rw [htt]; exact Int32.not_lt.mp hr)
                rw [ed, htt]
                have g307 : px_pa h12 295 50 30 Value.int cv4 := pa_fi g7 fx14 (by omega)
                have g308 : px_pa h148 295 50 30 Value.int cv4 := pa_fi g307 fx150 (by omega)
                have g309 : px_pa h12 289 54 100 rK lh3 := pa_fi g8 fx14 (by omega)
                have g310 : px_pa h148 289 54 100 rK lh3 := pa_fi g309 fx150 (by omega)
                have g311 : px_pa h12 290 50 100 rV lh3 := pa_fi g9 fx14 (by omega)
                have g312 : px_pa h148 290 50 100 rV lh3 := pa_fi g311 fx150 (by omega)
                have g313 : px_pa h12 291 50 100 rT lh3 := pa_fi g10 fx14 (by omega)
                have g314 : px_pa h148 291 50 100 rT lh3 := pa_fi g313 fx150 (by omega)
                exact ⟨rfl, ⟨_, _, _, _, g152, g149, g308, g310, g312, g314, hW2⟩, fr151⟩
            · skip
              have c_130 : lb = true := bI_t' c_130
              refine e_aload_n f_154_133 rfl rfl ?_
              refine e_getf f_154_134 g152 rfl rfl ?_
              refine e_iconst (v := nI 1) f_154_137 (by decide) rfl ?_
              refine e_iaload_p (xs := sl2.set 1 s.2.1.2.1) f_154_138 g149 (d := 0) (by first | omega | (simp only [List.length_set]; omega)) rfl ?_
              show px_to 154 139 [some (.ref (269)), some (.int (nI e)), some (.int (nI ((es.getD e (0, 0, 0, 0)).1))), some (.int (nI 1)), none, none] [.int ((sl2.set 1 s.2.1.2.1).getD 1 0)] h148 _
              rw [eB]
              refine e_aload_n f_154_139 rfl rfl ?_
              refine e_getf f_154_140 g152 rfl rfl ?_
              refine e_iconst (v := nI 0) f_154_143 (by decide) rfl ?_
              refine e_iaload_p (xs := sl2.set 1 s.2.1.2.1) f_154_144 g149 (d := 0) (by first | omega | (simp only [List.length_set]; omega)) rfl ?_
              show px_to 154 145 [some (.ref (269)), some (.int (nI e)), some (.int (nI ((es.getD e (0, 0, 0, 0)).1))), some (.int (nI 1)), none, none] [.int ((sl2.set 1 s.2.1.2.1).getD 0 0), .int (upB true s.2.1.2.1 (nI tt))] h148 _
              rw [eA]
              refine e_icmp_ge f_154_145 rfl (fun c_145 => ?_) (fun c_145 => ?_)
              · skip
                refine e_iconst (v := nI 0) f_154_152 (by decide) rfl ?_
                refine e_istore (L' := [some (.ref (269)), some (.int (nI e)), some (.int (nI ((es.getD e (0, 0, 0, 0)).1))), some (.int (nI 1)), some (.int (nI 0)), none]) f_154_153 (Nat.le_of_ble_eq_true rfl) rfl rfl ?_
                refine e_iload f_154_155 rfl rfl ?_
                refine e_if_eq_t f_154_157 (by decide) ?_
                refine e_aload_n f_154_169 rfl rfl ?_
                refine e_getf f_154_170 g152 rfl rfl ?_
                refine e_iconst (v := nI 0) f_154_173 (by decide) rfl ?_
                refine e_iaload_p (xs := sl2.set 1 s.2.1.2.1) f_154_174 g149 (d := 0) (by first | omega | (simp only [List.length_set]; omega)) rfl ?_
                show px_to 154 175 [some (.ref (269)), some (.int (nI e)), some (.int (nI ((es.getD e (0, 0, 0, 0)).1))), some (.int (nI 1)), some (.int (nI 0)), none] [.int ((sl2.set 1 s.2.1.2.1).getD 0 0)] h148 _
                rw [eA]
                refine e_istore (L' := [some (.ref (269)), some (.int (nI e)), some (.int (nI ((es.getD e (0, 0, 0, 0)).1))), some (.int (nI 1)), some (.int (nI 0)), some (.int (upA true s.2.1.1 (nI tt)))]) f_154_175 (Nat.le_of_ble_eq_true rfl) rfl rfl ?_
                have hLW : lesW la lb (upA true s.2.1.1 (nI tt)) (upB true s.2.1.2.1 (nI tt)) = upA true s.2.1.1 (nI tt) := by unfold lesW; rw [c_123, if_pos rfl, c_130, if_pos rfl]; unfold iMin; rw [if_neg (Int32.not_lt.mpr c_145)]
                have hW9 : okW9 (lesW la lb (upA true s.2.1.1 (nI tt)) (upB true s.2.1.2.1 (nI tt))) := okW9_les (okW9_upA p9.1 (Or.inr ⟨tt, ht9, rfl⟩)) (okW9_upB p9.2.1 (Or.inr ⟨tt, ht9, rfl⟩))
                by_cases hr : s.2.1.2.2 < lesW la lb (upA true s.2.1.1 (nI tt)) (upB true s.2.1.2.1 (nI tt))
                · skip
                  obtain ⟨n1, hn9, hn1⟩ := okW9_gt p9.2.2 hW9 hr
                  rw [hLW] at hn1
                  rw [hn1]
                  have g315 : px_pa h12 295 50 30 Value.int cv4 := pa_fi g7 fx14 (by omega)
                  have g316 : px_pa h148 295 50 30 Value.int cv4 := pa_fi g315 fx150 (by omega)
                  have g317 : px_pa h12 289 54 100 rK lh3 := pa_fi g8 fx14 (by omega)
                  have g318 : px_pa h148 289 54 100 rK lh3 := pa_fi g317 fx150 (by omega)
                  have g319 : px_pa h12 290 50 100 rV lh3 := pa_fi g9 fx14 (by omega)
                  have g320 : px_pa h148 290 50 100 rV lh3 := pa_fi g319 fx150 (by omega)
                  have g321 : px_pa h12 291 50 100 rT lh3 := pa_fi g10 fx14 (by omega)
                  have g322 : px_pa h148 291 50 100 rT lh3 := pa_fi g321 fx150 (by omega)
                  have g323 : pRZ h148 ga gp gu gv j (s.2.2.2.2 + nI 1) la lb cb lg (upA true s.2.1.1 (nI tt)) (upB true s.2.1.2.1 (nI tt)) s.2.1.2.2 s.1 := by exact ⟨_, _, _, _, g152, g149, g316, g318, g320, g322, hW2⟩
                  refine e_aload_n f_154_177 rfl rfl ?_
                  refine e_iload f_154_178 rfl rfl ?_
                  obtain ⟨gw324, sl325, lh326, cv327, g328, g329, g330, g331, g332, g333, hR334⟩ := id g323
                  have g335 : pRZ h148 ga gp gu gv j (s.2.2.2.2 + nI 1) la lb cb lg (upA true s.2.1.1 (nI tt)) (upB true s.2.1.2.1 (nI tt)) s.2.1.2.2 s.1 := ⟨_, _, _, _, g328, g329, g330, g331, g332, g333, hR334⟩
                  obtain ⟨hm337, fa338, fb339⟩ := fl_mid fr151
                  obtain ⟨hm340, fa341, fb342⟩ := fl_mid fb339
                  obtain ⟨hm343, fa344, fb345⟩ := fl_mid fb342
                  have g336 : px_pa h148 284 52 6 stS j := pa_fi (pa_fi (pa_fi (pa_fi H1 fa338 (by omega)) fa341 (by omega)) fa344 (by omega)) (fl_one fb345) (by omega)
                  obtain ⟨hm347, fa348, fb349⟩ := fl_mid fr151
                  obtain ⟨hm350, fa351, fb352⟩ := fl_mid fb349
                  obtain ⟨hm353, fa354, fb355⟩ := fl_mid fb352
                  have g346 : px_pa h148 285 52 6 stA j := pa_fi (pa_fi (pa_fi (pa_fi H2 fa348 (by omega)) fa351 (by omega)) fa354 (by omega)) (fl_one fb355) (by omega)
                  obtain ⟨hm357, fa358, fb359⟩ := fl_mid fr151
                  obtain ⟨hm360, fa361, fb362⟩ := fl_mid fb359
                  obtain ⟨hm363, fa364, fb365⟩ := fl_mid fb362
                  have g356 : px_pa h148 286 50 6 stN j := pa_fi (pa_fi (pa_fi (pa_fi H3 fa358 (by omega)) fa361 (by omega)) fa364 (by omega)) (fl_one fb365) (by omega)
                  refine e_callV (As := [.int (nI n1)]) (rest := []) f_154_180 rfl rfl rfl (Nat.le_of_ble_eq_true rfl) (Nat.le_of_ble_eq_true rfl) g328 rfl (Nat.le_of_ble_eq_true rfl) (cc_Md_ri1 (n := n1) (x := s.1) (A := upA true s.2.1.1 (nI tt)) (B := upB true s.2.1.2.1 (nI tt)) (W := s.2.1.2.2) (ga := ga) (gp := gp) (gu := gu) (gv := gv) (j := j) (dn := s.2.2.2.2 + nI 1) (la := la) (lb := lb) (cb := cb) (lg := lg) g335 g336 g346 g356 (p0) (by omega) (by rw [← hn1, ← hLW]; exact hr) (p5) (p6) (fun k hk => Nat.le_trans (p7 k hk) (by omega))) rfl (fun h366 r367 q368 => ?_)
                  obtain ⟨rfl, g369, fx370⟩ := q368
                  obtain ⟨hm371, fa372, fb373⟩ := fl_mid fx370
                  have fr374 : px_fl [(269, 1), (287, 1), (289, 3), (295, 1)] h hm371 := fl_tr fr151 fa372 (by first | exact ⟨_, List.mem_cons_self, by omega, by omega⟩ | exact ⟨_, List.mem_cons_of_mem _ (List.mem_cons_self), by omega, by omega⟩ | exact ⟨_, List.mem_cons_of_mem _ (List.mem_cons_of_mem _ (List.mem_cons_self)), by omega, by omega⟩ | exact ⟨_, List.mem_cons_of_mem _ (List.mem_cons_of_mem _ (List.mem_cons_of_mem _ (List.mem_cons_self))), by omega, by omega⟩)
                  obtain ⟨hm375, fa376, fb377⟩ := fl_mid fb373
                  have fr378 : px_fl [(269, 1), (287, 1), (289, 3), (295, 1)] h hm375 := fl_tr fr374 fa376 (by first | exact ⟨_, List.mem_cons_self, by omega, by omega⟩ | exact ⟨_, List.mem_cons_of_mem _ (List.mem_cons_self), by omega, by omega⟩ | exact ⟨_, List.mem_cons_of_mem _ (List.mem_cons_of_mem _ (List.mem_cons_self)), by omega, by omega⟩ | exact ⟨_, List.mem_cons_of_mem _ (List.mem_cons_of_mem _ (List.mem_cons_of_mem _ (List.mem_cons_self))), by omega, by omega⟩)
                  obtain ⟨hm379, fa380, fb381⟩ := fl_mid fb377
                  have fr382 : px_fl [(269, 1), (287, 1), (289, 3), (295, 1)] h hm379 := fl_tr fr378 fa380 (by first | exact ⟨_, List.mem_cons_self, by omega, by omega⟩ | exact ⟨_, List.mem_cons_of_mem _ (List.mem_cons_self), by omega, by omega⟩ | exact ⟨_, List.mem_cons_of_mem _ (List.mem_cons_of_mem _ (List.mem_cons_self)), by omega, by omega⟩ | exact ⟨_, List.mem_cons_of_mem _ (List.mem_cons_of_mem _ (List.mem_cons_of_mem _ (List.mem_cons_self))), by omega, by omega⟩)
                  have fb383 := fl_one fb381
                  have fr384 : px_fl [(269, 1), (287, 1), (289, 3), (295, 1)] h h366 := fl_tr fr382 fb383 (by first | exact ⟨_, List.mem_cons_self, by omega, by omega⟩ | exact ⟨_, List.mem_cons_of_mem _ (List.mem_cons_self), by omega, by omega⟩ | exact ⟨_, List.mem_cons_of_mem _ (List.mem_cons_of_mem _ (List.mem_cons_self)), by omega, by omega⟩ | exact ⟨_, List.mem_cons_of_mem _ (List.mem_cons_of_mem _ (List.mem_cons_of_mem _ (List.mem_cons_self))), by omega, by omega⟩)
                  show px_to 154 183 [some (.ref (269)), some (.int (nI e)), some (.int (nI ((es.getD e (0, 0, 0, 0)).1))), some (.int (nI 1)), some (.int (nI 0)), some (.int (nI n1))] [] h366 _
                  refine e_vret f_154_183 rfl ?_
                  have ed := doEv_h1 (j := j) (la := la) (lb := lb) (s := s) (n := n1) hhh hbb (by rw [htt]; exact hr) (by rw [htt, hLW]; exact hn1) (by omega)
                  rw [ed, htt]
                  exact ⟨rfl, g369, fr384⟩
                · skip
                  refine e_aload_n f_154_177 rfl rfl ?_
                  refine e_iload f_154_178 rfl rfl ?_
                  refine e_callV (As := [.int (upA true s.2.1.1 (nI tt))]) (rest := []) f_154_180 rfl rfl rfl (Nat.le_of_ble_eq_true rfl) (Nat.le_of_ble_eq_true rfl) g152 rfl (Nat.le_of_ble_eq_true rfl) (cc_Md_ri0 (w := upA true s.2.1.1 (nI tt)) (x := s.1) (sl := sl2.set 1 s.2.1.2.1) (ga := ga) (gp := gp) (gq := (nI j.length, s.1.2.2.2.2.isSome, oI s.1.2.2.2.2, s.2.2.2.2 + (nI 1), la, lb, cb)) (gh := (nI lh3.length, nI lg.length)) (gw := gw1) (gu := gu) (gv := gv) g152 g149 (by rw [getD_set_ne (by omega), hR0.2.1.2.2.1, ← hLW]; exact Int32.not_lt.mp hr) (by rw [List.length_set]; exact hR0.1)) rfl (fun h385 r386 q387 => ?_)
                  obtain ⟨rfl, qe⟩ := q387
                  have qe := qe.symm
                  subst qe
                  show px_to 154 183 [some (.ref (269)), some (.int (nI e)), some (.int (nI ((es.getD e (0, 0, 0, 0)).1))), some (.int (nI 1)), some (.int (nI 0)), some (.int (upA true s.2.1.1 (nI tt)))] [] h148 _
                  refine e_vret f_154_183 rfl ?_
                  have ed := doEv_h0 (j := j) (la := la) (lb := lb) (s := s) hhh hbb (by rw [htt]; exact Int32.not_lt.mp hr)
                  rw [ed, htt]
                  have g388 : px_pa h12 295 50 30 Value.int cv4 := pa_fi g7 fx14 (by omega)
                  have g389 : px_pa h148 295 50 30 Value.int cv4 := pa_fi g388 fx150 (by omega)
                  have g390 : px_pa h12 289 54 100 rK lh3 := pa_fi g8 fx14 (by omega)
                  have g391 : px_pa h148 289 54 100 rK lh3 := pa_fi g390 fx150 (by omega)
                  have g392 : px_pa h12 290 50 100 rV lh3 := pa_fi g9 fx14 (by omega)
                  have g393 : px_pa h148 290 50 100 rV lh3 := pa_fi g392 fx150 (by omega)
                  have g394 : px_pa h12 291 50 100 rT lh3 := pa_fi g10 fx14 (by omega)
                  have g395 : px_pa h148 291 50 100 rT lh3 := pa_fi g394 fx150 (by omega)
                  exact ⟨rfl, ⟨_, _, _, _, g152, g149, g389, g391, g393, g395, hW2⟩, fr151⟩
              · skip
                refine e_iconst (v := nI 1) f_154_148 (by decide) rfl ?_
                refine e_goto f_154_149 ?_
                refine e_istore (L' := [some (.ref (269)), some (.int (nI e)), some (.int (nI ((es.getD e (0, 0, 0, 0)).1))), some (.int (nI 1)), some (.int (nI 1)), none]) f_154_153 (Nat.le_of_ble_eq_true rfl) rfl rfl ?_
                refine e_iload f_154_155 rfl rfl ?_
                refine e_if_eq_f f_154_157 (by decide) rfl ?_
                refine e_aload_n f_154_160 rfl rfl ?_
                refine e_getf f_154_161 g152 rfl rfl ?_
                refine e_iconst (v := nI 1) f_154_164 (by decide) rfl ?_
                refine e_iaload_p (xs := sl2.set 1 s.2.1.2.1) f_154_165 g149 (d := 0) (by first | omega | (simp only [List.length_set]; omega)) rfl ?_
                show px_to 154 166 [some (.ref (269)), some (.int (nI e)), some (.int (nI ((es.getD e (0, 0, 0, 0)).1))), some (.int (nI 1)), some (.int (nI 1)), none] [.int ((sl2.set 1 s.2.1.2.1).getD 1 0)] h148 _
                rw [eB]
                refine e_goto f_154_166 ?_
                refine e_istore (L' := [some (.ref (269)), some (.int (nI e)), some (.int (nI ((es.getD e (0, 0, 0, 0)).1))), some (.int (nI 1)), some (.int (nI 1)), some (.int (upB true s.2.1.2.1 (nI tt)))]) f_154_175 (Nat.le_of_ble_eq_true rfl) rfl rfl ?_
                have hLW : lesW la lb (upA true s.2.1.1 (nI tt)) (upB true s.2.1.2.1 (nI tt)) = upB true s.2.1.2.1 (nI tt) := by unfold lesW; rw [c_123, if_pos rfl, c_130, if_pos rfl]; unfold iMin; rw [if_pos (Int32.not_le.mp c_145)]
                have hW9 : okW9 (lesW la lb (upA true s.2.1.1 (nI tt)) (upB true s.2.1.2.1 (nI tt))) := okW9_les (okW9_upA p9.1 (Or.inr ⟨tt, ht9, rfl⟩)) (okW9_upB p9.2.1 (Or.inr ⟨tt, ht9, rfl⟩))
                by_cases hr : s.2.1.2.2 < lesW la lb (upA true s.2.1.1 (nI tt)) (upB true s.2.1.2.1 (nI tt))
                · skip
                  obtain ⟨n1, hn9, hn1⟩ := okW9_gt p9.2.2 hW9 hr
                  rw [hLW] at hn1
                  rw [hn1]
                  have g396 : px_pa h12 295 50 30 Value.int cv4 := pa_fi g7 fx14 (by omega)
                  have g397 : px_pa h148 295 50 30 Value.int cv4 := pa_fi g396 fx150 (by omega)
                  have g398 : px_pa h12 289 54 100 rK lh3 := pa_fi g8 fx14 (by omega)
                  have g399 : px_pa h148 289 54 100 rK lh3 := pa_fi g398 fx150 (by omega)
                  have g400 : px_pa h12 290 50 100 rV lh3 := pa_fi g9 fx14 (by omega)
                  have g401 : px_pa h148 290 50 100 rV lh3 := pa_fi g400 fx150 (by omega)
                  have g402 : px_pa h12 291 50 100 rT lh3 := pa_fi g10 fx14 (by omega)
                  have g403 : px_pa h148 291 50 100 rT lh3 := pa_fi g402 fx150 (by omega)
                  have g404 : pRZ h148 ga gp gu gv j (s.2.2.2.2 + nI 1) la lb cb lg (upA true s.2.1.1 (nI tt)) (upB true s.2.1.2.1 (nI tt)) s.2.1.2.2 s.1 := by exact ⟨_, _, _, _, g152, g149, g397, g399, g401, g403, hW2⟩
                  refine e_aload_n f_154_177 rfl rfl ?_
                  refine e_iload f_154_178 rfl rfl ?_
                  obtain ⟨gw405, sl406, lh407, cv408, g409, g410, g411, g412, g413, g414, hR415⟩ := id g404
                  have g416 : pRZ h148 ga gp gu gv j (s.2.2.2.2 + nI 1) la lb cb lg (upA true s.2.1.1 (nI tt)) (upB true s.2.1.2.1 (nI tt)) s.2.1.2.2 s.1 := ⟨_, _, _, _, g409, g410, g411, g412, g413, g414, hR415⟩
                  obtain ⟨hm418, fa419, fb420⟩ := fl_mid fr151
                  obtain ⟨hm421, fa422, fb423⟩ := fl_mid fb420
                  obtain ⟨hm424, fa425, fb426⟩ := fl_mid fb423
                  have g417 : px_pa h148 284 52 6 stS j := pa_fi (pa_fi (pa_fi (pa_fi H1 fa419 (by omega)) fa422 (by omega)) fa425 (by omega)) (fl_one fb426) (by omega)
                  obtain ⟨hm428, fa429, fb430⟩ := fl_mid fr151
                  obtain ⟨hm431, fa432, fb433⟩ := fl_mid fb430
                  obtain ⟨hm434, fa435, fb436⟩ := fl_mid fb433
                  have g427 : px_pa h148 285 52 6 stA j := pa_fi (pa_fi (pa_fi (pa_fi H2 fa429 (by omega)) fa432 (by omega)) fa435 (by omega)) (fl_one fb436) (by omega)
                  obtain ⟨hm438, fa439, fb440⟩ := fl_mid fr151
                  obtain ⟨hm441, fa442, fb443⟩ := fl_mid fb440
                  obtain ⟨hm444, fa445, fb446⟩ := fl_mid fb443
                  have g437 : px_pa h148 286 50 6 stN j := pa_fi (pa_fi (pa_fi (pa_fi H3 fa439 (by omega)) fa442 (by omega)) fa445 (by omega)) (fl_one fb446) (by omega)
                  refine e_callV (As := [.int (nI n1)]) (rest := []) f_154_180 rfl rfl rfl (Nat.le_of_ble_eq_true rfl) (Nat.le_of_ble_eq_true rfl) g409 rfl (Nat.le_of_ble_eq_true rfl) (cc_Md_ri1 (n := n1) (x := s.1) (A := upA true s.2.1.1 (nI tt)) (B := upB true s.2.1.2.1 (nI tt)) (W := s.2.1.2.2) (ga := ga) (gp := gp) (gu := gu) (gv := gv) (j := j) (dn := s.2.2.2.2 + nI 1) (la := la) (lb := lb) (cb := cb) (lg := lg) g416 g417 g427 g437 (p0) (by omega) (by rw [← hn1, ← hLW]; exact hr) (p5) (p6) (fun k hk => Nat.le_trans (p7 k hk) (by omega))) rfl (fun h447 r448 q449 => ?_)
                  obtain ⟨rfl, g450, fx451⟩ := q449
                  obtain ⟨hm452, fa453, fb454⟩ := fl_mid fx451
                  have fr455 : px_fl [(269, 1), (287, 1), (289, 3), (295, 1)] h hm452 := fl_tr fr151 fa453 (by first | exact ⟨_, List.mem_cons_self, by omega, by omega⟩ | exact ⟨_, List.mem_cons_of_mem _ (List.mem_cons_self), by omega, by omega⟩ | exact ⟨_, List.mem_cons_of_mem _ (List.mem_cons_of_mem _ (List.mem_cons_self)), by omega, by omega⟩ | exact ⟨_, List.mem_cons_of_mem _ (List.mem_cons_of_mem _ (List.mem_cons_of_mem _ (List.mem_cons_self))), by omega, by omega⟩)
                  obtain ⟨hm456, fa457, fb458⟩ := fl_mid fb454
                  have fr459 : px_fl [(269, 1), (287, 1), (289, 3), (295, 1)] h hm456 := fl_tr fr455 fa457 (by first | exact ⟨_, List.mem_cons_self, by omega, by omega⟩ | exact ⟨_, List.mem_cons_of_mem _ (List.mem_cons_self), by omega, by omega⟩ | exact ⟨_, List.mem_cons_of_mem _ (List.mem_cons_of_mem _ (List.mem_cons_self)), by omega, by omega⟩ | exact ⟨_, List.mem_cons_of_mem _ (List.mem_cons_of_mem _ (List.mem_cons_of_mem _ (List.mem_cons_self))), by omega, by omega⟩)
                  obtain ⟨hm460, fa461, fb462⟩ := fl_mid fb458
                  have fr463 : px_fl [(269, 1), (287, 1), (289, 3), (295, 1)] h hm460 := fl_tr fr459 fa461 (by first | exact ⟨_, List.mem_cons_self, by omega, by omega⟩ | exact ⟨_, List.mem_cons_of_mem _ (List.mem_cons_self), by omega, by omega⟩ | exact ⟨_, List.mem_cons_of_mem _ (List.mem_cons_of_mem _ (List.mem_cons_self)), by omega, by omega⟩ | exact ⟨_, List.mem_cons_of_mem _ (List.mem_cons_of_mem _ (List.mem_cons_of_mem _ (List.mem_cons_self))), by omega, by omega⟩)
                  have fb464 := fl_one fb462
                  have fr465 : px_fl [(269, 1), (287, 1), (289, 3), (295, 1)] h h447 := fl_tr fr463 fb464 (by first | exact ⟨_, List.mem_cons_self, by omega, by omega⟩ | exact ⟨_, List.mem_cons_of_mem _ (List.mem_cons_self), by omega, by omega⟩ | exact ⟨_, List.mem_cons_of_mem _ (List.mem_cons_of_mem _ (List.mem_cons_self)), by omega, by omega⟩ | exact ⟨_, List.mem_cons_of_mem _ (List.mem_cons_of_mem _ (List.mem_cons_of_mem _ (List.mem_cons_self))), by omega, by omega⟩)
                  show px_to 154 183 [some (.ref (269)), some (.int (nI e)), some (.int (nI ((es.getD e (0, 0, 0, 0)).1))), some (.int (nI 1)), some (.int (nI 1)), some (.int (nI n1))] [] h447 _
                  refine e_vret f_154_183 rfl ?_
                  have ed := doEv_h1 (j := j) (la := la) (lb := lb) (s := s) (n := n1) hhh hbb (by rw [htt]; exact hr) (by rw [htt, hLW]; exact hn1) (by omega)
                  rw [ed, htt]
                  exact ⟨rfl, g450, fr465⟩
                · skip
                  refine e_aload_n f_154_177 rfl rfl ?_
                  refine e_iload f_154_178 rfl rfl ?_
                  refine e_callV (As := [.int (upB true s.2.1.2.1 (nI tt))]) (rest := []) f_154_180 rfl rfl rfl (Nat.le_of_ble_eq_true rfl) (Nat.le_of_ble_eq_true rfl) g152 rfl (Nat.le_of_ble_eq_true rfl) (cc_Md_ri0 (w := upB true s.2.1.2.1 (nI tt)) (x := s.1) (sl := sl2.set 1 s.2.1.2.1) (ga := ga) (gp := gp) (gq := (nI j.length, s.1.2.2.2.2.isSome, oI s.1.2.2.2.2, s.2.2.2.2 + (nI 1), la, lb, cb)) (gh := (nI lh3.length, nI lg.length)) (gw := gw1) (gu := gu) (gv := gv) g152 g149 (by rw [getD_set_ne (by omega), hR0.2.1.2.2.1, ← hLW]; exact Int32.not_lt.mp hr) (by rw [List.length_set]; exact hR0.1)) rfl (fun h466 r467 q468 => ?_)
                  obtain ⟨rfl, qe⟩ := q468
                  have qe := qe.symm
                  subst qe
                  show px_to 154 183 [some (.ref (269)), some (.int (nI e)), some (.int (nI ((es.getD e (0, 0, 0, 0)).1))), some (.int (nI 1)), some (.int (nI 1)), some (.int (upB true s.2.1.2.1 (nI tt)))] [] h148 _
                  refine e_vret f_154_183 rfl ?_
                  have ed := doEv_h0 (j := j) (la := la) (lb := lb) (s := s) hhh hbb (by rw [htt]; exact Int32.not_lt.mp hr)
                  rw [ed, htt]
                  have g469 : px_pa h12 295 50 30 Value.int cv4 := pa_fi g7 fx14 (by omega)
                  have g470 : px_pa h148 295 50 30 Value.int cv4 := pa_fi g469 fx150 (by omega)
                  have g471 : px_pa h12 289 54 100 rK lh3 := pa_fi g8 fx14 (by omega)
                  have g472 : px_pa h148 289 54 100 rK lh3 := pa_fi g471 fx150 (by omega)
                  have g473 : px_pa h12 290 50 100 rV lh3 := pa_fi g9 fx14 (by omega)
                  have g474 : px_pa h148 290 50 100 rV lh3 := pa_fi g473 fx150 (by omega)
                  have g475 : px_pa h12 291 50 100 rT lh3 := pa_fi g10 fx14 (by omega)
                  have g476 : px_pa h148 291 50 100 rT lh3 := pa_fi g475 fx150 (by omega)
                  exact ⟨rfl, ⟨_, _, _, _, g152, g149, g470, g472, g474, g476, hW2⟩, fr151⟩
        · skip
          refine e_aload_n f_154_101 rfl rfl ?_
          refine e_getf f_154_102 g13 rfl rfl ?_
          refine e_iload_n f_154_105 rfl rfl ?_
          refine e_saload_p (xs := es) f_154_106 g137 (d := (0, 0, 0, 0)) (by first | omega | (simp only [List.length_set]; omega)) rfl ?_
          show px_to 154 107 [some (.ref (269)), some (.int (nI e)), some (.int (nI ((es.getD e (0, 0, 0, 0)).1))), some (.int (nI 1)), none, none] [.int ((es.getD e (0, 0, 0, 0)).2.2.2), .int (nI 1), .ref (287)] h12 _
          refine e_goto f_154_107 ?_
          rw [htt]
          refine e_iastore_p (xs := sl2) (x := nI tt) f_154_118 g147 (by omega) (by first | omega | (simp only [List.length_set]; omega)) (rfl) rfl (fun h477 g478 fx479 => ?_)
          have fr480 : px_fl [(269, 1), (287, 1), (289, 3), (295, 1)] h h477 := fl_tr fr15 fx479 (by first | exact ⟨_, List.mem_cons_self, by omega, by omega⟩ | exact ⟨_, List.mem_cons_of_mem _ (List.mem_cons_self), by omega, by omega⟩ | exact ⟨_, List.mem_cons_of_mem _ (List.mem_cons_of_mem _ (List.mem_cons_self)), by omega, by omega⟩ | exact ⟨_, List.mem_cons_of_mem _ (List.mem_cons_of_mem _ (List.mem_cons_of_mem _ (List.mem_cons_self))), by omega, by omega⟩)
          have hmx : iMax s.2.1.2.1 (nI tt) = nI tt := by unfold iMax; rw [if_pos (Int32.not_le.mp c_98)]
          have eA : (sl2.set 1 (nI tt)).getD 0 0 = upA true s.2.1.1 (nI tt) := by rw [getD_set_ne (by omega)]; exact hR0.2.1.1
          have eB : (sl2.set 1 (nI tt)).getD 1 0 = upB true s.2.1.2.1 (nI tt) := by rw [getD_set_same (by omega)]; exact hmx.symm
          have hbb : decide ((es.getD e (0, 0, 0, 0)).1 = 72) = true := decide_eq_true (by omega)
          have hW2 : relZ j cb lg (upA true s.2.1.1 (nI tt)) (upB true s.2.1.2.1 (nI tt)) s.2.1.2.2 s.1 (sl2.set 1 (nI tt)) lh3 cv4 := ⟨by rw [List.length_set]; exact hR0.1, ⟨eA, eB, by rw [getD_set_ne (by omega)]; exact hR0.2.1.2.2.1, by rw [getD_set_ne (by omega)]; exact hR0.2.1.2.2.2⟩, fun z => MSt_eq (hR0.2.2.1 z) (fun i h1 h2 => getD_set_ne (by omega)), hR0.2.2.2⟩
          refine e_aload_n f_154_119 rfl rfl ?_
          have g481 : h477.2.2 269 = some (12, mB ga gp (nI j.length, s.1.2.2.2.2.isSome, oI s.1.2.2.2.2, s.2.2.2.2 + (nI 1), la, lb, cb) (nI lh3.length, nI lg.length) gw1 gu gv) := fi_at g13 fx479 (by omega)
          refine e_getf f_154_120 g481 rfl rfl ?_
          show px_to 154 123 [some (.ref (269)), some (.int (nI e)), some (.int (nI ((es.getD e (0, 0, 0, 0)).1))), some (.int (nI 1)), none, none] [.int (bI la)] h477 _
          refine e_if_eq f_154_123 rfl (fun c_123 => ?_) (fun c_123 => ?_)
          · skip
            have c_123 : la = false := bI_f c_123
            refine e_iconst (v := nI 1) f_154_148 (by decide) rfl ?_
            refine e_goto f_154_149 ?_
            refine e_istore (L' := [some (.ref (269)), some (.int (nI e)), some (.int (nI ((es.getD e (0, 0, 0, 0)).1))), some (.int (nI 1)), some (.int (nI 1)), none]) f_154_153 (Nat.le_of_ble_eq_true rfl) rfl rfl ?_
            refine e_iload f_154_155 rfl rfl ?_
            refine e_if_eq_f f_154_157 (by decide) rfl ?_
            refine e_aload_n f_154_160 rfl rfl ?_
            refine e_getf f_154_161 g481 rfl rfl ?_
            refine e_iconst (v := nI 1) f_154_164 (by decide) rfl ?_
            refine e_iaload_p (xs := sl2.set 1 (nI tt)) f_154_165 g478 (d := 0) (by first | omega | (simp only [List.length_set]; omega)) rfl ?_
            show px_to 154 166 [some (.ref (269)), some (.int (nI e)), some (.int (nI ((es.getD e (0, 0, 0, 0)).1))), some (.int (nI 1)), some (.int (nI 1)), none] [.int ((sl2.set 1 (nI tt)).getD 1 0)] h477 _
            rw [eB]
            refine e_goto f_154_166 ?_
            refine e_istore (L' := [some (.ref (269)), some (.int (nI e)), some (.int (nI ((es.getD e (0, 0, 0, 0)).1))), some (.int (nI 1)), some (.int (nI 1)), some (.int (upB true s.2.1.2.1 (nI tt)))]) f_154_175 (Nat.le_of_ble_eq_true rfl) rfl rfl ?_
            have hLW : lesW la lb (upA true s.2.1.1 (nI tt)) (upB true s.2.1.2.1 (nI tt)) = upB true s.2.1.2.1 (nI tt) := by unfold lesW; rw [c_123, if_neg (by decide), if_pos (p10.2 (by omega))]
            have hW9 : okW9 (lesW la lb (upA true s.2.1.1 (nI tt)) (upB true s.2.1.2.1 (nI tt))) := okW9_les (okW9_upA p9.1 (Or.inr ⟨tt, ht9, rfl⟩)) (okW9_upB p9.2.1 (Or.inr ⟨tt, ht9, rfl⟩))
            by_cases hr : s.2.1.2.2 < lesW la lb (upA true s.2.1.1 (nI tt)) (upB true s.2.1.2.1 (nI tt))
            · skip
              obtain ⟨n1, hn9, hn1⟩ := okW9_gt p9.2.2 hW9 hr
              rw [hLW] at hn1
              rw [hn1]
              have g482 : px_pa h12 295 50 30 Value.int cv4 := pa_fi g7 fx14 (by omega)
              have g483 : px_pa h477 295 50 30 Value.int cv4 := pa_fi g482 fx479 (by omega)
              have g484 : px_pa h12 289 54 100 rK lh3 := pa_fi g8 fx14 (by omega)
              have g485 : px_pa h477 289 54 100 rK lh3 := pa_fi g484 fx479 (by omega)
              have g486 : px_pa h12 290 50 100 rV lh3 := pa_fi g9 fx14 (by omega)
              have g487 : px_pa h477 290 50 100 rV lh3 := pa_fi g486 fx479 (by omega)
              have g488 : px_pa h12 291 50 100 rT lh3 := pa_fi g10 fx14 (by omega)
              have g489 : px_pa h477 291 50 100 rT lh3 := pa_fi g488 fx479 (by omega)
              have g490 : pRZ h477 ga gp gu gv j (s.2.2.2.2 + nI 1) la lb cb lg (upA true s.2.1.1 (nI tt)) (upB true s.2.1.2.1 (nI tt)) s.2.1.2.2 s.1 := by exact ⟨_, _, _, _, g481, g478, g483, g485, g487, g489, hW2⟩
              refine e_aload_n f_154_177 rfl rfl ?_
              refine e_iload f_154_178 rfl rfl ?_
              obtain ⟨gw491, sl492, lh493, cv494, g495, g496, g497, g498, g499, g500, hR501⟩ := id g490
              have g502 : pRZ h477 ga gp gu gv j (s.2.2.2.2 + nI 1) la lb cb lg (upA true s.2.1.1 (nI tt)) (upB true s.2.1.2.1 (nI tt)) s.2.1.2.2 s.1 := ⟨_, _, _, _, g495, g496, g497, g498, g499, g500, hR501⟩
              obtain ⟨hm504, fa505, fb506⟩ := fl_mid fr480
              obtain ⟨hm507, fa508, fb509⟩ := fl_mid fb506
              obtain ⟨hm510, fa511, fb512⟩ := fl_mid fb509
              have g503 : px_pa h477 284 52 6 stS j := pa_fi (pa_fi (pa_fi (pa_fi H1 fa505 (by omega)) fa508 (by omega)) fa511 (by omega)) (fl_one fb512) (by omega)
              obtain ⟨hm514, fa515, fb516⟩ := fl_mid fr480
              obtain ⟨hm517, fa518, fb519⟩ := fl_mid fb516
              obtain ⟨hm520, fa521, fb522⟩ := fl_mid fb519
              have g513 : px_pa h477 285 52 6 stA j := pa_fi (pa_fi (pa_fi (pa_fi H2 fa515 (by omega)) fa518 (by omega)) fa521 (by omega)) (fl_one fb522) (by omega)
              obtain ⟨hm524, fa525, fb526⟩ := fl_mid fr480
              obtain ⟨hm527, fa528, fb529⟩ := fl_mid fb526
              obtain ⟨hm530, fa531, fb532⟩ := fl_mid fb529
              have g523 : px_pa h477 286 50 6 stN j := pa_fi (pa_fi (pa_fi (pa_fi H3 fa525 (by omega)) fa528 (by omega)) fa531 (by omega)) (fl_one fb532) (by omega)
              refine e_callV (As := [.int (nI n1)]) (rest := []) f_154_180 rfl rfl rfl (Nat.le_of_ble_eq_true rfl) (Nat.le_of_ble_eq_true rfl) g495 rfl (Nat.le_of_ble_eq_true rfl) (cc_Md_ri1 (n := n1) (x := s.1) (A := upA true s.2.1.1 (nI tt)) (B := upB true s.2.1.2.1 (nI tt)) (W := s.2.1.2.2) (ga := ga) (gp := gp) (gu := gu) (gv := gv) (j := j) (dn := s.2.2.2.2 + nI 1) (la := la) (lb := lb) (cb := cb) (lg := lg) g502 g503 g513 g523 (p0) (by omega) (by rw [← hn1, ← hLW]; exact hr) (p5) (p6) (fun k hk => Nat.le_trans (p7 k hk) (by omega))) rfl (fun h533 r534 q535 => ?_)
              obtain ⟨rfl, g536, fx537⟩ := q535
              obtain ⟨hm538, fa539, fb540⟩ := fl_mid fx537
              have fr541 : px_fl [(269, 1), (287, 1), (289, 3), (295, 1)] h hm538 := fl_tr fr480 fa539 (by first | exact ⟨_, List.mem_cons_self, by omega, by omega⟩ | exact ⟨_, List.mem_cons_of_mem _ (List.mem_cons_self), by omega, by omega⟩ | exact ⟨_, List.mem_cons_of_mem _ (List.mem_cons_of_mem _ (List.mem_cons_self)), by omega, by omega⟩ | exact ⟨_, List.mem_cons_of_mem _ (List.mem_cons_of_mem _ (List.mem_cons_of_mem _ (List.mem_cons_self))), by omega, by omega⟩)
              obtain ⟨hm542, fa543, fb544⟩ := fl_mid fb540
              have fr545 : px_fl [(269, 1), (287, 1), (289, 3), (295, 1)] h hm542 := fl_tr fr541 fa543 (by first | exact ⟨_, List.mem_cons_self, by omega, by omega⟩ | exact ⟨_, List.mem_cons_of_mem _ (List.mem_cons_self), by omega, by omega⟩ | exact ⟨_, List.mem_cons_of_mem _ (List.mem_cons_of_mem _ (List.mem_cons_self)), by omega, by omega⟩ | exact ⟨_, List.mem_cons_of_mem _ (List.mem_cons_of_mem _ (List.mem_cons_of_mem _ (List.mem_cons_self))), by omega, by omega⟩)
              obtain ⟨hm546, fa547, fb548⟩ := fl_mid fb544
              have fr549 : px_fl [(269, 1), (287, 1), (289, 3), (295, 1)] h hm546 := fl_tr fr545 fa547 (by first | exact ⟨_, List.mem_cons_self, by omega, by omega⟩ | exact ⟨_, List.mem_cons_of_mem _ (List.mem_cons_self), by omega, by omega⟩ | exact ⟨_, List.mem_cons_of_mem _ (List.mem_cons_of_mem _ (List.mem_cons_self)), by omega, by omega⟩ | exact ⟨_, List.mem_cons_of_mem _ (List.mem_cons_of_mem _ (List.mem_cons_of_mem _ (List.mem_cons_self))), by omega, by omega⟩)
              have fb550 := fl_one fb548
              have fr551 : px_fl [(269, 1), (287, 1), (289, 3), (295, 1)] h h533 := fl_tr fr549 fb550 (by first | exact ⟨_, List.mem_cons_self, by omega, by omega⟩ | exact ⟨_, List.mem_cons_of_mem _ (List.mem_cons_self), by omega, by omega⟩ | exact ⟨_, List.mem_cons_of_mem _ (List.mem_cons_of_mem _ (List.mem_cons_self)), by omega, by omega⟩ | exact ⟨_, List.mem_cons_of_mem _ (List.mem_cons_of_mem _ (List.mem_cons_of_mem _ (List.mem_cons_self))), by omega, by omega⟩)
              show px_to 154 183 [some (.ref (269)), some (.int (nI e)), some (.int (nI ((es.getD e (0, 0, 0, 0)).1))), some (.int (nI 1)), some (.int (nI 1)), some (.int (nI n1))] [] h533 _
              refine e_vret f_154_183 rfl ?_
              have ed := doEv_h1 (j := j) (la := la) (lb := lb) (s := s) (n := n1) hhh hbb (by rw [htt]; exact hr) (by rw [htt, hLW]; exact hn1) (by omega)
              rw [ed, htt]
              exact ⟨rfl, g536, fr551⟩
            · skip
              refine e_aload_n f_154_177 rfl rfl ?_
              refine e_iload f_154_178 rfl rfl ?_
              refine e_callV (As := [.int (upB true s.2.1.2.1 (nI tt))]) (rest := []) f_154_180 rfl rfl rfl (Nat.le_of_ble_eq_true rfl) (Nat.le_of_ble_eq_true rfl) g481 rfl (Nat.le_of_ble_eq_true rfl) (cc_Md_ri0 (w := upB true s.2.1.2.1 (nI tt)) (x := s.1) (sl := sl2.set 1 (nI tt)) (ga := ga) (gp := gp) (gq := (nI j.length, s.1.2.2.2.2.isSome, oI s.1.2.2.2.2, s.2.2.2.2 + (nI 1), la, lb, cb)) (gh := (nI lh3.length, nI lg.length)) (gw := gw1) (gu := gu) (gv := gv) g481 g478 (by rw [getD_set_ne (by omega), hR0.2.1.2.2.1, ← hLW]; exact Int32.not_lt.mp hr) (by rw [List.length_set]; exact hR0.1)) rfl (fun h552 r553 q554 => ?_)
              obtain ⟨rfl, qe⟩ := q554
              have qe := qe.symm
              subst qe
              show px_to 154 183 [some (.ref (269)), some (.int (nI e)), some (.int (nI ((es.getD e (0, 0, 0, 0)).1))), some (.int (nI 1)), some (.int (nI 1)), some (.int (upB true s.2.1.2.1 (nI tt)))] [] h477 _
              refine e_vret f_154_183 rfl ?_
              have ed := doEv_h0 (j := j) (la := la) (lb := lb) (s := s) hhh hbb (by rw [htt]; exact Int32.not_lt.mp hr)
              rw [ed, htt]
              have g555 : px_pa h12 295 50 30 Value.int cv4 := pa_fi g7 fx14 (by omega)
              have g556 : px_pa h477 295 50 30 Value.int cv4 := pa_fi g555 fx479 (by omega)
              have g557 : px_pa h12 289 54 100 rK lh3 := pa_fi g8 fx14 (by omega)
              have g558 : px_pa h477 289 54 100 rK lh3 := pa_fi g557 fx479 (by omega)
              have g559 : px_pa h12 290 50 100 rV lh3 := pa_fi g9 fx14 (by omega)
              have g560 : px_pa h477 290 50 100 rV lh3 := pa_fi g559 fx479 (by omega)
              have g561 : px_pa h12 291 50 100 rT lh3 := pa_fi g10 fx14 (by omega)
              have g562 : px_pa h477 291 50 100 rT lh3 := pa_fi g561 fx479 (by omega)
              exact ⟨rfl, ⟨_, _, _, _, g481, g478, g556, g558, g560, g562, hW2⟩, fr480⟩
          · skip
            have c_123 : la = true := bI_t' c_123
            refine e_aload_n f_154_126 rfl rfl ?_
            refine e_getf f_154_127 g481 rfl rfl ?_
            show px_to 154 130 [some (.ref (269)), some (.int (nI e)), some (.int (nI ((es.getD e (0, 0, 0, 0)).1))), some (.int (nI 1)), none, none] [.int (bI lb)] h477 _
            refine e_if_eq f_154_130 rfl (fun c_130 => ?_) (fun c_130 => ?_)
            · skip
              have c_130 : lb = false := bI_f c_130
              refine e_iconst (v := nI 0) f_154_152 (by decide) rfl ?_
              refine e_istore (L' := [some (.ref (269)), some (.int (nI e)), some (.int (nI ((es.getD e (0, 0, 0, 0)).1))), some (.int (nI 1)), some (.int (nI 0)), none]) f_154_153 (Nat.le_of_ble_eq_true rfl) rfl rfl ?_
              refine e_iload f_154_155 rfl rfl ?_
              refine e_if_eq_t f_154_157 (by decide) ?_
              refine e_aload_n f_154_169 rfl rfl ?_
              refine e_getf f_154_170 g481 rfl rfl ?_
              refine e_iconst (v := nI 0) f_154_173 (by decide) rfl ?_
              refine e_iaload_p (xs := sl2.set 1 (nI tt)) f_154_174 g478 (d := 0) (by first | omega | (simp only [List.length_set]; omega)) rfl ?_
              show px_to 154 175 [some (.ref (269)), some (.int (nI e)), some (.int (nI ((es.getD e (0, 0, 0, 0)).1))), some (.int (nI 1)), some (.int (nI 0)), none] [.int ((sl2.set 1 (nI tt)).getD 0 0)] h477 _
              rw [eA]
              refine e_istore (L' := [some (.ref (269)), some (.int (nI e)), some (.int (nI ((es.getD e (0, 0, 0, 0)).1))), some (.int (nI 1)), some (.int (nI 0)), some (.int (upA true s.2.1.1 (nI tt)))]) f_154_175 (Nat.le_of_ble_eq_true rfl) rfl rfl ?_
              have hLW : lesW la lb (upA true s.2.1.1 (nI tt)) (upB true s.2.1.2.1 (nI tt)) = upA true s.2.1.1 (nI tt) := by unfold lesW; rw [c_123, if_pos rfl, c_130, if_neg (by decide)]
              have hW9 : okW9 (lesW la lb (upA true s.2.1.1 (nI tt)) (upB true s.2.1.2.1 (nI tt))) := okW9_les (okW9_upA p9.1 (Or.inr ⟨tt, ht9, rfl⟩)) (okW9_upB p9.2.1 (Or.inr ⟨tt, ht9, rfl⟩))
              by_cases hr : s.2.1.2.2 < lesW la lb (upA true s.2.1.1 (nI tt)) (upB true s.2.1.2.1 (nI tt))
              · skip
                obtain ⟨n1, hn9, hn1⟩ := okW9_gt p9.2.2 hW9 hr
                rw [hLW] at hn1
                rw [hn1]
                have g563 : px_pa h12 295 50 30 Value.int cv4 := pa_fi g7 fx14 (by omega)
                have g564 : px_pa h477 295 50 30 Value.int cv4 := pa_fi g563 fx479 (by omega)
                have g565 : px_pa h12 289 54 100 rK lh3 := pa_fi g8 fx14 (by omega)
                have g566 : px_pa h477 289 54 100 rK lh3 := pa_fi g565 fx479 (by omega)
                have g567 : px_pa h12 290 50 100 rV lh3 := pa_fi g9 fx14 (by omega)
                have g568 : px_pa h477 290 50 100 rV lh3 := pa_fi g567 fx479 (by omega)
                have g569 : px_pa h12 291 50 100 rT lh3 := pa_fi g10 fx14 (by omega)
                have g570 : px_pa h477 291 50 100 rT lh3 := pa_fi g569 fx479 (by omega)
                have g571 : pRZ h477 ga gp gu gv j (s.2.2.2.2 + nI 1) la lb cb lg (upA true s.2.1.1 (nI tt)) (upB true s.2.1.2.1 (nI tt)) s.2.1.2.2 s.1 := by exact ⟨_, _, _, _, g481, g478, g564, g566, g568, g570, hW2⟩
                refine e_aload_n f_154_177 rfl rfl ?_
                refine e_iload f_154_178 rfl rfl ?_
                obtain ⟨gw572, sl573, lh574, cv575, g576, g577, g578, g579, g580, g581, hR582⟩ := id g571
                have g583 : pRZ h477 ga gp gu gv j (s.2.2.2.2 + nI 1) la lb cb lg (upA true s.2.1.1 (nI tt)) (upB true s.2.1.2.1 (nI tt)) s.2.1.2.2 s.1 := ⟨_, _, _, _, g576, g577, g578, g579, g580, g581, hR582⟩
                obtain ⟨hm585, fa586, fb587⟩ := fl_mid fr480
                obtain ⟨hm588, fa589, fb590⟩ := fl_mid fb587
                obtain ⟨hm591, fa592, fb593⟩ := fl_mid fb590
                have g584 : px_pa h477 284 52 6 stS j := pa_fi (pa_fi (pa_fi (pa_fi H1 fa586 (by omega)) fa589 (by omega)) fa592 (by omega)) (fl_one fb593) (by omega)
                obtain ⟨hm595, fa596, fb597⟩ := fl_mid fr480
                obtain ⟨hm598, fa599, fb600⟩ := fl_mid fb597
                obtain ⟨hm601, fa602, fb603⟩ := fl_mid fb600
                have g594 : px_pa h477 285 52 6 stA j := pa_fi (pa_fi (pa_fi (pa_fi H2 fa596 (by omega)) fa599 (by omega)) fa602 (by omega)) (fl_one fb603) (by omega)
                obtain ⟨hm605, fa606, fb607⟩ := fl_mid fr480
                obtain ⟨hm608, fa609, fb610⟩ := fl_mid fb607
                obtain ⟨hm611, fa612, fb613⟩ := fl_mid fb610
                have g604 : px_pa h477 286 50 6 stN j := pa_fi (pa_fi (pa_fi (pa_fi H3 fa606 (by omega)) fa609 (by omega)) fa612 (by omega)) (fl_one fb613) (by omega)
                refine e_callV (As := [.int (nI n1)]) (rest := []) f_154_180 rfl rfl rfl (Nat.le_of_ble_eq_true rfl) (Nat.le_of_ble_eq_true rfl) g576 rfl (Nat.le_of_ble_eq_true rfl) (cc_Md_ri1 (n := n1) (x := s.1) (A := upA true s.2.1.1 (nI tt)) (B := upB true s.2.1.2.1 (nI tt)) (W := s.2.1.2.2) (ga := ga) (gp := gp) (gu := gu) (gv := gv) (j := j) (dn := s.2.2.2.2 + nI 1) (la := la) (lb := lb) (cb := cb) (lg := lg) g583 g584 g594 g604 (p0) (by omega) (by rw [← hn1, ← hLW]; exact hr) (p5) (p6) (fun k hk => Nat.le_trans (p7 k hk) (by omega))) rfl (fun h614 r615 q616 => ?_)
                obtain ⟨rfl, g617, fx618⟩ := q616
                obtain ⟨hm619, fa620, fb621⟩ := fl_mid fx618
                have fr622 : px_fl [(269, 1), (287, 1), (289, 3), (295, 1)] h hm619 := fl_tr fr480 fa620 (by first | exact ⟨_, List.mem_cons_self, by omega, by omega⟩ | exact ⟨_, List.mem_cons_of_mem _ (List.mem_cons_self), by omega, by omega⟩ | exact ⟨_, List.mem_cons_of_mem _ (List.mem_cons_of_mem _ (List.mem_cons_self)), by omega, by omega⟩ | exact ⟨_, List.mem_cons_of_mem _ (List.mem_cons_of_mem _ (List.mem_cons_of_mem _ (List.mem_cons_self))), by omega, by omega⟩)
                obtain ⟨hm623, fa624, fb625⟩ := fl_mid fb621
                have fr626 : px_fl [(269, 1), (287, 1), (289, 3), (295, 1)] h hm623 := fl_tr fr622 fa624 (by first | exact ⟨_, List.mem_cons_self, by omega, by omega⟩ | exact ⟨_, List.mem_cons_of_mem _ (List.mem_cons_self), by omega, by omega⟩ | exact ⟨_, List.mem_cons_of_mem _ (List.mem_cons_of_mem _ (List.mem_cons_self)), by omega, by omega⟩ | exact ⟨_, List.mem_cons_of_mem _ (List.mem_cons_of_mem _ (List.mem_cons_of_mem _ (List.mem_cons_self))), by omega, by omega⟩)
                obtain ⟨hm627, fa628, fb629⟩ := fl_mid fb625
                have fr630 : px_fl [(269, 1), (287, 1), (289, 3), (295, 1)] h hm627 := fl_tr fr626 fa628 (by first | exact ⟨_, List.mem_cons_self, by omega, by omega⟩ | exact ⟨_, List.mem_cons_of_mem _ (List.mem_cons_self), by omega, by omega⟩ | exact ⟨_, List.mem_cons_of_mem _ (List.mem_cons_of_mem _ (List.mem_cons_self)), by omega, by omega⟩ | exact ⟨_, List.mem_cons_of_mem _ (List.mem_cons_of_mem _ (List.mem_cons_of_mem _ (List.mem_cons_self))), by omega, by omega⟩)
                have fb631 := fl_one fb629
                have fr632 : px_fl [(269, 1), (287, 1), (289, 3), (295, 1)] h h614 := fl_tr fr630 fb631 (by first | exact ⟨_, List.mem_cons_self, by omega, by omega⟩ | exact ⟨_, List.mem_cons_of_mem _ (List.mem_cons_self), by omega, by omega⟩ | exact ⟨_, List.mem_cons_of_mem _ (List.mem_cons_of_mem _ (List.mem_cons_self)), by omega, by omega⟩ | exact ⟨_, List.mem_cons_of_mem _ (List.mem_cons_of_mem _ (List.mem_cons_of_mem _ (List.mem_cons_self))), by omega, by omega⟩)
                show px_to 154 183 [some (.ref (269)), some (.int (nI e)), some (.int (nI ((es.getD e (0, 0, 0, 0)).1))), some (.int (nI 1)), some (.int (nI 0)), some (.int (nI n1))] [] h614 _
                refine e_vret f_154_183 rfl ?_
                have ed := doEv_h1 (j := j) (la := la) (lb := lb) (s := s) (n := n1) hhh hbb (by rw [htt]; exact hr) (by rw [htt, hLW]; exact hn1) (by omega)
                rw [ed, htt]
                exact ⟨rfl, g617, fr632⟩
              · skip
                refine e_aload_n f_154_177 rfl rfl ?_
                refine e_iload f_154_178 rfl rfl ?_
                refine e_callV (As := [.int (upA true s.2.1.1 (nI tt))]) (rest := []) f_154_180 rfl rfl rfl (Nat.le_of_ble_eq_true rfl) (Nat.le_of_ble_eq_true rfl) g481 rfl (Nat.le_of_ble_eq_true rfl) (cc_Md_ri0 (w := upA true s.2.1.1 (nI tt)) (x := s.1) (sl := sl2.set 1 (nI tt)) (ga := ga) (gp := gp) (gq := (nI j.length, s.1.2.2.2.2.isSome, oI s.1.2.2.2.2, s.2.2.2.2 + (nI 1), la, lb, cb)) (gh := (nI lh3.length, nI lg.length)) (gw := gw1) (gu := gu) (gv := gv) g481 g478 (by rw [getD_set_ne (by omega), hR0.2.1.2.2.1, ← hLW]; exact Int32.not_lt.mp hr) (by rw [List.length_set]; exact hR0.1)) rfl (fun h633 r634 q635 => ?_)
                obtain ⟨rfl, qe⟩ := q635
                have qe := qe.symm
                subst qe
                show px_to 154 183 [some (.ref (269)), some (.int (nI e)), some (.int (nI ((es.getD e (0, 0, 0, 0)).1))), some (.int (nI 1)), some (.int (nI 0)), some (.int (upA true s.2.1.1 (nI tt)))] [] h477 _
                refine e_vret f_154_183 rfl ?_
                have ed := doEv_h0 (j := j) (la := la) (lb := lb) (s := s) hhh hbb (by rw [htt]; exact Int32.not_lt.mp hr)
                rw [ed, htt]
                have g636 : px_pa h12 295 50 30 Value.int cv4 := pa_fi g7 fx14 (by omega)
                have g637 : px_pa h477 295 50 30 Value.int cv4 := pa_fi g636 fx479 (by omega)
                have g638 : px_pa h12 289 54 100 rK lh3 := pa_fi g8 fx14 (by omega)
                have g639 : px_pa h477 289 54 100 rK lh3 := pa_fi g638 fx479 (by omega)
                have g640 : px_pa h12 290 50 100 rV lh3 := pa_fi g9 fx14 (by omega)
                have g641 : px_pa h477 290 50 100 rV lh3 := pa_fi g640 fx479 (by omega)
                have g642 : px_pa h12 291 50 100 rT lh3 := pa_fi g10 fx14 (by omega)
                have g643 : px_pa h477 291 50 100 rT lh3 := pa_fi g642 fx479 (by omega)
                exact ⟨rfl, ⟨_, _, _, _, g481, g478, g637, g639, g641, g643, hW2⟩, fr480⟩
            · skip
              have c_130 : lb = true := bI_t' c_130
              refine e_aload_n f_154_133 rfl rfl ?_
              refine e_getf f_154_134 g481 rfl rfl ?_
              refine e_iconst (v := nI 1) f_154_137 (by decide) rfl ?_
              refine e_iaload_p (xs := sl2.set 1 (nI tt)) f_154_138 g478 (d := 0) (by first | omega | (simp only [List.length_set]; omega)) rfl ?_
              show px_to 154 139 [some (.ref (269)), some (.int (nI e)), some (.int (nI ((es.getD e (0, 0, 0, 0)).1))), some (.int (nI 1)), none, none] [.int ((sl2.set 1 (nI tt)).getD 1 0)] h477 _
              rw [eB]
              refine e_aload_n f_154_139 rfl rfl ?_
              refine e_getf f_154_140 g481 rfl rfl ?_
              refine e_iconst (v := nI 0) f_154_143 (by decide) rfl ?_
              refine e_iaload_p (xs := sl2.set 1 (nI tt)) f_154_144 g478 (d := 0) (by first | omega | (simp only [List.length_set]; omega)) rfl ?_
              show px_to 154 145 [some (.ref (269)), some (.int (nI e)), some (.int (nI ((es.getD e (0, 0, 0, 0)).1))), some (.int (nI 1)), none, none] [.int ((sl2.set 1 (nI tt)).getD 0 0), .int (upB true s.2.1.2.1 (nI tt))] h477 _
              rw [eA]
              refine e_icmp_ge f_154_145 rfl (fun c_145 => ?_) (fun c_145 => ?_)
              · skip
                refine e_iconst (v := nI 0) f_154_152 (by decide) rfl ?_
                refine e_istore (L' := [some (.ref (269)), some (.int (nI e)), some (.int (nI ((es.getD e (0, 0, 0, 0)).1))), some (.int (nI 1)), some (.int (nI 0)), none]) f_154_153 (Nat.le_of_ble_eq_true rfl) rfl rfl ?_
                refine e_iload f_154_155 rfl rfl ?_
                refine e_if_eq_t f_154_157 (by decide) ?_
                refine e_aload_n f_154_169 rfl rfl ?_
                refine e_getf f_154_170 g481 rfl rfl ?_
                refine e_iconst (v := nI 0) f_154_173 (by decide) rfl ?_
                refine e_iaload_p (xs := sl2.set 1 (nI tt)) f_154_174 g478 (d := 0) (by first | omega | (simp only [List.length_set]; omega)) rfl ?_
                show px_to 154 175 [some (.ref (269)), some (.int (nI e)), some (.int (nI ((es.getD e (0, 0, 0, 0)).1))), some (.int (nI 1)), some (.int (nI 0)), none] [.int ((sl2.set 1 (nI tt)).getD 0 0)] h477 _
                rw [eA]
                refine e_istore (L' := [some (.ref (269)), some (.int (nI e)), some (.int (nI ((es.getD e (0, 0, 0, 0)).1))), some (.int (nI 1)), some (.int (nI 0)), some (.int (upA true s.2.1.1 (nI tt)))]) f_154_175 (Nat.le_of_ble_eq_true rfl) rfl rfl ?_
                have hLW : lesW la lb (upA true s.2.1.1 (nI tt)) (upB true s.2.1.2.1 (nI tt)) = upA true s.2.1.1 (nI tt) := by unfold lesW; rw [c_123, if_pos rfl, c_130, if_pos rfl]; unfold iMin; rw [if_neg (Int32.not_lt.mpr c_145)]
                have hW9 : okW9 (lesW la lb (upA true s.2.1.1 (nI tt)) (upB true s.2.1.2.1 (nI tt))) := okW9_les (okW9_upA p9.1 (Or.inr ⟨tt, ht9, rfl⟩)) (okW9_upB p9.2.1 (Or.inr ⟨tt, ht9, rfl⟩))
                by_cases hr : s.2.1.2.2 < lesW la lb (upA true s.2.1.1 (nI tt)) (upB true s.2.1.2.1 (nI tt))
                · skip
                  obtain ⟨n1, hn9, hn1⟩ := okW9_gt p9.2.2 hW9 hr
                  rw [hLW] at hn1
                  rw [hn1]
                  have g644 : px_pa h12 295 50 30 Value.int cv4 := pa_fi g7 fx14 (by omega)
                  have g645 : px_pa h477 295 50 30 Value.int cv4 := pa_fi g644 fx479 (by omega)
                  have g646 : px_pa h12 289 54 100 rK lh3 := pa_fi g8 fx14 (by omega)
                  have g647 : px_pa h477 289 54 100 rK lh3 := pa_fi g646 fx479 (by omega)
                  have g648 : px_pa h12 290 50 100 rV lh3 := pa_fi g9 fx14 (by omega)
                  have g649 : px_pa h477 290 50 100 rV lh3 := pa_fi g648 fx479 (by omega)
                  have g650 : px_pa h12 291 50 100 rT lh3 := pa_fi g10 fx14 (by omega)
                  have g651 : px_pa h477 291 50 100 rT lh3 := pa_fi g650 fx479 (by omega)
                  have g652 : pRZ h477 ga gp gu gv j (s.2.2.2.2 + nI 1) la lb cb lg (upA true s.2.1.1 (nI tt)) (upB true s.2.1.2.1 (nI tt)) s.2.1.2.2 s.1 := by exact ⟨_, _, _, _, g481, g478, g645, g647, g649, g651, hW2⟩
                  refine e_aload_n f_154_177 rfl rfl ?_
                  refine e_iload f_154_178 rfl rfl ?_
                  obtain ⟨gw653, sl654, lh655, cv656, g657, g658, g659, g660, g661, g662, hR663⟩ := id g652
                  have g664 : pRZ h477 ga gp gu gv j (s.2.2.2.2 + nI 1) la lb cb lg (upA true s.2.1.1 (nI tt)) (upB true s.2.1.2.1 (nI tt)) s.2.1.2.2 s.1 := ⟨_, _, _, _, g657, g658, g659, g660, g661, g662, hR663⟩
                  obtain ⟨hm666, fa667, fb668⟩ := fl_mid fr480
                  obtain ⟨hm669, fa670, fb671⟩ := fl_mid fb668
                  obtain ⟨hm672, fa673, fb674⟩ := fl_mid fb671
                  have g665 : px_pa h477 284 52 6 stS j := pa_fi (pa_fi (pa_fi (pa_fi H1 fa667 (by omega)) fa670 (by omega)) fa673 (by omega)) (fl_one fb674) (by omega)
                  obtain ⟨hm676, fa677, fb678⟩ := fl_mid fr480
                  obtain ⟨hm679, fa680, fb681⟩ := fl_mid fb678
                  obtain ⟨hm682, fa683, fb684⟩ := fl_mid fb681
                  have g675 : px_pa h477 285 52 6 stA j := pa_fi (pa_fi (pa_fi (pa_fi H2 fa677 (by omega)) fa680 (by omega)) fa683 (by omega)) (fl_one fb684) (by omega)
                  obtain ⟨hm686, fa687, fb688⟩ := fl_mid fr480
                  obtain ⟨hm689, fa690, fb691⟩ := fl_mid fb688
                  obtain ⟨hm692, fa693, fb694⟩ := fl_mid fb691
                  have g685 : px_pa h477 286 50 6 stN j := pa_fi (pa_fi (pa_fi (pa_fi H3 fa687 (by omega)) fa690 (by omega)) fa693 (by omega)) (fl_one fb694) (by omega)
                  refine e_callV (As := [.int (nI n1)]) (rest := []) f_154_180 rfl rfl rfl (Nat.le_of_ble_eq_true rfl) (Nat.le_of_ble_eq_true rfl) g657 rfl (Nat.le_of_ble_eq_true rfl) (cc_Md_ri1 (n := n1) (x := s.1) (A := upA true s.2.1.1 (nI tt)) (B := upB true s.2.1.2.1 (nI tt)) (W := s.2.1.2.2) (ga := ga) (gp := gp) (gu := gu) (gv := gv) (j := j) (dn := s.2.2.2.2 + nI 1) (la := la) (lb := lb) (cb := cb) (lg := lg) g664 g665 g675 g685 (p0) (by omega) (by rw [← hn1, ← hLW]; exact hr) (p5) (p6) (fun k hk => Nat.le_trans (p7 k hk) (by omega))) rfl (fun h695 r696 q697 => ?_)
                  obtain ⟨rfl, g698, fx699⟩ := q697
                  obtain ⟨hm700, fa701, fb702⟩ := fl_mid fx699
                  have fr703 : px_fl [(269, 1), (287, 1), (289, 3), (295, 1)] h hm700 := fl_tr fr480 fa701 (by first | exact ⟨_, List.mem_cons_self, by omega, by omega⟩ | exact ⟨_, List.mem_cons_of_mem _ (List.mem_cons_self), by omega, by omega⟩ | exact ⟨_, List.mem_cons_of_mem _ (List.mem_cons_of_mem _ (List.mem_cons_self)), by omega, by omega⟩ | exact ⟨_, List.mem_cons_of_mem _ (List.mem_cons_of_mem _ (List.mem_cons_of_mem _ (List.mem_cons_self))), by omega, by omega⟩)
                  obtain ⟨hm704, fa705, fb706⟩ := fl_mid fb702
                  have fr707 : px_fl [(269, 1), (287, 1), (289, 3), (295, 1)] h hm704 := fl_tr fr703 fa705 (by first | exact ⟨_, List.mem_cons_self, by omega, by omega⟩ | exact ⟨_, List.mem_cons_of_mem _ (List.mem_cons_self), by omega, by omega⟩ | exact ⟨_, List.mem_cons_of_mem _ (List.mem_cons_of_mem _ (List.mem_cons_self)), by omega, by omega⟩ | exact ⟨_, List.mem_cons_of_mem _ (List.mem_cons_of_mem _ (List.mem_cons_of_mem _ (List.mem_cons_self))), by omega, by omega⟩)
                  obtain ⟨hm708, fa709, fb710⟩ := fl_mid fb706
                  have fr711 : px_fl [(269, 1), (287, 1), (289, 3), (295, 1)] h hm708 := fl_tr fr707 fa709 (by first | exact ⟨_, List.mem_cons_self, by omega, by omega⟩ | exact ⟨_, List.mem_cons_of_mem _ (List.mem_cons_self), by omega, by omega⟩ | exact ⟨_, List.mem_cons_of_mem _ (List.mem_cons_of_mem _ (List.mem_cons_self)), by omega, by omega⟩ | exact ⟨_, List.mem_cons_of_mem _ (List.mem_cons_of_mem _ (List.mem_cons_of_mem _ (List.mem_cons_self))), by omega, by omega⟩)
                  have fb712 := fl_one fb710
                  have fr713 : px_fl [(269, 1), (287, 1), (289, 3), (295, 1)] h h695 := fl_tr fr711 fb712 (by first | exact ⟨_, List.mem_cons_self, by omega, by omega⟩ | exact ⟨_, List.mem_cons_of_mem _ (List.mem_cons_self), by omega, by omega⟩ | exact ⟨_, List.mem_cons_of_mem _ (List.mem_cons_of_mem _ (List.mem_cons_self)), by omega, by omega⟩ | exact ⟨_, List.mem_cons_of_mem _ (List.mem_cons_of_mem _ (List.mem_cons_of_mem _ (List.mem_cons_self))), by omega, by omega⟩)
                  show px_to 154 183 [some (.ref (269)), some (.int (nI e)), some (.int (nI ((es.getD e (0, 0, 0, 0)).1))), some (.int (nI 1)), some (.int (nI 0)), some (.int (nI n1))] [] h695 _
                  refine e_vret f_154_183 rfl ?_
                  have ed := doEv_h1 (j := j) (la := la) (lb := lb) (s := s) (n := n1) hhh hbb (by rw [htt]; exact hr) (by rw [htt, hLW]; exact hn1) (by omega)
                  rw [ed, htt]
                  exact ⟨rfl, g698, fr713⟩
                · skip
                  refine e_aload_n f_154_177 rfl rfl ?_
                  refine e_iload f_154_178 rfl rfl ?_
                  refine e_callV (As := [.int (upA true s.2.1.1 (nI tt))]) (rest := []) f_154_180 rfl rfl rfl (Nat.le_of_ble_eq_true rfl) (Nat.le_of_ble_eq_true rfl) g481 rfl (Nat.le_of_ble_eq_true rfl) (cc_Md_ri0 (w := upA true s.2.1.1 (nI tt)) (x := s.1) (sl := sl2.set 1 (nI tt)) (ga := ga) (gp := gp) (gq := (nI j.length, s.1.2.2.2.2.isSome, oI s.1.2.2.2.2, s.2.2.2.2 + (nI 1), la, lb, cb)) (gh := (nI lh3.length, nI lg.length)) (gw := gw1) (gu := gu) (gv := gv) g481 g478 (by rw [getD_set_ne (by omega), hR0.2.1.2.2.1, ← hLW]; exact Int32.not_lt.mp hr) (by rw [List.length_set]; exact hR0.1)) rfl (fun h714 r715 q716 => ?_)
                  obtain ⟨rfl, qe⟩ := q716
                  have qe := qe.symm
                  subst qe
                  show px_to 154 183 [some (.ref (269)), some (.int (nI e)), some (.int (nI ((es.getD e (0, 0, 0, 0)).1))), some (.int (nI 1)), some (.int (nI 0)), some (.int (upA true s.2.1.1 (nI tt)))] [] h477 _
                  refine e_vret f_154_183 rfl ?_
                  have ed := doEv_h0 (j := j) (la := la) (lb := lb) (s := s) hhh hbb (by rw [htt]; exact Int32.not_lt.mp hr)
                  rw [ed, htt]
                  have g717 : px_pa h12 295 50 30 Value.int cv4 := pa_fi g7 fx14 (by omega)
                  have g718 : px_pa h477 295 50 30 Value.int cv4 := pa_fi g717 fx479 (by omega)
                  have g719 : px_pa h12 289 54 100 rK lh3 := pa_fi g8 fx14 (by omega)
                  have g720 : px_pa h477 289 54 100 rK lh3 := pa_fi g719 fx479 (by omega)
                  have g721 : px_pa h12 290 50 100 rV lh3 := pa_fi g9 fx14 (by omega)
                  have g722 : px_pa h477 290 50 100 rV lh3 := pa_fi g721 fx479 (by omega)
                  have g723 : px_pa h12 291 50 100 rT lh3 := pa_fi g10 fx14 (by omega)
                  have g724 : px_pa h477 291 50 100 rT lh3 := pa_fi g723 fx479 (by omega)
                  exact ⟨rfl, ⟨_, _, _, _, g481, g478, g718, g720, g722, g724, hW2⟩, fr480⟩
              · skip
                refine e_iconst (v := nI 1) f_154_148 (by decide) rfl ?_
                refine e_goto f_154_149 ?_
                refine e_istore (L' := [some (.ref (269)), some (.int (nI e)), some (.int (nI ((es.getD e (0, 0, 0, 0)).1))), some (.int (nI 1)), some (.int (nI 1)), none]) f_154_153 (Nat.le_of_ble_eq_true rfl) rfl rfl ?_
                refine e_iload f_154_155 rfl rfl ?_
                refine e_if_eq_f f_154_157 (by decide) rfl ?_
                refine e_aload_n f_154_160 rfl rfl ?_
                refine e_getf f_154_161 g481 rfl rfl ?_
                refine e_iconst (v := nI 1) f_154_164 (by decide) rfl ?_
                refine e_iaload_p (xs := sl2.set 1 (nI tt)) f_154_165 g478 (d := 0) (by first | omega | (simp only [List.length_set]; omega)) rfl ?_
                show px_to 154 166 [some (.ref (269)), some (.int (nI e)), some (.int (nI ((es.getD e (0, 0, 0, 0)).1))), some (.int (nI 1)), some (.int (nI 1)), none] [.int ((sl2.set 1 (nI tt)).getD 1 0)] h477 _
                rw [eB]
                refine e_goto f_154_166 ?_
                refine e_istore (L' := [some (.ref (269)), some (.int (nI e)), some (.int (nI ((es.getD e (0, 0, 0, 0)).1))), some (.int (nI 1)), some (.int (nI 1)), some (.int (upB true s.2.1.2.1 (nI tt)))]) f_154_175 (Nat.le_of_ble_eq_true rfl) rfl rfl ?_
                have hLW : lesW la lb (upA true s.2.1.1 (nI tt)) (upB true s.2.1.2.1 (nI tt)) = upB true s.2.1.2.1 (nI tt) := by unfold lesW; rw [c_123, if_pos rfl, c_130, if_pos rfl]; unfold iMin; rw [if_pos (Int32.not_le.mp c_145)]
                have hW9 : okW9 (lesW la lb (upA true s.2.1.1 (nI tt)) (upB true s.2.1.2.1 (nI tt))) := okW9_les (okW9_upA p9.1 (Or.inr ⟨tt, ht9, rfl⟩)) (okW9_upB p9.2.1 (Or.inr ⟨tt, ht9, rfl⟩))
                by_cases hr : s.2.1.2.2 < lesW la lb (upA true s.2.1.1 (nI tt)) (upB true s.2.1.2.1 (nI tt))
                · skip
                  obtain ⟨n1, hn9, hn1⟩ := okW9_gt p9.2.2 hW9 hr
                  rw [hLW] at hn1
                  rw [hn1]
                  have g725 : px_pa h12 295 50 30 Value.int cv4 := pa_fi g7 fx14 (by omega)
                  have g726 : px_pa h477 295 50 30 Value.int cv4 := pa_fi g725 fx479 (by omega)
                  have g727 : px_pa h12 289 54 100 rK lh3 := pa_fi g8 fx14 (by omega)
                  have g728 : px_pa h477 289 54 100 rK lh3 := pa_fi g727 fx479 (by omega)
                  have g729 : px_pa h12 290 50 100 rV lh3 := pa_fi g9 fx14 (by omega)
                  have g730 : px_pa h477 290 50 100 rV lh3 := pa_fi g729 fx479 (by omega)
                  have g731 : px_pa h12 291 50 100 rT lh3 := pa_fi g10 fx14 (by omega)
                  have g732 : px_pa h477 291 50 100 rT lh3 := pa_fi g731 fx479 (by omega)
                  have g733 : pRZ h477 ga gp gu gv j (s.2.2.2.2 + nI 1) la lb cb lg (upA true s.2.1.1 (nI tt)) (upB true s.2.1.2.1 (nI tt)) s.2.1.2.2 s.1 := by exact ⟨_, _, _, _, g481, g478, g726, g728, g730, g732, hW2⟩
                  refine e_aload_n f_154_177 rfl rfl ?_
                  refine e_iload f_154_178 rfl rfl ?_
                  obtain ⟨gw734, sl735, lh736, cv737, g738, g739, g740, g741, g742, g743, hR744⟩ := id g733
                  have g745 : pRZ h477 ga gp gu gv j (s.2.2.2.2 + nI 1) la lb cb lg (upA true s.2.1.1 (nI tt)) (upB true s.2.1.2.1 (nI tt)) s.2.1.2.2 s.1 := ⟨_, _, _, _, g738, g739, g740, g741, g742, g743, hR744⟩
                  obtain ⟨hm747, fa748, fb749⟩ := fl_mid fr480
                  obtain ⟨hm750, fa751, fb752⟩ := fl_mid fb749
                  obtain ⟨hm753, fa754, fb755⟩ := fl_mid fb752
                  have g746 : px_pa h477 284 52 6 stS j := pa_fi (pa_fi (pa_fi (pa_fi H1 fa748 (by omega)) fa751 (by omega)) fa754 (by omega)) (fl_one fb755) (by omega)
                  obtain ⟨hm757, fa758, fb759⟩ := fl_mid fr480
                  obtain ⟨hm760, fa761, fb762⟩ := fl_mid fb759
                  obtain ⟨hm763, fa764, fb765⟩ := fl_mid fb762
                  have g756 : px_pa h477 285 52 6 stA j := pa_fi (pa_fi (pa_fi (pa_fi H2 fa758 (by omega)) fa761 (by omega)) fa764 (by omega)) (fl_one fb765) (by omega)
                  obtain ⟨hm767, fa768, fb769⟩ := fl_mid fr480
                  obtain ⟨hm770, fa771, fb772⟩ := fl_mid fb769
                  obtain ⟨hm773, fa774, fb775⟩ := fl_mid fb772
                  have g766 : px_pa h477 286 50 6 stN j := pa_fi (pa_fi (pa_fi (pa_fi H3 fa768 (by omega)) fa771 (by omega)) fa774 (by omega)) (fl_one fb775) (by omega)
                  refine e_callV (As := [.int (nI n1)]) (rest := []) f_154_180 rfl rfl rfl (Nat.le_of_ble_eq_true rfl) (Nat.le_of_ble_eq_true rfl) g738 rfl (Nat.le_of_ble_eq_true rfl) (cc_Md_ri1 (n := n1) (x := s.1) (A := upA true s.2.1.1 (nI tt)) (B := upB true s.2.1.2.1 (nI tt)) (W := s.2.1.2.2) (ga := ga) (gp := gp) (gu := gu) (gv := gv) (j := j) (dn := s.2.2.2.2 + nI 1) (la := la) (lb := lb) (cb := cb) (lg := lg) g745 g746 g756 g766 (p0) (by omega) (by rw [← hn1, ← hLW]; exact hr) (p5) (p6) (fun k hk => Nat.le_trans (p7 k hk) (by omega))) rfl (fun h776 r777 q778 => ?_)
                  obtain ⟨rfl, g779, fx780⟩ := q778
                  obtain ⟨hm781, fa782, fb783⟩ := fl_mid fx780
                  have fr784 : px_fl [(269, 1), (287, 1), (289, 3), (295, 1)] h hm781 := fl_tr fr480 fa782 (by first | exact ⟨_, List.mem_cons_self, by omega, by omega⟩ | exact ⟨_, List.mem_cons_of_mem _ (List.mem_cons_self), by omega, by omega⟩ | exact ⟨_, List.mem_cons_of_mem _ (List.mem_cons_of_mem _ (List.mem_cons_self)), by omega, by omega⟩ | exact ⟨_, List.mem_cons_of_mem _ (List.mem_cons_of_mem _ (List.mem_cons_of_mem _ (List.mem_cons_self))), by omega, by omega⟩)
                  obtain ⟨hm785, fa786, fb787⟩ := fl_mid fb783
                  have fr788 : px_fl [(269, 1), (287, 1), (289, 3), (295, 1)] h hm785 := fl_tr fr784 fa786 (by first | exact ⟨_, List.mem_cons_self, by omega, by omega⟩ | exact ⟨_, List.mem_cons_of_mem _ (List.mem_cons_self), by omega, by omega⟩ | exact ⟨_, List.mem_cons_of_mem _ (List.mem_cons_of_mem _ (List.mem_cons_self)), by omega, by omega⟩ | exact ⟨_, List.mem_cons_of_mem _ (List.mem_cons_of_mem _ (List.mem_cons_of_mem _ (List.mem_cons_self))), by omega, by omega⟩)
                  obtain ⟨hm789, fa790, fb791⟩ := fl_mid fb787
                  have fr792 : px_fl [(269, 1), (287, 1), (289, 3), (295, 1)] h hm789 := fl_tr fr788 fa790 (by first | exact ⟨_, List.mem_cons_self, by omega, by omega⟩ | exact ⟨_, List.mem_cons_of_mem _ (List.mem_cons_self), by omega, by omega⟩ | exact ⟨_, List.mem_cons_of_mem _ (List.mem_cons_of_mem _ (List.mem_cons_self)), by omega, by omega⟩ | exact ⟨_, List.mem_cons_of_mem _ (List.mem_cons_of_mem _ (List.mem_cons_of_mem _ (List.mem_cons_self))), by omega, by omega⟩)
                  have fb793 := fl_one fb791
                  have fr794 : px_fl [(269, 1), (287, 1), (289, 3), (295, 1)] h h776 := fl_tr fr792 fb793 (by first | exact ⟨_, List.mem_cons_self, by omega, by omega⟩ | exact ⟨_, List.mem_cons_of_mem _ (List.mem_cons_self), by omega, by omega⟩ | exact ⟨_, List.mem_cons_of_mem _ (List.mem_cons_of_mem _ (List.mem_cons_self)), by omega, by omega⟩ | exact ⟨_, List.mem_cons_of_mem _ (List.mem_cons_of_mem _ (List.mem_cons_of_mem _ (List.mem_cons_self))), by omega, by omega⟩)
                  show px_to 154 183 [some (.ref (269)), some (.int (nI e)), some (.int (nI ((es.getD e (0, 0, 0, 0)).1))), some (.int (nI 1)), some (.int (nI 1)), some (.int (nI n1))] [] h776 _
                  refine e_vret f_154_183 rfl ?_
                  have ed := doEv_h1 (j := j) (la := la) (lb := lb) (s := s) (n := n1) hhh hbb (by rw [htt]; exact hr) (by rw [htt, hLW]; exact hn1) (by omega)
                  rw [ed, htt]
                  exact ⟨rfl, g779, fr794⟩
                · skip
                  refine e_aload_n f_154_177 rfl rfl ?_
                  refine e_iload f_154_178 rfl rfl ?_
                  refine e_callV (As := [.int (upB true s.2.1.2.1 (nI tt))]) (rest := []) f_154_180 rfl rfl rfl (Nat.le_of_ble_eq_true rfl) (Nat.le_of_ble_eq_true rfl) g481 rfl (Nat.le_of_ble_eq_true rfl) (cc_Md_ri0 (w := upB true s.2.1.2.1 (nI tt)) (x := s.1) (sl := sl2.set 1 (nI tt)) (ga := ga) (gp := gp) (gq := (nI j.length, s.1.2.2.2.2.isSome, oI s.1.2.2.2.2, s.2.2.2.2 + (nI 1), la, lb, cb)) (gh := (nI lh3.length, nI lg.length)) (gw := gw1) (gu := gu) (gv := gv) g481 g478 (by rw [getD_set_ne (by omega), hR0.2.1.2.2.1, ← hLW]; exact Int32.not_lt.mp hr) (by rw [List.length_set]; exact hR0.1)) rfl (fun h795 r796 q797 => ?_)
                  obtain ⟨rfl, qe⟩ := q797
                  have qe := qe.symm
                  subst qe
                  show px_to 154 183 [some (.ref (269)), some (.int (nI e)), some (.int (nI ((es.getD e (0, 0, 0, 0)).1))), some (.int (nI 1)), some (.int (nI 1)), some (.int (upB true s.2.1.2.1 (nI tt)))] [] h477 _
                  refine e_vret f_154_183 rfl ?_
                  have ed := doEv_h0 (j := j) (la := la) (lb := lb) (s := s) hhh hbb (by rw [htt]; exact Int32.not_lt.mp hr)
                  rw [ed, htt]
                  have g798 : px_pa h12 295 50 30 Value.int cv4 := pa_fi g7 fx14 (by omega)
                  have g799 : px_pa h477 295 50 30 Value.int cv4 := pa_fi g798 fx479 (by omega)
                  have g800 : px_pa h12 289 54 100 rK lh3 := pa_fi g8 fx14 (by omega)
                  have g801 : px_pa h477 289 54 100 rK lh3 := pa_fi g800 fx479 (by omega)
                  have g802 : px_pa h12 290 50 100 rV lh3 := pa_fi g9 fx14 (by omega)
                  have g803 : px_pa h477 290 50 100 rV lh3 := pa_fi g802 fx479 (by omega)
                  have g804 : px_pa h12 291 50 100 rT lh3 := pa_fi g10 fx14 (by omega)
                  have g805 : px_pa h477 291 50 100 rT lh3 := pa_fi g804 fx479 (by omega)
                  exact ⟨rfl, ⟨_, _, _, _, g481, g478, g799, g801, g803, g805, hW2⟩, fr480⟩
      · skip
        have c_68 : (es.getD e (0, 0, 0, 0)).1 = 104 := cv_nne (by omega) (by omega) c_68
        refine e_iconst (v := nI 0) f_154_71 (by decide) rfl ?_
        refine e_goto f_154_72 ?_
        refine e_istore_n (L' := [some (.ref (269)), some (.int (nI e)), some (.int (nI ((es.getD e (0, 0, 0, 0)).1))), some (.int (nI 0)), none, none]) f_154_76 (Nat.le_of_ble_eq_true rfl) rfl rfl ?_
        refine e_aload_n f_154_77 rfl rfl ?_
        refine e_getf f_154_78 g13 rfl rfl ?_
        refine e_iconst (v := nI 0) f_154_81 (by decide) rfl ?_
        refine e_iload_n f_154_82 rfl rfl ?_
        refine e_iadd (z := nI 0) f_154_83 ((nI_add _ _).trans (congrArg nI (by omega))) rfl ?_
        refine e_aload_n f_154_84 rfl rfl ?_
        refine e_getf f_154_85 g13 rfl rfl ?_
        refine e_iload_n f_154_88 rfl rfl ?_
        obtain ⟨hm807, fa808, fb809⟩ := fl_mid fr15
        obtain ⟨hm810, fa811, fb812⟩ := fl_mid fb809
        obtain ⟨hm813, fa814, fb815⟩ := fl_mid fb812
        have g806 : px_pa h12 278 53 192 evT es := pa_fi (pa_fi (pa_fi (pa_fi H7 fa808 (by omega)) fa811 (by omega)) fa814 (by omega)) (fl_one fb815) (by omega)
        refine e_saload_p (xs := es) f_154_89 g806 (d := (0, 0, 0, 0)) (by first | omega | (simp only [List.length_set]; omega)) rfl ?_
        show px_to 154 90 [some (.ref (269)), some (.int (nI e)), some (.int (nI ((es.getD e (0, 0, 0, 0)).1))), some (.int (nI 0)), none, none] [.int ((es.getD e (0, 0, 0, 0)).2.2.2), .int (nI 0), .ref (287)] h12 _
        rw [htt]
        refine e_aload_n f_154_90 rfl rfl ?_
        refine e_getf f_154_91 g13 rfl rfl ?_
        refine e_iconst (v := nI 0) f_154_94 (by decide) rfl ?_
        refine e_iload_n f_154_95 rfl rfl ?_
        refine e_iadd (z := nI 0) f_154_96 ((nI_add _ _).trans (congrArg nI (by omega))) rfl ?_
        have g816 : px_pa h12 287 50 3070 Value.int sl2 := pa_fi g6 fx14 (by omega)
        refine e_iaload_p (xs := sl2) f_154_97 g816 (d := 0) (by first | omega | (simp only [List.length_set]; omega)) rfl ?_
        show px_to 154 98 [some (.ref (269)), some (.int (nI e)), some (.int (nI ((es.getD e (0, 0, 0, 0)).1))), some (.int (nI 0)), none, none] [.int (sl2.getD 0 0), .int (nI tt), .int (nI 0), .ref (287)] h12 _
        rw [hR0.2.1.1]
        refine e_icmp_le f_154_98 rfl (fun c_98 => ?_) (fun c_98 => ?_)
        · skip
          refine e_aload_n f_154_110 rfl rfl ?_
          refine e_getf f_154_111 g13 rfl rfl ?_
          refine e_iconst (v := nI 0) f_154_114 (by decide) rfl ?_
          refine e_iload_n f_154_115 rfl rfl ?_
          refine e_iadd (z := nI 0) f_154_116 ((nI_add _ _).trans (congrArg nI (by omega))) rfl ?_
          refine e_iaload_p (xs := sl2) f_154_117 g816 (d := 0) (by first | omega | (simp only [List.length_set]; omega)) rfl ?_
          show px_to 154 118 [some (.ref (269)), some (.int (nI e)), some (.int (nI ((es.getD e (0, 0, 0, 0)).1))), some (.int (nI 0)), none, none] [.int (sl2.getD 0 0), .int (nI 0), .ref (287)] h12 _
          rw [hR0.2.1.1]
          refine e_iastore_p (xs := sl2) (x := s.2.1.1) f_154_118 g816 (by omega) (by first | omega | (simp only [List.length_set]; omega)) (rfl) rfl (fun h817 g818 fx819 => ?_)
          have fr820 : px_fl [(269, 1), (287, 1), (289, 3), (295, 1)] h h817 := fl_tr fr15 fx819 (by first | exact ⟨_, List.mem_cons_self, by omega, by omega⟩ | exact ⟨_, List.mem_cons_of_mem _ (List.mem_cons_self), by omega, by omega⟩ | exact ⟨_, List.mem_cons_of_mem _ (List.mem_cons_of_mem _ (List.mem_cons_self)), by omega, by omega⟩ | exact ⟨_, List.mem_cons_of_mem _ (List.mem_cons_of_mem _ (List.mem_cons_of_mem _ (List.mem_cons_self))), by omega, by omega⟩)
          have hmx : iMax s.2.1.1 (nI tt) = s.2.1.1 := by unfold iMax; rw [if_neg (Int32.not_lt.mpr c_98)]
          have eA : (sl2.set 0 (s.2.1.1)).getD 0 0 = upA false s.2.1.1 (nI tt) := by rw [getD_set_same (by omega)]; exact hmx.symm
          have eB : (sl2.set 0 (s.2.1.1)).getD 1 0 = upB false s.2.1.2.1 (nI tt) := by rw [getD_set_ne (by omega)]; exact hR0.2.1.2.1
          have hbb : decide ((es.getD e (0, 0, 0, 0)).1 = 72) = false := decide_eq_false (by omega)
          have hW2 : relZ j cb lg (upA false s.2.1.1 (nI tt)) (upB false s.2.1.2.1 (nI tt)) s.2.1.2.2 s.1 (sl2.set 0 (s.2.1.1)) lh3 cv4 := ⟨by rw [List.length_set]; exact hR0.1, ⟨eA, eB, by rw [getD_set_ne (by omega)]; exact hR0.2.1.2.2.1, by rw [getD_set_ne (by omega)]; exact hR0.2.1.2.2.2⟩, fun z => MSt_eq (hR0.2.2.1 z) (fun i h1 h2 => getD_set_ne (by omega)), hR0.2.2.2⟩
          refine e_aload_n f_154_119 rfl rfl ?_
          have g821 : h817.2.2 269 = some (12, mB ga gp (nI j.length, s.1.2.2.2.2.isSome, oI s.1.2.2.2.2, s.2.2.2.2 + (nI 1), la, lb, cb) (nI lh3.length, nI lg.length) gw1 gu gv) := fi_at g13 fx819 (by omega)
          refine e_getf f_154_120 g821 rfl rfl ?_
          show px_to 154 123 [some (.ref (269)), some (.int (nI e)), some (.int (nI ((es.getD e (0, 0, 0, 0)).1))), some (.int (nI 0)), none, none] [.int (bI la)] h817 _
          refine e_if_eq f_154_123 rfl (fun c_123 => ?_) (fun c_123 => ?_)
          · skip
            have c_123 : la = false := bI_f c_123
            refine e_iconst (v := nI 1) f_154_148 (by decide) rfl ?_
            refine e_goto f_154_149 ?_
            refine e_istore (L' := [some (.ref (269)), some (.int (nI e)), some (.int (nI ((es.getD e (0, 0, 0, 0)).1))), some (.int (nI 0)), some (.int (nI 1)), none]) f_154_153 (Nat.le_of_ble_eq_true rfl) rfl rfl ?_
            refine e_iload f_154_155 rfl rfl ?_
            refine e_if_eq_f f_154_157 (by decide) rfl ?_
            refine e_aload_n f_154_160 rfl rfl ?_
            refine e_getf f_154_161 g821 rfl rfl ?_
            refine e_iconst (v := nI 1) f_154_164 (by decide) rfl ?_
            refine e_iaload_p (xs := sl2.set 0 s.2.1.1) f_154_165 g818 (d := 0) (by first | omega | (simp only [List.length_set]; omega)) rfl ?_
            show px_to 154 166 [some (.ref (269)), some (.int (nI e)), some (.int (nI ((es.getD e (0, 0, 0, 0)).1))), some (.int (nI 0)), some (.int (nI 1)), none] [.int ((sl2.set 0 s.2.1.1).getD 1 0)] h817 _
            rw [eB]
            refine e_goto f_154_166 ?_
            refine e_istore (L' := [some (.ref (269)), some (.int (nI e)), some (.int (nI ((es.getD e (0, 0, 0, 0)).1))), some (.int (nI 0)), some (.int (nI 1)), some (.int (upB false s.2.1.2.1 (nI tt)))]) f_154_175 (Nat.le_of_ble_eq_true rfl) rfl rfl ?_
            have hLW : lesW la lb (upA false s.2.1.1 (nI tt)) (upB false s.2.1.2.1 (nI tt)) = upB false s.2.1.2.1 (nI tt) := by unfold lesW; rw [c_123, if_neg (by decide), if_pos (absurd (p10.1 (by omega)) (by rw [c_123]; decide))]
            have hW9 : okW9 (lesW la lb (upA false s.2.1.1 (nI tt)) (upB false s.2.1.2.1 (nI tt))) := okW9_les (okW9_upA p9.1 (Or.inr ⟨tt, ht9, rfl⟩)) (okW9_upB p9.2.1 (Or.inr ⟨tt, ht9, rfl⟩))
            by_cases hr : s.2.1.2.2 < lesW la lb (upA false s.2.1.1 (nI tt)) (upB false s.2.1.2.1 (nI tt))
            · skip
              obtain ⟨n1, hn9, hn1⟩ := okW9_gt p9.2.2 hW9 hr
              rw [hLW] at hn1
              rw [hn1]
              have g822 : px_pa h12 295 50 30 Value.int cv4 := pa_fi g7 fx14 (by omega)
              have g823 : px_pa h817 295 50 30 Value.int cv4 := pa_fi g822 fx819 (by omega)
              have g824 : px_pa h12 289 54 100 rK lh3 := pa_fi g8 fx14 (by omega)
              have g825 : px_pa h817 289 54 100 rK lh3 := pa_fi g824 fx819 (by omega)
              have g826 : px_pa h12 290 50 100 rV lh3 := pa_fi g9 fx14 (by omega)
              have g827 : px_pa h817 290 50 100 rV lh3 := pa_fi g826 fx819 (by omega)
              have g828 : px_pa h12 291 50 100 rT lh3 := pa_fi g10 fx14 (by omega)
              have g829 : px_pa h817 291 50 100 rT lh3 := pa_fi g828 fx819 (by omega)
              have g830 : pRZ h817 ga gp gu gv j (s.2.2.2.2 + nI 1) la lb cb lg (upA false s.2.1.1 (nI tt)) (upB false s.2.1.2.1 (nI tt)) s.2.1.2.2 s.1 := by exact ⟨_, _, _, _, g821, g818, g823, g825, g827, g829, hW2⟩
              refine e_aload_n f_154_177 rfl rfl ?_
              refine e_iload f_154_178 rfl rfl ?_
              obtain ⟨gw831, sl832, lh833, cv834, g835, g836, g837, g838, g839, g840, hR841⟩ := id g830
              have g842 : pRZ h817 ga gp gu gv j (s.2.2.2.2 + nI 1) la lb cb lg (upA false s.2.1.1 (nI tt)) (upB false s.2.1.2.1 (nI tt)) s.2.1.2.2 s.1 := ⟨_, _, _, _, g835, g836, g837, g838, g839, g840, hR841⟩
              obtain ⟨hm844, fa845, fb846⟩ := fl_mid fr820
              obtain ⟨hm847, fa848, fb849⟩ := fl_mid fb846
              obtain ⟨hm850, fa851, fb852⟩ := fl_mid fb849
              have g843 : px_pa h817 284 52 6 stS j := pa_fi (pa_fi (pa_fi (pa_fi H1 fa845 (by omega)) fa848 (by omega)) fa851 (by omega)) (fl_one fb852) (by omega)
              obtain ⟨hm854, fa855, fb856⟩ := fl_mid fr820
              obtain ⟨hm857, fa858, fb859⟩ := fl_mid fb856
              obtain ⟨hm860, fa861, fb862⟩ := fl_mid fb859
              have g853 : px_pa h817 285 52 6 stA j := pa_fi (pa_fi (pa_fi (pa_fi H2 fa855 (by omega)) fa858 (by omega)) fa861 (by omega)) (fl_one fb862) (by omega)
              obtain ⟨hm864, fa865, fb866⟩ := fl_mid fr820
              obtain ⟨hm867, fa868, fb869⟩ := fl_mid fb866
              obtain ⟨hm870, fa871, fb872⟩ := fl_mid fb869
              have g863 : px_pa h817 286 50 6 stN j := pa_fi (pa_fi (pa_fi (pa_fi H3 fa865 (by omega)) fa868 (by omega)) fa871 (by omega)) (fl_one fb872) (by omega)
              refine e_callV (As := [.int (nI n1)]) (rest := []) f_154_180 rfl rfl rfl (Nat.le_of_ble_eq_true rfl) (Nat.le_of_ble_eq_true rfl) g835 rfl (Nat.le_of_ble_eq_true rfl) (cc_Md_ri1 (n := n1) (x := s.1) (A := upA false s.2.1.1 (nI tt)) (B := upB false s.2.1.2.1 (nI tt)) (W := s.2.1.2.2) (ga := ga) (gp := gp) (gu := gu) (gv := gv) (j := j) (dn := s.2.2.2.2 + nI 1) (la := la) (lb := lb) (cb := cb) (lg := lg) g842 g843 g853 g863 (p0) (by omega) (by rw [← hn1, ← hLW]; exact hr) (p5) (p6) (fun k hk => Nat.le_trans (p7 k hk) (by omega))) rfl (fun h873 r874 q875 => ?_)
              obtain ⟨rfl, g876, fx877⟩ := q875
              obtain ⟨hm878, fa879, fb880⟩ := fl_mid fx877
              have fr881 : px_fl [(269, 1), (287, 1), (289, 3), (295, 1)] h hm878 := fl_tr fr820 fa879 (by first | exact ⟨_, List.mem_cons_self, by omega, by omega⟩ | exact ⟨_, List.mem_cons_of_mem _ (List.mem_cons_self), by omega, by omega⟩ | exact ⟨_, List.mem_cons_of_mem _ (List.mem_cons_of_mem _ (List.mem_cons_self)), by omega, by omega⟩ | exact ⟨_, List.mem_cons_of_mem _ (List.mem_cons_of_mem _ (List.mem_cons_of_mem _ (List.mem_cons_self))), by omega, by omega⟩)
              obtain ⟨hm882, fa883, fb884⟩ := fl_mid fb880
              have fr885 : px_fl [(269, 1), (287, 1), (289, 3), (295, 1)] h hm882 := fl_tr fr881 fa883 (by first | exact ⟨_, List.mem_cons_self, by omega, by omega⟩ | exact ⟨_, List.mem_cons_of_mem _ (List.mem_cons_self), by omega, by omega⟩ | exact ⟨_, List.mem_cons_of_mem _ (List.mem_cons_of_mem _ (List.mem_cons_self)), by omega, by omega⟩ | exact ⟨_, List.mem_cons_of_mem _ (List.mem_cons_of_mem _ (List.mem_cons_of_mem _ (List.mem_cons_self))), by omega, by omega⟩)
              obtain ⟨hm886, fa887, fb888⟩ := fl_mid fb884
              have fr889 : px_fl [(269, 1), (287, 1), (289, 3), (295, 1)] h hm886 := fl_tr fr885 fa887 (by first | exact ⟨_, List.mem_cons_self, by omega, by omega⟩ | exact ⟨_, List.mem_cons_of_mem _ (List.mem_cons_self), by omega, by omega⟩ | exact ⟨_, List.mem_cons_of_mem _ (List.mem_cons_of_mem _ (List.mem_cons_self)), by omega, by omega⟩ | exact ⟨_, List.mem_cons_of_mem _ (List.mem_cons_of_mem _ (List.mem_cons_of_mem _ (List.mem_cons_self))), by omega, by omega⟩)
              have fb890 := fl_one fb888
              have fr891 : px_fl [(269, 1), (287, 1), (289, 3), (295, 1)] h h873 := fl_tr fr889 fb890 (by first | exact ⟨_, List.mem_cons_self, by omega, by omega⟩ | exact ⟨_, List.mem_cons_of_mem _ (List.mem_cons_self), by omega, by omega⟩ | exact ⟨_, List.mem_cons_of_mem _ (List.mem_cons_of_mem _ (List.mem_cons_self)), by omega, by omega⟩ | exact ⟨_, List.mem_cons_of_mem _ (List.mem_cons_of_mem _ (List.mem_cons_of_mem _ (List.mem_cons_self))), by omega, by omega⟩)
              show px_to 154 183 [some (.ref (269)), some (.int (nI e)), some (.int (nI ((es.getD e (0, 0, 0, 0)).1))), some (.int (nI 0)), some (.int (nI 1)), some (.int (nI n1))] [] h873 _
              refine e_vret f_154_183 rfl ?_
              have ed := doEv_h1 (j := j) (la := la) (lb := lb) (s := s) (n := n1) hhh hbb (by rw [htt]; exact hr) (by rw [htt, hLW]; exact hn1) (by omega)
              rw [ed, htt]
              exact ⟨rfl, g876, fr891⟩
            · skip
              refine e_aload_n f_154_177 rfl rfl ?_
              refine e_iload f_154_178 rfl rfl ?_
              refine e_callV (As := [.int (upB false s.2.1.2.1 (nI tt))]) (rest := []) f_154_180 rfl rfl rfl (Nat.le_of_ble_eq_true rfl) (Nat.le_of_ble_eq_true rfl) g821 rfl (Nat.le_of_ble_eq_true rfl) (cc_Md_ri0 (w := upB false s.2.1.2.1 (nI tt)) (x := s.1) (sl := sl2.set 0 s.2.1.1) (ga := ga) (gp := gp) (gq := (nI j.length, s.1.2.2.2.2.isSome, oI s.1.2.2.2.2, s.2.2.2.2 + (nI 1), la, lb, cb)) (gh := (nI lh3.length, nI lg.length)) (gw := gw1) (gu := gu) (gv := gv) g821 g818 (by rw [getD_set_ne (by omega), hR0.2.1.2.2.1, ← hLW]; exact Int32.not_lt.mp hr) (by rw [List.length_set]; exact hR0.1)) rfl (fun h892 r893 q894 => ?_)
              obtain ⟨rfl, qe⟩ := q894
              have qe := qe.symm
              subst qe
              show px_to 154 183 [some (.ref (269)), some (.int (nI e)), some (.int (nI ((es.getD e (0, 0, 0, 0)).1))), some (.int (nI 0)), some (.int (nI 1)), some (.int (upB false s.2.1.2.1 (nI tt)))] [] h817 _
              refine e_vret f_154_183 rfl ?_
              have ed := doEv_h0 (j := j) (la := la) (lb := lb) (s := s) hhh hbb (by rw [htt]; exact Int32.not_lt.mp hr)
              rw [ed, htt]
              have g895 : px_pa h12 295 50 30 Value.int cv4 := pa_fi g7 fx14 (by omega)
              have g896 : px_pa h817 295 50 30 Value.int cv4 := pa_fi g895 fx819 (by omega)
              have g897 : px_pa h12 289 54 100 rK lh3 := pa_fi g8 fx14 (by omega)
              have g898 : px_pa h817 289 54 100 rK lh3 := pa_fi g897 fx819 (by omega)
              have g899 : px_pa h12 290 50 100 rV lh3 := pa_fi g9 fx14 (by omega)
              have g900 : px_pa h817 290 50 100 rV lh3 := pa_fi g899 fx819 (by omega)
              have g901 : px_pa h12 291 50 100 rT lh3 := pa_fi g10 fx14 (by omega)
              have g902 : px_pa h817 291 50 100 rT lh3 := pa_fi g901 fx819 (by omega)
              exact ⟨rfl, ⟨_, _, _, _, g821, g818, g896, g898, g900, g902, hW2⟩, fr820⟩
          · skip
            have c_123 : la = true := bI_t' c_123
            refine e_aload_n f_154_126 rfl rfl ?_
            refine e_getf f_154_127 g821 rfl rfl ?_
            show px_to 154 130 [some (.ref (269)), some (.int (nI e)), some (.int (nI ((es.getD e (0, 0, 0, 0)).1))), some (.int (nI 0)), none, none] [.int (bI lb)] h817 _
            refine e_if_eq f_154_130 rfl (fun c_130 => ?_) (fun c_130 => ?_)
            · skip
              have c_130 : lb = false := bI_f c_130
              refine e_iconst (v := nI 0) f_154_152 (by decide) rfl ?_
              refine e_istore (L' := [some (.ref (269)), some (.int (nI e)), some (.int (nI ((es.getD e (0, 0, 0, 0)).1))), some (.int (nI 0)), some (.int (nI 0)), none]) f_154_153 (Nat.le_of_ble_eq_true rfl) rfl rfl ?_
              refine e_iload f_154_155 rfl rfl ?_
              refine e_if_eq_t f_154_157 (by decide) ?_
              refine e_aload_n f_154_169 rfl rfl ?_
              refine e_getf f_154_170 g821 rfl rfl ?_
              refine e_iconst (v := nI 0) f_154_173 (by decide) rfl ?_
              refine e_iaload_p (xs := sl2.set 0 s.2.1.1) f_154_174 g818 (d := 0) (by first | omega | (simp only [List.length_set]; omega)) rfl ?_
              show px_to 154 175 [some (.ref (269)), some (.int (nI e)), some (.int (nI ((es.getD e (0, 0, 0, 0)).1))), some (.int (nI 0)), some (.int (nI 0)), none] [.int ((sl2.set 0 s.2.1.1).getD 0 0)] h817 _
              rw [eA]
              refine e_istore (L' := [some (.ref (269)), some (.int (nI e)), some (.int (nI ((es.getD e (0, 0, 0, 0)).1))), some (.int (nI 0)), some (.int (nI 0)), some (.int (upA false s.2.1.1 (nI tt)))]) f_154_175 (Nat.le_of_ble_eq_true rfl) rfl rfl ?_
              have hLW : lesW la lb (upA false s.2.1.1 (nI tt)) (upB false s.2.1.2.1 (nI tt)) = upA false s.2.1.1 (nI tt) := by unfold lesW; rw [c_123, if_pos rfl, c_130, if_neg (by decide)]
              have hW9 : okW9 (lesW la lb (upA false s.2.1.1 (nI tt)) (upB false s.2.1.2.1 (nI tt))) := okW9_les (okW9_upA p9.1 (Or.inr ⟨tt, ht9, rfl⟩)) (okW9_upB p9.2.1 (Or.inr ⟨tt, ht9, rfl⟩))
              by_cases hr : s.2.1.2.2 < lesW la lb (upA false s.2.1.1 (nI tt)) (upB false s.2.1.2.1 (nI tt))
              · skip
                obtain ⟨n1, hn9, hn1⟩ := okW9_gt p9.2.2 hW9 hr
                rw [hLW] at hn1
                rw [hn1]
                have g903 : px_pa h12 295 50 30 Value.int cv4 := pa_fi g7 fx14 (by omega)
                have g904 : px_pa h817 295 50 30 Value.int cv4 := pa_fi g903 fx819 (by omega)
                have g905 : px_pa h12 289 54 100 rK lh3 := pa_fi g8 fx14 (by omega)
                have g906 : px_pa h817 289 54 100 rK lh3 := pa_fi g905 fx819 (by omega)
                have g907 : px_pa h12 290 50 100 rV lh3 := pa_fi g9 fx14 (by omega)
                have g908 : px_pa h817 290 50 100 rV lh3 := pa_fi g907 fx819 (by omega)
                have g909 : px_pa h12 291 50 100 rT lh3 := pa_fi g10 fx14 (by omega)
                have g910 : px_pa h817 291 50 100 rT lh3 := pa_fi g909 fx819 (by omega)
                have g911 : pRZ h817 ga gp gu gv j (s.2.2.2.2 + nI 1) la lb cb lg (upA false s.2.1.1 (nI tt)) (upB false s.2.1.2.1 (nI tt)) s.2.1.2.2 s.1 := by exact ⟨_, _, _, _, g821, g818, g904, g906, g908, g910, hW2⟩
                refine e_aload_n f_154_177 rfl rfl ?_
                refine e_iload f_154_178 rfl rfl ?_
                obtain ⟨gw912, sl913, lh914, cv915, g916, g917, g918, g919, g920, g921, hR922⟩ := id g911
                have g923 : pRZ h817 ga gp gu gv j (s.2.2.2.2 + nI 1) la lb cb lg (upA false s.2.1.1 (nI tt)) (upB false s.2.1.2.1 (nI tt)) s.2.1.2.2 s.1 := ⟨_, _, _, _, g916, g917, g918, g919, g920, g921, hR922⟩
                obtain ⟨hm925, fa926, fb927⟩ := fl_mid fr820
                obtain ⟨hm928, fa929, fb930⟩ := fl_mid fb927
                obtain ⟨hm931, fa932, fb933⟩ := fl_mid fb930
                have g924 : px_pa h817 284 52 6 stS j := pa_fi (pa_fi (pa_fi (pa_fi H1 fa926 (by omega)) fa929 (by omega)) fa932 (by omega)) (fl_one fb933) (by omega)
                obtain ⟨hm935, fa936, fb937⟩ := fl_mid fr820
                obtain ⟨hm938, fa939, fb940⟩ := fl_mid fb937
                obtain ⟨hm941, fa942, fb943⟩ := fl_mid fb940
                have g934 : px_pa h817 285 52 6 stA j := pa_fi (pa_fi (pa_fi (pa_fi H2 fa936 (by omega)) fa939 (by omega)) fa942 (by omega)) (fl_one fb943) (by omega)
                obtain ⟨hm945, fa946, fb947⟩ := fl_mid fr820
                obtain ⟨hm948, fa949, fb950⟩ := fl_mid fb947
                obtain ⟨hm951, fa952, fb953⟩ := fl_mid fb950
                have g944 : px_pa h817 286 50 6 stN j := pa_fi (pa_fi (pa_fi (pa_fi H3 fa946 (by omega)) fa949 (by omega)) fa952 (by omega)) (fl_one fb953) (by omega)
                refine e_callV (As := [.int (nI n1)]) (rest := []) f_154_180 rfl rfl rfl (Nat.le_of_ble_eq_true rfl) (Nat.le_of_ble_eq_true rfl) g916 rfl (Nat.le_of_ble_eq_true rfl) (cc_Md_ri1 (n := n1) (x := s.1) (A := upA false s.2.1.1 (nI tt)) (B := upB false s.2.1.2.1 (nI tt)) (W := s.2.1.2.2) (ga := ga) (gp := gp) (gu := gu) (gv := gv) (j := j) (dn := s.2.2.2.2 + nI 1) (la := la) (lb := lb) (cb := cb) (lg := lg) g923 g924 g934 g944 (p0) (by omega) (by rw [← hn1, ← hLW]; exact hr) (p5) (p6) (fun k hk => Nat.le_trans (p7 k hk) (by omega))) rfl (fun h954 r955 q956 => ?_)
                obtain ⟨rfl, g957, fx958⟩ := q956
                obtain ⟨hm959, fa960, fb961⟩ := fl_mid fx958
                have fr962 : px_fl [(269, 1), (287, 1), (289, 3), (295, 1)] h hm959 := fl_tr fr820 fa960 (by first | exact ⟨_, List.mem_cons_self, by omega, by omega⟩ | exact ⟨_, List.mem_cons_of_mem _ (List.mem_cons_self), by omega, by omega⟩ | exact ⟨_, List.mem_cons_of_mem _ (List.mem_cons_of_mem _ (List.mem_cons_self)), by omega, by omega⟩ | exact ⟨_, List.mem_cons_of_mem _ (List.mem_cons_of_mem _ (List.mem_cons_of_mem _ (List.mem_cons_self))), by omega, by omega⟩)
                obtain ⟨hm963, fa964, fb965⟩ := fl_mid fb961
                have fr966 : px_fl [(269, 1), (287, 1), (289, 3), (295, 1)] h hm963 := fl_tr fr962 fa964 (by first | exact ⟨_, List.mem_cons_self, by omega, by omega⟩ | exact ⟨_, List.mem_cons_of_mem _ (List.mem_cons_self), by omega, by omega⟩ | exact ⟨_, List.mem_cons_of_mem _ (List.mem_cons_of_mem _ (List.mem_cons_self)), by omega, by omega⟩ | exact ⟨_, List.mem_cons_of_mem _ (List.mem_cons_of_mem _ (List.mem_cons_of_mem _ (List.mem_cons_self))), by omega, by omega⟩)
                obtain ⟨hm967, fa968, fb969⟩ := fl_mid fb965
                have fr970 : px_fl [(269, 1), (287, 1), (289, 3), (295, 1)] h hm967 := fl_tr fr966 fa968 (by first | exact ⟨_, List.mem_cons_self, by omega, by omega⟩ | exact ⟨_, List.mem_cons_of_mem _ (List.mem_cons_self), by omega, by omega⟩ | exact ⟨_, List.mem_cons_of_mem _ (List.mem_cons_of_mem _ (List.mem_cons_self)), by omega, by omega⟩ | exact ⟨_, List.mem_cons_of_mem _ (List.mem_cons_of_mem _ (List.mem_cons_of_mem _ (List.mem_cons_self))), by omega, by omega⟩)
                have fb971 := fl_one fb969
                have fr972 : px_fl [(269, 1), (287, 1), (289, 3), (295, 1)] h h954 := fl_tr fr970 fb971 (by first | exact ⟨_, List.mem_cons_self, by omega, by omega⟩ | exact ⟨_, List.mem_cons_of_mem _ (List.mem_cons_self), by omega, by omega⟩ | exact ⟨_, List.mem_cons_of_mem _ (List.mem_cons_of_mem _ (List.mem_cons_self)), by omega, by omega⟩ | exact ⟨_, List.mem_cons_of_mem _ (List.mem_cons_of_mem _ (List.mem_cons_of_mem _ (List.mem_cons_self))), by omega, by omega⟩)
                show px_to 154 183 [some (.ref (269)), some (.int (nI e)), some (.int (nI ((es.getD e (0, 0, 0, 0)).1))), some (.int (nI 0)), some (.int (nI 0)), some (.int (nI n1))] [] h954 _
                refine e_vret f_154_183 rfl ?_
                have ed := doEv_h1 (j := j) (la := la) (lb := lb) (s := s) (n := n1) hhh hbb (by rw [htt]; exact hr) (by rw [htt, hLW]; exact hn1) (by omega)
                rw [ed, htt]
                exact ⟨rfl, g957, fr972⟩
              · skip
                refine e_aload_n f_154_177 rfl rfl ?_
                refine e_iload f_154_178 rfl rfl ?_
                refine e_callV (As := [.int (upA false s.2.1.1 (nI tt))]) (rest := []) f_154_180 rfl rfl rfl (Nat.le_of_ble_eq_true rfl) (Nat.le_of_ble_eq_true rfl) g821 rfl (Nat.le_of_ble_eq_true rfl) (cc_Md_ri0 (w := upA false s.2.1.1 (nI tt)) (x := s.1) (sl := sl2.set 0 s.2.1.1) (ga := ga) (gp := gp) (gq := (nI j.length, s.1.2.2.2.2.isSome, oI s.1.2.2.2.2, s.2.2.2.2 + (nI 1), la, lb, cb)) (gh := (nI lh3.length, nI lg.length)) (gw := gw1) (gu := gu) (gv := gv) g821 g818 (by rw [getD_set_ne (by omega), hR0.2.1.2.2.1, ← hLW]; exact Int32.not_lt.mp hr) (by rw [List.length_set]; exact hR0.1)) rfl (fun h973 r974 q975 => ?_)
                obtain ⟨rfl, qe⟩ := q975
                have qe := qe.symm
                subst qe
                show px_to 154 183 [some (.ref (269)), some (.int (nI e)), some (.int (nI ((es.getD e (0, 0, 0, 0)).1))), some (.int (nI 0)), some (.int (nI 0)), some (.int (upA false s.2.1.1 (nI tt)))] [] h817 _
                refine e_vret f_154_183 rfl ?_
                have ed := doEv_h0 (j := j) (la := la) (lb := lb) (s := s) hhh hbb (by rw [htt]; exact Int32.not_lt.mp hr)
                rw [ed, htt]
                have g976 : px_pa h12 295 50 30 Value.int cv4 := pa_fi g7 fx14 (by omega)
                have g977 : px_pa h817 295 50 30 Value.int cv4 := pa_fi g976 fx819 (by omega)
                have g978 : px_pa h12 289 54 100 rK lh3 := pa_fi g8 fx14 (by omega)
                have g979 : px_pa h817 289 54 100 rK lh3 := pa_fi g978 fx819 (by omega)
                have g980 : px_pa h12 290 50 100 rV lh3 := pa_fi g9 fx14 (by omega)
                have g981 : px_pa h817 290 50 100 rV lh3 := pa_fi g980 fx819 (by omega)
                have g982 : px_pa h12 291 50 100 rT lh3 := pa_fi g10 fx14 (by omega)
                have g983 : px_pa h817 291 50 100 rT lh3 := pa_fi g982 fx819 (by omega)
                exact ⟨rfl, ⟨_, _, _, _, g821, g818, g977, g979, g981, g983, hW2⟩, fr820⟩
            · skip
              have c_130 : lb = true := bI_t' c_130
              refine e_aload_n f_154_133 rfl rfl ?_
              refine e_getf f_154_134 g821 rfl rfl ?_
              refine e_iconst (v := nI 1) f_154_137 (by decide) rfl ?_
              refine e_iaload_p (xs := sl2.set 0 s.2.1.1) f_154_138 g818 (d := 0) (by first | omega | (simp only [List.length_set]; omega)) rfl ?_
              show px_to 154 139 [some (.ref (269)), some (.int (nI e)), some (.int (nI ((es.getD e (0, 0, 0, 0)).1))), some (.int (nI 0)), none, none] [.int ((sl2.set 0 s.2.1.1).getD 1 0)] h817 _
              rw [eB]
              refine e_aload_n f_154_139 rfl rfl ?_
              refine e_getf f_154_140 g821 rfl rfl ?_
              refine e_iconst (v := nI 0) f_154_143 (by decide) rfl ?_
              refine e_iaload_p (xs := sl2.set 0 s.2.1.1) f_154_144 g818 (d := 0) (by first | omega | (simp only [List.length_set]; omega)) rfl ?_
              show px_to 154 145 [some (.ref (269)), some (.int (nI e)), some (.int (nI ((es.getD e (0, 0, 0, 0)).1))), some (.int (nI 0)), none, none] [.int ((sl2.set 0 s.2.1.1).getD 0 0), .int (upB false s.2.1.2.1 (nI tt))] h817 _
              rw [eA]
              refine e_icmp_ge f_154_145 rfl (fun c_145 => ?_) (fun c_145 => ?_)
              · skip
                refine e_iconst (v := nI 0) f_154_152 (by decide) rfl ?_
                refine e_istore (L' := [some (.ref (269)), some (.int (nI e)), some (.int (nI ((es.getD e (0, 0, 0, 0)).1))), some (.int (nI 0)), some (.int (nI 0)), none]) f_154_153 (Nat.le_of_ble_eq_true rfl) rfl rfl ?_
                refine e_iload f_154_155 rfl rfl ?_
                refine e_if_eq_t f_154_157 (by decide) ?_
                refine e_aload_n f_154_169 rfl rfl ?_
                refine e_getf f_154_170 g821 rfl rfl ?_
                refine e_iconst (v := nI 0) f_154_173 (by decide) rfl ?_
                refine e_iaload_p (xs := sl2.set 0 s.2.1.1) f_154_174 g818 (d := 0) (by first | omega | (simp only [List.length_set]; omega)) rfl ?_
                show px_to 154 175 [some (.ref (269)), some (.int (nI e)), some (.int (nI ((es.getD e (0, 0, 0, 0)).1))), some (.int (nI 0)), some (.int (nI 0)), none] [.int ((sl2.set 0 s.2.1.1).getD 0 0)] h817 _
                rw [eA]
                refine e_istore (L' := [some (.ref (269)), some (.int (nI e)), some (.int (nI ((es.getD e (0, 0, 0, 0)).1))), some (.int (nI 0)), some (.int (nI 0)), some (.int (upA false s.2.1.1 (nI tt)))]) f_154_175 (Nat.le_of_ble_eq_true rfl) rfl rfl ?_
                have hLW : lesW la lb (upA false s.2.1.1 (nI tt)) (upB false s.2.1.2.1 (nI tt)) = upA false s.2.1.1 (nI tt) := by unfold lesW; rw [c_123, if_pos rfl, c_130, if_pos rfl]; unfold iMin; rw [if_neg (Int32.not_lt.mpr c_145)]
                have hW9 : okW9 (lesW la lb (upA false s.2.1.1 (nI tt)) (upB false s.2.1.2.1 (nI tt))) := okW9_les (okW9_upA p9.1 (Or.inr ⟨tt, ht9, rfl⟩)) (okW9_upB p9.2.1 (Or.inr ⟨tt, ht9, rfl⟩))
                by_cases hr : s.2.1.2.2 < lesW la lb (upA false s.2.1.1 (nI tt)) (upB false s.2.1.2.1 (nI tt))
                · skip
                  obtain ⟨n1, hn9, hn1⟩ := okW9_gt p9.2.2 hW9 hr
                  rw [hLW] at hn1
                  rw [hn1]
                  have g984 : px_pa h12 295 50 30 Value.int cv4 := pa_fi g7 fx14 (by omega)
                  have g985 : px_pa h817 295 50 30 Value.int cv4 := pa_fi g984 fx819 (by omega)
                  have g986 : px_pa h12 289 54 100 rK lh3 := pa_fi g8 fx14 (by omega)
                  have g987 : px_pa h817 289 54 100 rK lh3 := pa_fi g986 fx819 (by omega)
                  have g988 : px_pa h12 290 50 100 rV lh3 := pa_fi g9 fx14 (by omega)
                  have g989 : px_pa h817 290 50 100 rV lh3 := pa_fi g988 fx819 (by omega)
                  have g990 : px_pa h12 291 50 100 rT lh3 := pa_fi g10 fx14 (by omega)
                  have g991 : px_pa h817 291 50 100 rT lh3 := pa_fi g990 fx819 (by omega)
                  have g992 : pRZ h817 ga gp gu gv j (s.2.2.2.2 + nI 1) la lb cb lg (upA false s.2.1.1 (nI tt)) (upB false s.2.1.2.1 (nI tt)) s.2.1.2.2 s.1 := by exact ⟨_, _, _, _, g821, g818, g985, g987, g989, g991, hW2⟩
                  refine e_aload_n f_154_177 rfl rfl ?_
                  refine e_iload f_154_178 rfl rfl ?_
                  obtain ⟨gw993, sl994, lh995, cv996, g997, g998, g999, g1000, g1001, g1002, hR1003⟩ := id g992
                  have g1004 : pRZ h817 ga gp gu gv j (s.2.2.2.2 + nI 1) la lb cb lg (upA false s.2.1.1 (nI tt)) (upB false s.2.1.2.1 (nI tt)) s.2.1.2.2 s.1 := ⟨_, _, _, _, g997, g998, g999, g1000, g1001, g1002, hR1003⟩
                  obtain ⟨hm1006, fa1007, fb1008⟩ := fl_mid fr820
                  obtain ⟨hm1009, fa1010, fb1011⟩ := fl_mid fb1008
                  obtain ⟨hm1012, fa1013, fb1014⟩ := fl_mid fb1011
                  have g1005 : px_pa h817 284 52 6 stS j := pa_fi (pa_fi (pa_fi (pa_fi H1 fa1007 (by omega)) fa1010 (by omega)) fa1013 (by omega)) (fl_one fb1014) (by omega)
                  obtain ⟨hm1016, fa1017, fb1018⟩ := fl_mid fr820
                  obtain ⟨hm1019, fa1020, fb1021⟩ := fl_mid fb1018
                  obtain ⟨hm1022, fa1023, fb1024⟩ := fl_mid fb1021
                  have g1015 : px_pa h817 285 52 6 stA j := pa_fi (pa_fi (pa_fi (pa_fi H2 fa1017 (by omega)) fa1020 (by omega)) fa1023 (by omega)) (fl_one fb1024) (by omega)
                  obtain ⟨hm1026, fa1027, fb1028⟩ := fl_mid fr820
                  obtain ⟨hm1029, fa1030, fb1031⟩ := fl_mid fb1028
                  obtain ⟨hm1032, fa1033, fb1034⟩ := fl_mid fb1031
                  have g1025 : px_pa h817 286 50 6 stN j := pa_fi (pa_fi (pa_fi (pa_fi H3 fa1027 (by omega)) fa1030 (by omega)) fa1033 (by omega)) (fl_one fb1034) (by omega)
                  refine e_callV (As := [.int (nI n1)]) (rest := []) f_154_180 rfl rfl rfl (Nat.le_of_ble_eq_true rfl) (Nat.le_of_ble_eq_true rfl) g997 rfl (Nat.le_of_ble_eq_true rfl) (cc_Md_ri1 (n := n1) (x := s.1) (A := upA false s.2.1.1 (nI tt)) (B := upB false s.2.1.2.1 (nI tt)) (W := s.2.1.2.2) (ga := ga) (gp := gp) (gu := gu) (gv := gv) (j := j) (dn := s.2.2.2.2 + nI 1) (la := la) (lb := lb) (cb := cb) (lg := lg) g1004 g1005 g1015 g1025 (p0) (by omega) (by rw [← hn1, ← hLW]; exact hr) (p5) (p6) (fun k hk => Nat.le_trans (p7 k hk) (by omega))) rfl (fun h1035 r1036 q1037 => ?_)
                  obtain ⟨rfl, g1038, fx1039⟩ := q1037
                  obtain ⟨hm1040, fa1041, fb1042⟩ := fl_mid fx1039
                  have fr1043 : px_fl [(269, 1), (287, 1), (289, 3), (295, 1)] h hm1040 := fl_tr fr820 fa1041 (by first | exact ⟨_, List.mem_cons_self, by omega, by omega⟩ | exact ⟨_, List.mem_cons_of_mem _ (List.mem_cons_self), by omega, by omega⟩ | exact ⟨_, List.mem_cons_of_mem _ (List.mem_cons_of_mem _ (List.mem_cons_self)), by omega, by omega⟩ | exact ⟨_, List.mem_cons_of_mem _ (List.mem_cons_of_mem _ (List.mem_cons_of_mem _ (List.mem_cons_self))), by omega, by omega⟩)
                  obtain ⟨hm1044, fa1045, fb1046⟩ := fl_mid fb1042
                  have fr1047 : px_fl [(269, 1), (287, 1), (289, 3), (295, 1)] h hm1044 := fl_tr fr1043 fa1045 (by first | exact ⟨_, List.mem_cons_self, by omega, by omega⟩ | exact ⟨_, List.mem_cons_of_mem _ (List.mem_cons_self), by omega, by omega⟩ | exact ⟨_, List.mem_cons_of_mem _ (List.mem_cons_of_mem _ (List.mem_cons_self)), by omega, by omega⟩ | exact ⟨_, List.mem_cons_of_mem _ (List.mem_cons_of_mem _ (List.mem_cons_of_mem _ (List.mem_cons_self))), by omega, by omega⟩)
                  obtain ⟨hm1048, fa1049, fb1050⟩ := fl_mid fb1046
                  have fr1051 : px_fl [(269, 1), (287, 1), (289, 3), (295, 1)] h hm1048 := fl_tr fr1047 fa1049 (by first | exact ⟨_, List.mem_cons_self, by omega, by omega⟩ | exact ⟨_, List.mem_cons_of_mem _ (List.mem_cons_self), by omega, by omega⟩ | exact ⟨_, List.mem_cons_of_mem _ (List.mem_cons_of_mem _ (List.mem_cons_self)), by omega, by omega⟩ | exact ⟨_, List.mem_cons_of_mem _ (List.mem_cons_of_mem _ (List.mem_cons_of_mem _ (List.mem_cons_self))), by omega, by omega⟩)
                  have fb1052 := fl_one fb1050
                  have fr1053 : px_fl [(269, 1), (287, 1), (289, 3), (295, 1)] h h1035 := fl_tr fr1051 fb1052 (by first | exact ⟨_, List.mem_cons_self, by omega, by omega⟩ | exact ⟨_, List.mem_cons_of_mem _ (List.mem_cons_self), by omega, by omega⟩ | exact ⟨_, List.mem_cons_of_mem _ (List.mem_cons_of_mem _ (List.mem_cons_self)), by omega, by omega⟩ | exact ⟨_, List.mem_cons_of_mem _ (List.mem_cons_of_mem _ (List.mem_cons_of_mem _ (List.mem_cons_self))), by omega, by omega⟩)
                  show px_to 154 183 [some (.ref (269)), some (.int (nI e)), some (.int (nI ((es.getD e (0, 0, 0, 0)).1))), some (.int (nI 0)), some (.int (nI 0)), some (.int (nI n1))] [] h1035 _
                  refine e_vret f_154_183 rfl ?_
                  have ed := doEv_h1 (j := j) (la := la) (lb := lb) (s := s) (n := n1) hhh hbb (by rw [htt]; exact hr) (by rw [htt, hLW]; exact hn1) (by omega)
                  rw [ed, htt]
                  exact ⟨rfl, g1038, fr1053⟩
                · skip
                  refine e_aload_n f_154_177 rfl rfl ?_
                  refine e_iload f_154_178 rfl rfl ?_
                  refine e_callV (As := [.int (upA false s.2.1.1 (nI tt))]) (rest := []) f_154_180 rfl rfl rfl (Nat.le_of_ble_eq_true rfl) (Nat.le_of_ble_eq_true rfl) g821 rfl (Nat.le_of_ble_eq_true rfl) (cc_Md_ri0 (w := upA false s.2.1.1 (nI tt)) (x := s.1) (sl := sl2.set 0 s.2.1.1) (ga := ga) (gp := gp) (gq := (nI j.length, s.1.2.2.2.2.isSome, oI s.1.2.2.2.2, s.2.2.2.2 + (nI 1), la, lb, cb)) (gh := (nI lh3.length, nI lg.length)) (gw := gw1) (gu := gu) (gv := gv) g821 g818 (by rw [getD_set_ne (by omega), hR0.2.1.2.2.1, ← hLW]; exact Int32.not_lt.mp hr) (by rw [List.length_set]; exact hR0.1)) rfl (fun h1054 r1055 q1056 => ?_)
                  obtain ⟨rfl, qe⟩ := q1056
                  have qe := qe.symm
                  subst qe
                  show px_to 154 183 [some (.ref (269)), some (.int (nI e)), some (.int (nI ((es.getD e (0, 0, 0, 0)).1))), some (.int (nI 0)), some (.int (nI 0)), some (.int (upA false s.2.1.1 (nI tt)))] [] h817 _
                  refine e_vret f_154_183 rfl ?_
                  have ed := doEv_h0 (j := j) (la := la) (lb := lb) (s := s) hhh hbb (by rw [htt]; exact Int32.not_lt.mp hr)
                  rw [ed, htt]
                  have g1057 : px_pa h12 295 50 30 Value.int cv4 := pa_fi g7 fx14 (by omega)
                  have g1058 : px_pa h817 295 50 30 Value.int cv4 := pa_fi g1057 fx819 (by omega)
                  have g1059 : px_pa h12 289 54 100 rK lh3 := pa_fi g8 fx14 (by omega)
                  have g1060 : px_pa h817 289 54 100 rK lh3 := pa_fi g1059 fx819 (by omega)
                  have g1061 : px_pa h12 290 50 100 rV lh3 := pa_fi g9 fx14 (by omega)
                  have g1062 : px_pa h817 290 50 100 rV lh3 := pa_fi g1061 fx819 (by omega)
                  have g1063 : px_pa h12 291 50 100 rT lh3 := pa_fi g10 fx14 (by omega)
                  have g1064 : px_pa h817 291 50 100 rT lh3 := pa_fi g1063 fx819 (by omega)
                  exact ⟨rfl, ⟨_, _, _, _, g821, g818, g1058, g1060, g1062, g1064, hW2⟩, fr820⟩
              · skip
                refine e_iconst (v := nI 1) f_154_148 (by decide) rfl ?_
                refine e_goto f_154_149 ?_
                refine e_istore (L' := [some (.ref (269)), some (.int (nI e)), some (.int (nI ((es.getD e (0, 0, 0, 0)).1))), some (.int (nI 0)), some (.int (nI 1)), none]) f_154_153 (Nat.le_of_ble_eq_true rfl) rfl rfl ?_
                refine e_iload f_154_155 rfl rfl ?_
                refine e_if_eq_f f_154_157 (by decide) rfl ?_
                refine e_aload_n f_154_160 rfl rfl ?_
                refine e_getf f_154_161 g821 rfl rfl ?_
                refine e_iconst (v := nI 1) f_154_164 (by decide) rfl ?_
                refine e_iaload_p (xs := sl2.set 0 s.2.1.1) f_154_165 g818 (d := 0) (by first | omega | (simp only [List.length_set]; omega)) rfl ?_
                show px_to 154 166 [some (.ref (269)), some (.int (nI e)), some (.int (nI ((es.getD e (0, 0, 0, 0)).1))), some (.int (nI 0)), some (.int (nI 1)), none] [.int ((sl2.set 0 s.2.1.1).getD 1 0)] h817 _
                rw [eB]
                refine e_goto f_154_166 ?_
                refine e_istore (L' := [some (.ref (269)), some (.int (nI e)), some (.int (nI ((es.getD e (0, 0, 0, 0)).1))), some (.int (nI 0)), some (.int (nI 1)), some (.int (upB false s.2.1.2.1 (nI tt)))]) f_154_175 (Nat.le_of_ble_eq_true rfl) rfl rfl ?_
                have hLW : lesW la lb (upA false s.2.1.1 (nI tt)) (upB false s.2.1.2.1 (nI tt)) = upB false s.2.1.2.1 (nI tt) := by unfold lesW; rw [c_123, if_pos rfl, c_130, if_pos rfl]; unfold iMin; rw [if_pos (Int32.not_le.mp c_145)]
                have hW9 : okW9 (lesW la lb (upA false s.2.1.1 (nI tt)) (upB false s.2.1.2.1 (nI tt))) := okW9_les (okW9_upA p9.1 (Or.inr ⟨tt, ht9, rfl⟩)) (okW9_upB p9.2.1 (Or.inr ⟨tt, ht9, rfl⟩))
                by_cases hr : s.2.1.2.2 < lesW la lb (upA false s.2.1.1 (nI tt)) (upB false s.2.1.2.1 (nI tt))
                · skip
                  obtain ⟨n1, hn9, hn1⟩ := okW9_gt p9.2.2 hW9 hr
                  rw [hLW] at hn1
                  rw [hn1]
                  have g1065 : px_pa h12 295 50 30 Value.int cv4 := pa_fi g7 fx14 (by omega)
                  have g1066 : px_pa h817 295 50 30 Value.int cv4 := pa_fi g1065 fx819 (by omega)
                  have g1067 : px_pa h12 289 54 100 rK lh3 := pa_fi g8 fx14 (by omega)
                  have g1068 : px_pa h817 289 54 100 rK lh3 := pa_fi g1067 fx819 (by omega)
                  have g1069 : px_pa h12 290 50 100 rV lh3 := pa_fi g9 fx14 (by omega)
                  have g1070 : px_pa h817 290 50 100 rV lh3 := pa_fi g1069 fx819 (by omega)
                  have g1071 : px_pa h12 291 50 100 rT lh3 := pa_fi g10 fx14 (by omega)
                  have g1072 : px_pa h817 291 50 100 rT lh3 := pa_fi g1071 fx819 (by omega)
                  have g1073 : pRZ h817 ga gp gu gv j (s.2.2.2.2 + nI 1) la lb cb lg (upA false s.2.1.1 (nI tt)) (upB false s.2.1.2.1 (nI tt)) s.2.1.2.2 s.1 := by exact ⟨_, _, _, _, g821, g818, g1066, g1068, g1070, g1072, hW2⟩
                  refine e_aload_n f_154_177 rfl rfl ?_
                  refine e_iload f_154_178 rfl rfl ?_
                  obtain ⟨gw1074, sl1075, lh1076, cv1077, g1078, g1079, g1080, g1081, g1082, g1083, hR1084⟩ := id g1073
                  have g1085 : pRZ h817 ga gp gu gv j (s.2.2.2.2 + nI 1) la lb cb lg (upA false s.2.1.1 (nI tt)) (upB false s.2.1.2.1 (nI tt)) s.2.1.2.2 s.1 := ⟨_, _, _, _, g1078, g1079, g1080, g1081, g1082, g1083, hR1084⟩
                  obtain ⟨hm1087, fa1088, fb1089⟩ := fl_mid fr820
                  obtain ⟨hm1090, fa1091, fb1092⟩ := fl_mid fb1089
                  obtain ⟨hm1093, fa1094, fb1095⟩ := fl_mid fb1092
                  have g1086 : px_pa h817 284 52 6 stS j := pa_fi (pa_fi (pa_fi (pa_fi H1 fa1088 (by omega)) fa1091 (by omega)) fa1094 (by omega)) (fl_one fb1095) (by omega)
                  obtain ⟨hm1097, fa1098, fb1099⟩ := fl_mid fr820
                  obtain ⟨hm1100, fa1101, fb1102⟩ := fl_mid fb1099
                  obtain ⟨hm1103, fa1104, fb1105⟩ := fl_mid fb1102
                  have g1096 : px_pa h817 285 52 6 stA j := pa_fi (pa_fi (pa_fi (pa_fi H2 fa1098 (by omega)) fa1101 (by omega)) fa1104 (by omega)) (fl_one fb1105) (by omega)
                  obtain ⟨hm1107, fa1108, fb1109⟩ := fl_mid fr820
                  obtain ⟨hm1110, fa1111, fb1112⟩ := fl_mid fb1109
                  obtain ⟨hm1113, fa1114, fb1115⟩ := fl_mid fb1112
                  have g1106 : px_pa h817 286 50 6 stN j := pa_fi (pa_fi (pa_fi (pa_fi H3 fa1108 (by omega)) fa1111 (by omega)) fa1114 (by omega)) (fl_one fb1115) (by omega)
                  refine e_callV (As := [.int (nI n1)]) (rest := []) f_154_180 rfl rfl rfl (Nat.le_of_ble_eq_true rfl) (Nat.le_of_ble_eq_true rfl) g1078 rfl (Nat.le_of_ble_eq_true rfl) (cc_Md_ri1 (n := n1) (x := s.1) (A := upA false s.2.1.1 (nI tt)) (B := upB false s.2.1.2.1 (nI tt)) (W := s.2.1.2.2) (ga := ga) (gp := gp) (gu := gu) (gv := gv) (j := j) (dn := s.2.2.2.2 + nI 1) (la := la) (lb := lb) (cb := cb) (lg := lg) g1085 g1086 g1096 g1106 (p0) (by omega) (by rw [← hn1, ← hLW]; exact hr) (p5) (p6) (fun k hk => Nat.le_trans (p7 k hk) (by omega))) rfl (fun h1116 r1117 q1118 => ?_)
                  obtain ⟨rfl, g1119, fx1120⟩ := q1118
                  obtain ⟨hm1121, fa1122, fb1123⟩ := fl_mid fx1120
                  have fr1124 : px_fl [(269, 1), (287, 1), (289, 3), (295, 1)] h hm1121 := fl_tr fr820 fa1122 (by first | exact ⟨_, List.mem_cons_self, by omega, by omega⟩ | exact ⟨_, List.mem_cons_of_mem _ (List.mem_cons_self), by omega, by omega⟩ | exact ⟨_, List.mem_cons_of_mem _ (List.mem_cons_of_mem _ (List.mem_cons_self)), by omega, by omega⟩ | exact ⟨_, List.mem_cons_of_mem _ (List.mem_cons_of_mem _ (List.mem_cons_of_mem _ (List.mem_cons_self))), by omega, by omega⟩)
                  obtain ⟨hm1125, fa1126, fb1127⟩ := fl_mid fb1123
                  have fr1128 : px_fl [(269, 1), (287, 1), (289, 3), (295, 1)] h hm1125 := fl_tr fr1124 fa1126 (by first | exact ⟨_, List.mem_cons_self, by omega, by omega⟩ | exact ⟨_, List.mem_cons_of_mem _ (List.mem_cons_self), by omega, by omega⟩ | exact ⟨_, List.mem_cons_of_mem _ (List.mem_cons_of_mem _ (List.mem_cons_self)), by omega, by omega⟩ | exact ⟨_, List.mem_cons_of_mem _ (List.mem_cons_of_mem _ (List.mem_cons_of_mem _ (List.mem_cons_self))), by omega, by omega⟩)
                  obtain ⟨hm1129, fa1130, fb1131⟩ := fl_mid fb1127
                  have fr1132 : px_fl [(269, 1), (287, 1), (289, 3), (295, 1)] h hm1129 := fl_tr fr1128 fa1130 (by first | exact ⟨_, List.mem_cons_self, by omega, by omega⟩ | exact ⟨_, List.mem_cons_of_mem _ (List.mem_cons_self), by omega, by omega⟩ | exact ⟨_, List.mem_cons_of_mem _ (List.mem_cons_of_mem _ (List.mem_cons_self)), by omega, by omega⟩ | exact ⟨_, List.mem_cons_of_mem _ (List.mem_cons_of_mem _ (List.mem_cons_of_mem _ (List.mem_cons_self))), by omega, by omega⟩)
                  have fb1133 := fl_one fb1131
                  have fr1134 : px_fl [(269, 1), (287, 1), (289, 3), (295, 1)] h h1116 := fl_tr fr1132 fb1133 (by first | exact ⟨_, List.mem_cons_self, by omega, by omega⟩ | exact ⟨_, List.mem_cons_of_mem _ (List.mem_cons_self), by omega, by omega⟩ | exact ⟨_, List.mem_cons_of_mem _ (List.mem_cons_of_mem _ (List.mem_cons_self)), by omega, by omega⟩ | exact ⟨_, List.mem_cons_of_mem _ (List.mem_cons_of_mem _ (List.mem_cons_of_mem _ (List.mem_cons_self))), by omega, by omega⟩)
                  show px_to 154 183 [some (.ref (269)), some (.int (nI e)), some (.int (nI ((es.getD e (0, 0, 0, 0)).1))), some (.int (nI 0)), some (.int (nI 1)), some (.int (nI n1))] [] h1116 _
                  refine e_vret f_154_183 rfl ?_
                  have ed := doEv_h1 (j := j) (la := la) (lb := lb) (s := s) (n := n1) hhh hbb (by rw [htt]; exact hr) (by rw [htt, hLW]; exact hn1) (by omega)
                  rw [ed, htt]
                  exact ⟨rfl, g1119, fr1134⟩
                · skip
                  refine e_aload_n f_154_177 rfl rfl ?_
                  refine e_iload f_154_178 rfl rfl ?_
                  refine e_callV (As := [.int (upB false s.2.1.2.1 (nI tt))]) (rest := []) f_154_180 rfl rfl rfl (Nat.le_of_ble_eq_true rfl) (Nat.le_of_ble_eq_true rfl) g821 rfl (Nat.le_of_ble_eq_true rfl) (cc_Md_ri0 (w := upB false s.2.1.2.1 (nI tt)) (x := s.1) (sl := sl2.set 0 s.2.1.1) (ga := ga) (gp := gp) (gq := (nI j.length, s.1.2.2.2.2.isSome, oI s.1.2.2.2.2, s.2.2.2.2 + (nI 1), la, lb, cb)) (gh := (nI lh3.length, nI lg.length)) (gw := gw1) (gu := gu) (gv := gv) g821 g818 (by rw [getD_set_ne (by omega), hR0.2.1.2.2.1, ← hLW]; exact Int32.not_lt.mp hr) (by rw [List.length_set]; exact hR0.1)) rfl (fun h1135 r1136 q1137 => ?_)
                  obtain ⟨rfl, qe⟩ := q1137
                  have qe := qe.symm
                  subst qe
                  show px_to 154 183 [some (.ref (269)), some (.int (nI e)), some (.int (nI ((es.getD e (0, 0, 0, 0)).1))), some (.int (nI 0)), some (.int (nI 1)), some (.int (upB false s.2.1.2.1 (nI tt)))] [] h817 _
                  refine e_vret f_154_183 rfl ?_
                  have ed := doEv_h0 (j := j) (la := la) (lb := lb) (s := s) hhh hbb (by rw [htt]; exact Int32.not_lt.mp hr)
                  rw [ed, htt]
                  have g1138 : px_pa h12 295 50 30 Value.int cv4 := pa_fi g7 fx14 (by omega)
                  have g1139 : px_pa h817 295 50 30 Value.int cv4 := pa_fi g1138 fx819 (by omega)
                  have g1140 : px_pa h12 289 54 100 rK lh3 := pa_fi g8 fx14 (by omega)
                  have g1141 : px_pa h817 289 54 100 rK lh3 := pa_fi g1140 fx819 (by omega)
                  have g1142 : px_pa h12 290 50 100 rV lh3 := pa_fi g9 fx14 (by omega)
                  have g1143 : px_pa h817 290 50 100 rV lh3 := pa_fi g1142 fx819 (by omega)
                  have g1144 : px_pa h12 291 50 100 rT lh3 := pa_fi g10 fx14 (by omega)
                  have g1145 : px_pa h817 291 50 100 rT lh3 := pa_fi g1144 fx819 (by omega)
                  exact ⟨rfl, ⟨_, _, _, _, g821, g818, g1139, g1141, g1143, g1145, hW2⟩, fr820⟩
        · skip
          refine e_aload_n f_154_101 rfl rfl ?_
          refine e_getf f_154_102 g13 rfl rfl ?_
          refine e_iload_n f_154_105 rfl rfl ?_
          refine e_saload_p (xs := es) f_154_106 g806 (d := (0, 0, 0, 0)) (by first | omega | (simp only [List.length_set]; omega)) rfl ?_
          show px_to 154 107 [some (.ref (269)), some (.int (nI e)), some (.int (nI ((es.getD e (0, 0, 0, 0)).1))), some (.int (nI 0)), none, none] [.int ((es.getD e (0, 0, 0, 0)).2.2.2), .int (nI 0), .ref (287)] h12 _
          refine e_goto f_154_107 ?_
          rw [htt]
          refine e_iastore_p (xs := sl2) (x := nI tt) f_154_118 g816 (by omega) (by first | omega | (simp only [List.length_set]; omega)) (rfl) rfl (fun h1146 g1147 fx1148 => ?_)
          have fr1149 : px_fl [(269, 1), (287, 1), (289, 3), (295, 1)] h h1146 := fl_tr fr15 fx1148 (by first | exact ⟨_, List.mem_cons_self, by omega, by omega⟩ | exact ⟨_, List.mem_cons_of_mem _ (List.mem_cons_self), by omega, by omega⟩ | exact ⟨_, List.mem_cons_of_mem _ (List.mem_cons_of_mem _ (List.mem_cons_self)), by omega, by omega⟩ | exact ⟨_, List.mem_cons_of_mem _ (List.mem_cons_of_mem _ (List.mem_cons_of_mem _ (List.mem_cons_self))), by omega, by omega⟩)
          have hmx : iMax s.2.1.1 (nI tt) = nI tt := by unfold iMax; rw [if_pos (Int32.not_le.mp c_98)]
          have eA : (sl2.set 0 (nI tt)).getD 0 0 = upA false s.2.1.1 (nI tt) := by rw [getD_set_same (by omega)]; exact hmx.symm
          have eB : (sl2.set 0 (nI tt)).getD 1 0 = upB false s.2.1.2.1 (nI tt) := by rw [getD_set_ne (by omega)]; exact hR0.2.1.2.1
          have hbb : decide ((es.getD e (0, 0, 0, 0)).1 = 72) = false := decide_eq_false (by omega)
          have hW2 : relZ j cb lg (upA false s.2.1.1 (nI tt)) (upB false s.2.1.2.1 (nI tt)) s.2.1.2.2 s.1 (sl2.set 0 (nI tt)) lh3 cv4 := ⟨by rw [List.length_set]; exact hR0.1, ⟨eA, eB, by rw [getD_set_ne (by omega)]; exact hR0.2.1.2.2.1, by rw [getD_set_ne (by omega)]; exact hR0.2.1.2.2.2⟩, fun z => MSt_eq (hR0.2.2.1 z) (fun i h1 h2 => getD_set_ne (by omega)), hR0.2.2.2⟩
          refine e_aload_n f_154_119 rfl rfl ?_
          have g1150 : h1146.2.2 269 = some (12, mB ga gp (nI j.length, s.1.2.2.2.2.isSome, oI s.1.2.2.2.2, s.2.2.2.2 + (nI 1), la, lb, cb) (nI lh3.length, nI lg.length) gw1 gu gv) := fi_at g13 fx1148 (by omega)
          refine e_getf f_154_120 g1150 rfl rfl ?_
          show px_to 154 123 [some (.ref (269)), some (.int (nI e)), some (.int (nI ((es.getD e (0, 0, 0, 0)).1))), some (.int (nI 0)), none, none] [.int (bI la)] h1146 _
          refine e_if_eq f_154_123 rfl (fun c_123 => ?_) (fun c_123 => ?_)
          · skip
            have c_123 : la = false := bI_f c_123
            refine e_iconst (v := nI 1) f_154_148 (by decide) rfl ?_
            refine e_goto f_154_149 ?_
            refine e_istore (L' := [some (.ref (269)), some (.int (nI e)), some (.int (nI ((es.getD e (0, 0, 0, 0)).1))), some (.int (nI 0)), some (.int (nI 1)), none]) f_154_153 (Nat.le_of_ble_eq_true rfl) rfl rfl ?_
            refine e_iload f_154_155 rfl rfl ?_
            refine e_if_eq_f f_154_157 (by decide) rfl ?_
            refine e_aload_n f_154_160 rfl rfl ?_
            refine e_getf f_154_161 g1150 rfl rfl ?_
            refine e_iconst (v := nI 1) f_154_164 (by decide) rfl ?_
            refine e_iaload_p (xs := sl2.set 0 (nI tt)) f_154_165 g1147 (d := 0) (by first | omega | (simp only [List.length_set]; omega)) rfl ?_
            show px_to 154 166 [some (.ref (269)), some (.int (nI e)), some (.int (nI ((es.getD e (0, 0, 0, 0)).1))), some (.int (nI 0)), some (.int (nI 1)), none] [.int ((sl2.set 0 (nI tt)).getD 1 0)] h1146 _
            rw [eB]
            refine e_goto f_154_166 ?_
            refine e_istore (L' := [some (.ref (269)), some (.int (nI e)), some (.int (nI ((es.getD e (0, 0, 0, 0)).1))), some (.int (nI 0)), some (.int (nI 1)), some (.int (upB false s.2.1.2.1 (nI tt)))]) f_154_175 (Nat.le_of_ble_eq_true rfl) rfl rfl ?_
            have hLW : lesW la lb (upA false s.2.1.1 (nI tt)) (upB false s.2.1.2.1 (nI tt)) = upB false s.2.1.2.1 (nI tt) := by unfold lesW; rw [c_123, if_neg (by decide), if_pos (absurd (p10.1 (by omega)) (by rw [c_123]; decide))]
            have hW9 : okW9 (lesW la lb (upA false s.2.1.1 (nI tt)) (upB false s.2.1.2.1 (nI tt))) := okW9_les (okW9_upA p9.1 (Or.inr ⟨tt, ht9, rfl⟩)) (okW9_upB p9.2.1 (Or.inr ⟨tt, ht9, rfl⟩))
            by_cases hr : s.2.1.2.2 < lesW la lb (upA false s.2.1.1 (nI tt)) (upB false s.2.1.2.1 (nI tt))
            · skip
              obtain ⟨n1, hn9, hn1⟩ := okW9_gt p9.2.2 hW9 hr
              rw [hLW] at hn1
              rw [hn1]
              have g1151 : px_pa h12 295 50 30 Value.int cv4 := pa_fi g7 fx14 (by omega)
              have g1152 : px_pa h1146 295 50 30 Value.int cv4 := pa_fi g1151 fx1148 (by omega)
              have g1153 : px_pa h12 289 54 100 rK lh3 := pa_fi g8 fx14 (by omega)
              have g1154 : px_pa h1146 289 54 100 rK lh3 := pa_fi g1153 fx1148 (by omega)
              have g1155 : px_pa h12 290 50 100 rV lh3 := pa_fi g9 fx14 (by omega)
              have g1156 : px_pa h1146 290 50 100 rV lh3 := pa_fi g1155 fx1148 (by omega)
              have g1157 : px_pa h12 291 50 100 rT lh3 := pa_fi g10 fx14 (by omega)
              have g1158 : px_pa h1146 291 50 100 rT lh3 := pa_fi g1157 fx1148 (by omega)
              have g1159 : pRZ h1146 ga gp gu gv j (s.2.2.2.2 + nI 1) la lb cb lg (upA false s.2.1.1 (nI tt)) (upB false s.2.1.2.1 (nI tt)) s.2.1.2.2 s.1 := by exact ⟨_, _, _, _, g1150, g1147, g1152, g1154, g1156, g1158, hW2⟩
              refine e_aload_n f_154_177 rfl rfl ?_
              refine e_iload f_154_178 rfl rfl ?_
              obtain ⟨gw1160, sl1161, lh1162, cv1163, g1164, g1165, g1166, g1167, g1168, g1169, hR1170⟩ := id g1159
              have g1171 : pRZ h1146 ga gp gu gv j (s.2.2.2.2 + nI 1) la lb cb lg (upA false s.2.1.1 (nI tt)) (upB false s.2.1.2.1 (nI tt)) s.2.1.2.2 s.1 := ⟨_, _, _, _, g1164, g1165, g1166, g1167, g1168, g1169, hR1170⟩
              obtain ⟨hm1173, fa1174, fb1175⟩ := fl_mid fr1149
              obtain ⟨hm1176, fa1177, fb1178⟩ := fl_mid fb1175
              obtain ⟨hm1179, fa1180, fb1181⟩ := fl_mid fb1178
              have g1172 : px_pa h1146 284 52 6 stS j := pa_fi (pa_fi (pa_fi (pa_fi H1 fa1174 (by omega)) fa1177 (by omega)) fa1180 (by omega)) (fl_one fb1181) (by omega)
              obtain ⟨hm1183, fa1184, fb1185⟩ := fl_mid fr1149
              obtain ⟨hm1186, fa1187, fb1188⟩ := fl_mid fb1185
              obtain ⟨hm1189, fa1190, fb1191⟩ := fl_mid fb1188
              have g1182 : px_pa h1146 285 52 6 stA j := pa_fi (pa_fi (pa_fi (pa_fi H2 fa1184 (by omega)) fa1187 (by omega)) fa1190 (by omega)) (fl_one fb1191) (by omega)
              obtain ⟨hm1193, fa1194, fb1195⟩ := fl_mid fr1149
              obtain ⟨hm1196, fa1197, fb1198⟩ := fl_mid fb1195
              obtain ⟨hm1199, fa1200, fb1201⟩ := fl_mid fb1198
              have g1192 : px_pa h1146 286 50 6 stN j := pa_fi (pa_fi (pa_fi (pa_fi H3 fa1194 (by omega)) fa1197 (by omega)) fa1200 (by omega)) (fl_one fb1201) (by omega)
              refine e_callV (As := [.int (nI n1)]) (rest := []) f_154_180 rfl rfl rfl (Nat.le_of_ble_eq_true rfl) (Nat.le_of_ble_eq_true rfl) g1164 rfl (Nat.le_of_ble_eq_true rfl) (cc_Md_ri1 (n := n1) (x := s.1) (A := upA false s.2.1.1 (nI tt)) (B := upB false s.2.1.2.1 (nI tt)) (W := s.2.1.2.2) (ga := ga) (gp := gp) (gu := gu) (gv := gv) (j := j) (dn := s.2.2.2.2 + nI 1) (la := la) (lb := lb) (cb := cb) (lg := lg) g1171 g1172 g1182 g1192 (p0) (by omega) (by rw [← hn1, ← hLW]; exact hr) (p5) (p6) (fun k hk => Nat.le_trans (p7 k hk) (by omega))) rfl (fun h1202 r1203 q1204 => ?_)
              obtain ⟨rfl, g1205, fx1206⟩ := q1204
              obtain ⟨hm1207, fa1208, fb1209⟩ := fl_mid fx1206
              have fr1210 : px_fl [(269, 1), (287, 1), (289, 3), (295, 1)] h hm1207 := fl_tr fr1149 fa1208 (by first | exact ⟨_, List.mem_cons_self, by omega, by omega⟩ | exact ⟨_, List.mem_cons_of_mem _ (List.mem_cons_self), by omega, by omega⟩ | exact ⟨_, List.mem_cons_of_mem _ (List.mem_cons_of_mem _ (List.mem_cons_self)), by omega, by omega⟩ | exact ⟨_, List.mem_cons_of_mem _ (List.mem_cons_of_mem _ (List.mem_cons_of_mem _ (List.mem_cons_self))), by omega, by omega⟩)
              obtain ⟨hm1211, fa1212, fb1213⟩ := fl_mid fb1209
              have fr1214 : px_fl [(269, 1), (287, 1), (289, 3), (295, 1)] h hm1211 := fl_tr fr1210 fa1212 (by first | exact ⟨_, List.mem_cons_self, by omega, by omega⟩ | exact ⟨_, List.mem_cons_of_mem _ (List.mem_cons_self), by omega, by omega⟩ | exact ⟨_, List.mem_cons_of_mem _ (List.mem_cons_of_mem _ (List.mem_cons_self)), by omega, by omega⟩ | exact ⟨_, List.mem_cons_of_mem _ (List.mem_cons_of_mem _ (List.mem_cons_of_mem _ (List.mem_cons_self))), by omega, by omega⟩)
              obtain ⟨hm1215, fa1216, fb1217⟩ := fl_mid fb1213
              have fr1218 : px_fl [(269, 1), (287, 1), (289, 3), (295, 1)] h hm1215 := fl_tr fr1214 fa1216 (by first | exact ⟨_, List.mem_cons_self, by omega, by omega⟩ | exact ⟨_, List.mem_cons_of_mem _ (List.mem_cons_self), by omega, by omega⟩ | exact ⟨_, List.mem_cons_of_mem _ (List.mem_cons_of_mem _ (List.mem_cons_self)), by omega, by omega⟩ | exact ⟨_, List.mem_cons_of_mem _ (List.mem_cons_of_mem _ (List.mem_cons_of_mem _ (List.mem_cons_self))), by omega, by omega⟩)
              have fb1219 := fl_one fb1217
              have fr1220 : px_fl [(269, 1), (287, 1), (289, 3), (295, 1)] h h1202 := fl_tr fr1218 fb1219 (by first | exact ⟨_, List.mem_cons_self, by omega, by omega⟩ | exact ⟨_, List.mem_cons_of_mem _ (List.mem_cons_self), by omega, by omega⟩ | exact ⟨_, List.mem_cons_of_mem _ (List.mem_cons_of_mem _ (List.mem_cons_self)), by omega, by omega⟩ | exact ⟨_, List.mem_cons_of_mem _ (List.mem_cons_of_mem _ (List.mem_cons_of_mem _ (List.mem_cons_self))), by omega, by omega⟩)
              show px_to 154 183 [some (.ref (269)), some (.int (nI e)), some (.int (nI ((es.getD e (0, 0, 0, 0)).1))), some (.int (nI 0)), some (.int (nI 1)), some (.int (nI n1))] [] h1202 _
              refine e_vret f_154_183 rfl ?_
              have ed := doEv_h1 (j := j) (la := la) (lb := lb) (s := s) (n := n1) hhh hbb (by rw [htt]; exact hr) (by rw [htt, hLW]; exact hn1) (by omega)
              rw [ed, htt]
              exact ⟨rfl, g1205, fr1220⟩
            · skip
              refine e_aload_n f_154_177 rfl rfl ?_
              refine e_iload f_154_178 rfl rfl ?_
              refine e_callV (As := [.int (upB false s.2.1.2.1 (nI tt))]) (rest := []) f_154_180 rfl rfl rfl (Nat.le_of_ble_eq_true rfl) (Nat.le_of_ble_eq_true rfl) g1150 rfl (Nat.le_of_ble_eq_true rfl) (cc_Md_ri0 (w := upB false s.2.1.2.1 (nI tt)) (x := s.1) (sl := sl2.set 0 (nI tt)) (ga := ga) (gp := gp) (gq := (nI j.length, s.1.2.2.2.2.isSome, oI s.1.2.2.2.2, s.2.2.2.2 + (nI 1), la, lb, cb)) (gh := (nI lh3.length, nI lg.length)) (gw := gw1) (gu := gu) (gv := gv) g1150 g1147 (by rw [getD_set_ne (by omega), hR0.2.1.2.2.1, ← hLW]; exact Int32.not_lt.mp hr) (by rw [List.length_set]; exact hR0.1)) rfl (fun h1221 r1222 q1223 => ?_)
              obtain ⟨rfl, qe⟩ := q1223
              have qe := qe.symm
              subst qe
              show px_to 154 183 [some (.ref (269)), some (.int (nI e)), some (.int (nI ((es.getD e (0, 0, 0, 0)).1))), some (.int (nI 0)), some (.int (nI 1)), some (.int (upB false s.2.1.2.1 (nI tt)))] [] h1146 _
              refine e_vret f_154_183 rfl ?_
              have ed := doEv_h0 (j := j) (la := la) (lb := lb) (s := s) hhh hbb (by rw [htt]; exact Int32.not_lt.mp hr)
              rw [ed, htt]
              have g1224 : px_pa h12 295 50 30 Value.int cv4 := pa_fi g7 fx14 (by omega)
              have g1225 : px_pa h1146 295 50 30 Value.int cv4 := pa_fi g1224 fx1148 (by omega)
              have g1226 : px_pa h12 289 54 100 rK lh3 := pa_fi g8 fx14 (by omega)
              have g1227 : px_pa h1146 289 54 100 rK lh3 := pa_fi g1226 fx1148 (by omega)
              have g1228 : px_pa h12 290 50 100 rV lh3 := pa_fi g9 fx14 (by omega)
              have g1229 : px_pa h1146 290 50 100 rV lh3 := pa_fi g1228 fx1148 (by omega)
              have g1230 : px_pa h12 291 50 100 rT lh3 := pa_fi g10 fx14 (by omega)
              have g1231 : px_pa h1146 291 50 100 rT lh3 := pa_fi g1230 fx1148 (by omega)
              exact ⟨rfl, ⟨_, _, _, _, g1150, g1147, g1225, g1227, g1229, g1231, hW2⟩, fr1149⟩
          · skip
            have c_123 : la = true := bI_t' c_123
            refine e_aload_n f_154_126 rfl rfl ?_
            refine e_getf f_154_127 g1150 rfl rfl ?_
            show px_to 154 130 [some (.ref (269)), some (.int (nI e)), some (.int (nI ((es.getD e (0, 0, 0, 0)).1))), some (.int (nI 0)), none, none] [.int (bI lb)] h1146 _
            refine e_if_eq f_154_130 rfl (fun c_130 => ?_) (fun c_130 => ?_)
            · skip
              have c_130 : lb = false := bI_f c_130
              refine e_iconst (v := nI 0) f_154_152 (by decide) rfl ?_
              refine e_istore (L' := [some (.ref (269)), some (.int (nI e)), some (.int (nI ((es.getD e (0, 0, 0, 0)).1))), some (.int (nI 0)), some (.int (nI 0)), none]) f_154_153 (Nat.le_of_ble_eq_true rfl) rfl rfl ?_
              refine e_iload f_154_155 rfl rfl ?_
              refine e_if_eq_t f_154_157 (by decide) ?_
              refine e_aload_n f_154_169 rfl rfl ?_
              refine e_getf f_154_170 g1150 rfl rfl ?_
              refine e_iconst (v := nI 0) f_154_173 (by decide) rfl ?_
              refine e_iaload_p (xs := sl2.set 0 (nI tt)) f_154_174 g1147 (d := 0) (by first | omega | (simp only [List.length_set]; omega)) rfl ?_
              show px_to 154 175 [some (.ref (269)), some (.int (nI e)), some (.int (nI ((es.getD e (0, 0, 0, 0)).1))), some (.int (nI 0)), some (.int (nI 0)), none] [.int ((sl2.set 0 (nI tt)).getD 0 0)] h1146 _
              rw [eA]
              refine e_istore (L' := [some (.ref (269)), some (.int (nI e)), some (.int (nI ((es.getD e (0, 0, 0, 0)).1))), some (.int (nI 0)), some (.int (nI 0)), some (.int (upA false s.2.1.1 (nI tt)))]) f_154_175 (Nat.le_of_ble_eq_true rfl) rfl rfl ?_
              have hLW : lesW la lb (upA false s.2.1.1 (nI tt)) (upB false s.2.1.2.1 (nI tt)) = upA false s.2.1.1 (nI tt) := by unfold lesW; rw [c_123, if_pos rfl, c_130, if_neg (by decide)]
              have hW9 : okW9 (lesW la lb (upA false s.2.1.1 (nI tt)) (upB false s.2.1.2.1 (nI tt))) := okW9_les (okW9_upA p9.1 (Or.inr ⟨tt, ht9, rfl⟩)) (okW9_upB p9.2.1 (Or.inr ⟨tt, ht9, rfl⟩))
              by_cases hr : s.2.1.2.2 < lesW la lb (upA false s.2.1.1 (nI tt)) (upB false s.2.1.2.1 (nI tt))
              · skip
                obtain ⟨n1, hn9, hn1⟩ := okW9_gt p9.2.2 hW9 hr
                rw [hLW] at hn1
                rw [hn1]
                have g1232 : px_pa h12 295 50 30 Value.int cv4 := pa_fi g7 fx14 (by omega)
                have g1233 : px_pa h1146 295 50 30 Value.int cv4 := pa_fi g1232 fx1148 (by omega)
                have g1234 : px_pa h12 289 54 100 rK lh3 := pa_fi g8 fx14 (by omega)
                have g1235 : px_pa h1146 289 54 100 rK lh3 := pa_fi g1234 fx1148 (by omega)
                have g1236 : px_pa h12 290 50 100 rV lh3 := pa_fi g9 fx14 (by omega)
                have g1237 : px_pa h1146 290 50 100 rV lh3 := pa_fi g1236 fx1148 (by omega)
                have g1238 : px_pa h12 291 50 100 rT lh3 := pa_fi g10 fx14 (by omega)
                have g1239 : px_pa h1146 291 50 100 rT lh3 := pa_fi g1238 fx1148 (by omega)
                have g1240 : pRZ h1146 ga gp gu gv j (s.2.2.2.2 + nI 1) la lb cb lg (upA false s.2.1.1 (nI tt)) (upB false s.2.1.2.1 (nI tt)) s.2.1.2.2 s.1 := by exact ⟨_, _, _, _, g1150, g1147, g1233, g1235, g1237, g1239, hW2⟩
                refine e_aload_n f_154_177 rfl rfl ?_
                refine e_iload f_154_178 rfl rfl ?_
                obtain ⟨gw1241, sl1242, lh1243, cv1244, g1245, g1246, g1247, g1248, g1249, g1250, hR1251⟩ := id g1240
                have g1252 : pRZ h1146 ga gp gu gv j (s.2.2.2.2 + nI 1) la lb cb lg (upA false s.2.1.1 (nI tt)) (upB false s.2.1.2.1 (nI tt)) s.2.1.2.2 s.1 := ⟨_, _, _, _, g1245, g1246, g1247, g1248, g1249, g1250, hR1251⟩
                obtain ⟨hm1254, fa1255, fb1256⟩ := fl_mid fr1149
                obtain ⟨hm1257, fa1258, fb1259⟩ := fl_mid fb1256
                obtain ⟨hm1260, fa1261, fb1262⟩ := fl_mid fb1259
                have g1253 : px_pa h1146 284 52 6 stS j := pa_fi (pa_fi (pa_fi (pa_fi H1 fa1255 (by omega)) fa1258 (by omega)) fa1261 (by omega)) (fl_one fb1262) (by omega)
                obtain ⟨hm1264, fa1265, fb1266⟩ := fl_mid fr1149
                obtain ⟨hm1267, fa1268, fb1269⟩ := fl_mid fb1266
                obtain ⟨hm1270, fa1271, fb1272⟩ := fl_mid fb1269
                have g1263 : px_pa h1146 285 52 6 stA j := pa_fi (pa_fi (pa_fi (pa_fi H2 fa1265 (by omega)) fa1268 (by omega)) fa1271 (by omega)) (fl_one fb1272) (by omega)
                obtain ⟨hm1274, fa1275, fb1276⟩ := fl_mid fr1149
                obtain ⟨hm1277, fa1278, fb1279⟩ := fl_mid fb1276
                obtain ⟨hm1280, fa1281, fb1282⟩ := fl_mid fb1279
                have g1273 : px_pa h1146 286 50 6 stN j := pa_fi (pa_fi (pa_fi (pa_fi H3 fa1275 (by omega)) fa1278 (by omega)) fa1281 (by omega)) (fl_one fb1282) (by omega)
                refine e_callV (As := [.int (nI n1)]) (rest := []) f_154_180 rfl rfl rfl (Nat.le_of_ble_eq_true rfl) (Nat.le_of_ble_eq_true rfl) g1245 rfl (Nat.le_of_ble_eq_true rfl) (cc_Md_ri1 (n := n1) (x := s.1) (A := upA false s.2.1.1 (nI tt)) (B := upB false s.2.1.2.1 (nI tt)) (W := s.2.1.2.2) (ga := ga) (gp := gp) (gu := gu) (gv := gv) (j := j) (dn := s.2.2.2.2 + nI 1) (la := la) (lb := lb) (cb := cb) (lg := lg) g1252 g1253 g1263 g1273 (p0) (by omega) (by rw [← hn1, ← hLW]; exact hr) (p5) (p6) (fun k hk => Nat.le_trans (p7 k hk) (by omega))) rfl (fun h1283 r1284 q1285 => ?_)
                obtain ⟨rfl, g1286, fx1287⟩ := q1285
                obtain ⟨hm1288, fa1289, fb1290⟩ := fl_mid fx1287
                have fr1291 : px_fl [(269, 1), (287, 1), (289, 3), (295, 1)] h hm1288 := fl_tr fr1149 fa1289 (by first | exact ⟨_, List.mem_cons_self, by omega, by omega⟩ | exact ⟨_, List.mem_cons_of_mem _ (List.mem_cons_self), by omega, by omega⟩ | exact ⟨_, List.mem_cons_of_mem _ (List.mem_cons_of_mem _ (List.mem_cons_self)), by omega, by omega⟩ | exact ⟨_, List.mem_cons_of_mem _ (List.mem_cons_of_mem _ (List.mem_cons_of_mem _ (List.mem_cons_self))), by omega, by omega⟩)
                obtain ⟨hm1292, fa1293, fb1294⟩ := fl_mid fb1290
                have fr1295 : px_fl [(269, 1), (287, 1), (289, 3), (295, 1)] h hm1292 := fl_tr fr1291 fa1293 (by first | exact ⟨_, List.mem_cons_self, by omega, by omega⟩ | exact ⟨_, List.mem_cons_of_mem _ (List.mem_cons_self), by omega, by omega⟩ | exact ⟨_, List.mem_cons_of_mem _ (List.mem_cons_of_mem _ (List.mem_cons_self)), by omega, by omega⟩ | exact ⟨_, List.mem_cons_of_mem _ (List.mem_cons_of_mem _ (List.mem_cons_of_mem _ (List.mem_cons_self))), by omega, by omega⟩)
                obtain ⟨hm1296, fa1297, fb1298⟩ := fl_mid fb1294
                have fr1299 : px_fl [(269, 1), (287, 1), (289, 3), (295, 1)] h hm1296 := fl_tr fr1295 fa1297 (by first | exact ⟨_, List.mem_cons_self, by omega, by omega⟩ | exact ⟨_, List.mem_cons_of_mem _ (List.mem_cons_self), by omega, by omega⟩ | exact ⟨_, List.mem_cons_of_mem _ (List.mem_cons_of_mem _ (List.mem_cons_self)), by omega, by omega⟩ | exact ⟨_, List.mem_cons_of_mem _ (List.mem_cons_of_mem _ (List.mem_cons_of_mem _ (List.mem_cons_self))), by omega, by omega⟩)
                have fb1300 := fl_one fb1298
                have fr1301 : px_fl [(269, 1), (287, 1), (289, 3), (295, 1)] h h1283 := fl_tr fr1299 fb1300 (by first | exact ⟨_, List.mem_cons_self, by omega, by omega⟩ | exact ⟨_, List.mem_cons_of_mem _ (List.mem_cons_self), by omega, by omega⟩ | exact ⟨_, List.mem_cons_of_mem _ (List.mem_cons_of_mem _ (List.mem_cons_self)), by omega, by omega⟩ | exact ⟨_, List.mem_cons_of_mem _ (List.mem_cons_of_mem _ (List.mem_cons_of_mem _ (List.mem_cons_self))), by omega, by omega⟩)
                show px_to 154 183 [some (.ref (269)), some (.int (nI e)), some (.int (nI ((es.getD e (0, 0, 0, 0)).1))), some (.int (nI 0)), some (.int (nI 0)), some (.int (nI n1))] [] h1283 _
                refine e_vret f_154_183 rfl ?_
                have ed := doEv_h1 (j := j) (la := la) (lb := lb) (s := s) (n := n1) hhh hbb (by rw [htt]; exact hr) (by rw [htt, hLW]; exact hn1) (by omega)
                rw [ed, htt]
                exact ⟨rfl, g1286, fr1301⟩
              · skip
                refine e_aload_n f_154_177 rfl rfl ?_
                refine e_iload f_154_178 rfl rfl ?_
                refine e_callV (As := [.int (upA false s.2.1.1 (nI tt))]) (rest := []) f_154_180 rfl rfl rfl (Nat.le_of_ble_eq_true rfl) (Nat.le_of_ble_eq_true rfl) g1150 rfl (Nat.le_of_ble_eq_true rfl) (cc_Md_ri0 (w := upA false s.2.1.1 (nI tt)) (x := s.1) (sl := sl2.set 0 (nI tt)) (ga := ga) (gp := gp) (gq := (nI j.length, s.1.2.2.2.2.isSome, oI s.1.2.2.2.2, s.2.2.2.2 + (nI 1), la, lb, cb)) (gh := (nI lh3.length, nI lg.length)) (gw := gw1) (gu := gu) (gv := gv) g1150 g1147 (by rw [getD_set_ne (by omega), hR0.2.1.2.2.1, ← hLW]; exact Int32.not_lt.mp hr) (by rw [List.length_set]; exact hR0.1)) rfl (fun h1302 r1303 q1304 => ?_)
                obtain ⟨rfl, qe⟩ := q1304
                have qe := qe.symm
                subst qe
                show px_to 154 183 [some (.ref (269)), some (.int (nI e)), some (.int (nI ((es.getD e (0, 0, 0, 0)).1))), some (.int (nI 0)), some (.int (nI 0)), some (.int (upA false s.2.1.1 (nI tt)))] [] h1146 _
                refine e_vret f_154_183 rfl ?_
                have ed := doEv_h0 (j := j) (la := la) (lb := lb) (s := s) hhh hbb (by rw [htt]; exact Int32.not_lt.mp hr)
                rw [ed, htt]
                have g1305 : px_pa h12 295 50 30 Value.int cv4 := pa_fi g7 fx14 (by omega)
                have g1306 : px_pa h1146 295 50 30 Value.int cv4 := pa_fi g1305 fx1148 (by omega)
                have g1307 : px_pa h12 289 54 100 rK lh3 := pa_fi g8 fx14 (by omega)
                have g1308 : px_pa h1146 289 54 100 rK lh3 := pa_fi g1307 fx1148 (by omega)
                have g1309 : px_pa h12 290 50 100 rV lh3 := pa_fi g9 fx14 (by omega)
                have g1310 : px_pa h1146 290 50 100 rV lh3 := pa_fi g1309 fx1148 (by omega)
                have g1311 : px_pa h12 291 50 100 rT lh3 := pa_fi g10 fx14 (by omega)
                have g1312 : px_pa h1146 291 50 100 rT lh3 := pa_fi g1311 fx1148 (by omega)
                exact ⟨rfl, ⟨_, _, _, _, g1150, g1147, g1306, g1308, g1310, g1312, hW2⟩, fr1149⟩
            · skip
              have c_130 : lb = true := bI_t' c_130
              refine e_aload_n f_154_133 rfl rfl ?_
              refine e_getf f_154_134 g1150 rfl rfl ?_
              refine e_iconst (v := nI 1) f_154_137 (by decide) rfl ?_
              refine e_iaload_p (xs := sl2.set 0 (nI tt)) f_154_138 g1147 (d := 0) (by first | omega | (simp only [List.length_set]; omega)) rfl ?_
              show px_to 154 139 [some (.ref (269)), some (.int (nI e)), some (.int (nI ((es.getD e (0, 0, 0, 0)).1))), some (.int (nI 0)), none, none] [.int ((sl2.set 0 (nI tt)).getD 1 0)] h1146 _
              rw [eB]
              refine e_aload_n f_154_139 rfl rfl ?_
              refine e_getf f_154_140 g1150 rfl rfl ?_
              refine e_iconst (v := nI 0) f_154_143 (by decide) rfl ?_
              refine e_iaload_p (xs := sl2.set 0 (nI tt)) f_154_144 g1147 (d := 0) (by first | omega | (simp only [List.length_set]; omega)) rfl ?_
              show px_to 154 145 [some (.ref (269)), some (.int (nI e)), some (.int (nI ((es.getD e (0, 0, 0, 0)).1))), some (.int (nI 0)), none, none] [.int ((sl2.set 0 (nI tt)).getD 0 0), .int (upB false s.2.1.2.1 (nI tt))] h1146 _
              rw [eA]
              refine e_icmp_ge f_154_145 rfl (fun c_145 => ?_) (fun c_145 => ?_)
              · skip
                refine e_iconst (v := nI 0) f_154_152 (by decide) rfl ?_
                refine e_istore (L' := [some (.ref (269)), some (.int (nI e)), some (.int (nI ((es.getD e (0, 0, 0, 0)).1))), some (.int (nI 0)), some (.int (nI 0)), none]) f_154_153 (Nat.le_of_ble_eq_true rfl) rfl rfl ?_
                refine e_iload f_154_155 rfl rfl ?_
                refine e_if_eq_t f_154_157 (by decide) ?_
                refine e_aload_n f_154_169 rfl rfl ?_
                refine e_getf f_154_170 g1150 rfl rfl ?_
                refine e_iconst (v := nI 0) f_154_173 (by decide) rfl ?_
                refine e_iaload_p (xs := sl2.set 0 (nI tt)) f_154_174 g1147 (d := 0) (by first | omega | (simp only [List.length_set]; omega)) rfl ?_
                show px_to 154 175 [some (.ref (269)), some (.int (nI e)), some (.int (nI ((es.getD e (0, 0, 0, 0)).1))), some (.int (nI 0)), some (.int (nI 0)), none] [.int ((sl2.set 0 (nI tt)).getD 0 0)] h1146 _
                rw [eA]
                refine e_istore (L' := [some (.ref (269)), some (.int (nI e)), some (.int (nI ((es.getD e (0, 0, 0, 0)).1))), some (.int (nI 0)), some (.int (nI 0)), some (.int (upA false s.2.1.1 (nI tt)))]) f_154_175 (Nat.le_of_ble_eq_true rfl) rfl rfl ?_
                have hLW : lesW la lb (upA false s.2.1.1 (nI tt)) (upB false s.2.1.2.1 (nI tt)) = upA false s.2.1.1 (nI tt) := by unfold lesW; rw [c_123, if_pos rfl, c_130, if_pos rfl]; unfold iMin; rw [if_neg (Int32.not_lt.mpr c_145)]
                have hW9 : okW9 (lesW la lb (upA false s.2.1.1 (nI tt)) (upB false s.2.1.2.1 (nI tt))) := okW9_les (okW9_upA p9.1 (Or.inr ⟨tt, ht9, rfl⟩)) (okW9_upB p9.2.1 (Or.inr ⟨tt, ht9, rfl⟩))
                by_cases hr : s.2.1.2.2 < lesW la lb (upA false s.2.1.1 (nI tt)) (upB false s.2.1.2.1 (nI tt))
                · skip
                  obtain ⟨n1, hn9, hn1⟩ := okW9_gt p9.2.2 hW9 hr
                  rw [hLW] at hn1
                  rw [hn1]
                  have g1313 : px_pa h12 295 50 30 Value.int cv4 := pa_fi g7 fx14 (by omega)
                  have g1314 : px_pa h1146 295 50 30 Value.int cv4 := pa_fi g1313 fx1148 (by omega)
                  have g1315 : px_pa h12 289 54 100 rK lh3 := pa_fi g8 fx14 (by omega)
                  have g1316 : px_pa h1146 289 54 100 rK lh3 := pa_fi g1315 fx1148 (by omega)
                  have g1317 : px_pa h12 290 50 100 rV lh3 := pa_fi g9 fx14 (by omega)
                  have g1318 : px_pa h1146 290 50 100 rV lh3 := pa_fi g1317 fx1148 (by omega)
                  have g1319 : px_pa h12 291 50 100 rT lh3 := pa_fi g10 fx14 (by omega)
                  have g1320 : px_pa h1146 291 50 100 rT lh3 := pa_fi g1319 fx1148 (by omega)
                  have g1321 : pRZ h1146 ga gp gu gv j (s.2.2.2.2 + nI 1) la lb cb lg (upA false s.2.1.1 (nI tt)) (upB false s.2.1.2.1 (nI tt)) s.2.1.2.2 s.1 := by exact ⟨_, _, _, _, g1150, g1147, g1314, g1316, g1318, g1320, hW2⟩
                  refine e_aload_n f_154_177 rfl rfl ?_
                  refine e_iload f_154_178 rfl rfl ?_
                  obtain ⟨gw1322, sl1323, lh1324, cv1325, g1326, g1327, g1328, g1329, g1330, g1331, hR1332⟩ := id g1321
                  have g1333 : pRZ h1146 ga gp gu gv j (s.2.2.2.2 + nI 1) la lb cb lg (upA false s.2.1.1 (nI tt)) (upB false s.2.1.2.1 (nI tt)) s.2.1.2.2 s.1 := ⟨_, _, _, _, g1326, g1327, g1328, g1329, g1330, g1331, hR1332⟩
                  obtain ⟨hm1335, fa1336, fb1337⟩ := fl_mid fr1149
                  obtain ⟨hm1338, fa1339, fb1340⟩ := fl_mid fb1337
                  obtain ⟨hm1341, fa1342, fb1343⟩ := fl_mid fb1340
                  have g1334 : px_pa h1146 284 52 6 stS j := pa_fi (pa_fi (pa_fi (pa_fi H1 fa1336 (by omega)) fa1339 (by omega)) fa1342 (by omega)) (fl_one fb1343) (by omega)
                  obtain ⟨hm1345, fa1346, fb1347⟩ := fl_mid fr1149
                  obtain ⟨hm1348, fa1349, fb1350⟩ := fl_mid fb1347
                  obtain ⟨hm1351, fa1352, fb1353⟩ := fl_mid fb1350
                  have g1344 : px_pa h1146 285 52 6 stA j := pa_fi (pa_fi (pa_fi (pa_fi H2 fa1346 (by omega)) fa1349 (by omega)) fa1352 (by omega)) (fl_one fb1353) (by omega)
                  obtain ⟨hm1355, fa1356, fb1357⟩ := fl_mid fr1149
                  obtain ⟨hm1358, fa1359, fb1360⟩ := fl_mid fb1357
                  obtain ⟨hm1361, fa1362, fb1363⟩ := fl_mid fb1360
                  have g1354 : px_pa h1146 286 50 6 stN j := pa_fi (pa_fi (pa_fi (pa_fi H3 fa1356 (by omega)) fa1359 (by omega)) fa1362 (by omega)) (fl_one fb1363) (by omega)
                  refine e_callV (As := [.int (nI n1)]) (rest := []) f_154_180 rfl rfl rfl (Nat.le_of_ble_eq_true rfl) (Nat.le_of_ble_eq_true rfl) g1326 rfl (Nat.le_of_ble_eq_true rfl) (cc_Md_ri1 (n := n1) (x := s.1) (A := upA false s.2.1.1 (nI tt)) (B := upB false s.2.1.2.1 (nI tt)) (W := s.2.1.2.2) (ga := ga) (gp := gp) (gu := gu) (gv := gv) (j := j) (dn := s.2.2.2.2 + nI 1) (la := la) (lb := lb) (cb := cb) (lg := lg) g1333 g1334 g1344 g1354 (p0) (by omega) (by rw [← hn1, ← hLW]; exact hr) (p5) (p6) (fun k hk => Nat.le_trans (p7 k hk) (by omega))) rfl (fun h1364 r1365 q1366 => ?_)
                  obtain ⟨rfl, g1367, fx1368⟩ := q1366
                  obtain ⟨hm1369, fa1370, fb1371⟩ := fl_mid fx1368
                  have fr1372 : px_fl [(269, 1), (287, 1), (289, 3), (295, 1)] h hm1369 := fl_tr fr1149 fa1370 (by first | exact ⟨_, List.mem_cons_self, by omega, by omega⟩ | exact ⟨_, List.mem_cons_of_mem _ (List.mem_cons_self), by omega, by omega⟩ | exact ⟨_, List.mem_cons_of_mem _ (List.mem_cons_of_mem _ (List.mem_cons_self)), by omega, by omega⟩ | exact ⟨_, List.mem_cons_of_mem _ (List.mem_cons_of_mem _ (List.mem_cons_of_mem _ (List.mem_cons_self))), by omega, by omega⟩)
                  obtain ⟨hm1373, fa1374, fb1375⟩ := fl_mid fb1371
                  have fr1376 : px_fl [(269, 1), (287, 1), (289, 3), (295, 1)] h hm1373 := fl_tr fr1372 fa1374 (by first | exact ⟨_, List.mem_cons_self, by omega, by omega⟩ | exact ⟨_, List.mem_cons_of_mem _ (List.mem_cons_self), by omega, by omega⟩ | exact ⟨_, List.mem_cons_of_mem _ (List.mem_cons_of_mem _ (List.mem_cons_self)), by omega, by omega⟩ | exact ⟨_, List.mem_cons_of_mem _ (List.mem_cons_of_mem _ (List.mem_cons_of_mem _ (List.mem_cons_self))), by omega, by omega⟩)
                  obtain ⟨hm1377, fa1378, fb1379⟩ := fl_mid fb1375
                  have fr1380 : px_fl [(269, 1), (287, 1), (289, 3), (295, 1)] h hm1377 := fl_tr fr1376 fa1378 (by first | exact ⟨_, List.mem_cons_self, by omega, by omega⟩ | exact ⟨_, List.mem_cons_of_mem _ (List.mem_cons_self), by omega, by omega⟩ | exact ⟨_, List.mem_cons_of_mem _ (List.mem_cons_of_mem _ (List.mem_cons_self)), by omega, by omega⟩ | exact ⟨_, List.mem_cons_of_mem _ (List.mem_cons_of_mem _ (List.mem_cons_of_mem _ (List.mem_cons_self))), by omega, by omega⟩)
                  have fb1381 := fl_one fb1379
                  have fr1382 : px_fl [(269, 1), (287, 1), (289, 3), (295, 1)] h h1364 := fl_tr fr1380 fb1381 (by first | exact ⟨_, List.mem_cons_self, by omega, by omega⟩ | exact ⟨_, List.mem_cons_of_mem _ (List.mem_cons_self), by omega, by omega⟩ | exact ⟨_, List.mem_cons_of_mem _ (List.mem_cons_of_mem _ (List.mem_cons_self)), by omega, by omega⟩ | exact ⟨_, List.mem_cons_of_mem _ (List.mem_cons_of_mem _ (List.mem_cons_of_mem _ (List.mem_cons_self))), by omega, by omega⟩)
                  show px_to 154 183 [some (.ref (269)), some (.int (nI e)), some (.int (nI ((es.getD e (0, 0, 0, 0)).1))), some (.int (nI 0)), some (.int (nI 0)), some (.int (nI n1))] [] h1364 _
                  refine e_vret f_154_183 rfl ?_
                  have ed := doEv_h1 (j := j) (la := la) (lb := lb) (s := s) (n := n1) hhh hbb (by rw [htt]; exact hr) (by rw [htt, hLW]; exact hn1) (by omega)
                  rw [ed, htt]
                  exact ⟨rfl, g1367, fr1382⟩
                · skip
                  refine e_aload_n f_154_177 rfl rfl ?_
                  refine e_iload f_154_178 rfl rfl ?_
                  refine e_callV (As := [.int (upA false s.2.1.1 (nI tt))]) (rest := []) f_154_180 rfl rfl rfl (Nat.le_of_ble_eq_true rfl) (Nat.le_of_ble_eq_true rfl) g1150 rfl (Nat.le_of_ble_eq_true rfl) (cc_Md_ri0 (w := upA false s.2.1.1 (nI tt)) (x := s.1) (sl := sl2.set 0 (nI tt)) (ga := ga) (gp := gp) (gq := (nI j.length, s.1.2.2.2.2.isSome, oI s.1.2.2.2.2, s.2.2.2.2 + (nI 1), la, lb, cb)) (gh := (nI lh3.length, nI lg.length)) (gw := gw1) (gu := gu) (gv := gv) g1150 g1147 (by rw [getD_set_ne (by omega), hR0.2.1.2.2.1, ← hLW]; exact Int32.not_lt.mp hr) (by rw [List.length_set]; exact hR0.1)) rfl (fun h1383 r1384 q1385 => ?_)
                  obtain ⟨rfl, qe⟩ := q1385
                  have qe := qe.symm
                  subst qe
                  show px_to 154 183 [some (.ref (269)), some (.int (nI e)), some (.int (nI ((es.getD e (0, 0, 0, 0)).1))), some (.int (nI 0)), some (.int (nI 0)), some (.int (upA false s.2.1.1 (nI tt)))] [] h1146 _
                  refine e_vret f_154_183 rfl ?_
                  have ed := doEv_h0 (j := j) (la := la) (lb := lb) (s := s) hhh hbb (by rw [htt]; exact Int32.not_lt.mp hr)
                  rw [ed, htt]
                  have g1386 : px_pa h12 295 50 30 Value.int cv4 := pa_fi g7 fx14 (by omega)
                  have g1387 : px_pa h1146 295 50 30 Value.int cv4 := pa_fi g1386 fx1148 (by omega)
                  have g1388 : px_pa h12 289 54 100 rK lh3 := pa_fi g8 fx14 (by omega)
                  have g1389 : px_pa h1146 289 54 100 rK lh3 := pa_fi g1388 fx1148 (by omega)
                  have g1390 : px_pa h12 290 50 100 rV lh3 := pa_fi g9 fx14 (by omega)
                  have g1391 : px_pa h1146 290 50 100 rV lh3 := pa_fi g1390 fx1148 (by omega)
                  have g1392 : px_pa h12 291 50 100 rT lh3 := pa_fi g10 fx14 (by omega)
                  have g1393 : px_pa h1146 291 50 100 rT lh3 := pa_fi g1392 fx1148 (by omega)
                  exact ⟨rfl, ⟨_, _, _, _, g1150, g1147, g1387, g1389, g1391, g1393, hW2⟩, fr1149⟩
              · skip
                refine e_iconst (v := nI 1) f_154_148 (by decide) rfl ?_
                refine e_goto f_154_149 ?_
                refine e_istore (L' := [some (.ref (269)), some (.int (nI e)), some (.int (nI ((es.getD e (0, 0, 0, 0)).1))), some (.int (nI 0)), some (.int (nI 1)), none]) f_154_153 (Nat.le_of_ble_eq_true rfl) rfl rfl ?_
                refine e_iload f_154_155 rfl rfl ?_
                refine e_if_eq_f f_154_157 (by decide) rfl ?_
                refine e_aload_n f_154_160 rfl rfl ?_
                refine e_getf f_154_161 g1150 rfl rfl ?_
                refine e_iconst (v := nI 1) f_154_164 (by decide) rfl ?_
                refine e_iaload_p (xs := sl2.set 0 (nI tt)) f_154_165 g1147 (d := 0) (by first | omega | (simp only [List.length_set]; omega)) rfl ?_
                show px_to 154 166 [some (.ref (269)), some (.int (nI e)), some (.int (nI ((es.getD e (0, 0, 0, 0)).1))), some (.int (nI 0)), some (.int (nI 1)), none] [.int ((sl2.set 0 (nI tt)).getD 1 0)] h1146 _
                rw [eB]
                refine e_goto f_154_166 ?_
                refine e_istore (L' := [some (.ref (269)), some (.int (nI e)), some (.int (nI ((es.getD e (0, 0, 0, 0)).1))), some (.int (nI 0)), some (.int (nI 1)), some (.int (upB false s.2.1.2.1 (nI tt)))]) f_154_175 (Nat.le_of_ble_eq_true rfl) rfl rfl ?_
                have hLW : lesW la lb (upA false s.2.1.1 (nI tt)) (upB false s.2.1.2.1 (nI tt)) = upB false s.2.1.2.1 (nI tt) := by unfold lesW; rw [c_123, if_pos rfl, c_130, if_pos rfl]; unfold iMin; rw [if_pos (Int32.not_le.mp c_145)]
                have hW9 : okW9 (lesW la lb (upA false s.2.1.1 (nI tt)) (upB false s.2.1.2.1 (nI tt))) := okW9_les (okW9_upA p9.1 (Or.inr ⟨tt, ht9, rfl⟩)) (okW9_upB p9.2.1 (Or.inr ⟨tt, ht9, rfl⟩))
                by_cases hr : s.2.1.2.2 < lesW la lb (upA false s.2.1.1 (nI tt)) (upB false s.2.1.2.1 (nI tt))
                · skip
                  obtain ⟨n1, hn9, hn1⟩ := okW9_gt p9.2.2 hW9 hr
                  rw [hLW] at hn1
                  rw [hn1]
                  have g1394 : px_pa h12 295 50 30 Value.int cv4 := pa_fi g7 fx14 (by omega)
                  have g1395 : px_pa h1146 295 50 30 Value.int cv4 := pa_fi g1394 fx1148 (by omega)
                  have g1396 : px_pa h12 289 54 100 rK lh3 := pa_fi g8 fx14 (by omega)
                  have g1397 : px_pa h1146 289 54 100 rK lh3 := pa_fi g1396 fx1148 (by omega)
                  have g1398 : px_pa h12 290 50 100 rV lh3 := pa_fi g9 fx14 (by omega)
                  have g1399 : px_pa h1146 290 50 100 rV lh3 := pa_fi g1398 fx1148 (by omega)
                  have g1400 : px_pa h12 291 50 100 rT lh3 := pa_fi g10 fx14 (by omega)
                  have g1401 : px_pa h1146 291 50 100 rT lh3 := pa_fi g1400 fx1148 (by omega)
                  have g1402 : pRZ h1146 ga gp gu gv j (s.2.2.2.2 + nI 1) la lb cb lg (upA false s.2.1.1 (nI tt)) (upB false s.2.1.2.1 (nI tt)) s.2.1.2.2 s.1 := by exact ⟨_, _, _, _, g1150, g1147, g1395, g1397, g1399, g1401, hW2⟩
                  refine e_aload_n f_154_177 rfl rfl ?_
                  refine e_iload f_154_178 rfl rfl ?_
                  obtain ⟨gw1403, sl1404, lh1405, cv1406, g1407, g1408, g1409, g1410, g1411, g1412, hR1413⟩ := id g1402
                  have g1414 : pRZ h1146 ga gp gu gv j (s.2.2.2.2 + nI 1) la lb cb lg (upA false s.2.1.1 (nI tt)) (upB false s.2.1.2.1 (nI tt)) s.2.1.2.2 s.1 := ⟨_, _, _, _, g1407, g1408, g1409, g1410, g1411, g1412, hR1413⟩
                  obtain ⟨hm1416, fa1417, fb1418⟩ := fl_mid fr1149
                  obtain ⟨hm1419, fa1420, fb1421⟩ := fl_mid fb1418
                  obtain ⟨hm1422, fa1423, fb1424⟩ := fl_mid fb1421
                  have g1415 : px_pa h1146 284 52 6 stS j := pa_fi (pa_fi (pa_fi (pa_fi H1 fa1417 (by omega)) fa1420 (by omega)) fa1423 (by omega)) (fl_one fb1424) (by omega)
                  obtain ⟨hm1426, fa1427, fb1428⟩ := fl_mid fr1149
                  obtain ⟨hm1429, fa1430, fb1431⟩ := fl_mid fb1428
                  obtain ⟨hm1432, fa1433, fb1434⟩ := fl_mid fb1431
                  have g1425 : px_pa h1146 285 52 6 stA j := pa_fi (pa_fi (pa_fi (pa_fi H2 fa1427 (by omega)) fa1430 (by omega)) fa1433 (by omega)) (fl_one fb1434) (by omega)
                  obtain ⟨hm1436, fa1437, fb1438⟩ := fl_mid fr1149
                  obtain ⟨hm1439, fa1440, fb1441⟩ := fl_mid fb1438
                  obtain ⟨hm1442, fa1443, fb1444⟩ := fl_mid fb1441
                  have g1435 : px_pa h1146 286 50 6 stN j := pa_fi (pa_fi (pa_fi (pa_fi H3 fa1437 (by omega)) fa1440 (by omega)) fa1443 (by omega)) (fl_one fb1444) (by omega)
                  refine e_callV (As := [.int (nI n1)]) (rest := []) f_154_180 rfl rfl rfl (Nat.le_of_ble_eq_true rfl) (Nat.le_of_ble_eq_true rfl) g1407 rfl (Nat.le_of_ble_eq_true rfl) (cc_Md_ri1 (n := n1) (x := s.1) (A := upA false s.2.1.1 (nI tt)) (B := upB false s.2.1.2.1 (nI tt)) (W := s.2.1.2.2) (ga := ga) (gp := gp) (gu := gu) (gv := gv) (j := j) (dn := s.2.2.2.2 + nI 1) (la := la) (lb := lb) (cb := cb) (lg := lg) g1414 g1415 g1425 g1435 (p0) (by omega) (by rw [← hn1, ← hLW]; exact hr) (p5) (p6) (fun k hk => Nat.le_trans (p7 k hk) (by omega))) rfl (fun h1445 r1446 q1447 => ?_)
                  obtain ⟨rfl, g1448, fx1449⟩ := q1447
                  obtain ⟨hm1450, fa1451, fb1452⟩ := fl_mid fx1449
                  have fr1453 : px_fl [(269, 1), (287, 1), (289, 3), (295, 1)] h hm1450 := fl_tr fr1149 fa1451 (by first | exact ⟨_, List.mem_cons_self, by omega, by omega⟩ | exact ⟨_, List.mem_cons_of_mem _ (List.mem_cons_self), by omega, by omega⟩ | exact ⟨_, List.mem_cons_of_mem _ (List.mem_cons_of_mem _ (List.mem_cons_self)), by omega, by omega⟩ | exact ⟨_, List.mem_cons_of_mem _ (List.mem_cons_of_mem _ (List.mem_cons_of_mem _ (List.mem_cons_self))), by omega, by omega⟩)
                  obtain ⟨hm1454, fa1455, fb1456⟩ := fl_mid fb1452
                  have fr1457 : px_fl [(269, 1), (287, 1), (289, 3), (295, 1)] h hm1454 := fl_tr fr1453 fa1455 (by first | exact ⟨_, List.mem_cons_self, by omega, by omega⟩ | exact ⟨_, List.mem_cons_of_mem _ (List.mem_cons_self), by omega, by omega⟩ | exact ⟨_, List.mem_cons_of_mem _ (List.mem_cons_of_mem _ (List.mem_cons_self)), by omega, by omega⟩ | exact ⟨_, List.mem_cons_of_mem _ (List.mem_cons_of_mem _ (List.mem_cons_of_mem _ (List.mem_cons_self))), by omega, by omega⟩)
                  obtain ⟨hm1458, fa1459, fb1460⟩ := fl_mid fb1456
                  have fr1461 : px_fl [(269, 1), (287, 1), (289, 3), (295, 1)] h hm1458 := fl_tr fr1457 fa1459 (by first | exact ⟨_, List.mem_cons_self, by omega, by omega⟩ | exact ⟨_, List.mem_cons_of_mem _ (List.mem_cons_self), by omega, by omega⟩ | exact ⟨_, List.mem_cons_of_mem _ (List.mem_cons_of_mem _ (List.mem_cons_self)), by omega, by omega⟩ | exact ⟨_, List.mem_cons_of_mem _ (List.mem_cons_of_mem _ (List.mem_cons_of_mem _ (List.mem_cons_self))), by omega, by omega⟩)
                  have fb1462 := fl_one fb1460
                  have fr1463 : px_fl [(269, 1), (287, 1), (289, 3), (295, 1)] h h1445 := fl_tr fr1461 fb1462 (by first | exact ⟨_, List.mem_cons_self, by omega, by omega⟩ | exact ⟨_, List.mem_cons_of_mem _ (List.mem_cons_self), by omega, by omega⟩ | exact ⟨_, List.mem_cons_of_mem _ (List.mem_cons_of_mem _ (List.mem_cons_self)), by omega, by omega⟩ | exact ⟨_, List.mem_cons_of_mem _ (List.mem_cons_of_mem _ (List.mem_cons_of_mem _ (List.mem_cons_self))), by omega, by omega⟩)
                  show px_to 154 183 [some (.ref (269)), some (.int (nI e)), some (.int (nI ((es.getD e (0, 0, 0, 0)).1))), some (.int (nI 0)), some (.int (nI 1)), some (.int (nI n1))] [] h1445 _
                  refine e_vret f_154_183 rfl ?_
                  have ed := doEv_h1 (j := j) (la := la) (lb := lb) (s := s) (n := n1) hhh hbb (by rw [htt]; exact hr) (by rw [htt, hLW]; exact hn1) (by omega)
                  rw [ed, htt]
                  exact ⟨rfl, g1448, fr1463⟩
                · skip
                  refine e_aload_n f_154_177 rfl rfl ?_
                  refine e_iload f_154_178 rfl rfl ?_
                  refine e_callV (As := [.int (upB false s.2.1.2.1 (nI tt))]) (rest := []) f_154_180 rfl rfl rfl (Nat.le_of_ble_eq_true rfl) (Nat.le_of_ble_eq_true rfl) g1150 rfl (Nat.le_of_ble_eq_true rfl) (cc_Md_ri0 (w := upB false s.2.1.2.1 (nI tt)) (x := s.1) (sl := sl2.set 0 (nI tt)) (ga := ga) (gp := gp) (gq := (nI j.length, s.1.2.2.2.2.isSome, oI s.1.2.2.2.2, s.2.2.2.2 + (nI 1), la, lb, cb)) (gh := (nI lh3.length, nI lg.length)) (gw := gw1) (gu := gu) (gv := gv) g1150 g1147 (by rw [getD_set_ne (by omega), hR0.2.1.2.2.1, ← hLW]; exact Int32.not_lt.mp hr) (by rw [List.length_set]; exact hR0.1)) rfl (fun h1464 r1465 q1466 => ?_)
                  obtain ⟨rfl, qe⟩ := q1466
                  have qe := qe.symm
                  subst qe
                  show px_to 154 183 [some (.ref (269)), some (.int (nI e)), some (.int (nI ((es.getD e (0, 0, 0, 0)).1))), some (.int (nI 0)), some (.int (nI 1)), some (.int (upB false s.2.1.2.1 (nI tt)))] [] h1146 _
                  refine e_vret f_154_183 rfl ?_
                  have ed := doEv_h0 (j := j) (la := la) (lb := lb) (s := s) hhh hbb (by rw [htt]; exact Int32.not_lt.mp hr)
                  rw [ed, htt]
                  have g1467 : px_pa h12 295 50 30 Value.int cv4 := pa_fi g7 fx14 (by omega)
                  have g1468 : px_pa h1146 295 50 30 Value.int cv4 := pa_fi g1467 fx1148 (by omega)
                  have g1469 : px_pa h12 289 54 100 rK lh3 := pa_fi g8 fx14 (by omega)
                  have g1470 : px_pa h1146 289 54 100 rK lh3 := pa_fi g1469 fx1148 (by omega)
                  have g1471 : px_pa h12 290 50 100 rV lh3 := pa_fi g9 fx14 (by omega)
                  have g1472 : px_pa h1146 290 50 100 rV lh3 := pa_fi g1471 fx1148 (by omega)
                  have g1473 : px_pa h12 291 50 100 rT lh3 := pa_fi g10 fx14 (by omega)
                  have g1474 : px_pa h1146 291 50 100 rT lh3 := pa_fi g1473 fx1148 (by omega)
                  exact ⟨rfl, ⟨_, _, _, _, g1150, g1147, g1468, g1470, g1472, g1474, hW2⟩, fr1149⟩
    · skip
      have c_26 : (es.getD e (0, 0, 0, 0)).1 = 82 := cv_nne (by omega) (by omega) c_26
      have hrr : (es.getD e (0, 0, 0, 0)).1 = 114 ∨ (es.getD e (0, 0, 0, 0)).1 = 82 := by omega
      obtain ⟨kk, hk4, hkk⟩ := p3.2.1 hrr
      obtain ⟨tt, ht9, htt⟩ := p3.2.2 p4
      refine e_aload_n f_154_29 rfl rfl ?_
      refine e_aload_n f_154_30 rfl rfl ?_
      refine e_getf f_154_31 g13 rfl rfl ?_
      refine e_iload_n f_154_34 rfl rfl ?_
      obtain ⟨hm1476, fa1477, fb1478⟩ := fl_mid fr15
      obtain ⟨hm1479, fa1480, fb1481⟩ := fl_mid fb1478
      obtain ⟨hm1482, fa1483, fb1484⟩ := fl_mid fb1481
      have g1475 : px_pa h12 276 54 192 evK es := pa_fi (pa_fi (pa_fi (pa_fi H5 fa1477 (by omega)) fa1480 (by omega)) fa1483 (by omega)) (fl_one fb1484) (by omega)
      refine e_baload_p (xs := es) f_154_35 g1475 (d := (0, 0, 0, 0)) (by first | omega | (simp only [List.length_set]; omega)) rfl ?_
      show px_to 154 36 [some (.ref (269)), some (.int (nI e)), some (.int (nI ((es.getD e (0, 0, 0, 0)).1))), none, none, none] [.int ((es.getD e (0, 0, 0, 0)).2.1), .ref (269)] h12 _
      rw [hkk]
      refine e_putp (vs' := mB ga gp (nI j.length, s.1.2.2.2.2.isSome, oI s.1.2.2.2.2, s.2.2.2.2 + (nI 1), la, lb, cb) (nI lh3.length, nI lg.length) (nI kk, gw1.2.1, gw1.2.2) gu gv) f_154_36 g13 (Nat.le_of_ble_eq_true rfl) (rfl) (rfl) rfl rfl (fun h1485 g1486 fx1487 => ?_)
      have fr1488 : px_fl [(269, 1), (287, 1), (289, 3), (295, 1)] h h1485 := fl_tr fr15 fx1487 (by first | exact ⟨_, List.mem_cons_self, by omega, by omega⟩ | exact ⟨_, List.mem_cons_of_mem _ (List.mem_cons_self), by omega, by omega⟩ | exact ⟨_, List.mem_cons_of_mem _ (List.mem_cons_of_mem _ (List.mem_cons_self)), by omega, by omega⟩ | exact ⟨_, List.mem_cons_of_mem _ (List.mem_cons_of_mem _ (List.mem_cons_of_mem _ (List.mem_cons_self))), by omega, by omega⟩)
      refine e_aload_n f_154_39 rfl rfl ?_
      refine e_aload_n f_154_40 rfl rfl ?_
      refine e_getf f_154_41 g1486 rfl rfl ?_
      refine e_iload_n f_154_44 rfl rfl ?_
      obtain ⟨hm1490, fa1491, fb1492⟩ := fl_mid fr1488
      obtain ⟨hm1493, fa1494, fb1495⟩ := fl_mid fb1492
      obtain ⟨hm1496, fa1497, fb1498⟩ := fl_mid fb1495
      have g1489 : px_pa h1485 277 53 192 evV es := pa_fi (pa_fi (pa_fi (pa_fi H6 fa1491 (by omega)) fa1494 (by omega)) fa1497 (by omega)) (fl_one fb1498) (by omega)
      refine e_saload_p (xs := es) f_154_45 g1489 (d := (0, 0, 0, 0)) (by first | omega | (simp only [List.length_set]; omega)) rfl ?_
      show px_to 154 46 [some (.ref (269)), some (.int (nI e)), some (.int (nI ((es.getD e (0, 0, 0, 0)).1))), none, none, none] [.int ((es.getD e (0, 0, 0, 0)).2.2.1), .ref (269)] h1485 _
      refine e_putp (vs' := mB ga gp (nI j.length, s.1.2.2.2.2.isSome, oI s.1.2.2.2.2, s.2.2.2.2 + (nI 1), la, lb, cb) (nI lh3.length, nI lg.length) (nI kk, (es.getD e (0, 0, 0, 0)).2.2.1, gw1.2.2) gu gv) f_154_46 g1486 (Nat.le_of_ble_eq_true rfl) (rfl) (rfl) rfl rfl (fun h1499 g1500 fx1501 => ?_)
      have fr1502 : px_fl [(269, 1), (287, 1), (289, 3), (295, 1)] h h1499 := fl_tr fr1488 fx1501 (by first | exact ⟨_, List.mem_cons_self, by omega, by omega⟩ | exact ⟨_, List.mem_cons_of_mem _ (List.mem_cons_self), by omega, by omega⟩ | exact ⟨_, List.mem_cons_of_mem _ (List.mem_cons_of_mem _ (List.mem_cons_self)), by omega, by omega⟩ | exact ⟨_, List.mem_cons_of_mem _ (List.mem_cons_of_mem _ (List.mem_cons_of_mem _ (List.mem_cons_self))), by omega, by omega⟩)
      refine e_aload_n f_154_49 rfl rfl ?_
      refine e_aload_n f_154_50 rfl rfl ?_
      refine e_getf f_154_51 g1500 rfl rfl ?_
      refine e_iload_n f_154_54 rfl rfl ?_
      obtain ⟨hm1504, fa1505, fb1506⟩ := fl_mid fr1502
      obtain ⟨hm1507, fa1508, fb1509⟩ := fl_mid fb1506
      obtain ⟨hm1510, fa1511, fb1512⟩ := fl_mid fb1509
      have g1503 : px_pa h1499 278 53 192 evT es := pa_fi (pa_fi (pa_fi (pa_fi H7 fa1505 (by omega)) fa1508 (by omega)) fa1511 (by omega)) (fl_one fb1512) (by omega)
      refine e_saload_p (xs := es) f_154_55 g1503 (d := (0, 0, 0, 0)) (by first | omega | (simp only [List.length_set]; omega)) rfl ?_
      show px_to 154 56 [some (.ref (269)), some (.int (nI e)), some (.int (nI ((es.getD e (0, 0, 0, 0)).1))), none, none, none] [.int ((es.getD e (0, 0, 0, 0)).2.2.2), .ref (269)] h1499 _
      rw [htt]
      refine e_putp (vs' := mB ga gp (nI j.length, s.1.2.2.2.2.isSome, oI s.1.2.2.2.2, s.2.2.2.2 + (nI 1), la, lb, cb) (nI lh3.length, nI lg.length) (nI kk, (es.getD e (0, 0, 0, 0)).2.2.1, nI tt) gu gv) f_154_56 g1500 (Nat.le_of_ble_eq_true rfl) (rfl) (rfl) rfl rfl (fun h1513 g1514 fx1515 => ?_)
      have fr1516 : px_fl [(269, 1), (287, 1), (289, 3), (295, 1)] h h1513 := fl_tr fr1502 fx1515 (by first | exact ⟨_, List.mem_cons_self, by omega, by omega⟩ | exact ⟨_, List.mem_cons_of_mem _ (List.mem_cons_self), by omega, by omega⟩ | exact ⟨_, List.mem_cons_of_mem _ (List.mem_cons_of_mem _ (List.mem_cons_self)), by omega, by omega⟩ | exact ⟨_, List.mem_cons_of_mem _ (List.mem_cons_of_mem _ (List.mem_cons_of_mem _ (List.mem_cons_self))), by omega, by omega⟩)
      refine e_aload_n f_154_59 rfl rfl ?_
      refine e_iconst (v := nI 0) f_154_60 (by decide) rfl ?_
      obtain ⟨hm1518, fa1519, fb1520⟩ := fl_mid fr1516
      obtain ⟨hm1521, fa1522, fb1523⟩ := fl_mid fb1520
      obtain ⟨hm1524, fa1525, fb1526⟩ := fl_mid fb1523
      have g1517 : px_pa h1513 284 52 6 stS j := pa_fi (pa_fi (pa_fi (pa_fi H1 fa1519 (by omega)) fa1522 (by omega)) fa1525 (by omega)) (fl_one fb1526) (by omega)
      obtain ⟨hm1528, fa1529, fb1530⟩ := fl_mid fr1516
      obtain ⟨hm1531, fa1532, fb1533⟩ := fl_mid fb1530
      obtain ⟨hm1534, fa1535, fb1536⟩ := fl_mid fb1533
      have g1527 : px_pa h1513 285 52 6 stA j := pa_fi (pa_fi (pa_fi (pa_fi H2 fa1529 (by omega)) fa1532 (by omega)) fa1535 (by omega)) (fl_one fb1536) (by omega)
      obtain ⟨hm1538, fa1539, fb1540⟩ := fl_mid fr1516
      obtain ⟨hm1541, fa1542, fb1543⟩ := fl_mid fb1540
      obtain ⟨hm1544, fa1545, fb1546⟩ := fl_mid fb1543
      have g1537 : px_pa h1513 286 50 6 stN j := pa_fi (pa_fi (pa_fi (pa_fi H3 fa1539 (by omega)) fa1542 (by omega)) fa1545 (by omega)) (fl_one fb1546) (by omega)
      have g1547 : px_pa h12 287 50 3070 Value.int sl2 := pa_fi g6 fx14 (by omega)
      have g1548 : px_pa h1485 287 50 3070 Value.int sl2 := pa_fi g1547 fx1487 (by omega)
      have g1549 : px_pa h1499 287 50 3070 Value.int sl2 := pa_fi g1548 fx1501 (by omega)
      have g1550 : px_pa h1513 287 50 3070 Value.int sl2 := pa_fi g1549 fx1515 (by omega)
      have g1551 : px_pa h12 295 50 30 Value.int cv4 := pa_fi g7 fx14 (by omega)
      have g1552 : px_pa h1485 295 50 30 Value.int cv4 := pa_fi g1551 fx1487 (by omega)
      have g1553 : px_pa h1499 295 50 30 Value.int cv4 := pa_fi g1552 fx1501 (by omega)
      have g1554 : px_pa h1513 295 50 30 Value.int cv4 := pa_fi g1553 fx1515 (by omega)
      have g1555 : px_pa h12 289 54 100 rK lh3 := pa_fi g8 fx14 (by omega)
      have g1556 : px_pa h1485 289 54 100 rK lh3 := pa_fi g1555 fx1487 (by omega)
      have g1557 : px_pa h1499 289 54 100 rK lh3 := pa_fi g1556 fx1501 (by omega)
      have g1558 : px_pa h1513 289 54 100 rK lh3 := pa_fi g1557 fx1515 (by omega)
      have g1559 : px_pa h12 290 50 100 rV lh3 := pa_fi g9 fx14 (by omega)
      have g1560 : px_pa h1485 290 50 100 rV lh3 := pa_fi g1559 fx1487 (by omega)
      have g1561 : px_pa h1499 290 50 100 rV lh3 := pa_fi g1560 fx1501 (by omega)
      have g1562 : px_pa h1513 290 50 100 rV lh3 := pa_fi g1561 fx1515 (by omega)
      have g1563 : px_pa h12 291 50 100 rT lh3 := pa_fi g10 fx14 (by omega)
      have g1564 : px_pa h1485 291 50 100 rT lh3 := pa_fi g1563 fx1487 (by omega)
      have g1565 : px_pa h1499 291 50 100 rT lh3 := pa_fi g1564 fx1501 (by omega)
      have g1566 : px_pa h1513 291 50 100 rT lh3 := pa_fi g1565 fx1515 (by omega)
      refine e_callV (As := [.int (nI 0)]) (rest := []) f_154_61 rfl rfl rfl (Nat.le_of_ble_eq_true rfl) (Nat.le_of_ble_eq_true rfl) g1514 rfl (Nat.le_of_ble_eq_true rfl) (cc_Md_flo (f := 0) (key := kk) (t := tt) (v := (es.getD e (0, 0, 0, 0)).2.2.1) (x := s.1) (sl := sl2) (lh := lh3) (cv := cv4) (A := s.2.1.1) (B := s.2.1.2.1) (W := s.2.1.2.2) (ga := ga) (gp := gp) (gu := gu) (gv := gv) (j := j) (dn := s.2.2.2.2 + nI 1) (la := la) (lb := lb) (cb := cb) (lg := lg) g1514 g1517 g1527 g1537 g1550 g1554 g1558 g1562 g1566 (p0) (Nat.zero_le _) (hk4) (by omega) (p5.1) (p6) (hRx) (bd_of p0.2.2 p7 p8)) rfl (fun h1567 r1568 q1569 => ?_)
      obtain ⟨rfl, g1570, fx1571⟩ := q1569
      obtain ⟨hm1572, fa1573, fb1574⟩ := fl_mid fx1571
      have fr1575 : px_fl [(269, 1), (287, 1), (289, 3), (295, 1)] h hm1572 := fl_tr fr1516 fa1573 (by first | exact ⟨_, List.mem_cons_self, by omega, by omega⟩ | exact ⟨_, List.mem_cons_of_mem _ (List.mem_cons_self), by omega, by omega⟩ | exact ⟨_, List.mem_cons_of_mem _ (List.mem_cons_of_mem _ (List.mem_cons_self)), by omega, by omega⟩ | exact ⟨_, List.mem_cons_of_mem _ (List.mem_cons_of_mem _ (List.mem_cons_of_mem _ (List.mem_cons_self))), by omega, by omega⟩)
      obtain ⟨hm1576, fa1577, fb1578⟩ := fl_mid fb1574
      have fr1579 : px_fl [(269, 1), (287, 1), (289, 3), (295, 1)] h hm1576 := fl_tr fr1575 fa1577 (by first | exact ⟨_, List.mem_cons_self, by omega, by omega⟩ | exact ⟨_, List.mem_cons_of_mem _ (List.mem_cons_self), by omega, by omega⟩ | exact ⟨_, List.mem_cons_of_mem _ (List.mem_cons_of_mem _ (List.mem_cons_self)), by omega, by omega⟩ | exact ⟨_, List.mem_cons_of_mem _ (List.mem_cons_of_mem _ (List.mem_cons_of_mem _ (List.mem_cons_self))), by omega, by omega⟩)
      obtain ⟨hm1580, fa1581, fb1582⟩ := fl_mid fb1578
      have fr1583 : px_fl [(269, 1), (287, 1), (289, 3), (295, 1)] h hm1580 := fl_tr fr1579 fa1581 (by first | exact ⟨_, List.mem_cons_self, by omega, by omega⟩ | exact ⟨_, List.mem_cons_of_mem _ (List.mem_cons_self), by omega, by omega⟩ | exact ⟨_, List.mem_cons_of_mem _ (List.mem_cons_of_mem _ (List.mem_cons_self)), by omega, by omega⟩ | exact ⟨_, List.mem_cons_of_mem _ (List.mem_cons_of_mem _ (List.mem_cons_of_mem _ (List.mem_cons_self))), by omega, by omega⟩)
      have fb1584 := fl_one fb1582
      have fr1585 : px_fl [(269, 1), (287, 1), (289, 3), (295, 1)] h h1567 := fl_tr fr1583 fb1584 (by first | exact ⟨_, List.mem_cons_self, by omega, by omega⟩ | exact ⟨_, List.mem_cons_of_mem _ (List.mem_cons_self), by omega, by omega⟩ | exact ⟨_, List.mem_cons_of_mem _ (List.mem_cons_of_mem _ (List.mem_cons_self)), by omega, by omega⟩ | exact ⟨_, List.mem_cons_of_mem _ (List.mem_cons_of_mem _ (List.mem_cons_of_mem _ (List.mem_cons_self))), by omega, by omega⟩)
      show px_to 154 64 [some (.ref (269)), some (.int (nI e)), some (.int (nI ((es.getD e (0, 0, 0, 0)).1))), none, none, none] [] h1567 _
      refine e_vret f_154_64 rfl ?_
      have ed := doEv_r (j := j) (la := la) (lb := lb) (s := s) hrr hkk hk4 htt ht9
      rw [ed]
      obtain ⟨gw1, sl1, lh1, cv1, y1, y2, y3, y4, y5, y6, y7⟩ := g1570
      exact ⟨rfl, ⟨gw1, sl1, lh1, cv1, y1, y2, y3, y4, y5, y6, relZ_of y7⟩, fr1585⟩
