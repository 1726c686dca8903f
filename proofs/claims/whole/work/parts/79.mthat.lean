theorem apB_lt {b : Bool} {n x p : Nat} (h : x < 2 ^ p) : apB b n x p < 2 ^ (p + n) := by
  have h2 : 0 < 2 ^ n := Nat.two_pow_pos n
  have h3 : 2 ^ (p + n) = 2 ^ n * 2 ^ p := by rw [Nat.pow_add, Nat.mul_comm]
  unfold apB ones
  split
  · have h4 : (2 ^ n - 1) * 2 ^ p + 2 ^ p = 2 ^ n * 2 ^ p := by rw [← Nat.succ_mul]; congr 1; omega
    rw [h3]
    omega
  · exact Nat.lt_of_lt_of_le h (Nat.pow_le_pow_right (by decide) (by omega))
def elT (b : Bool) (f g o t : Nat) : Nat := apB (!b) (g - t) (apB b (f - o) (apB (!b) t (apB b o 0 0) (0 + o)) (0 + o + t)) (0 + o + t + (f - o))
def rowT (b : Bool) (f g t2 two one : Nat) : List Nat := if 0 < g then (List.range' two (t2 + 1 - two)).map (elT b f g one) else []
def famT (b : Bool) (f g lo2 t2 t1 one : Nat) : List Nat := if 0 < f then (List.range' one (t1 + 1 - one)).flatMap (rowT b f g t2 lo2) else []
def thL (b : Bool) (f g : Nat) : Nat → List Nat
  | 0 => if g = 0 ∧ (0 < f ∨ b = false) then [apB b f 0 0] else []
  | 1 => famT b f g g g f f
  | 2 => famT b f g g g (f - 1) 1
  | _ => famT b f g 1 (g - 1) (f - 1) 1
def thS (a c n : Nat) : List Nat := thL false a c n ++ thL true c a n
theorem rowT_s {b : Bool} {f g t2 two one : Nat} (h : 0 < g) (h1 : two ≤ t2) : rowT b f g t2 two one = elT b f g one two :: rowT b f g t2 (two + 1) one := by
  unfold rowT
  rw [if_pos h, if_pos h, show t2 + 1 - two = (t2 + 1 - (two + 1)) + 1 by omega, List.range'_succ]
  rfl
theorem rowT_n {b : Bool} {f g t2 two one : Nat} (h : ¬ (0 < g ∧ two ≤ t2)) : rowT b f g t2 two one = [] := by
  unfold rowT
  split
  · rw [show t2 + 1 - two = 0 by omega]; rfl
  · rfl
theorem famT_s {b : Bool} {f g lo2 t2 t1 one : Nat} (h : 0 < f) (h1 : one ≤ t1) : famT b f g lo2 t2 t1 one = rowT b f g t2 lo2 one ++ famT b f g lo2 t2 t1 (one + 1) := by
  unfold famT
  rw [if_pos h, if_pos h, show t1 + 1 - one = (t1 + 1 - (one + 1)) + 1 by omega, List.range'_succ, List.flatMap_cons]
theorem famT_n {b : Bool} {f g lo2 t2 t1 one : Nat} (h : ¬ (0 < f ∧ one ≤ t1)) : famT b f g lo2 t2 t1 one = [] := by
  unfold famT
  split
  · rw [show t1 + 1 - one = 0 by omega]; rfl
  · rfl
theorem drop_c {L r : List Nat} {x n : Nat} (h : L.drop n = x :: r) : n < L.length ∧ L.getD n 0 = x ∧ L.drop (n + 1) = r := by
  have h1 : n < L.length := by
    apply Classical.byContradiction
    intro z
    rw [List.drop_eq_nil_of_le (by omega)] at h
    exact absurd h (by simp)
  rw [drop_step 0 h1] at h
  injection h with h2 h3
  exact ⟨h1, h2, h3⟩
theorem drop_f {T A B : List Nat} {n l : Nat} (h : T.drop n = A ++ B) (hl : l < A.length) : n + l < T.length ∧ T.getD (n + l) 0 = A.getD l 0 := by
  have h1 : (T.drop n).length = (A ++ B).length := by rw [h]
  rw [List.length_drop, List.length_append] at h1
  refine ⟨by omega, ?_⟩
  have h2 : (T.drop n)[l]? = (A ++ B)[l]? := by rw [h]
  rw [List.getElem?_drop, List.getElem?_append_left hl] at h2
  rw [List.getD_eq_getElem?_getD, List.getD_eq_getElem?_getD, h2]
theorem drop_nx {T A B : List Nat} {n : Nat} (h : T.drop n = A ++ B) (hn : n ≤ T.length) : T.drop (n + A.length) = B ∧ n + A.length ≤ T.length := by
  have h1 : (T.drop n).length = (A ++ B).length := by rw [h]
  rw [List.length_drop, List.length_append] at h1
  refine ⟨?_, by omega⟩
  rw [← List.drop_drop, h, List.drop_left]
theorem elT_f (f g o t : Nat) (h : o ≤ f) : elT false f g o t = ones t * 2 ^ o + ones (g - t) * 2 ^ (f + t) := by
  unfold elT apB
  simp only [Bool.not_false, if_true, Bool.false_eq_true, if_false]
  rw [show 0 + o + t + (f - o) = f + t by omega, Nat.zero_add, Nat.zero_add]
theorem elT_t (f g o t : Nat) : elT true f g o t = ones o + ones (f - o) * 2 ^ (o + t) := by
  unfold elT apB
  simp only [Bool.not_true, if_true, Bool.false_eq_true, if_false]
  rw [Nat.zero_add, Nat.zero_add, Nat.pow_zero, Nat.mul_one]
theorem ones_0 : ones 0 = 0 := by decide
theorem rng_map {n : Nat} {F : Nat → Nat} : (List.range' 1 n).map F = (List.range n).map (fun i => F (i + 1)) := by
  rw [List.range_eq_range', List.range'_eq_map_range, List.map_map, ← List.range_eq_range']
  exact List.map_congr_left (fun i _ => congrArg F (Nat.add_comm _ _))
theorem rng_flat {n : Nat} {F : Nat → List Nat} : (List.range' 1 n).flatMap F = (List.range n).flatMap (fun i => F (i + 1)) := by
  rw [List.range'_eq_map_range, List.flatMap_map]
  exact congrArg (fun z => (List.range n).flatMap z) (funext (fun i => congrArg F (Nat.add_comm _ _)))
theorem th0 (a b : Nat) : thS a b 0 = sL0 a b := by
  unfold thS thL sL0 apB
  rcases Nat.eq_zero_or_pos b with e | e
  · subst e
    simp [ones_0]
  · rcases Nat.eq_zero_or_pos a with e2 | e2
    · subst e2
      simp [show ¬ b = 0 by omega, e]
    · simp [show ¬ b = 0 by omega, show ¬ a = 0 by omega]
theorem rowT_1 {b : Bool} {f g one : Nat} (h : 0 < g) : rowT b f g g g one = [elT b f g one g] := by
  rw [rowT_s h (Nat.le_refl _), rowT_n (by omega)]
theorem th1 (a b : Nat) : thS a b 1 = sL1 a b := by
  unfold thS sL1
  show famT false a b b b a a ++ famT true b a a a b b = _
  rcases Nat.eq_zero_or_pos a with e | e
  · subst e
    rw [famT_n (by omega), if_neg (by omega), List.nil_append]
    rcases Nat.eq_zero_or_pos b with e2 | e2
    · rw [famT_n (by omega)]
    · rw [famT_s e2 (Nat.le_refl _), rowT_n (by omega), famT_n (by omega)]; rfl
  · rcases Nat.eq_zero_or_pos b with e2 | e2
    · subst e2
      rw [famT_s e (Nat.le_refl _), rowT_n (by omega), famT_n (by omega), famT_n (by omega), if_neg (by omega)]; rfl
    · rw [famT_s e (Nat.le_refl _), famT_s e2 (Nat.le_refl _), rowT_1 e2, rowT_1 e, famT_n (by omega), famT_n (by omega), if_pos ⟨e, e2⟩, elT_f _ _ _ _ (Nat.le_refl _), elT_t]
      simp only [Nat.sub_self]
      rw [ones_0, Nat.zero_mul, Nat.zero_mul, Nat.add_zero, Nat.add_zero]
      rfl
theorem flat_nil {L : List Nat} {F : Nat → List Nat} (h : ∀ x ∈ L, F x = []) : L.flatMap F = [] := by
  rw [List.flatMap_eq_nil_iff]
  exact h
theorem flat_one {L : List Nat} {F : Nat → List Nat} {G : Nat → Nat} (h : ∀ x ∈ L, F x = [G x]) : L.flatMap F = L.map G := by
  induction L with
  | nil => rfl
  | cons y L ih => rw [List.flatMap_cons, h y (by simp), ih (fun x hx => h x (by simp [hx]))]; rfl
theorem flat_cg {L : List Nat} {F G : Nat → List Nat} (h : ∀ x ∈ L, F x = G x) : L.flatMap F = L.flatMap G := by
  induction L with
  | nil => rfl
  | cons y L ih => rw [List.flatMap_cons, List.flatMap_cons, h y (by simp), ih (fun x hx => h x (by simp [hx]))]
theorem th2 (a b : Nat) : thS a b 2 = sL2 a b := by
  unfold thS sL2
  have e1 : thL false a b 2 = f2a a b 0 := by
    show famT false a b b b (a - 1) 1 = _
    unfold famT f2a
    rw [List.drop_zero]
    rcases Nat.eq_zero_or_pos a with e | e
    · subst e; rw [if_neg (by omega)]; split <;> rfl
    · rw [if_pos e, show a - 1 + 1 - 1 = a - 1 by omega, rng_flat]
      rcases Nat.eq_zero_or_pos b with e2 | e2
      · rw [if_neg (by omega), flat_nil]
        intro x _
        exact rowT_n (by omega)
      · rw [if_pos e2]
        apply flat_one
        intro x hx
        rw [rowT_1 e2, elT_f _ _ _ _ (by have := List.mem_range.mp hx; omega), Nat.sub_self, ones_0, Nat.zero_mul, Nat.add_zero]
        rfl
  have e2 : thL true b a 2 = f2b a b 0 := by
    show famT true b a a a (b - 1) 1 = _
    unfold famT f2b
    rw [List.drop_zero]
    rcases Nat.eq_zero_or_pos b with e | e
    · subst e; rw [if_neg (by omega)]; split <;> rfl
    · rw [if_pos e, show b - 1 + 1 - 1 = b - 1 by omega, rng_flat]
      rcases Nat.eq_zero_or_pos a with e2 | e2
      · rw [if_neg (by omega), flat_nil]
        intro x _
        exact rowT_n (by omega)
      · rw [if_pos e2]
        apply flat_one
        intro x hx
        rw [rowT_1 e2, elT_t]
        rfl
  rw [e1, e2]
theorem th3 (a b : Nat) : thS a b 3 = sL3 a b := by
  unfold thS sL3
  have e1 : thL false a b 3 = f3a a b 0 := by
    show famT false a b 1 (b - 1) (a - 1) 1 = _
    unfold famT f3a
    rw [List.drop_zero]
    rcases Nat.eq_zero_or_pos a with e | e
    · subst e; rw [if_neg (by omega)]; rfl
    · rw [if_pos e, show a - 1 + 1 - 1 = a - 1 by omega, rng_flat]
      apply flat_cg
      intro x hx
      have hx := List.mem_range.mp hx
      unfold rowT
      rcases Nat.eq_zero_or_pos b with e2 | e2
      · subst e2; rw [if_neg (by omega)]; rfl
      · rw [if_pos e2, show b - 1 + 1 - 1 = b - 1 by omega, rng_map]
        apply List.map_congr_left
        intro y _
        rw [elT_f _ _ _ _ (by omega)]
        rfl
  have e2 : thL true b a 3 = f3b a b 0 := by
    show famT true b a 1 (a - 1) (b - 1) 1 = _
    unfold famT f3b
    rw [List.drop_zero]
    rcases Nat.eq_zero_or_pos b with e | e
    · subst e; rw [if_neg (by omega)]; rfl
    · rw [if_pos e, show b - 1 + 1 - 1 = b - 1 by omega, rng_flat]
      apply flat_cg
      intro x hx
      unfold rowT
      rcases Nat.eq_zero_or_pos a with e2 | e2
      · subst e2; rw [if_neg (by omega)]; rfl
      · rw [if_pos e2, show a - 1 + 1 - 1 = a - 1 by omega, rng_map]
        apply List.map_congr_left
        intro y _
        rw [elT_t]
        rfl
  rw [e1, e2]
theorem schU_th {a b s : Nat} (hs : s < 4) : schU a b s = (List.range' 0 (s + 1)).flatMap (thS a b) := by
  rcases (show s = 0 ∨ s = 1 ∨ s = 2 ∨ s = 3 by omega) with e | e | e | e
  all_goals subst e
  · show sL0 a b = [0].flatMap (thS a b)
    simp [th0]
  · show sL0 a b ++ sL1 a b = [0, 1].flatMap (thS a b)
    simp [th0, th1]
  · show sL0 a b ++ sL1 a b ++ sL2 a b = [0, 1, 2].flatMap (thS a b)
    simp [th0, th1, th2]
  · show sL0 a b ++ sL1 a b ++ sL2 a b ++ sL3 a b = [0, 1, 2, 3].flatMap (thS a b)
    simp [th0, th1, th2, th3]

def pTh (h : px_H) (ga : gA) (gp : gP) (gq : gQ) (gh : gH) (gw : gW) (gu : gU) (gv : gV) (na nb : Nat) (T : List Nat) (l : Nat) : Prop := ∃ (bt pl lf : Int32), h.2.2 269 = some (12, mB ga gp gq gh gw gu (nI na, nI nb, bt, pl, lf, gv.2.2.2.2.2.1, gv.2.2.2.2.2.2.1, gv.2.2.2.2.2.2.2.1, gv.2.2.2.2.2.2.2.2)) ∧ (l < T.length → bt = nI (T.getD l 0)) ∧ (T.length ≤ l → lf = nI (l - T.length))
theorem pTh_fi {h h1 : px_H} {ga : gA} {gp : gP} {gq : gQ} {gh : gH} {gw : gW} {gu : gU} {gv : gV} {na nb : Nat} {T : List Nat} {l lo n : Nat} (q : pTh h ga gp gq gh gw gu gv na nb T l) (f : px_fi lo n h h1) (d : 270 ≤ lo ∨ lo + n ≤ 269) : pTh h1 ga gp gq gh gw gu gv na nb T l := by
  obtain ⟨bt, pl, lf, z, y⟩ := q
  exact ⟨bt, pl, lf, fi_at z f (by omega), y⟩

set_option maxRecDepth 20000 in
set_option maxHeartbeats 4000000 in
theorem ll_Md_thF1i {P : px_H → Option Value → Prop} {h0 : px_H} {one fs gs l0 : Nat} {L0 R : List Nat} {ga : gA} {gp : gP} {gq : gQ} {gh : gH} {gw : gW} {gu : gU} {gv : gV} (h24 : fs + gs ≤ 24) (ho : one ≤ fs) (kt : ∀ g1 pl x, g1.2.2 269 = some (12, mB ga gp gq gh gw gu (nI fs, nI gs, nI x, nI pl, (-1), gv.2.2.2.2.2.1, gv.2.2.2.2.2.2.1, gv.2.2.2.2.2.2.2.1, gv.2.2.2.2.2.2.2.2)) → px_fi 269 1 h0 g1 → l0 < L0.length → L0.getD l0 0 = x → P g1 (some (.int (nI 1)))) (kx : ∀ g1 l pre, g1.2.2 269 = some (12, mB ga gp gq gh gw gu (nI fs, nI gs, nI 0, nI 0, nI l, gv.2.2.2.2.2.1, gv.2.2.2.2.2.2.1, gv.2.2.2.2.2.2.2.1, gv.2.2.2.2.2.2.2.2)) → px_fi 269 1 h0 g1 → pre + l = l0 → pre ≤ L0.length → L0.drop pre = R → px_to 176 274 [some (.ref (269)), some (.int (nI 1)), some (.int (bI false)), some (.int (nI fs)), some (.int (nI gs)), some (.int (nI fs)), some (.int (nI gs)), some (.int (nI one)), none] [] g1 P) : ∀ (d : Nat) (two : Nat) (l : Nat) (pre : Nat) (g : px_H), (gs < two + d) → (two ≤ gs + 1) → (pre + l = l0) → (pre ≤ L0.length) → (L0.drop pre = rowT false fs gs (gs) two one ++ R) → (l0 < 2147483648) → g.2.2 269 = some (12, mB ga gp gq gh gw gu (nI fs, nI gs, nI 0, nI 0, nI l, gv.2.2.2.2.2.1, gv.2.2.2.2.2.2.1, gv.2.2.2.2.2.2.2.1, gv.2.2.2.2.2.2.2.2)) → px_fi 269 1 h0 g → px_to 176 188 [some (.ref (269)), some (.int (nI 1)), some (.int (bI false)), some (.int (nI fs)), some (.int (nI gs)), some (.int (nI fs)), some (.int (nI gs)), some (.int (nI one)), some (.int (nI two))] [] g P := by
  intro d
  induction d using Nat.strongRecOn with
  | ind d ih =>
    intro two l pre g q0 q1 q2 q3 q4 q5 G0 frg
    refine e_iload f_176_188 rfl rfl ?_
    refine e_iload f_176_190 rfl rfl ?_
    refine e_icmp_gt f_176_192 rfl (fun c_192 => ?_) (fun c_192 => ?_)
    · skip
      have c_192 : gs < two := cv_lt (by omega) (by omega) c_192
      have k2 : 0 < gs → gs < two := fun _ => c_192
      refine px_to_L (L := [some (.ref (269)), some (.int (nI 1)), some (.int (bI false)), some (.int (nI fs)), some (.int (nI gs)), some (.int (nI fs)), some (.int (nI gs)), some (.int (nI one)), none]) ⟨Or.inr rfl, Or.inr rfl, Or.inr rfl, Or.inr rfl, Or.inr rfl, Or.inr rfl, Or.inr rfl, Or.inr rfl, Or.inl rfl, trivial⟩ ?_
      rw [rowT_n (by omega), List.nil_append] at q4
      exact kx g l pre G0 frg q2 q3 q4
    · skip
      have c_192 : two ≤ gs := cv_nlt (by omega) (by omega) c_192
      have k2 : 0 < gs → two ≤ gs := fun _ => c_192
      refine e_iload f_176_195 rfl rfl ?_
      refine e_if_le f_176_197 rfl (fun c_197 => ?_) (fun c_197 => ?_)
      · skip
        rw [← nI_0] at c_197
        have c_197 : gs ≤ 0 := cv_le (by omega) (by omega) c_197
        refine px_to_L (L := [some (.ref (269)), some (.int (nI 1)), some (.int (bI false)), some (.int (nI fs)), some (.int (nI gs)), some (.int (nI fs)), some (.int (nI gs)), some (.int (nI one)), none]) ⟨Or.inr rfl, Or.inr rfl, Or.inr rfl, Or.inr rfl, Or.inr rfl, Or.inr rfl, Or.inr rfl, Or.inr rfl, Or.inl rfl, trivial⟩ ?_
        rw [rowT_n (by omega), List.nil_append] at q4
        exact kx g l pre G0 frg q2 q3 q4
      · skip
        rw [← nI_0] at c_197
        have c_197 : 0 < gs := cv_nle (by omega) (by omega) c_197
        have k2 := k2 c_197
        rw [rowT_s c_197 k2, List.cons_append] at q4
        obtain ⟨e1, e2, e3⟩ := drop_c q4
        rcases Nat.eq_zero_or_pos l with hl | hl
        · skip
          refine e_aload_n f_176_200 rfl rfl ?_
          refine e_dup f_176_201 rfl rfl ?_
          refine e_getf f_176_202 G0 rfl rfl ?_
          show px_to 176 205 [some (.ref (269)), some (.int (nI 1)), some (.int (bI false)), some (.int (nI fs)), some (.int (nI gs)), some (.int (nI fs)), some (.int (nI gs)), some (.int (nI one)), some (.int (nI two))] [.int (nI l), .ref (269)] g _
          refine e_iconst (v := nI 1) f_176_205 (by decide) rfl ?_
          refine e_isub (z := (-1)) f_176_206 (by rw [hl]; decide) rfl ?_
          refine e_putp (vs' := mB ga gp gq gh gw gu (nI fs, nI gs, nI 0, nI 0, (-1), gv.2.2.2.2.2.1, gv.2.2.2.2.2.2.1, gv.2.2.2.2.2.2.2.1, gv.2.2.2.2.2.2.2.2)) f_176_207 G0 (Nat.le_of_ble_eq_true rfl) (rfl) (rfl) rfl rfl (fun h1 g2 fx3 => ?_)
          have fr4 : px_fi 269 1 h0 h1 := fi_tr frg fx3 (by omega)
          refine e_aload_n f_176_210 rfl rfl ?_
          refine e_getf f_176_211 g2 rfl rfl ?_
          show px_to 176 214 [some (.ref (269)), some (.int (nI 1)), some (.int (bI false)), some (.int (nI fs)), some (.int (nI gs)), some (.int (nI fs)), some (.int (nI gs)), some (.int (nI one)), some (.int (nI two))] [.int ((-1))] h1 _
          refine e_if_ge_f f_176_214 (by decide) rfl ?_
          refine e_aload_n f_176_217 rfl rfl ?_
          refine e_iload_n f_176_218 rfl rfl ?_
          refine e_iload f_176_219 rfl rfl ?_
          refine e_callV (As := [.int (bI false), .int (nI one)]) (rest := []) f_176_221 rfl rfl rfl (Nat.le_of_ble_eq_true rfl) (Nat.le_of_ble_eq_true rfl) g2 rfl (Nat.le_of_ble_eq_true rfl) (cc_Md_app (b := false) (n := one) (x := 0) (p := 0) (ga := ga) (gp := gp) (gq := gq) (gh := gh) (gw := gw) (gu := gu) (gv := (nI fs, nI gs, nI 0, nI 0, (-1), gv.2.2.2.2.2.1, gv.2.2.2.2.2.2.1, gv.2.2.2.2.2.2.2.1, gv.2.2.2.2.2.2.2.2)) g2 (by decide) (by omega)) rfl (fun h5 r6 q7 => ?_)
          obtain ⟨rfl, g8, fx9⟩ := q7
          have fr10 : px_fi 269 1 h0 h5 := fi_tr fr4 fx9 (by omega)
          show px_to 176 224 [some (.ref (269)), some (.int (nI 1)), some (.int (bI false)), some (.int (nI fs)), some (.int (nI gs)), some (.int (nI fs)), some (.int (nI gs)), some (.int (nI one)), some (.int (nI two))] [] h5 _
          refine e_aload_n f_176_224 rfl rfl ?_
          refine e_iload_n f_176_225 rfl rfl ?_
          refine e_if_ne_f f_176_226 (by decide) rfl ?_
          refine e_iconst (v := nI 1) f_176_229 (by decide) rfl ?_
          refine e_goto f_176_230 ?_
          show px_to 176 234 [some (.ref (269)), some (.int (nI 1)), some (.int (bI false)), some (.int (nI fs)), some (.int (nI gs)), some (.int (nI fs)), some (.int (nI gs)), some (.int (nI one)), some (.int (nI two))] [.int (bI true), .ref (269)] h5 _
          refine e_iload f_176_234 rfl rfl ?_
          refine e_callV (As := [.int (bI true), .int (nI two)]) (rest := []) f_176_236 rfl rfl rfl (Nat.le_of_ble_eq_true rfl) (Nat.le_of_ble_eq_true rfl) g8 rfl (Nat.le_of_ble_eq_true rfl) (cc_Md_app (b := true) (n := two) (x := apB false one 0 0) (p := 0 + one) (ga := ga) (gp := gp) (gq := gq) (gh := gh) (gw := gw) (gu := gu) (gv := (nI fs, nI gs, nI (apB false one 0 0), nI (0 + one), (-1), gv.2.2.2.2.2.1, gv.2.2.2.2.2.2.1, gv.2.2.2.2.2.2.2.1, gv.2.2.2.2.2.2.2.2)) g8 (apB_lt (by decide)) (by omega)) rfl (fun h11 r12 q13 => ?_)
          obtain ⟨rfl, g14, fx15⟩ := q13
          have fr16 : px_fi 269 1 h0 h11 := fi_tr fr10 fx15 (by omega)
          show px_to 176 239 [some (.ref (269)), some (.int (nI 1)), some (.int (bI false)), some (.int (nI fs)), some (.int (nI gs)), some (.int (nI fs)), some (.int (nI gs)), some (.int (nI one)), some (.int (nI two))] [] h11 _
          refine e_aload_n f_176_239 rfl rfl ?_
          refine e_iload_n f_176_240 rfl rfl ?_
          refine e_iload_n f_176_241 rfl rfl ?_
          refine e_iload f_176_242 rfl rfl ?_
          refine e_isub (z := nI (fs - one)) f_176_244 (pk_sub (by omega)) rfl ?_
          refine e_callV (As := [.int (bI false), .int (nI (fs - one))]) (rest := []) f_176_245 rfl rfl rfl (Nat.le_of_ble_eq_true rfl) (Nat.le_of_ble_eq_true rfl) g14 rfl (Nat.le_of_ble_eq_true rfl) (cc_Md_app (b := false) (n := fs - one) (x := apB true two (apB false one 0 0) (0 + one)) (p := 0 + one + two) (ga := ga) (gp := gp) (gq := gq) (gh := gh) (gw := gw) (gu := gu) (gv := (nI fs, nI gs, nI (apB true two (apB false one 0 0) (0 + one)), nI (0 + one + two), (-1), gv.2.2.2.2.2.1, gv.2.2.2.2.2.2.1, gv.2.2.2.2.2.2.2.1, gv.2.2.2.2.2.2.2.2)) g14 (apB_lt (apB_lt (by decide))) (by omega)) rfl (fun h17 r18 q19 => ?_)
          obtain ⟨rfl, g20, fx21⟩ := q19
          have fr22 : px_fi 269 1 h0 h17 := fi_tr fr16 fx21 (by omega)
          show px_to 176 248 [some (.ref (269)), some (.int (nI 1)), some (.int (bI false)), some (.int (nI fs)), some (.int (nI gs)), some (.int (nI fs)), some (.int (nI gs)), some (.int (nI one)), some (.int (nI two))] [] h17 _
          refine e_aload_n f_176_248 rfl rfl ?_
          refine e_iload_n f_176_249 rfl rfl ?_
          refine e_if_ne_f f_176_250 (by decide) rfl ?_
          refine e_iconst (v := nI 1) f_176_253 (by decide) rfl ?_
          refine e_goto f_176_254 ?_
          show px_to 176 258 [some (.ref (269)), some (.int (nI 1)), some (.int (bI false)), some (.int (nI fs)), some (.int (nI gs)), some (.int (nI fs)), some (.int (nI gs)), some (.int (nI one)), some (.int (nI two))] [.int (bI true), .ref (269)] h17 _
          refine e_iload f_176_258 rfl rfl ?_
          refine e_iload f_176_260 rfl rfl ?_
          refine e_isub (z := nI (gs - two)) f_176_262 (pk_sub (by omega)) rfl ?_
          refine e_callV (As := [.int (bI true), .int (nI (gs - two))]) (rest := []) f_176_263 rfl rfl rfl (Nat.le_of_ble_eq_true rfl) (Nat.le_of_ble_eq_true rfl) g20 rfl (Nat.le_of_ble_eq_true rfl) (cc_Md_app (b := true) (n := gs - two) (x := apB false (fs - one) (apB true two (apB false one 0 0) (0 + one)) (0 + one + two)) (p := 0 + one + two + (fs - one)) (ga := ga) (gp := gp) (gq := gq) (gh := gh) (gw := gw) (gu := gu) (gv := (nI fs, nI gs, nI (apB false (fs - one) (apB true two (apB false one 0 0) (0 + one)) (0 + one + two)), nI (0 + one + two + (fs - one)), (-1), gv.2.2.2.2.2.1, gv.2.2.2.2.2.2.1, gv.2.2.2.2.2.2.2.1, gv.2.2.2.2.2.2.2.2)) g20 (apB_lt (apB_lt (apB_lt (by decide)))) (by omega)) rfl (fun h23 r24 q25 => ?_)
          obtain ⟨rfl, g26, fx27⟩ := q25
          have fr28 : px_fi 269 1 h0 h23 := fi_tr fr22 fx27 (by omega)
          show px_to 176 266 [some (.ref (269)), some (.int (nI 1)), some (.int (bI false)), some (.int (nI fs)), some (.int (nI gs)), some (.int (nI fs)), some (.int (nI gs)), some (.int (nI one)), some (.int (nI two))] [] h23 _
          refine e_iconst (v := nI 1) f_176_266 (by decide) rfl ?_
          refine e_iret f_176_267 rfl (rfl) ?_
          exact kt _ _ _ g26 fr28 (by omega) (by rw [show l0 = pre by omega]; exact e2)
        · skip
          refine e_aload_n f_176_200 rfl rfl ?_
          refine e_dup f_176_201 rfl rfl ?_
          refine e_getf f_176_202 G0 rfl rfl ?_
          show px_to 176 205 [some (.ref (269)), some (.int (nI 1)), some (.int (bI false)), some (.int (nI fs)), some (.int (nI gs)), some (.int (nI fs)), some (.int (nI gs)), some (.int (nI one)), some (.int (nI two))] [.int (nI l), .ref (269)] g _
          refine e_iconst (v := nI 1) f_176_205 (by decide) rfl ?_
          refine e_isub (z := nI (l - 1)) f_176_206 (pk_sub hl) rfl ?_
          refine e_putp (vs' := mB ga gp gq gh gw gu (nI fs, nI gs, nI 0, nI 0, nI (l - 1), gv.2.2.2.2.2.1, gv.2.2.2.2.2.2.1, gv.2.2.2.2.2.2.2.1, gv.2.2.2.2.2.2.2.2)) f_176_207 G0 (Nat.le_of_ble_eq_true rfl) (rfl) (rfl) rfl rfl (fun h29 g30 fx31 => ?_)
          have fr32 : px_fi 269 1 h0 h29 := fi_tr frg fx31 (by omega)
          refine e_aload_n f_176_210 rfl rfl ?_
          refine e_getf f_176_211 g30 rfl rfl ?_
          show px_to 176 214 [some (.ref (269)), some (.int (nI 1)), some (.int (bI false)), some (.int (nI fs)), some (.int (nI gs)), some (.int (nI fs)), some (.int (nI gs)), some (.int (nI one)), some (.int (nI two))] [.int (nI (l - 1))] h29 _
          refine e_if_ge_t f_176_214 (nI_pos' (by omega)) ?_
          refine e_iinc (y := nI (two + 1)) (L' := [some (.ref (269)), some (.int (nI 1)), some (.int (bI false)), some (.int (nI fs)), some (.int (nI gs)), some (.int (nI fs)), some (.int (nI gs)), some (.int (nI one)), some (.int (nI (two + 1)))]) f_176_268 rfl (by rw [show Int32.ofInt 1 = nI 1 by decide]; exact (nI_add _ _)) rfl rfl ?_
          refine e_goto f_176_271 ?_
          first | (exfalso; omega) | exact ih (d - 1) (by omega) (two + 1) (l - 1) (pre + 1) h29 (by omega) (by omega) (by omega) (by omega) (e3) (by omega) g30 fr32

set_option maxRecDepth 20000 in
set_option maxHeartbeats 4000000 in
theorem ll_Md_thF1 {P : px_H → Option Value → Prop} {h0 : px_H} {fs gs l0 : Nat} {L0 : List Nat} {ga : gA} {gp : gP} {gq : gQ} {gh : gH} {gw : gW} {gu : gU} {gv : gV} (h24 : fs + gs ≤ 24) (kt : ∀ g1 pl x, g1.2.2 269 = some (12, mB ga gp gq gh gw gu (nI fs, nI gs, nI x, nI pl, (-1), gv.2.2.2.2.2.1, gv.2.2.2.2.2.2.1, gv.2.2.2.2.2.2.2.1, gv.2.2.2.2.2.2.2.2)) → px_fi 269 1 h0 g1 → l0 < L0.length → L0.getD l0 0 = x → P g1 (some (.int (nI 1)))) (kf : ∀ g1 l, g1.2.2 269 = some (12, mB ga gp gq gh gw gu (nI fs, nI gs, nI 0, nI 0, nI l, gv.2.2.2.2.2.1, gv.2.2.2.2.2.2.1, gv.2.2.2.2.2.2.2.1, gv.2.2.2.2.2.2.2.2)) → px_fi 269 1 h0 g1 → L0.length + l = l0 → P g1 (some (.int (nI 0)))) : ∀ (d : Nat) (one : Nat) (l : Nat) (pre : Nat) (g : px_H), (fs < one + d) → (one ≤ fs + 1) → (pre + l = l0) → (pre ≤ L0.length) → (L0.drop pre = famT false fs gs (gs) (gs) (fs) one) → (l0 < 2147483648) → g.2.2 269 = some (12, mB ga gp gq gh gw gu (nI fs, nI gs, nI 0, nI 0, nI l, gv.2.2.2.2.2.1, gv.2.2.2.2.2.2.1, gv.2.2.2.2.2.2.2.1, gv.2.2.2.2.2.2.2.2)) → px_fi 269 1 h0 g → px_to 176 164 [some (.ref (269)), some (.int (nI 1)), some (.int (bI false)), some (.int (nI fs)), some (.int (nI gs)), some (.int (nI fs)), some (.int (nI gs)), some (.int (nI one)), none] [] g P := by
  intro d
  induction d using Nat.strongRecOn with
  | ind d ih =>
    intro one l pre g q0 q1 q2 q3 q4 q5 G0 frg
    refine e_iload f_176_164 rfl rfl ?_
    refine e_iload f_176_166 rfl rfl ?_
    refine e_icmp_gt f_176_168 rfl (fun c_168 => ?_) (fun c_168 => ?_)
    · skip
      have c_168 : fs < one := cv_lt (by omega) (by omega) c_168
      have k1 : 0 < fs → fs < one := fun _ => c_168
      refine e_iconst (v := nI 0) f_176_280 (by decide) rfl ?_
      refine e_iret f_176_281 rfl (rfl) ?_
      rw [famT_n (by omega)] at q4
      exact kf g l G0 frg (by have := List.drop_eq_nil_iff.mp q4; omega)
    · skip
      have c_168 : one ≤ fs := cv_nlt (by omega) (by omega) c_168
      have k1 : 0 < fs → one ≤ fs := fun _ => c_168
      refine e_iload_n f_176_171 rfl rfl ?_
      refine e_if_le f_176_172 rfl (fun c_172 => ?_) (fun c_172 => ?_)
      · skip
        rw [← nI_0] at c_172
        have c_172 : fs ≤ 0 := cv_le (by omega) (by omega) c_172
        refine e_iconst (v := nI 0) f_176_280 (by decide) rfl ?_
        refine e_iret f_176_281 rfl (rfl) ?_
        rw [famT_n (by omega)] at q4
        exact kf g l G0 frg (by have := List.drop_eq_nil_iff.mp q4; omega)
      · skip
        rw [← nI_0] at c_172
        have c_172 : 0 < fs := cv_nle (by omega) (by omega) c_172
        refine e_iload_n f_176_175 rfl rfl ?_
        refine e_iconst (v := nI 2) f_176_176 (by decide) rfl ?_
        refine e_icmp_le_t f_176_177 (by decide) ?_
        refine e_iload f_176_184 rfl rfl ?_
        refine e_istore (L' := [some (.ref (269)), some (.int (nI 1)), some (.int (bI false)), some (.int (nI fs)), some (.int (nI gs)), some (.int (nI fs)), some (.int (nI gs)), some (.int (nI one)), some (.int (nI gs))]) f_176_186 (Nat.le_of_ble_eq_true rfl) rfl rfl ?_
        have k1 := k1 c_172
        rw [famT_s c_172 k1] at q4
        refine ll_Md_thF1i (h0 := h0) (L0 := L0) (l0 := l0) (R := famT false fs gs (gs) (gs) (fs) (one + 1)) h24 (by omega) kt (fun g1 l1 pre1 z0 zf y1 y2 y3 => ?_) 30 (gs) l pre g (by omega) (by omega) q2 q3 q4 q5 G0 frg
        refine e_iinc (y := nI (one + 1)) (L' := [some (.ref (269)), some (.int (nI 1)), some (.int (bI false)), some (.int (nI fs)), some (.int (nI gs)), some (.int (nI fs)), some (.int (nI gs)), some (.int (nI (one + 1))), none]) f_176_274 rfl (by rw [show Int32.ofInt 1 = nI 1 by decide]; exact (nI_add _ _)) rfl rfl ?_
        refine e_goto f_176_277 ?_
        first | (exfalso; omega) | exact ih (d - 1) (by omega) (one + 1) l1 pre1 g1 (by omega) (by omega) (y1) (y2) (y3) (by omega) z0 zf

set_option maxRecDepth 20000 in
set_option maxHeartbeats 4000000 in
theorem ll_Md_thF2i {P : px_H → Option Value → Prop} {h0 : px_H} {one fs gs l0 : Nat} {L0 R : List Nat} {ga : gA} {gp : gP} {gq : gQ} {gh : gH} {gw : gW} {gu : gU} {gv : gV} (h24 : fs + gs ≤ 24) (ho : one ≤ fs) (kt : ∀ g1 pl x, g1.2.2 269 = some (12, mB ga gp gq gh gw gu (nI fs, nI gs, nI x, nI pl, (-1), gv.2.2.2.2.2.1, gv.2.2.2.2.2.2.1, gv.2.2.2.2.2.2.2.1, gv.2.2.2.2.2.2.2.2)) → px_fi 269 1 h0 g1 → l0 < L0.length → L0.getD l0 0 = x → P g1 (some (.int (nI 1)))) (kx : ∀ g1 l pre, g1.2.2 269 = some (12, mB ga gp gq gh gw gu (nI fs, nI gs, nI 0, nI 0, nI l, gv.2.2.2.2.2.1, gv.2.2.2.2.2.2.1, gv.2.2.2.2.2.2.2.1, gv.2.2.2.2.2.2.2.2)) → px_fi 269 1 h0 g1 → pre + l = l0 → pre ≤ L0.length → L0.drop pre = R → px_to 176 274 [some (.ref (269)), some (.int (nI 2)), some (.int (bI false)), some (.int (nI fs)), some (.int (nI gs)), some (.int (nI fs - nI 1)), some (.int (nI gs)), some (.int (nI one)), none] [] g1 P) : ∀ (d : Nat) (two : Nat) (l : Nat) (pre : Nat) (g : px_H), (gs < two + d) → (two ≤ gs + 1) → (pre + l = l0) → (pre ≤ L0.length) → (L0.drop pre = rowT false fs gs (gs) two one ++ R) → (l0 < 2147483648) → g.2.2 269 = some (12, mB ga gp gq gh gw gu (nI fs, nI gs, nI 0, nI 0, nI l, gv.2.2.2.2.2.1, gv.2.2.2.2.2.2.1, gv.2.2.2.2.2.2.2.1, gv.2.2.2.2.2.2.2.2)) → px_fi 269 1 h0 g → px_to 176 188 [some (.ref (269)), some (.int (nI 2)), some (.int (bI false)), some (.int (nI fs)), some (.int (nI gs)), some (.int (nI fs - nI 1)), some (.int (nI gs)), some (.int (nI one)), some (.int (nI two))] [] g P := by
  intro d
  induction d using Nat.strongRecOn with
  | ind d ih =>
    intro two l pre g q0 q1 q2 q3 q4 q5 G0 frg
    refine e_iload f_176_188 rfl rfl ?_
    refine e_iload f_176_190 rfl rfl ?_
    refine e_icmp_gt f_176_192 rfl (fun c_192 => ?_) (fun c_192 => ?_)
    · skip
      have c_192 : gs < two := cv_lt (by omega) (by omega) c_192
      have k2 : 0 < gs → gs < two := fun _ => c_192
      refine px_to_L (L := [some (.ref (269)), some (.int (nI 2)), some (.int (bI false)), some (.int (nI fs)), some (.int (nI gs)), some (.int (nI fs - nI 1)), some (.int (nI gs)), some (.int (nI one)), none]) ⟨Or.inr rfl, Or.inr rfl, Or.inr rfl, Or.inr rfl, Or.inr rfl, Or.inr rfl, Or.inr rfl, Or.inr rfl, Or.inl rfl, trivial⟩ ?_
      rw [rowT_n (by omega), List.nil_append] at q4
      exact kx g l pre G0 frg q2 q3 q4
    · skip
      have c_192 : two ≤ gs := cv_nlt (by omega) (by omega) c_192
      have k2 : 0 < gs → two ≤ gs := fun _ => c_192
      refine e_iload f_176_195 rfl rfl ?_
      refine e_if_le f_176_197 rfl (fun c_197 => ?_) (fun c_197 => ?_)
      · skip
        rw [← nI_0] at c_197
        have c_197 : gs ≤ 0 := cv_le (by omega) (by omega) c_197
        refine px_to_L (L := [some (.ref (269)), some (.int (nI 2)), some (.int (bI false)), some (.int (nI fs)), some (.int (nI gs)), some (.int (nI fs - nI 1)), some (.int (nI gs)), some (.int (nI one)), none]) ⟨Or.inr rfl, Or.inr rfl, Or.inr rfl, Or.inr rfl, Or.inr rfl, Or.inr rfl, Or.inr rfl, Or.inr rfl, Or.inl rfl, trivial⟩ ?_
        rw [rowT_n (by omega), List.nil_append] at q4
        exact kx g l pre G0 frg q2 q3 q4
      · skip
        rw [← nI_0] at c_197
        have c_197 : 0 < gs := cv_nle (by omega) (by omega) c_197
        have k2 := k2 c_197
        rw [rowT_s c_197 k2, List.cons_append] at q4
        obtain ⟨e1, e2, e3⟩ := drop_c q4
        rcases Nat.eq_zero_or_pos l with hl | hl
        · skip
          refine e_aload_n f_176_200 rfl rfl ?_
          refine e_dup f_176_201 rfl rfl ?_
          refine e_getf f_176_202 G0 rfl rfl ?_
          show px_to 176 205 [some (.ref (269)), some (.int (nI 2)), some (.int (bI false)), some (.int (nI fs)), some (.int (nI gs)), some (.int (nI fs - nI 1)), some (.int (nI gs)), some (.int (nI one)), some (.int (nI two))] [.int (nI l), .ref (269)] g _
          refine e_iconst (v := nI 1) f_176_205 (by decide) rfl ?_
          refine e_isub (z := (-1)) f_176_206 (by rw [hl]; decide) rfl ?_
          refine e_putp (vs' := mB ga gp gq gh gw gu (nI fs, nI gs, nI 0, nI 0, (-1), gv.2.2.2.2.2.1, gv.2.2.2.2.2.2.1, gv.2.2.2.2.2.2.2.1, gv.2.2.2.2.2.2.2.2)) f_176_207 G0 (Nat.le_of_ble_eq_true rfl) (rfl) (rfl) rfl rfl (fun h1 g2 fx3 => ?_)
          have fr4 : px_fi 269 1 h0 h1 := fi_tr frg fx3 (by omega)
          refine e_aload_n f_176_210 rfl rfl ?_
          refine e_getf f_176_211 g2 rfl rfl ?_
          show px_to 176 214 [some (.ref (269)), some (.int (nI 2)), some (.int (bI false)), some (.int (nI fs)), some (.int (nI gs)), some (.int (nI fs - nI 1)), some (.int (nI gs)), some (.int (nI one)), some (.int (nI two))] [.int ((-1))] h1 _
          refine e_if_ge_f f_176_214 (by decide) rfl ?_
          refine e_aload_n f_176_217 rfl rfl ?_
          refine e_iload_n f_176_218 rfl rfl ?_
          refine e_iload f_176_219 rfl rfl ?_
          refine e_callV (As := [.int (bI false), .int (nI one)]) (rest := []) f_176_221 rfl rfl rfl (Nat.le_of_ble_eq_true rfl) (Nat.le_of_ble_eq_true rfl) g2 rfl (Nat.le_of_ble_eq_true rfl) (cc_Md_app (b := false) (n := one) (x := 0) (p := 0) (ga := ga) (gp := gp) (gq := gq) (gh := gh) (gw := gw) (gu := gu) (gv := (nI fs, nI gs, nI 0, nI 0, (-1), gv.2.2.2.2.2.1, gv.2.2.2.2.2.2.1, gv.2.2.2.2.2.2.2.1, gv.2.2.2.2.2.2.2.2)) g2 (by decide) (by omega)) rfl (fun h5 r6 q7 => ?_)
          obtain ⟨rfl, g8, fx9⟩ := q7
          have fr10 : px_fi 269 1 h0 h5 := fi_tr fr4 fx9 (by omega)
          show px_to 176 224 [some (.ref (269)), some (.int (nI 2)), some (.int (bI false)), some (.int (nI fs)), some (.int (nI gs)), some (.int (nI fs - nI 1)), some (.int (nI gs)), some (.int (nI one)), some (.int (nI two))] [] h5 _
          refine e_aload_n f_176_224 rfl rfl ?_
          refine e_iload_n f_176_225 rfl rfl ?_
          refine e_if_ne_f f_176_226 (by decide) rfl ?_
          refine e_iconst (v := nI 1) f_176_229 (by decide) rfl ?_
          refine e_goto f_176_230 ?_
          show px_to 176 234 [some (.ref (269)), some (.int (nI 2)), some (.int (bI false)), some (.int (nI fs)), some (.int (nI gs)), some (.int (nI fs - nI 1)), some (.int (nI gs)), some (.int (nI one)), some (.int (nI two))] [.int (bI true), .ref (269)] h5 _
          refine e_iload f_176_234 rfl rfl ?_
          refine e_callV (As := [.int (bI true), .int (nI two)]) (rest := []) f_176_236 rfl rfl rfl (Nat.le_of_ble_eq_true rfl) (Nat.le_of_ble_eq_true rfl) g8 rfl (Nat.le_of_ble_eq_true rfl) (cc_Md_app (b := true) (n := two) (x := apB false one 0 0) (p := 0 + one) (ga := ga) (gp := gp) (gq := gq) (gh := gh) (gw := gw) (gu := gu) (gv := (nI fs, nI gs, nI (apB false one 0 0), nI (0 + one), (-1), gv.2.2.2.2.2.1, gv.2.2.2.2.2.2.1, gv.2.2.2.2.2.2.2.1, gv.2.2.2.2.2.2.2.2)) g8 (apB_lt (by decide)) (by omega)) rfl (fun h11 r12 q13 => ?_)
          obtain ⟨rfl, g14, fx15⟩ := q13
          have fr16 : px_fi 269 1 h0 h11 := fi_tr fr10 fx15 (by omega)
          show px_to 176 239 [some (.ref (269)), some (.int (nI 2)), some (.int (bI false)), some (.int (nI fs)), some (.int (nI gs)), some (.int (nI fs - nI 1)), some (.int (nI gs)), some (.int (nI one)), some (.int (nI two))] [] h11 _
          refine e_aload_n f_176_239 rfl rfl ?_
          refine e_iload_n f_176_240 rfl rfl ?_
          refine e_iload_n f_176_241 rfl rfl ?_
          refine e_iload f_176_242 rfl rfl ?_
          refine e_isub (z := nI (fs - one)) f_176_244 (pk_sub (by omega)) rfl ?_
          refine e_callV (As := [.int (bI false), .int (nI (fs - one))]) (rest := []) f_176_245 rfl rfl rfl (Nat.le_of_ble_eq_true rfl) (Nat.le_of_ble_eq_true rfl) g14 rfl (Nat.le_of_ble_eq_true rfl) (cc_Md_app (b := false) (n := fs - one) (x := apB true two (apB false one 0 0) (0 + one)) (p := 0 + one + two) (ga := ga) (gp := gp) (gq := gq) (gh := gh) (gw := gw) (gu := gu) (gv := (nI fs, nI gs, nI (apB true two (apB false one 0 0) (0 + one)), nI (0 + one + two), (-1), gv.2.2.2.2.2.1, gv.2.2.2.2.2.2.1, gv.2.2.2.2.2.2.2.1, gv.2.2.2.2.2.2.2.2)) g14 (apB_lt (apB_lt (by decide))) (by omega)) rfl (fun h17 r18 q19 => ?_)
          obtain ⟨rfl, g20, fx21⟩ := q19
          have fr22 : px_fi 269 1 h0 h17 := fi_tr fr16 fx21 (by omega)
          show px_to 176 248 [some (.ref (269)), some (.int (nI 2)), some (.int (bI false)), some (.int (nI fs)), some (.int (nI gs)), some (.int (nI fs - nI 1)), some (.int (nI gs)), some (.int (nI one)), some (.int (nI two))] [] h17 _
          refine e_aload_n f_176_248 rfl rfl ?_
          refine e_iload_n f_176_249 rfl rfl ?_
          refine e_if_ne_f f_176_250 (by decide) rfl ?_
          refine e_iconst (v := nI 1) f_176_253 (by decide) rfl ?_
          refine e_goto f_176_254 ?_
          show px_to 176 258 [some (.ref (269)), some (.int (nI 2)), some (.int (bI false)), some (.int (nI fs)), some (.int (nI gs)), some (.int (nI fs - nI 1)), some (.int (nI gs)), some (.int (nI one)), some (.int (nI two))] [.int (bI true), .ref (269)] h17 _
          refine e_iload f_176_258 rfl rfl ?_
          refine e_iload f_176_260 rfl rfl ?_
          refine e_isub (z := nI (gs - two)) f_176_262 (pk_sub (by omega)) rfl ?_
          refine e_callV (As := [.int (bI true), .int (nI (gs - two))]) (rest := []) f_176_263 rfl rfl rfl (Nat.le_of_ble_eq_true rfl) (Nat.le_of_ble_eq_true rfl) g20 rfl (Nat.le_of_ble_eq_true rfl) (cc_Md_app (b := true) (n := gs - two) (x := apB false (fs - one) (apB true two (apB false one 0 0) (0 + one)) (0 + one + two)) (p := 0 + one + two + (fs - one)) (ga := ga) (gp := gp) (gq := gq) (gh := gh) (gw := gw) (gu := gu) (gv := (nI fs, nI gs, nI (apB false (fs - one) (apB true two (apB false one 0 0) (0 + one)) (0 + one + two)), nI (0 + one + two + (fs - one)), (-1), gv.2.2.2.2.2.1, gv.2.2.2.2.2.2.1, gv.2.2.2.2.2.2.2.1, gv.2.2.2.2.2.2.2.2)) g20 (apB_lt (apB_lt (apB_lt (by decide)))) (by omega)) rfl (fun h23 r24 q25 => ?_)
          obtain ⟨rfl, g26, fx27⟩ := q25
          have fr28 : px_fi 269 1 h0 h23 := fi_tr fr22 fx27 (by omega)
          show px_to 176 266 [some (.ref (269)), some (.int (nI 2)), some (.int (bI false)), some (.int (nI fs)), some (.int (nI gs)), some (.int (nI fs - nI 1)), some (.int (nI gs)), some (.int (nI one)), some (.int (nI two))] [] h23 _
          refine e_iconst (v := nI 1) f_176_266 (by decide) rfl ?_
          refine e_iret f_176_267 rfl (rfl) ?_
          exact kt _ _ _ g26 fr28 (by omega) (by rw [show l0 = pre by omega]; exact e2)
        · skip
          refine e_aload_n f_176_200 rfl rfl ?_
          refine e_dup f_176_201 rfl rfl ?_
          refine e_getf f_176_202 G0 rfl rfl ?_
          show px_to 176 205 [some (.ref (269)), some (.int (nI 2)), some (.int (bI false)), some (.int (nI fs)), some (.int (nI gs)), some (.int (nI fs - nI 1)), some (.int (nI gs)), some (.int (nI one)), some (.int (nI two))] [.int (nI l), .ref (269)] g _
          refine e_iconst (v := nI 1) f_176_205 (by decide) rfl ?_
          refine e_isub (z := nI (l - 1)) f_176_206 (pk_sub hl) rfl ?_
          refine e_putp (vs' := mB ga gp gq gh gw gu (nI fs, nI gs, nI 0, nI 0, nI (l - 1), gv.2.2.2.2.2.1, gv.2.2.2.2.2.2.1, gv.2.2.2.2.2.2.2.1, gv.2.2.2.2.2.2.2.2)) f_176_207 G0 (Nat.le_of_ble_eq_true rfl) (rfl) (rfl) rfl rfl (fun h29 g30 fx31 => ?_)
          have fr32 : px_fi 269 1 h0 h29 := fi_tr frg fx31 (by omega)
          refine e_aload_n f_176_210 rfl rfl ?_
          refine e_getf f_176_211 g30 rfl rfl ?_
          show px_to 176 214 [some (.ref (269)), some (.int (nI 2)), some (.int (bI false)), some (.int (nI fs)), some (.int (nI gs)), some (.int (nI fs - nI 1)), some (.int (nI gs)), some (.int (nI one)), some (.int (nI two))] [.int (nI (l - 1))] h29 _
          refine e_if_ge_t f_176_214 (nI_pos' (by omega)) ?_
          refine e_iinc (y := nI (two + 1)) (L' := [some (.ref (269)), some (.int (nI 2)), some (.int (bI false)), some (.int (nI fs)), some (.int (nI gs)), some (.int (nI fs - nI 1)), some (.int (nI gs)), some (.int (nI one)), some (.int (nI (two + 1)))]) f_176_268 rfl (by rw [show Int32.ofInt 1 = nI 1 by decide]; exact (nI_add _ _)) rfl rfl ?_
          refine e_goto f_176_271 ?_
          first | (exfalso; omega) | exact ih (d - 1) (by omega) (two + 1) (l - 1) (pre + 1) h29 (by omega) (by omega) (by omega) (by omega) (e3) (by omega) g30 fr32

set_option maxRecDepth 20000 in
set_option maxHeartbeats 4000000 in
theorem ll_Md_thF2 {P : px_H → Option Value → Prop} {h0 : px_H} {fs gs l0 : Nat} {L0 : List Nat} {ga : gA} {gp : gP} {gq : gQ} {gh : gH} {gw : gW} {gu : gU} {gv : gV} (h24 : fs + gs ≤ 24) (kt : ∀ g1 pl x, g1.2.2 269 = some (12, mB ga gp gq gh gw gu (nI fs, nI gs, nI x, nI pl, (-1), gv.2.2.2.2.2.1, gv.2.2.2.2.2.2.1, gv.2.2.2.2.2.2.2.1, gv.2.2.2.2.2.2.2.2)) → px_fi 269 1 h0 g1 → l0 < L0.length → L0.getD l0 0 = x → P g1 (some (.int (nI 1)))) (kf : ∀ g1 l, g1.2.2 269 = some (12, mB ga gp gq gh gw gu (nI fs, nI gs, nI 0, nI 0, nI l, gv.2.2.2.2.2.1, gv.2.2.2.2.2.2.1, gv.2.2.2.2.2.2.2.1, gv.2.2.2.2.2.2.2.2)) → px_fi 269 1 h0 g1 → L0.length + l = l0 → P g1 (some (.int (nI 0)))) : ∀ (d : Nat) (one : Nat) (l : Nat) (pre : Nat) (g : px_H), (fs - 1 < one + d) → (one ≤ fs - 1 + 1) → (pre + l = l0) → (pre ≤ L0.length) → (L0.drop pre = famT false fs gs (gs) (gs) (fs - 1) one) → (l0 < 2147483648) → g.2.2 269 = some (12, mB ga gp gq gh gw gu (nI fs, nI gs, nI 0, nI 0, nI l, gv.2.2.2.2.2.1, gv.2.2.2.2.2.2.1, gv.2.2.2.2.2.2.2.1, gv.2.2.2.2.2.2.2.2)) → px_fi 269 1 h0 g → px_to 176 164 [some (.ref (269)), some (.int (nI 2)), some (.int (bI false)), some (.int (nI fs)), some (.int (nI gs)), some (.int (nI fs - nI 1)), some (.int (nI gs)), some (.int (nI one)), none] [] g P := by
  intro d
  induction d using Nat.strongRecOn with
  | ind d ih =>
    intro one l pre g q0 q1 q2 q3 q4 q5 G0 frg
    refine e_iload f_176_164 rfl rfl ?_
    refine e_iload f_176_166 rfl rfl ?_
    refine e_icmp_gt f_176_168 rfl (fun c_168 => ?_) (fun c_168 => ?_)
    · skip
      have k1 : 0 < fs → fs - 1 < one := fun z => by rw [pk_sub z] at c_168; exact cv_lt (by omega) (by omega) c_168
      refine e_iconst (v := nI 0) f_176_280 (by decide) rfl ?_
      refine e_iret f_176_281 rfl (rfl) ?_
      rw [famT_n (by omega)] at q4
      exact kf g l G0 frg (by have := List.drop_eq_nil_iff.mp q4; omega)
    · skip
      have k1 : 0 < fs → one ≤ fs - 1 := fun z => by rw [pk_sub z] at c_168; exact cv_nlt (by omega) (by omega) c_168
      refine e_iload_n f_176_171 rfl rfl ?_
      refine e_if_le f_176_172 rfl (fun c_172 => ?_) (fun c_172 => ?_)
      · skip
        rw [← nI_0] at c_172
        have c_172 : fs ≤ 0 := cv_le (by omega) (by omega) c_172
        refine e_iconst (v := nI 0) f_176_280 (by decide) rfl ?_
        refine e_iret f_176_281 rfl (rfl) ?_
        rw [famT_n (by omega)] at q4
        exact kf g l G0 frg (by have := List.drop_eq_nil_iff.mp q4; omega)
      · skip
        rw [← nI_0] at c_172
        have c_172 : 0 < fs := cv_nle (by omega) (by omega) c_172
        refine e_iload_n f_176_175 rfl rfl ?_
        refine e_iconst (v := nI 2) f_176_176 (by decide) rfl ?_
        refine e_icmp_le_t f_176_177 (by decide) ?_
        refine e_iload f_176_184 rfl rfl ?_
        refine e_istore (L' := [some (.ref (269)), some (.int (nI 2)), some (.int (bI false)), some (.int (nI fs)), some (.int (nI gs)), some (.int (nI fs - nI 1)), some (.int (nI gs)), some (.int (nI one)), some (.int (nI gs))]) f_176_186 (Nat.le_of_ble_eq_true rfl) rfl rfl ?_
        have k1 := k1 c_172
        rw [famT_s c_172 k1] at q4
        refine ll_Md_thF2i (h0 := h0) (L0 := L0) (l0 := l0) (R := famT false fs gs (gs) (gs) (fs - 1) (one + 1)) h24 (by omega) kt (fun g1 l1 pre1 z0 zf y1 y2 y3 => ?_) 30 (gs) l pre g (by omega) (by omega) q2 q3 q4 q5 G0 frg
        refine e_iinc (y := nI (one + 1)) (L' := [some (.ref (269)), some (.int (nI 2)), some (.int (bI false)), some (.int (nI fs)), some (.int (nI gs)), some (.int (nI fs - nI 1)), some (.int (nI gs)), some (.int (nI (one + 1))), none]) f_176_274 rfl (by rw [show Int32.ofInt 1 = nI 1 by decide]; exact (nI_add _ _)) rfl rfl ?_
        refine e_goto f_176_277 ?_
        first | (exfalso; omega) | exact ih (d - 1) (by omega) (one + 1) l1 pre1 g1 (by omega) (by omega) (y1) (y2) (y3) (by omega) z0 zf

set_option maxRecDepth 20000 in
set_option maxHeartbeats 4000000 in
theorem ll_Md_thF3i {P : px_H → Option Value → Prop} {h0 : px_H} {one fs gs l0 : Nat} {L0 R : List Nat} {ga : gA} {gp : gP} {gq : gQ} {gh : gH} {gw : gW} {gu : gU} {gv : gV} (h24 : fs + gs ≤ 24) (ho : one ≤ fs) (kt : ∀ g1 pl x, g1.2.2 269 = some (12, mB ga gp gq gh gw gu (nI fs, nI gs, nI x, nI pl, (-1), gv.2.2.2.2.2.1, gv.2.2.2.2.2.2.1, gv.2.2.2.2.2.2.2.1, gv.2.2.2.2.2.2.2.2)) → px_fi 269 1 h0 g1 → l0 < L0.length → L0.getD l0 0 = x → P g1 (some (.int (nI 1)))) (kx : ∀ g1 l pre, g1.2.2 269 = some (12, mB ga gp gq gh gw gu (nI fs, nI gs, nI 0, nI 0, nI l, gv.2.2.2.2.2.1, gv.2.2.2.2.2.2.1, gv.2.2.2.2.2.2.2.1, gv.2.2.2.2.2.2.2.2)) → px_fi 269 1 h0 g1 → pre + l = l0 → pre ≤ L0.length → L0.drop pre = R → px_to 176 274 [some (.ref (269)), some (.int (nI 3)), some (.int (bI false)), some (.int (nI fs)), some (.int (nI gs)), some (.int (nI fs - nI 1)), some (.int (nI gs - nI 1)), some (.int (nI one)), none] [] g1 P) : ∀ (d : Nat) (two : Nat) (l : Nat) (pre : Nat) (g : px_H), (gs - 1 < two + d) → (two ≤ gs - 1 + 1) → (pre + l = l0) → (pre ≤ L0.length) → (L0.drop pre = rowT false fs gs (gs - 1) two one ++ R) → (l0 < 2147483648) → g.2.2 269 = some (12, mB ga gp gq gh gw gu (nI fs, nI gs, nI 0, nI 0, nI l, gv.2.2.2.2.2.1, gv.2.2.2.2.2.2.1, gv.2.2.2.2.2.2.2.1, gv.2.2.2.2.2.2.2.2)) → px_fi 269 1 h0 g → px_to 176 188 [some (.ref (269)), some (.int (nI 3)), some (.int (bI false)), some (.int (nI fs)), some (.int (nI gs)), some (.int (nI fs - nI 1)), some (.int (nI gs - nI 1)), some (.int (nI one)), some (.int (nI two))] [] g P := by
  intro d
  induction d using Nat.strongRecOn with
  | ind d ih =>
    intro two l pre g q0 q1 q2 q3 q4 q5 G0 frg
    refine e_iload f_176_188 rfl rfl ?_
    refine e_iload f_176_190 rfl rfl ?_
    refine e_icmp_gt f_176_192 rfl (fun c_192 => ?_) (fun c_192 => ?_)
    · skip
      have k2 : 0 < gs → gs - 1 < two := fun z => by rw [pk_sub z] at c_192; exact cv_lt (by omega) (by omega) c_192
      refine px_to_L (L := [some (.ref (269)), some (.int (nI 3)), some (.int (bI false)), some (.int (nI fs)), some (.int (nI gs)), some (.int (nI fs - nI 1)), some (.int (nI gs - nI 1)), some (.int (nI one)), none]) ⟨Or.inr rfl, Or.inr rfl, Or.inr rfl, Or.inr rfl, Or.inr rfl, Or.inr rfl, Or.inr rfl, Or.inr rfl, Or.inl rfl, trivial⟩ ?_
      rw [rowT_n (by omega), List.nil_append] at q4
      exact kx g l pre G0 frg q2 q3 q4
    · skip
      have k2 : 0 < gs → two ≤ gs - 1 := fun z => by rw [pk_sub z] at c_192; exact cv_nlt (by omega) (by omega) c_192
      refine e_iload f_176_195 rfl rfl ?_
      refine e_if_le f_176_197 rfl (fun c_197 => ?_) (fun c_197 => ?_)
      · skip
        rw [← nI_0] at c_197
        have c_197 : gs ≤ 0 := cv_le (by omega) (by omega) c_197
        refine px_to_L (L := [some (.ref (269)), some (.int (nI 3)), some (.int (bI false)), some (.int (nI fs)), some (.int (nI gs)), some (.int (nI fs - nI 1)), some (.int (nI gs - nI 1)), some (.int (nI one)), none]) ⟨Or.inr rfl, Or.inr rfl, Or.inr rfl, Or.inr rfl, Or.inr rfl, Or.inr rfl, Or.inr rfl, Or.inr rfl, Or.inl rfl, trivial⟩ ?_
        rw [rowT_n (by omega), List.nil_append] at q4
        exact kx g l pre G0 frg q2 q3 q4
      · skip
        rw [← nI_0] at c_197
        have c_197 : 0 < gs := cv_nle (by omega) (by omega) c_197
        have k2 := k2 c_197
        rw [rowT_s c_197 k2, List.cons_append] at q4
        obtain ⟨e1, e2, e3⟩ := drop_c q4
        rcases Nat.eq_zero_or_pos l with hl | hl
        · skip
          refine e_aload_n f_176_200 rfl rfl ?_
          refine e_dup f_176_201 rfl rfl ?_
          refine e_getf f_176_202 G0 rfl rfl ?_
          show px_to 176 205 [some (.ref (269)), some (.int (nI 3)), some (.int (bI false)), some (.int (nI fs)), some (.int (nI gs)), some (.int (nI fs - nI 1)), some (.int (nI gs - nI 1)), some (.int (nI one)), some (.int (nI two))] [.int (nI l), .ref (269)] g _
          refine e_iconst (v := nI 1) f_176_205 (by decide) rfl ?_
          refine e_isub (z := (-1)) f_176_206 (by rw [hl]; decide) rfl ?_
          refine e_putp (vs' := mB ga gp gq gh gw gu (nI fs, nI gs, nI 0, nI 0, (-1), gv.2.2.2.2.2.1, gv.2.2.2.2.2.2.1, gv.2.2.2.2.2.2.2.1, gv.2.2.2.2.2.2.2.2)) f_176_207 G0 (Nat.le_of_ble_eq_true rfl) (rfl) (rfl) rfl rfl (fun h1 g2 fx3 => ?_)
          have fr4 : px_fi 269 1 h0 h1 := fi_tr frg fx3 (by omega)
          refine e_aload_n f_176_210 rfl rfl ?_
          refine e_getf f_176_211 g2 rfl rfl ?_
          show px_to 176 214 [some (.ref (269)), some (.int (nI 3)), some (.int (bI false)), some (.int (nI fs)), some (.int (nI gs)), some (.int (nI fs - nI 1)), some (.int (nI gs - nI 1)), some (.int (nI one)), some (.int (nI two))] [.int ((-1))] h1 _
          refine e_if_ge_f f_176_214 (by decide) rfl ?_
          refine e_aload_n f_176_217 rfl rfl ?_
          refine e_iload_n f_176_218 rfl rfl ?_
          refine e_iload f_176_219 rfl rfl ?_
          refine e_callV (As := [.int (bI false), .int (nI one)]) (rest := []) f_176_221 rfl rfl rfl (Nat.le_of_ble_eq_true rfl) (Nat.le_of_ble_eq_true rfl) g2 rfl (Nat.le_of_ble_eq_true rfl) (cc_Md_app (b := false) (n := one) (x := 0) (p := 0) (ga := ga) (gp := gp) (gq := gq) (gh := gh) (gw := gw) (gu := gu) (gv := (nI fs, nI gs, nI 0, nI 0, (-1), gv.2.2.2.2.2.1, gv.2.2.2.2.2.2.1, gv.2.2.2.2.2.2.2.1, gv.2.2.2.2.2.2.2.2)) g2 (by decide) (by omega)) rfl (fun h5 r6 q7 => ?_)
          obtain ⟨rfl, g8, fx9⟩ := q7
          have fr10 : px_fi 269 1 h0 h5 := fi_tr fr4 fx9 (by omega)
          show px_to 176 224 [some (.ref (269)), some (.int (nI 3)), some (.int (bI false)), some (.int (nI fs)), some (.int (nI gs)), some (.int (nI fs - nI 1)), some (.int (nI gs - nI 1)), some (.int (nI one)), some (.int (nI two))] [] h5 _
          refine e_aload_n f_176_224 rfl rfl ?_
          refine e_iload_n f_176_225 rfl rfl ?_
          refine e_if_ne_f f_176_226 (by decide) rfl ?_
          refine e_iconst (v := nI 1) f_176_229 (by decide) rfl ?_
          refine e_goto f_176_230 ?_
          show px_to 176 234 [some (.ref (269)), some (.int (nI 3)), some (.int (bI false)), some (.int (nI fs)), some (.int (nI gs)), some (.int (nI fs - nI 1)), some (.int (nI gs - nI 1)), some (.int (nI one)), some (.int (nI two))] [.int (bI true), .ref (269)] h5 _
          refine e_iload f_176_234 rfl rfl ?_
          refine e_callV (As := [.int (bI true), .int (nI two)]) (rest := []) f_176_236 rfl rfl rfl (Nat.le_of_ble_eq_true rfl) (Nat.le_of_ble_eq_true rfl) g8 rfl (Nat.le_of_ble_eq_true rfl) (cc_Md_app (b := true) (n := two) (x := apB false one 0 0) (p := 0 + one) (ga := ga) (gp := gp) (gq := gq) (gh := gh) (gw := gw) (gu := gu) (gv := (nI fs, nI gs, nI (apB false one 0 0), nI (0 + one), (-1), gv.2.2.2.2.2.1, gv.2.2.2.2.2.2.1, gv.2.2.2.2.2.2.2.1, gv.2.2.2.2.2.2.2.2)) g8 (apB_lt (by decide)) (by omega)) rfl (fun h11 r12 q13 => ?_)
          obtain ⟨rfl, g14, fx15⟩ := q13
          have fr16 : px_fi 269 1 h0 h11 := fi_tr fr10 fx15 (by omega)
          show px_to 176 239 [some (.ref (269)), some (.int (nI 3)), some (.int (bI false)), some (.int (nI fs)), some (.int (nI gs)), some (.int (nI fs - nI 1)), some (.int (nI gs - nI 1)), some (.int (nI one)), some (.int (nI two))] [] h11 _
          refine e_aload_n f_176_239 rfl rfl ?_
          refine e_iload_n f_176_240 rfl rfl ?_
          refine e_iload_n f_176_241 rfl rfl ?_
          refine e_iload f_176_242 rfl rfl ?_
          refine e_isub (z := nI (fs - one)) f_176_244 (pk_sub (by omega)) rfl ?_
          refine e_callV (As := [.int (bI false), .int (nI (fs - one))]) (rest := []) f_176_245 rfl rfl rfl (Nat.le_of_ble_eq_true rfl) (Nat.le_of_ble_eq_true rfl) g14 rfl (Nat.le_of_ble_eq_true rfl) (cc_Md_app (b := false) (n := fs - one) (x := apB true two (apB false one 0 0) (0 + one)) (p := 0 + one + two) (ga := ga) (gp := gp) (gq := gq) (gh := gh) (gw := gw) (gu := gu) (gv := (nI fs, nI gs, nI (apB true two (apB false one 0 0) (0 + one)), nI (0 + one + two), (-1), gv.2.2.2.2.2.1, gv.2.2.2.2.2.2.1, gv.2.2.2.2.2.2.2.1, gv.2.2.2.2.2.2.2.2)) g14 (apB_lt (apB_lt (by decide))) (by omega)) rfl (fun h17 r18 q19 => ?_)
          obtain ⟨rfl, g20, fx21⟩ := q19
          have fr22 : px_fi 269 1 h0 h17 := fi_tr fr16 fx21 (by omega)
          show px_to 176 248 [some (.ref (269)), some (.int (nI 3)), some (.int (bI false)), some (.int (nI fs)), some (.int (nI gs)), some (.int (nI fs - nI 1)), some (.int (nI gs - nI 1)), some (.int (nI one)), some (.int (nI two))] [] h17 _
          refine e_aload_n f_176_248 rfl rfl ?_
          refine e_iload_n f_176_249 rfl rfl ?_
          refine e_if_ne_f f_176_250 (by decide) rfl ?_
          refine e_iconst (v := nI 1) f_176_253 (by decide) rfl ?_
          refine e_goto f_176_254 ?_
          show px_to 176 258 [some (.ref (269)), some (.int (nI 3)), some (.int (bI false)), some (.int (nI fs)), some (.int (nI gs)), some (.int (nI fs - nI 1)), some (.int (nI gs - nI 1)), some (.int (nI one)), some (.int (nI two))] [.int (bI true), .ref (269)] h17 _
          refine e_iload f_176_258 rfl rfl ?_
          refine e_iload f_176_260 rfl rfl ?_
          refine e_isub (z := nI (gs - two)) f_176_262 (pk_sub (by omega)) rfl ?_
          refine e_callV (As := [.int (bI true), .int (nI (gs - two))]) (rest := []) f_176_263 rfl rfl rfl (Nat.le_of_ble_eq_true rfl) (Nat.le_of_ble_eq_true rfl) g20 rfl (Nat.le_of_ble_eq_true rfl) (cc_Md_app (b := true) (n := gs - two) (x := apB false (fs - one) (apB true two (apB false one 0 0) (0 + one)) (0 + one + two)) (p := 0 + one + two + (fs - one)) (ga := ga) (gp := gp) (gq := gq) (gh := gh) (gw := gw) (gu := gu) (gv := (nI fs, nI gs, nI (apB false (fs - one) (apB true two (apB false one 0 0) (0 + one)) (0 + one + two)), nI (0 + one + two + (fs - one)), (-1), gv.2.2.2.2.2.1, gv.2.2.2.2.2.2.1, gv.2.2.2.2.2.2.2.1, gv.2.2.2.2.2.2.2.2)) g20 (apB_lt (apB_lt (apB_lt (by decide)))) (by omega)) rfl (fun h23 r24 q25 => ?_)
          obtain ⟨rfl, g26, fx27⟩ := q25
          have fr28 : px_fi 269 1 h0 h23 := fi_tr fr22 fx27 (by omega)
          show px_to 176 266 [some (.ref (269)), some (.int (nI 3)), some (.int (bI false)), some (.int (nI fs)), some (.int (nI gs)), some (.int (nI fs - nI 1)), some (.int (nI gs - nI 1)), some (.int (nI one)), some (.int (nI two))] [] h23 _
          refine e_iconst (v := nI 1) f_176_266 (by decide) rfl ?_
          refine e_iret f_176_267 rfl (rfl) ?_
          exact kt _ _ _ g26 fr28 (by omega) (by rw [show l0 = pre by omega]; exact e2)
        · skip
          refine e_aload_n f_176_200 rfl rfl ?_
          refine e_dup f_176_201 rfl rfl ?_
          refine e_getf f_176_202 G0 rfl rfl ?_
          show px_to 176 205 [some (.ref (269)), some (.int (nI 3)), some (.int (bI false)), some (.int (nI fs)), some (.int (nI gs)), some (.int (nI fs - nI 1)), some (.int (nI gs - nI 1)), some (.int (nI one)), some (.int (nI two))] [.int (nI l), .ref (269)] g _
          refine e_iconst (v := nI 1) f_176_205 (by decide) rfl ?_
          refine e_isub (z := nI (l - 1)) f_176_206 (pk_sub hl) rfl ?_
          refine e_putp (vs' := mB ga gp gq gh gw gu (nI fs, nI gs, nI 0, nI 0, nI (l - 1), gv.2.2.2.2.2.1, gv.2.2.2.2.2.2.1, gv.2.2.2.2.2.2.2.1, gv.2.2.2.2.2.2.2.2)) f_176_207 G0 (Nat.le_of_ble_eq_true rfl) (rfl) (rfl) rfl rfl (fun h29 g30 fx31 => ?_)
          have fr32 : px_fi 269 1 h0 h29 := fi_tr frg fx31 (by omega)
          refine e_aload_n f_176_210 rfl rfl ?_
          refine e_getf f_176_211 g30 rfl rfl ?_
          show px_to 176 214 [some (.ref (269)), some (.int (nI 3)), some (.int (bI false)), some (.int (nI fs)), some (.int (nI gs)), some (.int (nI fs - nI 1)), some (.int (nI gs - nI 1)), some (.int (nI one)), some (.int (nI two))] [.int (nI (l - 1))] h29 _
          refine e_if_ge_t f_176_214 (nI_pos' (by omega)) ?_
          refine e_iinc (y := nI (two + 1)) (L' := [some (.ref (269)), some (.int (nI 3)), some (.int (bI false)), some (.int (nI fs)), some (.int (nI gs)), some (.int (nI fs - nI 1)), some (.int (nI gs - nI 1)), some (.int (nI one)), some (.int (nI (two + 1)))]) f_176_268 rfl (by rw [show Int32.ofInt 1 = nI 1 by decide]; exact (nI_add _ _)) rfl rfl ?_
          refine e_goto f_176_271 ?_
          first | (exfalso; omega) | exact ih (d - 1) (by omega) (two + 1) (l - 1) (pre + 1) h29 (by omega) (by omega) (by omega) (by omega) (e3) (by omega) g30 fr32

set_option maxRecDepth 20000 in
set_option maxHeartbeats 4000000 in
theorem ll_Md_thF3 {P : px_H → Option Value → Prop} {h0 : px_H} {fs gs l0 : Nat} {L0 : List Nat} {ga : gA} {gp : gP} {gq : gQ} {gh : gH} {gw : gW} {gu : gU} {gv : gV} (h24 : fs + gs ≤ 24) (kt : ∀ g1 pl x, g1.2.2 269 = some (12, mB ga gp gq gh gw gu (nI fs, nI gs, nI x, nI pl, (-1), gv.2.2.2.2.2.1, gv.2.2.2.2.2.2.1, gv.2.2.2.2.2.2.2.1, gv.2.2.2.2.2.2.2.2)) → px_fi 269 1 h0 g1 → l0 < L0.length → L0.getD l0 0 = x → P g1 (some (.int (nI 1)))) (kf : ∀ g1 l, g1.2.2 269 = some (12, mB ga gp gq gh gw gu (nI fs, nI gs, nI 0, nI 0, nI l, gv.2.2.2.2.2.1, gv.2.2.2.2.2.2.1, gv.2.2.2.2.2.2.2.1, gv.2.2.2.2.2.2.2.2)) → px_fi 269 1 h0 g1 → L0.length + l = l0 → P g1 (some (.int (nI 0)))) : ∀ (d : Nat) (one : Nat) (l : Nat) (pre : Nat) (g : px_H), (fs - 1 < one + d) → (one ≤ fs - 1 + 1) → (pre + l = l0) → (pre ≤ L0.length) → (L0.drop pre = famT false fs gs (1) (gs - 1) (fs - 1) one) → (l0 < 2147483648) → g.2.2 269 = some (12, mB ga gp gq gh gw gu (nI fs, nI gs, nI 0, nI 0, nI l, gv.2.2.2.2.2.1, gv.2.2.2.2.2.2.1, gv.2.2.2.2.2.2.2.1, gv.2.2.2.2.2.2.2.2)) → px_fi 269 1 h0 g → px_to 176 164 [some (.ref (269)), some (.int (nI 3)), some (.int (bI false)), some (.int (nI fs)), some (.int (nI gs)), some (.int (nI fs - nI 1)), some (.int (nI gs - nI 1)), some (.int (nI one)), none] [] g P := by
  intro d
  induction d using Nat.strongRecOn with
  | ind d ih =>
    intro one l pre g q0 q1 q2 q3 q4 q5 G0 frg
    refine e_iload f_176_164 rfl rfl ?_
    refine e_iload f_176_166 rfl rfl ?_
    refine e_icmp_gt f_176_168 rfl (fun c_168 => ?_) (fun c_168 => ?_)
    · skip
      have k1 : 0 < fs → fs - 1 < one := fun z => by rw [pk_sub z] at c_168; exact cv_lt (by omega) (by omega) c_168
      refine e_iconst (v := nI 0) f_176_280 (by decide) rfl ?_
      refine e_iret f_176_281 rfl (rfl) ?_
      rw [famT_n (by omega)] at q4
      exact kf g l G0 frg (by have := List.drop_eq_nil_iff.mp q4; omega)
    · skip
      have k1 : 0 < fs → one ≤ fs - 1 := fun z => by rw [pk_sub z] at c_168; exact cv_nlt (by omega) (by omega) c_168
      refine e_iload_n f_176_171 rfl rfl ?_
      refine e_if_le f_176_172 rfl (fun c_172 => ?_) (fun c_172 => ?_)
      · skip
        rw [← nI_0] at c_172
        have c_172 : fs ≤ 0 := cv_le (by omega) (by omega) c_172
        refine e_iconst (v := nI 0) f_176_280 (by decide) rfl ?_
        refine e_iret f_176_281 rfl (rfl) ?_
        rw [famT_n (by omega)] at q4
        exact kf g l G0 frg (by have := List.drop_eq_nil_iff.mp q4; omega)
      · skip
        rw [← nI_0] at c_172
        have c_172 : 0 < fs := cv_nle (by omega) (by omega) c_172
        refine e_iload_n f_176_175 rfl rfl ?_
        refine e_iconst (v := nI 2) f_176_176 (by decide) rfl ?_
        refine e_icmp_le_f f_176_177 (by decide) rfl ?_
        refine e_iconst (v := nI 1) f_176_180 (by decide) rfl ?_
        refine e_goto f_176_181 ?_
        refine e_istore (L' := [some (.ref (269)), some (.int (nI 3)), some (.int (bI false)), some (.int (nI fs)), some (.int (nI gs)), some (.int (nI fs - nI 1)), some (.int (nI gs - nI 1)), some (.int (nI one)), some (.int (nI 1))]) f_176_186 (Nat.le_of_ble_eq_true rfl) rfl rfl ?_
        have k1 := k1 c_172
        rw [famT_s c_172 k1] at q4
        refine ll_Md_thF3i (h0 := h0) (L0 := L0) (l0 := l0) (R := famT false fs gs (1) (gs - 1) (fs - 1) (one + 1)) h24 (by omega) kt (fun g1 l1 pre1 z0 zf y1 y2 y3 => ?_) 30 (1) l pre g (by omega) (by omega) q2 q3 q4 q5 G0 frg
        refine e_iinc (y := nI (one + 1)) (L' := [some (.ref (269)), some (.int (nI 3)), some (.int (bI false)), some (.int (nI fs)), some (.int (nI gs)), some (.int (nI fs - nI 1)), some (.int (nI gs - nI 1)), some (.int (nI (one + 1))), none]) f_176_274 rfl (by rw [show Int32.ofInt 1 = nI 1 by decide]; exact (nI_add _ _)) rfl rfl ?_
        refine e_goto f_176_277 ?_
        first | (exfalso; omega) | exact ih (d - 1) (by omega) (one + 1) l1 pre1 g1 (by omega) (by omega) (y1) (y2) (y3) (by omega) z0 zf

set_option maxRecDepth 20000 in
set_option maxHeartbeats 4000000 in
theorem cc_Md_thatF {h : px_H} {sw l fs gs : Nat} {ga : gA} {gp : gP} {gq : gQ} {gh : gH} {gw : gW} {gu : gU} {gv : gV} (H0 : h.2.2 269 = some (12, mB ga gp gq gh gw gu (nI fs, nI gs, gv.2.2.1, gv.2.2.2.1, nI l, gv.2.2.2.2.2.1, gv.2.2.2.2.2.2.1, gv.2.2.2.2.2.2.2.1, gv.2.2.2.2.2.2.2.2))) (p0 : sw ≤ 3) (p1 : fs + gs ≤ 24) (p2 : l < 2147483648) : px_wp 176 [.ref (269), .int (nI sw), .int (bI false)] h (fun h1 r => r = some (.int (bI (decide (l < (thL false fs gs sw).length)))) ∧ pTh h1 ga gp gq gh gw gu gv fs gs (thL false fs gs sw) l ∧ px_fi 269 1 h h1) := by
  have fr0 : px_fi 269 1 h h := fi_rf _ _ _
  show px_to 176 0 [some (.ref (269)), some (.int (nI sw)), some (.int (bI false)), none, none, none, none, none, none] [] h _
  refine e_iload_n f_176_0 rfl rfl ?_
  refine e_if_eq_t f_176_1 (by decide) ?_
  refine e_aload_n f_176_11 rfl rfl ?_
  refine e_getf f_176_12 H0 rfl rfl ?_
  show px_to 176 15 [some (.ref (269)), some (.int (nI sw)), some (.int (bI false)), none, none, none, none, none, none] [.int (nI fs)] h _
  refine e_istore_n (L' := [some (.ref (269)), some (.int (nI sw)), some (.int (bI false)), some (.int (nI fs)), none, none, none, none, none]) f_176_15 (Nat.le_of_ble_eq_true rfl) rfl rfl ?_
  refine e_iload_n f_176_16 rfl rfl ?_
  refine e_if_eq_t f_176_17 (by decide) ?_
  refine e_aload_n f_176_27 rfl rfl ?_
  refine e_getf f_176_28 H0 rfl rfl ?_
  show px_to 176 31 [some (.ref (269)), some (.int (nI sw)), some (.int (bI false)), some (.int (nI fs)), none, none, none, none, none] [.int (nI gs)] h _
  refine e_istore (L' := [some (.ref (269)), some (.int (nI sw)), some (.int (bI false)), some (.int (nI fs)), some (.int (nI gs)), none, none, none, none]) f_176_31 (Nat.le_of_ble_eq_true rfl) rfl rfl ?_
  refine e_aload_n f_176_33 rfl rfl ?_
  refine e_iconst (v := nI 0) f_176_34 (by decide) rfl ?_
  refine e_putp (vs' := mB ga gp gq gh gw gu (nI fs, nI gs, nI 0, gv.2.2.2.1, nI l, gv.2.2.2.2.2.1, gv.2.2.2.2.2.2.1, gv.2.2.2.2.2.2.2.1, gv.2.2.2.2.2.2.2.2)) f_176_35 H0 (Nat.le_of_ble_eq_true rfl) (rfl) (rfl) rfl rfl (fun h1 g2 fx3 => ?_)
  have fr4 : px_fi 269 1 h h1 := fi_tr fr0 fx3 (by omega)
  refine e_aload_n f_176_38 rfl rfl ?_
  refine e_iconst (v := nI 0) f_176_39 (by decide) rfl ?_
  refine e_putp (vs' := mB ga gp gq gh gw gu (nI fs, nI gs, nI 0, nI 0, nI l, gv.2.2.2.2.2.1, gv.2.2.2.2.2.2.1, gv.2.2.2.2.2.2.2.1, gv.2.2.2.2.2.2.2.2)) f_176_40 g2 (Nat.le_of_ble_eq_true rfl) (rfl) (rfl) rfl rfl (fun h5 g6 fx7 => ?_)
  have fr8 : px_fi 269 1 h h5 := fi_tr fr4 fx7 (by omega)
  refine e_iload_n f_176_43 rfl rfl ?_
  refine e_if_ne f_176_44 rfl (fun c_44 => ?_) (fun c_44 => ?_)
  · skip
    rw [← nI_0] at c_44
    have c_44 : sw ≠ 0 := cv_ne c_44
    rcases (show sw = 1 ∨ sw = 2 ∨ sw = 3 by omega) with z | z | z
    · skip
      subst z
      refine e_iload_n f_176_122 rfl rfl ?_
      refine e_iconst (v := nI 1) f_176_123 (by decide) rfl ?_
      refine e_icmp_le_t f_176_124 (by decide) ?_
      refine e_iload_n f_176_133 rfl rfl ?_
      refine e_istore (L' := [some (.ref (269)), some (.int (nI 1)), some (.int (bI false)), some (.int (nI fs)), some (.int (nI gs)), some (.int (nI fs)), none, none, none]) f_176_134 (Nat.le_of_ble_eq_true rfl) rfl rfl ?_
      refine e_iload_n f_176_136 rfl rfl ?_
      refine e_iconst (v := nI 2) f_176_137 (by decide) rfl ?_
      refine e_icmp_le_t f_176_138 (by decide) ?_
      refine e_iload f_176_148 rfl rfl ?_
      refine e_istore (L' := [some (.ref (269)), some (.int (nI 1)), some (.int (bI false)), some (.int (nI fs)), some (.int (nI gs)), some (.int (nI fs)), some (.int (nI gs)), none, none]) f_176_150 (Nat.le_of_ble_eq_true rfl) rfl rfl ?_
      refine e_iload_n f_176_152 rfl rfl ?_
      refine e_iconst (v := nI 1) f_176_153 (by decide) rfl ?_
      refine e_icmp_le_t f_176_154 (by decide) ?_
      refine e_iload_n f_176_161 rfl rfl ?_
      refine e_istore (L' := [some (.ref (269)), some (.int (nI 1)), some (.int (bI false)), some (.int (nI fs)), some (.int (nI gs)), some (.int (nI fs)), some (.int (nI gs)), some (.int (nI fs)), none]) f_176_162 (Nat.le_of_ble_eq_true rfl) rfl rfl ?_
      exact ll_Md_thF1 (h0 := h) (L0 := thL false fs gs 1) (l0 := l) p1 (fun g1 pl x z0 zf y1 y2 => ⟨by rw [decide_eq_true y1]; rfl, ⟨_, _, _, z0, fun _ => congrArg nI y2.symm, fun z => absurd z (by omega)⟩, zf⟩) (fun g1 l1 z0 zf y => ⟨by rw [decide_eq_false (by omega)]; rfl, ⟨_, _, _, z0, fun z => absurd z (by omega), fun _ => congrArg nI (by omega)⟩, zf⟩) 30 (fs) l 0 h5 (by omega) (by omega) (by omega) (Nat.zero_le _) rfl p2 g6 fr8
    · skip
      subst z
      refine e_iload_n f_176_122 rfl rfl ?_
      refine e_iconst (v := nI 1) f_176_123 (by decide) rfl ?_
      refine e_icmp_le_f f_176_124 (by decide) rfl ?_
      refine e_iload_n f_176_127 rfl rfl ?_
      refine e_iconst (v := nI 1) f_176_128 (by decide) rfl ?_
      refine e_isub (z := (nI fs) - (nI 1)) f_176_129 rfl rfl ?_
      refine e_goto f_176_130 ?_
      refine e_istore (L' := [some (.ref (269)), some (.int (nI 2)), some (.int (bI false)), some (.int (nI fs)), some (.int (nI gs)), some (.int ((nI fs) - (nI 1))), none, none, none]) f_176_134 (Nat.le_of_ble_eq_true rfl) rfl rfl ?_
      refine e_iload_n f_176_136 rfl rfl ?_
      refine e_iconst (v := nI 2) f_176_137 (by decide) rfl ?_
      refine e_icmp_le_t f_176_138 (by decide) ?_
      refine e_iload f_176_148 rfl rfl ?_
      refine e_istore (L' := [some (.ref (269)), some (.int (nI 2)), some (.int (bI false)), some (.int (nI fs)), some (.int (nI gs)), some (.int ((nI fs) - (nI 1))), some (.int (nI gs)), none, none]) f_176_150 (Nat.le_of_ble_eq_true rfl) rfl rfl ?_
      refine e_iload_n f_176_152 rfl rfl ?_
      refine e_iconst (v := nI 1) f_176_153 (by decide) rfl ?_
      refine e_icmp_le_f f_176_154 (by decide) rfl ?_
      refine e_iconst (v := nI 1) f_176_157 (by decide) rfl ?_
      refine e_goto f_176_158 ?_
      refine e_istore (L' := [some (.ref (269)), some (.int (nI 2)), some (.int (bI false)), some (.int (nI fs)), some (.int (nI gs)), some (.int ((nI fs) - (nI 1))), some (.int (nI gs)), some (.int (nI 1)), none]) f_176_162 (Nat.le_of_ble_eq_true rfl) rfl rfl ?_
      exact ll_Md_thF2 (h0 := h) (L0 := thL false fs gs 2) (l0 := l) p1 (fun g1 pl x z0 zf y1 y2 => ⟨by rw [decide_eq_true y1]; rfl, ⟨_, _, _, z0, fun _ => congrArg nI y2.symm, fun z => absurd z (by omega)⟩, zf⟩) (fun g1 l1 z0 zf y => ⟨by rw [decide_eq_false (by omega)]; rfl, ⟨_, _, _, z0, fun z => absurd z (by omega), fun _ => congrArg nI (by omega)⟩, zf⟩) 30 (1) l 0 h5 (by omega) (by omega) (by omega) (Nat.zero_le _) rfl p2 g6 fr8
    · skip
      subst z
      refine e_iload_n f_176_122 rfl rfl ?_
      refine e_iconst (v := nI 1) f_176_123 (by decide) rfl ?_
      refine e_icmp_le_f f_176_124 (by decide) rfl ?_
      refine e_iload_n f_176_127 rfl rfl ?_
      refine e_iconst (v := nI 1) f_176_128 (by decide) rfl ?_
      refine e_isub (z := (nI fs) - (nI 1)) f_176_129 rfl rfl ?_
      refine e_goto f_176_130 ?_
      refine e_istore (L' := [some (.ref (269)), some (.int (nI 3)), some (.int (bI false)), some (.int (nI fs)), some (.int (nI gs)), some (.int ((nI fs) - (nI 1))), none, none, none]) f_176_134 (Nat.le_of_ble_eq_true rfl) rfl rfl ?_
      refine e_iload_n f_176_136 rfl rfl ?_
      refine e_iconst (v := nI 2) f_176_137 (by decide) rfl ?_
      refine e_icmp_le_f f_176_138 (by decide) rfl ?_
      refine e_iload f_176_141 rfl rfl ?_
      refine e_iconst (v := nI 1) f_176_143 (by decide) rfl ?_
      refine e_isub (z := (nI gs) - (nI 1)) f_176_144 rfl rfl ?_
      refine e_goto f_176_145 ?_
      refine e_istore (L' := [some (.ref (269)), some (.int (nI 3)), some (.int (bI false)), some (.int (nI fs)), some (.int (nI gs)), some (.int ((nI fs) - (nI 1))), some (.int ((nI gs) - (nI 1))), none, none]) f_176_150 (Nat.le_of_ble_eq_true rfl) rfl rfl ?_
      refine e_iload_n f_176_152 rfl rfl ?_
      refine e_iconst (v := nI 1) f_176_153 (by decide) rfl ?_
      refine e_icmp_le_f f_176_154 (by decide) rfl ?_
      refine e_iconst (v := nI 1) f_176_157 (by decide) rfl ?_
      refine e_goto f_176_158 ?_
      refine e_istore (L' := [some (.ref (269)), some (.int (nI 3)), some (.int (bI false)), some (.int (nI fs)), some (.int (nI gs)), some (.int ((nI fs) - (nI 1))), some (.int ((nI gs) - (nI 1))), some (.int (nI 1)), none]) f_176_162 (Nat.le_of_ble_eq_true rfl) rfl rfl ?_
      exact ll_Md_thF3 (h0 := h) (L0 := thL false fs gs 3) (l0 := l) p1 (fun g1 pl x z0 zf y1 y2 => ⟨by rw [decide_eq_true y1]; rfl, ⟨_, _, _, z0, fun _ => congrArg nI y2.symm, fun z => absurd z (by omega)⟩, zf⟩) (fun g1 l1 z0 zf y => ⟨by rw [decide_eq_false (by omega)]; rfl, ⟨_, _, _, z0, fun z => absurd z (by omega), fun _ => congrArg nI (by omega)⟩, zf⟩) 30 (1) l 0 h5 (by omega) (by omega) (by omega) (Nat.zero_le _) rfl p2 g6 fr8
  · skip
    rw [← nI_0] at c_44
    have c_44 : sw = 0 := cv_nne (by omega) (by omega) c_44
    refine e_iload f_176_47 rfl rfl ?_
    refine e_if_ne f_176_49 rfl (fun c_49 => ?_) (fun c_49 => ?_)
    · skip
      rw [← nI_0] at c_49
      have c_49 : gs ≠ 0 := cv_ne c_49
      refine e_iconst (v := nI 0) f_176_64 (by decide) rfl ?_
      refine e_istore (L' := [some (.ref (269)), some (.int (nI sw)), some (.int (bI false)), some (.int (nI fs)), some (.int (nI gs)), some (.int (nI 0)), none, none, none]) f_176_65 (Nat.le_of_ble_eq_true rfl) rfl rfl ?_
      refine e_aload_n f_176_67 rfl rfl ?_
      refine e_iload_n f_176_68 rfl rfl ?_
      refine e_iload f_176_69 rfl rfl ?_
      refine e_if_eq_t f_176_71 (by decide) ?_
      refine e_iconst (v := nI 0) f_176_78 (by decide) rfl ?_
      refine e_callV (As := [.int (bI false), .int (nI 0)]) (rest := []) f_176_79 rfl rfl rfl (Nat.le_of_ble_eq_true rfl) (Nat.le_of_ble_eq_true rfl) g6 rfl (Nat.le_of_ble_eq_true rfl) (cc_Md_app (b := false) (n := 0) (x := 0) (p := 0) (ga := ga) (gp := gp) (gq := gq) (gh := gh) (gw := gw) (gu := gu) (gv := (nI fs, nI gs, nI 0, nI 0, nI l, gv.2.2.2.2.2.1, gv.2.2.2.2.2.2.1, gv.2.2.2.2.2.2.2.1, gv.2.2.2.2.2.2.2.2)) g6 (by decide) (by omega)) rfl (fun h9 r10 q11 => ?_)
      obtain ⟨rfl, g12, fx13⟩ := q11
      have fr14 : px_fi 269 1 h h9 := fi_tr fr8 fx13 (by omega)
      show px_to 176 82 [some (.ref (269)), some (.int (nI sw)), some (.int (bI false)), some (.int (nI fs)), some (.int (nI gs)), some (.int (nI 0)), none, none, none] [] h9 _
      refine e_aload_n f_176_82 rfl rfl ?_
      refine e_iload f_176_83 rfl rfl ?_
      refine e_if_eq_t f_176_85 (by decide) ?_
      refine e_aload_n f_176_97 rfl rfl ?_
      refine e_getf f_176_98 g12 rfl rfl ?_
      show px_to 176 101 [some (.ref (269)), some (.int (nI sw)), some (.int (bI false)), some (.int (nI fs)), some (.int (nI gs)), some (.int (nI 0)), none, none, none] [.int (nI l), .ref (269)] h9 _
      refine e_putp (vs' := mB ga gp gq gh gw gu (nI fs, nI gs, nI (apB false 0 0 0), nI (0 + 0), nI l, gv.2.2.2.2.2.1, gv.2.2.2.2.2.2.1, gv.2.2.2.2.2.2.2.1, gv.2.2.2.2.2.2.2.2)) f_176_101 g12 (Nat.le_of_ble_eq_true rfl) (rfl) (rfl) rfl rfl (fun h15 g16 fx17 => ?_)
      have fr18 : px_fi 269 1 h h15 := fi_tr fr14 fx17 (by omega)
      refine e_iload f_176_104 rfl rfl ?_
      refine e_if_eq_t f_176_106 (by decide) ?_
      refine e_iconst (v := nI 0) f_176_120 (by decide) rfl ?_
      refine e_iret f_176_121 rfl (rfl) ?_
      subst c_44
      have eT : thL false fs gs 0 = [] := by unfold thL; exact if_neg (fun z => by rcases z with ⟨z1, z2 | z2⟩; omega; omega)
      rw [eT]
      exact ⟨by rw [decide_eq_false (by simp)]; rfl, ⟨_, _, _, g16, fun z => absurd z (by simp), fun _ => rfl⟩, fr18⟩
    · skip
      rw [← nI_0] at c_49
      have c_49 : gs = 0 := cv_nne (by omega) (by omega) c_49
      refine e_iload_n f_176_52 rfl rfl ?_
      refine e_if_gt f_176_53 rfl (fun c_53 => ?_) (fun c_53 => ?_)
      · skip
        rw [← nI_0] at c_53
        have c_53 : 0 < fs := cv_lt (by omega) (by omega) c_53
        refine e_iconst (v := nI 1) f_176_60 (by decide) rfl ?_
        refine e_goto f_176_61 ?_
        refine e_istore (L' := [some (.ref (269)), some (.int (nI sw)), some (.int (bI false)), some (.int (nI fs)), some (.int (nI gs)), some (.int (nI 1)), none, none, none]) f_176_65 (Nat.le_of_ble_eq_true rfl) rfl rfl ?_
        refine e_aload_n f_176_67 rfl rfl ?_
        refine e_iload_n f_176_68 rfl rfl ?_
        refine e_iload f_176_69 rfl rfl ?_
        refine e_if_eq_f f_176_71 (by decide) rfl ?_
        refine e_iload_n f_176_74 rfl rfl ?_
        refine e_goto f_176_75 ?_
        refine e_callV (As := [.int (bI false), .int (nI fs)]) (rest := []) f_176_79 rfl rfl rfl (Nat.le_of_ble_eq_true rfl) (Nat.le_of_ble_eq_true rfl) g6 rfl (Nat.le_of_ble_eq_true rfl) (cc_Md_app (b := false) (n := fs) (x := 0) (p := 0) (ga := ga) (gp := gp) (gq := gq) (gh := gh) (gw := gw) (gu := gu) (gv := (nI fs, nI gs, nI 0, nI 0, nI l, gv.2.2.2.2.2.1, gv.2.2.2.2.2.2.1, gv.2.2.2.2.2.2.2.1, gv.2.2.2.2.2.2.2.2)) g6 (by decide) (by omega)) rfl (fun h19 r20 q21 => ?_)
        obtain ⟨rfl, g22, fx23⟩ := q21
        have fr24 : px_fi 269 1 h h19 := fi_tr fr8 fx23 (by omega)
        show px_to 176 82 [some (.ref (269)), some (.int (nI sw)), some (.int (bI false)), some (.int (nI fs)), some (.int (nI gs)), some (.int (nI 1)), none, none, none] [] h19 _
        rcases Nat.eq_zero_or_pos l with hl | hl
        · skip
          refine e_aload_n f_176_82 rfl rfl ?_
          refine e_iload f_176_83 rfl rfl ?_
          refine e_if_eq_f f_176_85 (by decide) rfl ?_
          refine e_aload_n f_176_88 rfl rfl ?_
          refine e_getf f_176_89 g22 rfl rfl ?_
          show px_to 176 92 [some (.ref (269)), some (.int (nI sw)), some (.int (bI false)), some (.int (nI fs)), some (.int (nI gs)), some (.int (nI 1)), none, none, none] [.int (nI l), .ref (269)] h19 _
          refine e_iconst (v := nI 1) f_176_92 (by decide) rfl ?_
          refine e_isub (z := (-1)) f_176_93 (by rw [hl]; decide) rfl ?_
          refine e_goto f_176_94 ?_
          refine e_putp (vs' := mB ga gp gq gh gw gu (nI fs, nI gs, nI (apB false fs 0 0), nI (0 + fs), (-1), gv.2.2.2.2.2.1, gv.2.2.2.2.2.2.1, gv.2.2.2.2.2.2.2.1, gv.2.2.2.2.2.2.2.2)) f_176_101 g22 (Nat.le_of_ble_eq_true rfl) (rfl) (rfl) rfl rfl (fun h25 g26 fx27 => ?_)
          have fr28 : px_fi 269 1 h h25 := fi_tr fr24 fx27 (by omega)
          refine e_iload f_176_104 rfl rfl ?_
          refine e_if_eq_f f_176_106 (by decide) rfl ?_
          refine e_aload_n f_176_109 rfl rfl ?_
          refine e_getf f_176_110 g26 rfl rfl ?_
          show px_to 176 113 [some (.ref (269)), some (.int (nI sw)), some (.int (bI false)), some (.int (nI fs)), some (.int (nI gs)), some (.int (nI 1)), none, none, none] [.int ((-1))] h25 _
          refine e_if_ge_f f_176_113 (by decide) rfl ?_
          refine e_iconst (v := nI 1) f_176_116 (by decide) rfl ?_
          refine e_goto f_176_117 ?_
          refine e_iret f_176_121 rfl (rfl) ?_
          subst c_44
          have eT : thL false fs gs 0 = [apB false fs 0 0] := by unfold thL; exact if_pos ⟨by omega, Or.inr rfl⟩
          rw [eT]
          subst hl
          exact ⟨rfl, ⟨_, _, _, g26, fun _ => rfl, fun z => absurd z (by simp)⟩, fr28⟩
        · skip
          refine e_aload_n f_176_82 rfl rfl ?_
          refine e_iload f_176_83 rfl rfl ?_
          refine e_if_eq_f f_176_85 (by decide) rfl ?_
          refine e_aload_n f_176_88 rfl rfl ?_
          refine e_getf f_176_89 g22 rfl rfl ?_
          show px_to 176 92 [some (.ref (269)), some (.int (nI sw)), some (.int (bI false)), some (.int (nI fs)), some (.int (nI gs)), some (.int (nI 1)), none, none, none] [.int (nI l), .ref (269)] h19 _
          refine e_iconst (v := nI 1) f_176_92 (by decide) rfl ?_
          refine e_isub (z := nI (l - 1)) f_176_93 (pk_sub hl) rfl ?_
          refine e_goto f_176_94 ?_
          refine e_putp (vs' := mB ga gp gq gh gw gu (nI fs, nI gs, nI (apB false fs 0 0), nI (0 + fs), nI (l - 1), gv.2.2.2.2.2.1, gv.2.2.2.2.2.2.1, gv.2.2.2.2.2.2.2.1, gv.2.2.2.2.2.2.2.2)) f_176_101 g22 (Nat.le_of_ble_eq_true rfl) (rfl) (rfl) rfl rfl (fun h29 g30 fx31 => ?_)
          have fr32 : px_fi 269 1 h h29 := fi_tr fr24 fx31 (by omega)
          refine e_iload f_176_104 rfl rfl ?_
          refine e_if_eq_f f_176_106 (by decide) rfl ?_
          refine e_aload_n f_176_109 rfl rfl ?_
          refine e_getf f_176_110 g30 rfl rfl ?_
          show px_to 176 113 [some (.ref (269)), some (.int (nI sw)), some (.int (bI false)), some (.int (nI fs)), some (.int (nI gs)), some (.int (nI 1)), none, none, none] [.int (nI (l - 1))] h29 _
          refine e_if_ge_t f_176_113 (nI_pos' (by omega)) ?_
          refine e_iconst (v := nI 0) f_176_120 (by decide) rfl ?_
          refine e_iret f_176_121 rfl (rfl) ?_
          subst c_44
          have eT : thL false fs gs 0 = [apB false fs 0 0] := by unfold thL; exact if_pos ⟨by omega, Or.inr rfl⟩
          rw [eT]
          exact ⟨by rw [decide_eq_false (by simp only [List.length_singleton]; omega)]; rfl, ⟨_, _, _, g30, fun z => absurd z (by simp only [List.length_singleton]; omega), fun _ => rfl⟩, fr32⟩
      · skip
        rw [← nI_0] at c_53
        have c_53 : fs ≤ 0 := cv_nlt (by omega) (by omega) c_53
        refine e_iload_n f_176_56 rfl rfl ?_
        refine e_if_ne_f f_176_57 (by decide) rfl ?_
        refine e_iconst (v := nI 1) f_176_60 (by decide) rfl ?_
        refine e_goto f_176_61 ?_
        refine e_istore (L' := [some (.ref (269)), some (.int (nI sw)), some (.int (bI false)), some (.int (nI fs)), some (.int (nI gs)), some (.int (nI 1)), none, none, none]) f_176_65 (Nat.le_of_ble_eq_true rfl) rfl rfl ?_
        refine e_aload_n f_176_67 rfl rfl ?_
        refine e_iload_n f_176_68 rfl rfl ?_
        refine e_iload f_176_69 rfl rfl ?_
        refine e_if_eq_f f_176_71 (by decide) rfl ?_
        refine e_iload_n f_176_74 rfl rfl ?_
        refine e_goto f_176_75 ?_
        refine e_callV (As := [.int (bI false), .int (nI fs)]) (rest := []) f_176_79 rfl rfl rfl (Nat.le_of_ble_eq_true rfl) (Nat.le_of_ble_eq_true rfl) g6 rfl (Nat.le_of_ble_eq_true rfl) (cc_Md_app (b := false) (n := fs) (x := 0) (p := 0) (ga := ga) (gp := gp) (gq := gq) (gh := gh) (gw := gw) (gu := gu) (gv := (nI fs, nI gs, nI 0, nI 0, nI l, gv.2.2.2.2.2.1, gv.2.2.2.2.2.2.1, gv.2.2.2.2.2.2.2.1, gv.2.2.2.2.2.2.2.2)) g6 (by decide) (by omega)) rfl (fun h33 r34 q35 => ?_)
        obtain ⟨rfl, g36, fx37⟩ := q35
        have fr38 : px_fi 269 1 h h33 := fi_tr fr8 fx37 (by omega)
        show px_to 176 82 [some (.ref (269)), some (.int (nI sw)), some (.int (bI false)), some (.int (nI fs)), some (.int (nI gs)), some (.int (nI 1)), none, none, none] [] h33 _
        rcases Nat.eq_zero_or_pos l with hl | hl
        · skip
          refine e_aload_n f_176_82 rfl rfl ?_
          refine e_iload f_176_83 rfl rfl ?_
          refine e_if_eq_f f_176_85 (by decide) rfl ?_
          refine e_aload_n f_176_88 rfl rfl ?_
          refine e_getf f_176_89 g36 rfl rfl ?_
          show px_to 176 92 [some (.ref (269)), some (.int (nI sw)), some (.int (bI false)), some (.int (nI fs)), some (.int (nI gs)), some (.int (nI 1)), none, none, none] [.int (nI l), .ref (269)] h33 _
          refine e_iconst (v := nI 1) f_176_92 (by decide) rfl ?_
          refine e_isub (z := (-1)) f_176_93 (by rw [hl]; decide) rfl ?_
          refine e_goto f_176_94 ?_
          refine e_putp (vs' := mB ga gp gq gh gw gu (nI fs, nI gs, nI (apB false fs 0 0), nI (0 + fs), (-1), gv.2.2.2.2.2.1, gv.2.2.2.2.2.2.1, gv.2.2.2.2.2.2.2.1, gv.2.2.2.2.2.2.2.2)) f_176_101 g36 (Nat.le_of_ble_eq_true rfl) (rfl) (rfl) rfl rfl (fun h39 g40 fx41 => ?_)
          have fr42 : px_fi 269 1 h h39 := fi_tr fr38 fx41 (by omega)
          refine e_iload f_176_104 rfl rfl ?_
          refine e_if_eq_f f_176_106 (by decide) rfl ?_
          refine e_aload_n f_176_109 rfl rfl ?_
          refine e_getf f_176_110 g40 rfl rfl ?_
          show px_to 176 113 [some (.ref (269)), some (.int (nI sw)), some (.int (bI false)), some (.int (nI fs)), some (.int (nI gs)), some (.int (nI 1)), none, none, none] [.int ((-1))] h39 _
          refine e_if_ge_f f_176_113 (by decide) rfl ?_
          refine e_iconst (v := nI 1) f_176_116 (by decide) rfl ?_
          refine e_goto f_176_117 ?_
          refine e_iret f_176_121 rfl (rfl) ?_
          subst c_44
          have eT : thL false fs gs 0 = [apB false fs 0 0] := by unfold thL; exact if_pos ⟨by omega, Or.inr rfl⟩
          rw [eT]
          subst hl
          exact ⟨rfl, ⟨_, _, _, g40, fun _ => rfl, fun z => absurd z (by simp)⟩, fr42⟩
        · skip
          refine e_aload_n f_176_82 rfl rfl ?_
          refine e_iload f_176_83 rfl rfl ?_
          refine e_if_eq_f f_176_85 (by decide) rfl ?_
          refine e_aload_n f_176_88 rfl rfl ?_
          refine e_getf f_176_89 g36 rfl rfl ?_
          show px_to 176 92 [some (.ref (269)), some (.int (nI sw)), some (.int (bI false)), some (.int (nI fs)), some (.int (nI gs)), some (.int (nI 1)), none, none, none] [.int (nI l), .ref (269)] h33 _
          refine e_iconst (v := nI 1) f_176_92 (by decide) rfl ?_
          refine e_isub (z := nI (l - 1)) f_176_93 (pk_sub hl) rfl ?_
          refine e_goto f_176_94 ?_
          refine e_putp (vs' := mB ga gp gq gh gw gu (nI fs, nI gs, nI (apB false fs 0 0), nI (0 + fs), nI (l - 1), gv.2.2.2.2.2.1, gv.2.2.2.2.2.2.1, gv.2.2.2.2.2.2.2.1, gv.2.2.2.2.2.2.2.2)) f_176_101 g36 (Nat.le_of_ble_eq_true rfl) (rfl) (rfl) rfl rfl (fun h43 g44 fx45 => ?_)
          have fr46 : px_fi 269 1 h h43 := fi_tr fr38 fx45 (by omega)
          refine e_iload f_176_104 rfl rfl ?_
          refine e_if_eq_f f_176_106 (by decide) rfl ?_
          refine e_aload_n f_176_109 rfl rfl ?_
          refine e_getf f_176_110 g44 rfl rfl ?_
          show px_to 176 113 [some (.ref (269)), some (.int (nI sw)), some (.int (bI false)), some (.int (nI fs)), some (.int (nI gs)), some (.int (nI 1)), none, none, none] [.int (nI (l - 1))] h43 _
          refine e_if_ge_t f_176_113 (nI_pos' (by omega)) ?_
          refine e_iconst (v := nI 0) f_176_120 (by decide) rfl ?_
          refine e_iret f_176_121 rfl (rfl) ?_
          subst c_44
          have eT : thL false fs gs 0 = [apB false fs 0 0] := by unfold thL; exact if_pos ⟨by omega, Or.inr rfl⟩
          rw [eT]
          exact ⟨by rw [decide_eq_false (by simp only [List.length_singleton]; omega)]; rfl, ⟨_, _, _, g44, fun z => absurd z (by simp only [List.length_singleton]; omega), fun _ => rfl⟩, fr46⟩

set_option maxRecDepth 20000 in
set_option maxHeartbeats 4000000 in
theorem ll_Md_thT1i {P : px_H → Option Value → Prop} {h0 : px_H} {one fs gs l0 : Nat} {L0 R : List Nat} {ga : gA} {gp : gP} {gq : gQ} {gh : gH} {gw : gW} {gu : gU} {gv : gV} (h24 : fs + gs ≤ 24) (ho : one ≤ fs) (kt : ∀ g1 pl x, g1.2.2 269 = some (12, mB ga gp gq gh gw gu (nI gs, nI fs, nI x, nI pl, (-1), gv.2.2.2.2.2.1, gv.2.2.2.2.2.2.1, gv.2.2.2.2.2.2.2.1, gv.2.2.2.2.2.2.2.2)) → px_fi 269 1 h0 g1 → l0 < L0.length → L0.getD l0 0 = x → P g1 (some (.int (nI 1)))) (kx : ∀ g1 l pre, g1.2.2 269 = some (12, mB ga gp gq gh gw gu (nI gs, nI fs, nI 0, nI 0, nI l, gv.2.2.2.2.2.1, gv.2.2.2.2.2.2.1, gv.2.2.2.2.2.2.2.1, gv.2.2.2.2.2.2.2.2)) → px_fi 269 1 h0 g1 → pre + l = l0 → pre ≤ L0.length → L0.drop pre = R → px_to 176 274 [some (.ref (269)), some (.int (nI 1)), some (.int (bI true)), some (.int (nI fs)), some (.int (nI gs)), some (.int (nI fs)), some (.int (nI gs)), some (.int (nI one)), none] [] g1 P) : ∀ (d : Nat) (two : Nat) (l : Nat) (pre : Nat) (g : px_H), (gs < two + d) → (two ≤ gs + 1) → (pre + l = l0) → (pre ≤ L0.length) → (L0.drop pre = rowT true fs gs (gs) two one ++ R) → (l0 < 2147483648) → g.2.2 269 = some (12, mB ga gp gq gh gw gu (nI gs, nI fs, nI 0, nI 0, nI l, gv.2.2.2.2.2.1, gv.2.2.2.2.2.2.1, gv.2.2.2.2.2.2.2.1, gv.2.2.2.2.2.2.2.2)) → px_fi 269 1 h0 g → px_to 176 188 [some (.ref (269)), some (.int (nI 1)), some (.int (bI true)), some (.int (nI fs)), some (.int (nI gs)), some (.int (nI fs)), some (.int (nI gs)), some (.int (nI one)), some (.int (nI two))] [] g P := by
  intro d
  induction d using Nat.strongRecOn with
  | ind d ih =>
    intro two l pre g q0 q1 q2 q3 q4 q5 G0 frg
    refine e_iload f_176_188 rfl rfl ?_
    refine e_iload f_176_190 rfl rfl ?_
    refine e_icmp_gt f_176_192 rfl (fun c_192 => ?_) (fun c_192 => ?_)
    · skip
      have c_192 : gs < two := cv_lt (by omega) (by omega) c_192
      have k2 : 0 < gs → gs < two := fun _ => c_192
      refine px_to_L (L := [some (.ref (269)), some (.int (nI 1)), some (.int (bI true)), some (.int (nI fs)), some (.int (nI gs)), some (.int (nI fs)), some (.int (nI gs)), some (.int (nI one)), none]) ⟨Or.inr rfl, Or.inr rfl, Or.inr rfl, Or.inr rfl, Or.inr rfl, Or.inr rfl, Or.inr rfl, Or.inr rfl, Or.inl rfl, trivial⟩ ?_
      rw [rowT_n (by omega), List.nil_append] at q4
      exact kx g l pre G0 frg q2 q3 q4
    · skip
      have c_192 : two ≤ gs := cv_nlt (by omega) (by omega) c_192
      have k2 : 0 < gs → two ≤ gs := fun _ => c_192
      refine e_iload f_176_195 rfl rfl ?_
      refine e_if_le f_176_197 rfl (fun c_197 => ?_) (fun c_197 => ?_)
      · skip
        rw [← nI_0] at c_197
        have c_197 : gs ≤ 0 := cv_le (by omega) (by omega) c_197
        refine px_to_L (L := [some (.ref (269)), some (.int (nI 1)), some (.int (bI true)), some (.int (nI fs)), some (.int (nI gs)), some (.int (nI fs)), some (.int (nI gs)), some (.int (nI one)), none]) ⟨Or.inr rfl, Or.inr rfl, Or.inr rfl, Or.inr rfl, Or.inr rfl, Or.inr rfl, Or.inr rfl, Or.inr rfl, Or.inl rfl, trivial⟩ ?_
        rw [rowT_n (by omega), List.nil_append] at q4
        exact kx g l pre G0 frg q2 q3 q4
      · skip
        rw [← nI_0] at c_197
        have c_197 : 0 < gs := cv_nle (by omega) (by omega) c_197
        have k2 := k2 c_197
        rw [rowT_s c_197 k2, List.cons_append] at q4
        obtain ⟨e1, e2, e3⟩ := drop_c q4
        rcases Nat.eq_zero_or_pos l with hl | hl
        · skip
          refine e_aload_n f_176_200 rfl rfl ?_
          refine e_dup f_176_201 rfl rfl ?_
          refine e_getf f_176_202 G0 rfl rfl ?_
          show px_to 176 205 [some (.ref (269)), some (.int (nI 1)), some (.int (bI true)), some (.int (nI fs)), some (.int (nI gs)), some (.int (nI fs)), some (.int (nI gs)), some (.int (nI one)), some (.int (nI two))] [.int (nI l), .ref (269)] g _
          refine e_iconst (v := nI 1) f_176_205 (by decide) rfl ?_
          refine e_isub (z := (-1)) f_176_206 (by rw [hl]; decide) rfl ?_
          refine e_putp (vs' := mB ga gp gq gh gw gu (nI gs, nI fs, nI 0, nI 0, (-1), gv.2.2.2.2.2.1, gv.2.2.2.2.2.2.1, gv.2.2.2.2.2.2.2.1, gv.2.2.2.2.2.2.2.2)) f_176_207 G0 (Nat.le_of_ble_eq_true rfl) (rfl) (rfl) rfl rfl (fun h1 g2 fx3 => ?_)
          have fr4 : px_fi 269 1 h0 h1 := fi_tr frg fx3 (by omega)
          refine e_aload_n f_176_210 rfl rfl ?_
          refine e_getf f_176_211 g2 rfl rfl ?_
          show px_to 176 214 [some (.ref (269)), some (.int (nI 1)), some (.int (bI true)), some (.int (nI fs)), some (.int (nI gs)), some (.int (nI fs)), some (.int (nI gs)), some (.int (nI one)), some (.int (nI two))] [.int ((-1))] h1 _
          refine e_if_ge_f f_176_214 (by decide) rfl ?_
          refine e_aload_n f_176_217 rfl rfl ?_
          refine e_iload_n f_176_218 rfl rfl ?_
          refine e_iload f_176_219 rfl rfl ?_
          refine e_callV (As := [.int (bI true), .int (nI one)]) (rest := []) f_176_221 rfl rfl rfl (Nat.le_of_ble_eq_true rfl) (Nat.le_of_ble_eq_true rfl) g2 rfl (Nat.le_of_ble_eq_true rfl) (cc_Md_app (b := true) (n := one) (x := 0) (p := 0) (ga := ga) (gp := gp) (gq := gq) (gh := gh) (gw := gw) (gu := gu) (gv := (nI gs, nI fs, nI 0, nI 0, (-1), gv.2.2.2.2.2.1, gv.2.2.2.2.2.2.1, gv.2.2.2.2.2.2.2.1, gv.2.2.2.2.2.2.2.2)) g2 (by decide) (by omega)) rfl (fun h5 r6 q7 => ?_)
          obtain ⟨rfl, g8, fx9⟩ := q7
          have fr10 : px_fi 269 1 h0 h5 := fi_tr fr4 fx9 (by omega)
          show px_to 176 224 [some (.ref (269)), some (.int (nI 1)), some (.int (bI true)), some (.int (nI fs)), some (.int (nI gs)), some (.int (nI fs)), some (.int (nI gs)), some (.int (nI one)), some (.int (nI two))] [] h5 _
          refine e_aload_n f_176_224 rfl rfl ?_
          refine e_iload_n f_176_225 rfl rfl ?_
          refine e_if_ne_t f_176_226 (by decide) ?_
          refine e_iconst (v := nI 0) f_176_233 (by decide) rfl ?_
          show px_to 176 234 [some (.ref (269)), some (.int (nI 1)), some (.int (bI true)), some (.int (nI fs)), some (.int (nI gs)), some (.int (nI fs)), some (.int (nI gs)), some (.int (nI one)), some (.int (nI two))] [.int (bI false), .ref (269)] h5 _
          refine e_iload f_176_234 rfl rfl ?_
          refine e_callV (As := [.int (bI false), .int (nI two)]) (rest := []) f_176_236 rfl rfl rfl (Nat.le_of_ble_eq_true rfl) (Nat.le_of_ble_eq_true rfl) g8 rfl (Nat.le_of_ble_eq_true rfl) (cc_Md_app (b := false) (n := two) (x := apB true one 0 0) (p := 0 + one) (ga := ga) (gp := gp) (gq := gq) (gh := gh) (gw := gw) (gu := gu) (gv := (nI gs, nI fs, nI (apB true one 0 0), nI (0 + one), (-1), gv.2.2.2.2.2.1, gv.2.2.2.2.2.2.1, gv.2.2.2.2.2.2.2.1, gv.2.2.2.2.2.2.2.2)) g8 (apB_lt (by decide)) (by omega)) rfl (fun h11 r12 q13 => ?_)
          obtain ⟨rfl, g14, fx15⟩ := q13
          have fr16 : px_fi 269 1 h0 h11 := fi_tr fr10 fx15 (by omega)
          show px_to 176 239 [some (.ref (269)), some (.int (nI 1)), some (.int (bI true)), some (.int (nI fs)), some (.int (nI gs)), some (.int (nI fs)), some (.int (nI gs)), some (.int (nI one)), some (.int (nI two))] [] h11 _
          refine e_aload_n f_176_239 rfl rfl ?_
          refine e_iload_n f_176_240 rfl rfl ?_
          refine e_iload_n f_176_241 rfl rfl ?_
          refine e_iload f_176_242 rfl rfl ?_
          refine e_isub (z := nI (fs - one)) f_176_244 (pk_sub (by omega)) rfl ?_
          refine e_callV (As := [.int (bI true), .int (nI (fs - one))]) (rest := []) f_176_245 rfl rfl rfl (Nat.le_of_ble_eq_true rfl) (Nat.le_of_ble_eq_true rfl) g14 rfl (Nat.le_of_ble_eq_true rfl) (cc_Md_app (b := true) (n := fs - one) (x := apB false two (apB true one 0 0) (0 + one)) (p := 0 + one + two) (ga := ga) (gp := gp) (gq := gq) (gh := gh) (gw := gw) (gu := gu) (gv := (nI gs, nI fs, nI (apB false two (apB true one 0 0) (0 + one)), nI (0 + one + two), (-1), gv.2.2.2.2.2.1, gv.2.2.2.2.2.2.1, gv.2.2.2.2.2.2.2.1, gv.2.2.2.2.2.2.2.2)) g14 (apB_lt (apB_lt (by decide))) (by omega)) rfl (fun h17 r18 q19 => ?_)
          obtain ⟨rfl, g20, fx21⟩ := q19
          have fr22 : px_fi 269 1 h0 h17 := fi_tr fr16 fx21 (by omega)
          show px_to 176 248 [some (.ref (269)), some (.int (nI 1)), some (.int (bI true)), some (.int (nI fs)), some (.int (nI gs)), some (.int (nI fs)), some (.int (nI gs)), some (.int (nI one)), some (.int (nI two))] [] h17 _
          refine e_aload_n f_176_248 rfl rfl ?_
          refine e_iload_n f_176_249 rfl rfl ?_
          refine e_if_ne_t f_176_250 (by decide) ?_
          refine e_iconst (v := nI 0) f_176_257 (by decide) rfl ?_
          show px_to 176 258 [some (.ref (269)), some (.int (nI 1)), some (.int (bI true)), some (.int (nI fs)), some (.int (nI gs)), some (.int (nI fs)), some (.int (nI gs)), some (.int (nI one)), some (.int (nI two))] [.int (bI false), .ref (269)] h17 _
          refine e_iload f_176_258 rfl rfl ?_
          refine e_iload f_176_260 rfl rfl ?_
          refine e_isub (z := nI (gs - two)) f_176_262 (pk_sub (by omega)) rfl ?_
          refine e_callV (As := [.int (bI false), .int (nI (gs - two))]) (rest := []) f_176_263 rfl rfl rfl (Nat.le_of_ble_eq_true rfl) (Nat.le_of_ble_eq_true rfl) g20 rfl (Nat.le_of_ble_eq_true rfl) (cc_Md_app (b := false) (n := gs - two) (x := apB true (fs - one) (apB false two (apB true one 0 0) (0 + one)) (0 + one + two)) (p := 0 + one + two + (fs - one)) (ga := ga) (gp := gp) (gq := gq) (gh := gh) (gw := gw) (gu := gu) (gv := (nI gs, nI fs, nI (apB true (fs - one) (apB false two (apB true one 0 0) (0 + one)) (0 + one + two)), nI (0 + one + two + (fs - one)), (-1), gv.2.2.2.2.2.1, gv.2.2.2.2.2.2.1, gv.2.2.2.2.2.2.2.1, gv.2.2.2.2.2.2.2.2)) g20 (apB_lt (apB_lt (apB_lt (by decide)))) (by omega)) rfl (fun h23 r24 q25 => ?_)
          obtain ⟨rfl, g26, fx27⟩ := q25
          have fr28 : px_fi 269 1 h0 h23 := fi_tr fr22 fx27 (by omega)
          show px_to 176 266 [some (.ref (269)), some (.int (nI 1)), some (.int (bI true)), some (.int (nI fs)), some (.int (nI gs)), some (.int (nI fs)), some (.int (nI gs)), some (.int (nI one)), some (.int (nI two))] [] h23 _
          refine e_iconst (v := nI 1) f_176_266 (by decide) rfl ?_
          refine e_iret f_176_267 rfl (rfl) ?_
          exact kt _ _ _ g26 fr28 (by omega) (by rw [show l0 = pre by omega]; exact e2)
        · skip
          refine e_aload_n f_176_200 rfl rfl ?_
          refine e_dup f_176_201 rfl rfl ?_
          refine e_getf f_176_202 G0 rfl rfl ?_
          show px_to 176 205 [some (.ref (269)), some (.int (nI 1)), some (.int (bI true)), some (.int (nI fs)), some (.int (nI gs)), some (.int (nI fs)), some (.int (nI gs)), some (.int (nI one)), some (.int (nI two))] [.int (nI l), .ref (269)] g _
          refine e_iconst (v := nI 1) f_176_205 (by decide) rfl ?_
          refine e_isub (z := nI (l - 1)) f_176_206 (pk_sub hl) rfl ?_
          refine e_putp (vs' := mB ga gp gq gh gw gu (nI gs, nI fs, nI 0, nI 0, nI (l - 1), gv.2.2.2.2.2.1, gv.2.2.2.2.2.2.1, gv.2.2.2.2.2.2.2.1, gv.2.2.2.2.2.2.2.2)) f_176_207 G0 (Nat.le_of_ble_eq_true rfl) (rfl) (rfl) rfl rfl (fun h29 g30 fx31 => ?_)
          have fr32 : px_fi 269 1 h0 h29 := fi_tr frg fx31 (by omega)
          refine e_aload_n f_176_210 rfl rfl ?_
          refine e_getf f_176_211 g30 rfl rfl ?_
          show px_to 176 214 [some (.ref (269)), some (.int (nI 1)), some (.int (bI true)), some (.int (nI fs)), some (.int (nI gs)), some (.int (nI fs)), some (.int (nI gs)), some (.int (nI one)), some (.int (nI two))] [.int (nI (l - 1))] h29 _
          refine e_if_ge_t f_176_214 (nI_pos' (by omega)) ?_
          refine e_iinc (y := nI (two + 1)) (L' := [some (.ref (269)), some (.int (nI 1)), some (.int (bI true)), some (.int (nI fs)), some (.int (nI gs)), some (.int (nI fs)), some (.int (nI gs)), some (.int (nI one)), some (.int (nI (two + 1)))]) f_176_268 rfl (by rw [show Int32.ofInt 1 = nI 1 by decide]; exact (nI_add _ _)) rfl rfl ?_
          refine e_goto f_176_271 ?_
          first | (exfalso; omega) | exact ih (d - 1) (by omega) (two + 1) (l - 1) (pre + 1) h29 (by omega) (by omega) (by omega) (by omega) (e3) (by omega) g30 fr32

set_option maxRecDepth 20000 in
set_option maxHeartbeats 4000000 in
theorem ll_Md_thT1 {P : px_H → Option Value → Prop} {h0 : px_H} {fs gs l0 : Nat} {L0 : List Nat} {ga : gA} {gp : gP} {gq : gQ} {gh : gH} {gw : gW} {gu : gU} {gv : gV} (h24 : fs + gs ≤ 24) (kt : ∀ g1 pl x, g1.2.2 269 = some (12, mB ga gp gq gh gw gu (nI gs, nI fs, nI x, nI pl, (-1), gv.2.2.2.2.2.1, gv.2.2.2.2.2.2.1, gv.2.2.2.2.2.2.2.1, gv.2.2.2.2.2.2.2.2)) → px_fi 269 1 h0 g1 → l0 < L0.length → L0.getD l0 0 = x → P g1 (some (.int (nI 1)))) (kf : ∀ g1 l, g1.2.2 269 = some (12, mB ga gp gq gh gw gu (nI gs, nI fs, nI 0, nI 0, nI l, gv.2.2.2.2.2.1, gv.2.2.2.2.2.2.1, gv.2.2.2.2.2.2.2.1, gv.2.2.2.2.2.2.2.2)) → px_fi 269 1 h0 g1 → L0.length + l = l0 → P g1 (some (.int (nI 0)))) : ∀ (d : Nat) (one : Nat) (l : Nat) (pre : Nat) (g : px_H), (fs < one + d) → (one ≤ fs + 1) → (pre + l = l0) → (pre ≤ L0.length) → (L0.drop pre = famT true fs gs (gs) (gs) (fs) one) → (l0 < 2147483648) → g.2.2 269 = some (12, mB ga gp gq gh gw gu (nI gs, nI fs, nI 0, nI 0, nI l, gv.2.2.2.2.2.1, gv.2.2.2.2.2.2.1, gv.2.2.2.2.2.2.2.1, gv.2.2.2.2.2.2.2.2)) → px_fi 269 1 h0 g → px_to 176 164 [some (.ref (269)), some (.int (nI 1)), some (.int (bI true)), some (.int (nI fs)), some (.int (nI gs)), some (.int (nI fs)), some (.int (nI gs)), some (.int (nI one)), none] [] g P := by
  intro d
  induction d using Nat.strongRecOn with
  | ind d ih =>
    intro one l pre g q0 q1 q2 q3 q4 q5 G0 frg
    refine e_iload f_176_164 rfl rfl ?_
    refine e_iload f_176_166 rfl rfl ?_
    refine e_icmp_gt f_176_168 rfl (fun c_168 => ?_) (fun c_168 => ?_)
    · skip
      have c_168 : fs < one := cv_lt (by omega) (by omega) c_168
      have k1 : 0 < fs → fs < one := fun _ => c_168
      refine e_iconst (v := nI 0) f_176_280 (by decide) rfl ?_
      refine e_iret f_176_281 rfl (rfl) ?_
      rw [famT_n (by omega)] at q4
      exact kf g l G0 frg (by have := List.drop_eq_nil_iff.mp q4; omega)
    · skip
      have c_168 : one ≤ fs := cv_nlt (by omega) (by omega) c_168
      have k1 : 0 < fs → one ≤ fs := fun _ => c_168
      refine e_iload_n f_176_171 rfl rfl ?_
      refine e_if_le f_176_172 rfl (fun c_172 => ?_) (fun c_172 => ?_)
      · skip
        rw [← nI_0] at c_172
        have c_172 : fs ≤ 0 := cv_le (by omega) (by omega) c_172
        refine e_iconst (v := nI 0) f_176_280 (by decide) rfl ?_
        refine e_iret f_176_281 rfl (rfl) ?_
        rw [famT_n (by omega)] at q4
        exact kf g l G0 frg (by have := List.drop_eq_nil_iff.mp q4; omega)
      · skip
        rw [← nI_0] at c_172
        have c_172 : 0 < fs := cv_nle (by omega) (by omega) c_172
        refine e_iload_n f_176_175 rfl rfl ?_
        refine e_iconst (v := nI 2) f_176_176 (by decide) rfl ?_
        refine e_icmp_le_t f_176_177 (by decide) ?_
        refine e_iload f_176_184 rfl rfl ?_
        refine e_istore (L' := [some (.ref (269)), some (.int (nI 1)), some (.int (bI true)), some (.int (nI fs)), some (.int (nI gs)), some (.int (nI fs)), some (.int (nI gs)), some (.int (nI one)), some (.int (nI gs))]) f_176_186 (Nat.le_of_ble_eq_true rfl) rfl rfl ?_
        have k1 := k1 c_172
        rw [famT_s c_172 k1] at q4
        refine ll_Md_thT1i (h0 := h0) (L0 := L0) (l0 := l0) (R := famT true fs gs (gs) (gs) (fs) (one + 1)) h24 (by omega) kt (fun g1 l1 pre1 z0 zf y1 y2 y3 => ?_) 30 (gs) l pre g (by omega) (by omega) q2 q3 q4 q5 G0 frg
        refine e_iinc (y := nI (one + 1)) (L' := [some (.ref (269)), some (.int (nI 1)), some (.int (bI true)), some (.int (nI fs)), some (.int (nI gs)), some (.int (nI fs)), some (.int (nI gs)), some (.int (nI (one + 1))), none]) f_176_274 rfl (by rw [show Int32.ofInt 1 = nI 1 by decide]; exact (nI_add _ _)) rfl rfl ?_
        refine e_goto f_176_277 ?_
        first | (exfalso; omega) | exact ih (d - 1) (by omega) (one + 1) l1 pre1 g1 (by omega) (by omega) (y1) (y2) (y3) (by omega) z0 zf

set_option maxRecDepth 20000 in
set_option maxHeartbeats 4000000 in
theorem ll_Md_thT2i {P : px_H → Option Value → Prop} {h0 : px_H} {one fs gs l0 : Nat} {L0 R : List Nat} {ga : gA} {gp : gP} {gq : gQ} {gh : gH} {gw : gW} {gu : gU} {gv : gV} (h24 : fs + gs ≤ 24) (ho : one ≤ fs) (kt : ∀ g1 pl x, g1.2.2 269 = some (12, mB ga gp gq gh gw gu (nI gs, nI fs, nI x, nI pl, (-1), gv.2.2.2.2.2.1, gv.2.2.2.2.2.2.1, gv.2.2.2.2.2.2.2.1, gv.2.2.2.2.2.2.2.2)) → px_fi 269 1 h0 g1 → l0 < L0.length → L0.getD l0 0 = x → P g1 (some (.int (nI 1)))) (kx : ∀ g1 l pre, g1.2.2 269 = some (12, mB ga gp gq gh gw gu (nI gs, nI fs, nI 0, nI 0, nI l, gv.2.2.2.2.2.1, gv.2.2.2.2.2.2.1, gv.2.2.2.2.2.2.2.1, gv.2.2.2.2.2.2.2.2)) → px_fi 269 1 h0 g1 → pre + l = l0 → pre ≤ L0.length → L0.drop pre = R → px_to 176 274 [some (.ref (269)), some (.int (nI 2)), some (.int (bI true)), some (.int (nI fs)), some (.int (nI gs)), some (.int (nI fs - nI 1)), some (.int (nI gs)), some (.int (nI one)), none] [] g1 P) : ∀ (d : Nat) (two : Nat) (l : Nat) (pre : Nat) (g : px_H), (gs < two + d) → (two ≤ gs + 1) → (pre + l = l0) → (pre ≤ L0.length) → (L0.drop pre = rowT true fs gs (gs) two one ++ R) → (l0 < 2147483648) → g.2.2 269 = some (12, mB ga gp gq gh gw gu (nI gs, nI fs, nI 0, nI 0, nI l, gv.2.2.2.2.2.1, gv.2.2.2.2.2.2.1, gv.2.2.2.2.2.2.2.1, gv.2.2.2.2.2.2.2.2)) → px_fi 269 1 h0 g → px_to 176 188 [some (.ref (269)), some (.int (nI 2)), some (.int (bI true)), some (.int (nI fs)), some (.int (nI gs)), some (.int (nI fs - nI 1)), some (.int (nI gs)), some (.int (nI one)), some (.int (nI two))] [] g P := by
  intro d
  induction d using Nat.strongRecOn with
  | ind d ih =>
    intro two l pre g q0 q1 q2 q3 q4 q5 G0 frg
    refine e_iload f_176_188 rfl rfl ?_
    refine e_iload f_176_190 rfl rfl ?_
    refine e_icmp_gt f_176_192 rfl (fun c_192 => ?_) (fun c_192 => ?_)
    · skip
      have c_192 : gs < two := cv_lt (by omega) (by omega) c_192
      have k2 : 0 < gs → gs < two := fun _ => c_192
      refine px_to_L (L := [some (.ref (269)), some (.int (nI 2)), some (.int (bI true)), some (.int (nI fs)), some (.int (nI gs)), some (.int (nI fs - nI 1)), some (.int (nI gs)), some (.int (nI one)), none]) ⟨Or.inr rfl, Or.inr rfl, Or.inr rfl, Or.inr rfl, Or.inr rfl, Or.inr rfl, Or.inr rfl, Or.inr rfl, Or.inl rfl, trivial⟩ ?_
      rw [rowT_n (by omega), List.nil_append] at q4
      exact kx g l pre G0 frg q2 q3 q4
    · skip
      have c_192 : two ≤ gs := cv_nlt (by omega) (by omega) c_192
      have k2 : 0 < gs → two ≤ gs := fun _ => c_192
      refine e_iload f_176_195 rfl rfl ?_
      refine e_if_le f_176_197 rfl (fun c_197 => ?_) (fun c_197 => ?_)
      · skip
        rw [← nI_0] at c_197
        have c_197 : gs ≤ 0 := cv_le (by omega) (by omega) c_197
        refine px_to_L (L := [some (.ref (269)), some (.int (nI 2)), some (.int (bI true)), some (.int (nI fs)), some (.int (nI gs)), some (.int (nI fs - nI 1)), some (.int (nI gs)), some (.int (nI one)), none]) ⟨Or.inr rfl, Or.inr rfl, Or.inr rfl, Or.inr rfl, Or.inr rfl, Or.inr rfl, Or.inr rfl, Or.inr rfl, Or.inl rfl, trivial⟩ ?_
        rw [rowT_n (by omega), List.nil_append] at q4
        exact kx g l pre G0 frg q2 q3 q4
      · skip
        rw [← nI_0] at c_197
        have c_197 : 0 < gs := cv_nle (by omega) (by omega) c_197
        have k2 := k2 c_197
        rw [rowT_s c_197 k2, List.cons_append] at q4
        obtain ⟨e1, e2, e3⟩ := drop_c q4
        rcases Nat.eq_zero_or_pos l with hl | hl
        · skip
          refine e_aload_n f_176_200 rfl rfl ?_
          refine e_dup f_176_201 rfl rfl ?_
          refine e_getf f_176_202 G0 rfl rfl ?_
          show px_to 176 205 [some (.ref (269)), some (.int (nI 2)), some (.int (bI true)), some (.int (nI fs)), some (.int (nI gs)), some (.int (nI fs - nI 1)), some (.int (nI gs)), some (.int (nI one)), some (.int (nI two))] [.int (nI l), .ref (269)] g _
          refine e_iconst (v := nI 1) f_176_205 (by decide) rfl ?_
          refine e_isub (z := (-1)) f_176_206 (by rw [hl]; decide) rfl ?_
          refine e_putp (vs' := mB ga gp gq gh gw gu (nI gs, nI fs, nI 0, nI 0, (-1), gv.2.2.2.2.2.1, gv.2.2.2.2.2.2.1, gv.2.2.2.2.2.2.2.1, gv.2.2.2.2.2.2.2.2)) f_176_207 G0 (Nat.le_of_ble_eq_true rfl) (rfl) (rfl) rfl rfl (fun h1 g2 fx3 => ?_)
          have fr4 : px_fi 269 1 h0 h1 := fi_tr frg fx3 (by omega)
          refine e_aload_n f_176_210 rfl rfl ?_
          refine e_getf f_176_211 g2 rfl rfl ?_
          show px_to 176 214 [some (.ref (269)), some (.int (nI 2)), some (.int (bI true)), some (.int (nI fs)), some (.int (nI gs)), some (.int (nI fs - nI 1)), some (.int (nI gs)), some (.int (nI one)), some (.int (nI two))] [.int ((-1))] h1 _
          refine e_if_ge_f f_176_214 (by decide) rfl ?_
          refine e_aload_n f_176_217 rfl rfl ?_
          refine e_iload_n f_176_218 rfl rfl ?_
          refine e_iload f_176_219 rfl rfl ?_
          refine e_callV (As := [.int (bI true), .int (nI one)]) (rest := []) f_176_221 rfl rfl rfl (Nat.le_of_ble_eq_true rfl) (Nat.le_of_ble_eq_true rfl) g2 rfl (Nat.le_of_ble_eq_true rfl) (cc_Md_app (b := true) (n := one) (x := 0) (p := 0) (ga := ga) (gp := gp) (gq := gq) (gh := gh) (gw := gw) (gu := gu) (gv := (nI gs, nI fs, nI 0, nI 0, (-1), gv.2.2.2.2.2.1, gv.2.2.2.2.2.2.1, gv.2.2.2.2.2.2.2.1, gv.2.2.2.2.2.2.2.2)) g2 (by decide) (by omega)) rfl (fun h5 r6 q7 => ?_)
          obtain ⟨rfl, g8, fx9⟩ := q7
          have fr10 : px_fi 269 1 h0 h5 := fi_tr fr4 fx9 (by omega)
          show px_to 176 224 [some (.ref (269)), some (.int (nI 2)), some (.int (bI true)), some (.int (nI fs)), some (.int (nI gs)), some (.int (nI fs - nI 1)), some (.int (nI gs)), some (.int (nI one)), some (.int (nI two))] [] h5 _
          refine e_aload_n f_176_224 rfl rfl ?_
          refine e_iload_n f_176_225 rfl rfl ?_
          refine e_if_ne_t f_176_226 (by decide) ?_
          refine e_iconst (v := nI 0) f_176_233 (by decide) rfl ?_
          show px_to 176 234 [some (.ref (269)), some (.int (nI 2)), some (.int (bI true)), some (.int (nI fs)), some (.int (nI gs)), some (.int (nI fs - nI 1)), some (.int (nI gs)), some (.int (nI one)), some (.int (nI two))] [.int (bI false), .ref (269)] h5 _
          refine e_iload f_176_234 rfl rfl ?_
          refine e_callV (As := [.int (bI false), .int (nI two)]) (rest := []) f_176_236 rfl rfl rfl (Nat.le_of_ble_eq_true rfl) (Nat.le_of_ble_eq_true rfl) g8 rfl (Nat.le_of_ble_eq_true rfl) (cc_Md_app (b := false) (n := two) (x := apB true one 0 0) (p := 0 + one) (ga := ga) (gp := gp) (gq := gq) (gh := gh) (gw := gw) (gu := gu) (gv := (nI gs, nI fs, nI (apB true one 0 0), nI (0 + one), (-1), gv.2.2.2.2.2.1, gv.2.2.2.2.2.2.1, gv.2.2.2.2.2.2.2.1, gv.2.2.2.2.2.2.2.2)) g8 (apB_lt (by decide)) (by omega)) rfl (fun h11 r12 q13 => ?_)
          obtain ⟨rfl, g14, fx15⟩ := q13
          have fr16 : px_fi 269 1 h0 h11 := fi_tr fr10 fx15 (by omega)
          show px_to 176 239 [some (.ref (269)), some (.int (nI 2)), some (.int (bI true)), some (.int (nI fs)), some (.int (nI gs)), some (.int (nI fs - nI 1)), some (.int (nI gs)), some (.int (nI one)), some (.int (nI two))] [] h11 _
          refine e_aload_n f_176_239 rfl rfl ?_
          refine e_iload_n f_176_240 rfl rfl ?_
          refine e_iload_n f_176_241 rfl rfl ?_
          refine e_iload f_176_242 rfl rfl ?_
          refine e_isub (z := nI (fs - one)) f_176_244 (pk_sub (by omega)) rfl ?_
          refine e_callV (As := [.int (bI true), .int (nI (fs - one))]) (rest := []) f_176_245 rfl rfl rfl (Nat.le_of_ble_eq_true rfl) (Nat.le_of_ble_eq_true rfl) g14 rfl (Nat.le_of_ble_eq_true rfl) (cc_Md_app (b := true) (n := fs - one) (x := apB false two (apB true one 0 0) (0 + one)) (p := 0 + one + two) (ga := ga) (gp := gp) (gq := gq) (gh := gh) (gw := gw) (gu := gu) (gv := (nI gs, nI fs, nI (apB false two (apB true one 0 0) (0 + one)), nI (0 + one + two), (-1), gv.2.2.2.2.2.1, gv.2.2.2.2.2.2.1, gv.2.2.2.2.2.2.2.1, gv.2.2.2.2.2.2.2.2)) g14 (apB_lt (apB_lt (by decide))) (by omega)) rfl (fun h17 r18 q19 => ?_)
          obtain ⟨rfl, g20, fx21⟩ := q19
          have fr22 : px_fi 269 1 h0 h17 := fi_tr fr16 fx21 (by omega)
          show px_to 176 248 [some (.ref (269)), some (.int (nI 2)), some (.int (bI true)), some (.int (nI fs)), some (.int (nI gs)), some (.int (nI fs - nI 1)), some (.int (nI gs)), some (.int (nI one)), some (.int (nI two))] [] h17 _
          refine e_aload_n f_176_248 rfl rfl ?_
          refine e_iload_n f_176_249 rfl rfl ?_
          refine e_if_ne_t f_176_250 (by decide) ?_
          refine e_iconst (v := nI 0) f_176_257 (by decide) rfl ?_
          show px_to 176 258 [some (.ref (269)), some (.int (nI 2)), some (.int (bI true)), some (.int (nI fs)), some (.int (nI gs)), some (.int (nI fs - nI 1)), some (.int (nI gs)), some (.int (nI one)), some (.int (nI two))] [.int (bI false), .ref (269)] h17 _
          refine e_iload f_176_258 rfl rfl ?_
          refine e_iload f_176_260 rfl rfl ?_
          refine e_isub (z := nI (gs - two)) f_176_262 (pk_sub (by omega)) rfl ?_
          refine e_callV (As := [.int (bI false), .int (nI (gs - two))]) (rest := []) f_176_263 rfl rfl rfl (Nat.le_of_ble_eq_true rfl) (Nat.le_of_ble_eq_true rfl) g20 rfl (Nat.le_of_ble_eq_true rfl) (cc_Md_app (b := false) (n := gs - two) (x := apB true (fs - one) (apB false two (apB true one 0 0) (0 + one)) (0 + one + two)) (p := 0 + one + two + (fs - one)) (ga := ga) (gp := gp) (gq := gq) (gh := gh) (gw := gw) (gu := gu) (gv := (nI gs, nI fs, nI (apB true (fs - one) (apB false two (apB true one 0 0) (0 + one)) (0 + one + two)), nI (0 + one + two + (fs - one)), (-1), gv.2.2.2.2.2.1, gv.2.2.2.2.2.2.1, gv.2.2.2.2.2.2.2.1, gv.2.2.2.2.2.2.2.2)) g20 (apB_lt (apB_lt (apB_lt (by decide)))) (by omega)) rfl (fun h23 r24 q25 => ?_)
          obtain ⟨rfl, g26, fx27⟩ := q25
          have fr28 : px_fi 269 1 h0 h23 := fi_tr fr22 fx27 (by omega)
          show px_to 176 266 [some (.ref (269)), some (.int (nI 2)), some (.int (bI true)), some (.int (nI fs)), some (.int (nI gs)), some (.int (nI fs - nI 1)), some (.int (nI gs)), some (.int (nI one)), some (.int (nI two))] [] h23 _
          refine e_iconst (v := nI 1) f_176_266 (by decide) rfl ?_
          refine e_iret f_176_267 rfl (rfl) ?_
          exact kt _ _ _ g26 fr28 (by omega) (by rw [show l0 = pre by omega]; exact e2)
        · skip
          refine e_aload_n f_176_200 rfl rfl ?_
          refine e_dup f_176_201 rfl rfl ?_
          refine e_getf f_176_202 G0 rfl rfl ?_
          show px_to 176 205 [some (.ref (269)), some (.int (nI 2)), some (.int (bI true)), some (.int (nI fs)), some (.int (nI gs)), some (.int (nI fs - nI 1)), some (.int (nI gs)), some (.int (nI one)), some (.int (nI two))] [.int (nI l), .ref (269)] g _
          refine e_iconst (v := nI 1) f_176_205 (by decide) rfl ?_
          refine e_isub (z := nI (l - 1)) f_176_206 (pk_sub hl) rfl ?_
          refine e_putp (vs' := mB ga gp gq gh gw gu (nI gs, nI fs, nI 0, nI 0, nI (l - 1), gv.2.2.2.2.2.1, gv.2.2.2.2.2.2.1, gv.2.2.2.2.2.2.2.1, gv.2.2.2.2.2.2.2.2)) f_176_207 G0 (Nat.le_of_ble_eq_true rfl) (rfl) (rfl) rfl rfl (fun h29 g30 fx31 => ?_)
          have fr32 : px_fi 269 1 h0 h29 := fi_tr frg fx31 (by omega)
          refine e_aload_n f_176_210 rfl rfl ?_
          refine e_getf f_176_211 g30 rfl rfl ?_
          show px_to 176 214 [some (.ref (269)), some (.int (nI 2)), some (.int (bI true)), some (.int (nI fs)), some (.int (nI gs)), some (.int (nI fs - nI 1)), some (.int (nI gs)), some (.int (nI one)), some (.int (nI two))] [.int (nI (l - 1))] h29 _
          refine e_if_ge_t f_176_214 (nI_pos' (by omega)) ?_
          refine e_iinc (y := nI (two + 1)) (L' := [some (.ref (269)), some (.int (nI 2)), some (.int (bI true)), some (.int (nI fs)), some (.int (nI gs)), some (.int (nI fs - nI 1)), some (.int (nI gs)), some (.int (nI one)), some (.int (nI (two + 1)))]) f_176_268 rfl (by rw [show Int32.ofInt 1 = nI 1 by decide]; exact (nI_add _ _)) rfl rfl ?_
          refine e_goto f_176_271 ?_
          first | (exfalso; omega) | exact ih (d - 1) (by omega) (two + 1) (l - 1) (pre + 1) h29 (by omega) (by omega) (by omega) (by omega) (e3) (by omega) g30 fr32

set_option maxRecDepth 20000 in
set_option maxHeartbeats 4000000 in
theorem ll_Md_thT2 {P : px_H → Option Value → Prop} {h0 : px_H} {fs gs l0 : Nat} {L0 : List Nat} {ga : gA} {gp : gP} {gq : gQ} {gh : gH} {gw : gW} {gu : gU} {gv : gV} (h24 : fs + gs ≤ 24) (kt : ∀ g1 pl x, g1.2.2 269 = some (12, mB ga gp gq gh gw gu (nI gs, nI fs, nI x, nI pl, (-1), gv.2.2.2.2.2.1, gv.2.2.2.2.2.2.1, gv.2.2.2.2.2.2.2.1, gv.2.2.2.2.2.2.2.2)) → px_fi 269 1 h0 g1 → l0 < L0.length → L0.getD l0 0 = x → P g1 (some (.int (nI 1)))) (kf : ∀ g1 l, g1.2.2 269 = some (12, mB ga gp gq gh gw gu (nI gs, nI fs, nI 0, nI 0, nI l, gv.2.2.2.2.2.1, gv.2.2.2.2.2.2.1, gv.2.2.2.2.2.2.2.1, gv.2.2.2.2.2.2.2.2)) → px_fi 269 1 h0 g1 → L0.length + l = l0 → P g1 (some (.int (nI 0)))) : ∀ (d : Nat) (one : Nat) (l : Nat) (pre : Nat) (g : px_H), (fs - 1 < one + d) → (one ≤ fs - 1 + 1) → (pre + l = l0) → (pre ≤ L0.length) → (L0.drop pre = famT true fs gs (gs) (gs) (fs - 1) one) → (l0 < 2147483648) → g.2.2 269 = some (12, mB ga gp gq gh gw gu (nI gs, nI fs, nI 0, nI 0, nI l, gv.2.2.2.2.2.1, gv.2.2.2.2.2.2.1, gv.2.2.2.2.2.2.2.1, gv.2.2.2.2.2.2.2.2)) → px_fi 269 1 h0 g → px_to 176 164 [some (.ref (269)), some (.int (nI 2)), some (.int (bI true)), some (.int (nI fs)), some (.int (nI gs)), some (.int (nI fs - nI 1)), some (.int (nI gs)), some (.int (nI one)), none] [] g P := by
  intro d
  induction d using Nat.strongRecOn with
  | ind d ih =>
    intro one l pre g q0 q1 q2 q3 q4 q5 G0 frg
    refine e_iload f_176_164 rfl rfl ?_
    refine e_iload f_176_166 rfl rfl ?_
    refine e_icmp_gt f_176_168 rfl (fun c_168 => ?_) (fun c_168 => ?_)
    · skip
      have k1 : 0 < fs → fs - 1 < one := fun z => by rw [pk_sub z] at c_168; exact cv_lt (by omega) (by omega) c_168
      refine e_iconst (v := nI 0) f_176_280 (by decide) rfl ?_
      refine e_iret f_176_281 rfl (rfl) ?_
      rw [famT_n (by omega)] at q4
      exact kf g l G0 frg (by have := List.drop_eq_nil_iff.mp q4; omega)
    · skip
      have k1 : 0 < fs → one ≤ fs - 1 := fun z => by rw [pk_sub z] at c_168; exact cv_nlt (by omega) (by omega) c_168
      refine e_iload_n f_176_171 rfl rfl ?_
      refine e_if_le f_176_172 rfl (fun c_172 => ?_) (fun c_172 => ?_)
      · skip
        rw [← nI_0] at c_172
        have c_172 : fs ≤ 0 := cv_le (by omega) (by omega) c_172
        refine e_iconst (v := nI 0) f_176_280 (by decide) rfl ?_
        refine e_iret f_176_281 rfl (rfl) ?_
        rw [famT_n (by omega)] at q4
        exact kf g l G0 frg (by have := List.drop_eq_nil_iff.mp q4; omega)
      · skip
        rw [← nI_0] at c_172
        have c_172 : 0 < fs := cv_nle (by omega) (by omega) c_172
        refine e_iload_n f_176_175 rfl rfl ?_
        refine e_iconst (v := nI 2) f_176_176 (by decide) rfl ?_
        refine e_icmp_le_t f_176_177 (by decide) ?_
        refine e_iload f_176_184 rfl rfl ?_
        refine e_istore (L' := [some (.ref (269)), some (.int (nI 2)), some (.int (bI true)), some (.int (nI fs)), some (.int (nI gs)), some (.int (nI fs - nI 1)), some (.int (nI gs)), some (.int (nI one)), some (.int (nI gs))]) f_176_186 (Nat.le_of_ble_eq_true rfl) rfl rfl ?_
        have k1 := k1 c_172
        rw [famT_s c_172 k1] at q4
        refine ll_Md_thT2i (h0 := h0) (L0 := L0) (l0 := l0) (R := famT true fs gs (gs) (gs) (fs - 1) (one + 1)) h24 (by omega) kt (fun g1 l1 pre1 z0 zf y1 y2 y3 => ?_) 30 (gs) l pre g (by omega) (by omega) q2 q3 q4 q5 G0 frg
        refine e_iinc (y := nI (one + 1)) (L' := [some (.ref (269)), some (.int (nI 2)), some (.int (bI true)), some (.int (nI fs)), some (.int (nI gs)), some (.int (nI fs - nI 1)), some (.int (nI gs)), some (.int (nI (one + 1))), none]) f_176_274 rfl (by rw [show Int32.ofInt 1 = nI 1 by decide]; exact (nI_add _ _)) rfl rfl ?_
        refine e_goto f_176_277 ?_
        first | (exfalso; omega) | exact ih (d - 1) (by omega) (one + 1) l1 pre1 g1 (by omega) (by omega) (y1) (y2) (y3) (by omega) z0 zf

set_option maxRecDepth 20000 in
set_option maxHeartbeats 4000000 in
theorem ll_Md_thT3i {P : px_H → Option Value → Prop} {h0 : px_H} {one fs gs l0 : Nat} {L0 R : List Nat} {ga : gA} {gp : gP} {gq : gQ} {gh : gH} {gw : gW} {gu : gU} {gv : gV} (h24 : fs + gs ≤ 24) (ho : one ≤ fs) (kt : ∀ g1 pl x, g1.2.2 269 = some (12, mB ga gp gq gh gw gu (nI gs, nI fs, nI x, nI pl, (-1), gv.2.2.2.2.2.1, gv.2.2.2.2.2.2.1, gv.2.2.2.2.2.2.2.1, gv.2.2.2.2.2.2.2.2)) → px_fi 269 1 h0 g1 → l0 < L0.length → L0.getD l0 0 = x → P g1 (some (.int (nI 1)))) (kx : ∀ g1 l pre, g1.2.2 269 = some (12, mB ga gp gq gh gw gu (nI gs, nI fs, nI 0, nI 0, nI l, gv.2.2.2.2.2.1, gv.2.2.2.2.2.2.1, gv.2.2.2.2.2.2.2.1, gv.2.2.2.2.2.2.2.2)) → px_fi 269 1 h0 g1 → pre + l = l0 → pre ≤ L0.length → L0.drop pre = R → px_to 176 274 [some (.ref (269)), some (.int (nI 3)), some (.int (bI true)), some (.int (nI fs)), some (.int (nI gs)), some (.int (nI fs - nI 1)), some (.int (nI gs - nI 1)), some (.int (nI one)), none] [] g1 P) : ∀ (d : Nat) (two : Nat) (l : Nat) (pre : Nat) (g : px_H), (gs - 1 < two + d) → (two ≤ gs - 1 + 1) → (pre + l = l0) → (pre ≤ L0.length) → (L0.drop pre = rowT true fs gs (gs - 1) two one ++ R) → (l0 < 2147483648) → g.2.2 269 = some (12, mB ga gp gq gh gw gu (nI gs, nI fs, nI 0, nI 0, nI l, gv.2.2.2.2.2.1, gv.2.2.2.2.2.2.1, gv.2.2.2.2.2.2.2.1, gv.2.2.2.2.2.2.2.2)) → px_fi 269 1 h0 g → px_to 176 188 [some (.ref (269)), some (.int (nI 3)), some (.int (bI true)), some (.int (nI fs)), some (.int (nI gs)), some (.int (nI fs - nI 1)), some (.int (nI gs - nI 1)), some (.int (nI one)), some (.int (nI two))] [] g P := by
  intro d
  induction d using Nat.strongRecOn with
  | ind d ih =>
    intro two l pre g q0 q1 q2 q3 q4 q5 G0 frg
    refine e_iload f_176_188 rfl rfl ?_
    refine e_iload f_176_190 rfl rfl ?_
    refine e_icmp_gt f_176_192 rfl (fun c_192 => ?_) (fun c_192 => ?_)
    · skip
      have k2 : 0 < gs → gs - 1 < two := fun z => by rw [pk_sub z] at c_192; exact cv_lt (by omega) (by omega) c_192
      refine px_to_L (L := [some (.ref (269)), some (.int (nI 3)), some (.int (bI true)), some (.int (nI fs)), some (.int (nI gs)), some (.int (nI fs - nI 1)), some (.int (nI gs - nI 1)), some (.int (nI one)), none]) ⟨Or.inr rfl, Or.inr rfl, Or.inr rfl, Or.inr rfl, Or.inr rfl, Or.inr rfl, Or.inr rfl, Or.inr rfl, Or.inl rfl, trivial⟩ ?_
      rw [rowT_n (by omega), List.nil_append] at q4
      exact kx g l pre G0 frg q2 q3 q4
    · skip
      have k2 : 0 < gs → two ≤ gs - 1 := fun z => by rw [pk_sub z] at c_192; exact cv_nlt (by omega) (by omega) c_192
      refine e_iload f_176_195 rfl rfl ?_
      refine e_if_le f_176_197 rfl (fun c_197 => ?_) (fun c_197 => ?_)
      · skip
        rw [← nI_0] at c_197
        have c_197 : gs ≤ 0 := cv_le (by omega) (by omega) c_197
        refine px_to_L (L := [some (.ref (269)), some (.int (nI 3)), some (.int (bI true)), some (.int (nI fs)), some (.int (nI gs)), some (.int (nI fs - nI 1)), some (.int (nI gs - nI 1)), some (.int (nI one)), none]) ⟨Or.inr rfl, Or.inr rfl, Or.inr rfl, Or.inr rfl, Or.inr rfl, Or.inr rfl, Or.inr rfl, Or.inr rfl, Or.inl rfl, trivial⟩ ?_
        rw [rowT_n (by omega), List.nil_append] at q4
        exact kx g l pre G0 frg q2 q3 q4
      · skip
        rw [← nI_0] at c_197
        have c_197 : 0 < gs := cv_nle (by omega) (by omega) c_197
        have k2 := k2 c_197
        rw [rowT_s c_197 k2, List.cons_append] at q4
        obtain ⟨e1, e2, e3⟩ := drop_c q4
        rcases Nat.eq_zero_or_pos l with hl | hl
        · skip
          refine e_aload_n f_176_200 rfl rfl ?_
          refine e_dup f_176_201 rfl rfl ?_
          refine e_getf f_176_202 G0 rfl rfl ?_
          show px_to 176 205 [some (.ref (269)), some (.int (nI 3)), some (.int (bI true)), some (.int (nI fs)), some (.int (nI gs)), some (.int (nI fs - nI 1)), some (.int (nI gs - nI 1)), some (.int (nI one)), some (.int (nI two))] [.int (nI l), .ref (269)] g _
          refine e_iconst (v := nI 1) f_176_205 (by decide) rfl ?_
          refine e_isub (z := (-1)) f_176_206 (by rw [hl]; decide) rfl ?_
          refine e_putp (vs' := mB ga gp gq gh gw gu (nI gs, nI fs, nI 0, nI 0, (-1), gv.2.2.2.2.2.1, gv.2.2.2.2.2.2.1, gv.2.2.2.2.2.2.2.1, gv.2.2.2.2.2.2.2.2)) f_176_207 G0 (Nat.le_of_ble_eq_true rfl) (rfl) (rfl) rfl rfl (fun h1 g2 fx3 => ?_)
          have fr4 : px_fi 269 1 h0 h1 := fi_tr frg fx3 (by omega)
          refine e_aload_n f_176_210 rfl rfl ?_
          refine e_getf f_176_211 g2 rfl rfl ?_
          show px_to 176 214 [some (.ref (269)), some (.int (nI 3)), some (.int (bI true)), some (.int (nI fs)), some (.int (nI gs)), some (.int (nI fs - nI 1)), some (.int (nI gs - nI 1)), some (.int (nI one)), some (.int (nI two))] [.int ((-1))] h1 _
          refine e_if_ge_f f_176_214 (by decide) rfl ?_
          refine e_aload_n f_176_217 rfl rfl ?_
          refine e_iload_n f_176_218 rfl rfl ?_
          refine e_iload f_176_219 rfl rfl ?_
          refine e_callV (As := [.int (bI true), .int (nI one)]) (rest := []) f_176_221 rfl rfl rfl (Nat.le_of_ble_eq_true rfl) (Nat.le_of_ble_eq_true rfl) g2 rfl (Nat.le_of_ble_eq_true rfl) (cc_Md_app (b := true) (n := one) (x := 0) (p := 0) (ga := ga) (gp := gp) (gq := gq) (gh := gh) (gw := gw) (gu := gu) (gv := (nI gs, nI fs, nI 0, nI 0, (-1), gv.2.2.2.2.2.1, gv.2.2.2.2.2.2.1, gv.2.2.2.2.2.2.2.1, gv.2.2.2.2.2.2.2.2)) g2 (by decide) (by omega)) rfl (fun h5 r6 q7 => ?_)
          obtain ⟨rfl, g8, fx9⟩ := q7
          have fr10 : px_fi 269 1 h0 h5 := fi_tr fr4 fx9 (by omega)
          show px_to 176 224 [some (.ref (269)), some (.int (nI 3)), some (.int (bI true)), some (.int (nI fs)), some (.int (nI gs)), some (.int (nI fs - nI 1)), some (.int (nI gs - nI 1)), some (.int (nI one)), some (.int (nI two))] [] h5 _
          refine e_aload_n f_176_224 rfl rfl ?_
          refine e_iload_n f_176_225 rfl rfl ?_
          refine e_if_ne_t f_176_226 (by decide) ?_
          refine e_iconst (v := nI 0) f_176_233 (by decide) rfl ?_
          show px_to 176 234 [some (.ref (269)), some (.int (nI 3)), some (.int (bI true)), some (.int (nI fs)), some (.int (nI gs)), some (.int (nI fs - nI 1)), some (.int (nI gs - nI 1)), some (.int (nI one)), some (.int (nI two))] [.int (bI false), .ref (269)] h5 _
          refine e_iload f_176_234 rfl rfl ?_
          refine e_callV (As := [.int (bI false), .int (nI two)]) (rest := []) f_176_236 rfl rfl rfl (Nat.le_of_ble_eq_true rfl) (Nat.le_of_ble_eq_true rfl) g8 rfl (Nat.le_of_ble_eq_true rfl) (cc_Md_app (b := false) (n := two) (x := apB true one 0 0) (p := 0 + one) (ga := ga) (gp := gp) (gq := gq) (gh := gh) (gw := gw) (gu := gu) (gv := (nI gs, nI fs, nI (apB true one 0 0), nI (0 + one), (-1), gv.2.2.2.2.2.1, gv.2.2.2.2.2.2.1, gv.2.2.2.2.2.2.2.1, gv.2.2.2.2.2.2.2.2)) g8 (apB_lt (by decide)) (by omega)) rfl (fun h11 r12 q13 => ?_)
          obtain ⟨rfl, g14, fx15⟩ := q13
          have fr16 : px_fi 269 1 h0 h11 := fi_tr fr10 fx15 (by omega)
          show px_to 176 239 [some (.ref (269)), some (.int (nI 3)), some (.int (bI true)), some (.int (nI fs)), some (.int (nI gs)), some (.int (nI fs - nI 1)), some (.int (nI gs - nI 1)), some (.int (nI one)), some (.int (nI two))] [] h11 _
          refine e_aload_n f_176_239 rfl rfl ?_
          refine e_iload_n f_176_240 rfl rfl ?_
          refine e_iload_n f_176_241 rfl rfl ?_
          refine e_iload f_176_242 rfl rfl ?_
          refine e_isub (z := nI (fs - one)) f_176_244 (pk_sub (by omega)) rfl ?_
          refine e_callV (As := [.int (bI true), .int (nI (fs - one))]) (rest := []) f_176_245 rfl rfl rfl (Nat.le_of_ble_eq_true rfl) (Nat.le_of_ble_eq_true rfl) g14 rfl (Nat.le_of_ble_eq_true rfl) (cc_Md_app (b := true) (n := fs - one) (x := apB false two (apB true one 0 0) (0 + one)) (p := 0 + one + two) (ga := ga) (gp := gp) (gq := gq) (gh := gh) (gw := gw) (gu := gu) (gv := (nI gs, nI fs, nI (apB false two (apB true one 0 0) (0 + one)), nI (0 + one + two), (-1), gv.2.2.2.2.2.1, gv.2.2.2.2.2.2.1, gv.2.2.2.2.2.2.2.1, gv.2.2.2.2.2.2.2.2)) g14 (apB_lt (apB_lt (by decide))) (by omega)) rfl (fun h17 r18 q19 => ?_)
          obtain ⟨rfl, g20, fx21⟩ := q19
          have fr22 : px_fi 269 1 h0 h17 := fi_tr fr16 fx21 (by omega)
          show px_to 176 248 [some (.ref (269)), some (.int (nI 3)), some (.int (bI true)), some (.int (nI fs)), some (.int (nI gs)), some (.int (nI fs - nI 1)), some (.int (nI gs - nI 1)), some (.int (nI one)), some (.int (nI two))] [] h17 _
          refine e_aload_n f_176_248 rfl rfl ?_
          refine e_iload_n f_176_249 rfl rfl ?_
          refine e_if_ne_t f_176_250 (by decide) ?_
          refine e_iconst (v := nI 0) f_176_257 (by decide) rfl ?_
          show px_to 176 258 [some (.ref (269)), some (.int (nI 3)), some (.int (bI true)), some (.int (nI fs)), some (.int (nI gs)), some (.int (nI fs - nI 1)), some (.int (nI gs - nI 1)), some (.int (nI one)), some (.int (nI two))] [.int (bI false), .ref (269)] h17 _
          refine e_iload f_176_258 rfl rfl ?_
          refine e_iload f_176_260 rfl rfl ?_
          refine e_isub (z := nI (gs - two)) f_176_262 (pk_sub (by omega)) rfl ?_
          refine e_callV (As := [.int (bI false), .int (nI (gs - two))]) (rest := []) f_176_263 rfl rfl rfl (Nat.le_of_ble_eq_true rfl) (Nat.le_of_ble_eq_true rfl) g20 rfl (Nat.le_of_ble_eq_true rfl) (cc_Md_app (b := false) (n := gs - two) (x := apB true (fs - one) (apB false two (apB true one 0 0) (0 + one)) (0 + one + two)) (p := 0 + one + two + (fs - one)) (ga := ga) (gp := gp) (gq := gq) (gh := gh) (gw := gw) (gu := gu) (gv := (nI gs, nI fs, nI (apB true (fs - one) (apB false two (apB true one 0 0) (0 + one)) (0 + one + two)), nI (0 + one + two + (fs - one)), (-1), gv.2.2.2.2.2.1, gv.2.2.2.2.2.2.1, gv.2.2.2.2.2.2.2.1, gv.2.2.2.2.2.2.2.2)) g20 (apB_lt (apB_lt (apB_lt (by decide)))) (by omega)) rfl (fun h23 r24 q25 => ?_)
          obtain ⟨rfl, g26, fx27⟩ := q25
          have fr28 : px_fi 269 1 h0 h23 := fi_tr fr22 fx27 (by omega)
          show px_to 176 266 [some (.ref (269)), some (.int (nI 3)), some (.int (bI true)), some (.int (nI fs)), some (.int (nI gs)), some (.int (nI fs - nI 1)), some (.int (nI gs - nI 1)), some (.int (nI one)), some (.int (nI two))] [] h23 _
          refine e_iconst (v := nI 1) f_176_266 (by decide) rfl ?_
          refine e_iret f_176_267 rfl (rfl) ?_
          exact kt _ _ _ g26 fr28 (by omega) (by rw [show l0 = pre by omega]; exact e2)
        · skip
          refine e_aload_n f_176_200 rfl rfl ?_
          refine e_dup f_176_201 rfl rfl ?_
          refine e_getf f_176_202 G0 rfl rfl ?_
          show px_to 176 205 [some (.ref (269)), some (.int (nI 3)), some (.int (bI true)), some (.int (nI fs)), some (.int (nI gs)), some (.int (nI fs - nI 1)), some (.int (nI gs - nI 1)), some (.int (nI one)), some (.int (nI two))] [.int (nI l), .ref (269)] g _
          refine e_iconst (v := nI 1) f_176_205 (by decide) rfl ?_
          refine e_isub (z := nI (l - 1)) f_176_206 (pk_sub hl) rfl ?_
          refine e_putp (vs' := mB ga gp gq gh gw gu (nI gs, nI fs, nI 0, nI 0, nI (l - 1), gv.2.2.2.2.2.1, gv.2.2.2.2.2.2.1, gv.2.2.2.2.2.2.2.1, gv.2.2.2.2.2.2.2.2)) f_176_207 G0 (Nat.le_of_ble_eq_true rfl) (rfl) (rfl) rfl rfl (fun h29 g30 fx31 => ?_)
          have fr32 : px_fi 269 1 h0 h29 := fi_tr frg fx31 (by omega)
          refine e_aload_n f_176_210 rfl rfl ?_
          refine e_getf f_176_211 g30 rfl rfl ?_
          show px_to 176 214 [some (.ref (269)), some (.int (nI 3)), some (.int (bI true)), some (.int (nI fs)), some (.int (nI gs)), some (.int (nI fs - nI 1)), some (.int (nI gs - nI 1)), some (.int (nI one)), some (.int (nI two))] [.int (nI (l - 1))] h29 _
          refine e_if_ge_t f_176_214 (nI_pos' (by omega)) ?_
          refine e_iinc (y := nI (two + 1)) (L' := [some (.ref (269)), some (.int (nI 3)), some (.int (bI true)), some (.int (nI fs)), some (.int (nI gs)), some (.int (nI fs - nI 1)), some (.int (nI gs - nI 1)), some (.int (nI one)), some (.int (nI (two + 1)))]) f_176_268 rfl (by rw [show Int32.ofInt 1 = nI 1 by decide]; exact (nI_add _ _)) rfl rfl ?_
          refine e_goto f_176_271 ?_
          first | (exfalso; omega) | exact ih (d - 1) (by omega) (two + 1) (l - 1) (pre + 1) h29 (by omega) (by omega) (by omega) (by omega) (e3) (by omega) g30 fr32

set_option maxRecDepth 20000 in
set_option maxHeartbeats 4000000 in
theorem ll_Md_thT3 {P : px_H → Option Value → Prop} {h0 : px_H} {fs gs l0 : Nat} {L0 : List Nat} {ga : gA} {gp : gP} {gq : gQ} {gh : gH} {gw : gW} {gu : gU} {gv : gV} (h24 : fs + gs ≤ 24) (kt : ∀ g1 pl x, g1.2.2 269 = some (12, mB ga gp gq gh gw gu (nI gs, nI fs, nI x, nI pl, (-1), gv.2.2.2.2.2.1, gv.2.2.2.2.2.2.1, gv.2.2.2.2.2.2.2.1, gv.2.2.2.2.2.2.2.2)) → px_fi 269 1 h0 g1 → l0 < L0.length → L0.getD l0 0 = x → P g1 (some (.int (nI 1)))) (kf : ∀ g1 l, g1.2.2 269 = some (12, mB ga gp gq gh gw gu (nI gs, nI fs, nI 0, nI 0, nI l, gv.2.2.2.2.2.1, gv.2.2.2.2.2.2.1, gv.2.2.2.2.2.2.2.1, gv.2.2.2.2.2.2.2.2)) → px_fi 269 1 h0 g1 → L0.length + l = l0 → P g1 (some (.int (nI 0)))) : ∀ (d : Nat) (one : Nat) (l : Nat) (pre : Nat) (g : px_H), (fs - 1 < one + d) → (one ≤ fs - 1 + 1) → (pre + l = l0) → (pre ≤ L0.length) → (L0.drop pre = famT true fs gs (1) (gs - 1) (fs - 1) one) → (l0 < 2147483648) → g.2.2 269 = some (12, mB ga gp gq gh gw gu (nI gs, nI fs, nI 0, nI 0, nI l, gv.2.2.2.2.2.1, gv.2.2.2.2.2.2.1, gv.2.2.2.2.2.2.2.1, gv.2.2.2.2.2.2.2.2)) → px_fi 269 1 h0 g → px_to 176 164 [some (.ref (269)), some (.int (nI 3)), some (.int (bI true)), some (.int (nI fs)), some (.int (nI gs)), some (.int (nI fs - nI 1)), some (.int (nI gs - nI 1)), some (.int (nI one)), none] [] g P := by
  intro d
  induction d using Nat.strongRecOn with
  | ind d ih =>
    intro one l pre g q0 q1 q2 q3 q4 q5 G0 frg
    refine e_iload f_176_164 rfl rfl ?_
    refine e_iload f_176_166 rfl rfl ?_
    refine e_icmp_gt f_176_168 rfl (fun c_168 => ?_) (fun c_168 => ?_)
    · skip
      have k1 : 0 < fs → fs - 1 < one := fun z => by rw [pk_sub z] at c_168; exact cv_lt (by omega) (by omega) c_168
      refine e_iconst (v := nI 0) f_176_280 (by decide) rfl ?_
      refine e_iret f_176_281 rfl (rfl) ?_
      rw [famT_n (by omega)] at q4
      exact kf g l G0 frg (by have := List.drop_eq_nil_iff.mp q4; omega)
    · skip
      have k1 : 0 < fs → one ≤ fs - 1 := fun z => by rw [pk_sub z] at c_168; exact cv_nlt (by omega) (by omega) c_168
      refine e_iload_n f_176_171 rfl rfl ?_
      refine e_if_le f_176_172 rfl (fun c_172 => ?_) (fun c_172 => ?_)
      · skip
        rw [← nI_0] at c_172
        have c_172 : fs ≤ 0 := cv_le (by omega) (by omega) c_172
        refine e_iconst (v := nI 0) f_176_280 (by decide) rfl ?_
        refine e_iret f_176_281 rfl (rfl) ?_
        rw [famT_n (by omega)] at q4
        exact kf g l G0 frg (by have := List.drop_eq_nil_iff.mp q4; omega)
      · skip
        rw [← nI_0] at c_172
        have c_172 : 0 < fs := cv_nle (by omega) (by omega) c_172
        refine e_iload_n f_176_175 rfl rfl ?_
        refine e_iconst (v := nI 2) f_176_176 (by decide) rfl ?_
        refine e_icmp_le_f f_176_177 (by decide) rfl ?_
        refine e_iconst (v := nI 1) f_176_180 (by decide) rfl ?_
        refine e_goto f_176_181 ?_
        refine e_istore (L' := [some (.ref (269)), some (.int (nI 3)), some (.int (bI true)), some (.int (nI fs)), some (.int (nI gs)), some (.int (nI fs - nI 1)), some (.int (nI gs - nI 1)), some (.int (nI one)), some (.int (nI 1))]) f_176_186 (Nat.le_of_ble_eq_true rfl) rfl rfl ?_
        have k1 := k1 c_172
        rw [famT_s c_172 k1] at q4
        refine ll_Md_thT3i (h0 := h0) (L0 := L0) (l0 := l0) (R := famT true fs gs (1) (gs - 1) (fs - 1) (one + 1)) h24 (by omega) kt (fun g1 l1 pre1 z0 zf y1 y2 y3 => ?_) 30 (1) l pre g (by omega) (by omega) q2 q3 q4 q5 G0 frg
        refine e_iinc (y := nI (one + 1)) (L' := [some (.ref (269)), some (.int (nI 3)), some (.int (bI true)), some (.int (nI fs)), some (.int (nI gs)), some (.int (nI fs - nI 1)), some (.int (nI gs - nI 1)), some (.int (nI (one + 1))), none]) f_176_274 rfl (by rw [show Int32.ofInt 1 = nI 1 by decide]; exact (nI_add _ _)) rfl rfl ?_
        refine e_goto f_176_277 ?_
        first | (exfalso; omega) | exact ih (d - 1) (by omega) (one + 1) l1 pre1 g1 (by omega) (by omega) (y1) (y2) (y3) (by omega) z0 zf

set_option maxRecDepth 20000 in
set_option maxHeartbeats 4000000 in
theorem cc_Md_thatT {h : px_H} {sw l fs gs : Nat} {ga : gA} {gp : gP} {gq : gQ} {gh : gH} {gw : gW} {gu : gU} {gv : gV} (H0 : h.2.2 269 = some (12, mB ga gp gq gh gw gu (nI gs, nI fs, gv.2.2.1, gv.2.2.2.1, nI l, gv.2.2.2.2.2.1, gv.2.2.2.2.2.2.1, gv.2.2.2.2.2.2.2.1, gv.2.2.2.2.2.2.2.2))) (p0 : sw ≤ 3) (p1 : fs + gs ≤ 24) (p2 : l < 2147483648) : px_wp 176 [.ref (269), .int (nI sw), .int (bI true)] h (fun h1 r => r = some (.int (bI (decide (l < (thL true fs gs sw).length)))) ∧ pTh h1 ga gp gq gh gw gu gv gs fs (thL true fs gs sw) l ∧ px_fi 269 1 h h1) := by
  have fr0 : px_fi 269 1 h h := fi_rf _ _ _
  show px_to 176 0 [some (.ref (269)), some (.int (nI sw)), some (.int (bI true)), none, none, none, none, none, none] [] h _
  refine e_iload_n f_176_0 rfl rfl ?_
  refine e_if_eq_f f_176_1 (by decide) rfl ?_
  refine e_aload_n f_176_4 rfl rfl ?_
  refine e_getf f_176_5 H0 rfl rfl ?_
  show px_to 176 8 [some (.ref (269)), some (.int (nI sw)), some (.int (bI true)), none, none, none, none, none, none] [.int (nI fs)] h _
  refine e_goto f_176_8 ?_
  refine e_istore_n (L' := [some (.ref (269)), some (.int (nI sw)), some (.int (bI true)), some (.int (nI fs)), none, none, none, none, none]) f_176_15 (Nat.le_of_ble_eq_true rfl) rfl rfl ?_
  refine e_iload_n f_176_16 rfl rfl ?_
  refine e_if_eq_f f_176_17 (by decide) rfl ?_
  refine e_aload_n f_176_20 rfl rfl ?_
  refine e_getf f_176_21 H0 rfl rfl ?_
  show px_to 176 24 [some (.ref (269)), some (.int (nI sw)), some (.int (bI true)), some (.int (nI fs)), none, none, none, none, none] [.int (nI gs)] h _
  refine e_goto f_176_24 ?_
  refine e_istore (L' := [some (.ref (269)), some (.int (nI sw)), some (.int (bI true)), some (.int (nI fs)), some (.int (nI gs)), none, none, none, none]) f_176_31 (Nat.le_of_ble_eq_true rfl) rfl rfl ?_
  refine e_aload_n f_176_33 rfl rfl ?_
  refine e_iconst (v := nI 0) f_176_34 (by decide) rfl ?_
  refine e_putp (vs' := mB ga gp gq gh gw gu (nI gs, nI fs, nI 0, gv.2.2.2.1, nI l, gv.2.2.2.2.2.1, gv.2.2.2.2.2.2.1, gv.2.2.2.2.2.2.2.1, gv.2.2.2.2.2.2.2.2)) f_176_35 H0 (Nat.le_of_ble_eq_true rfl) (rfl) (rfl) rfl rfl (fun h1 g2 fx3 => ?_)
  have fr4 : px_fi 269 1 h h1 := fi_tr fr0 fx3 (by omega)
  refine e_aload_n f_176_38 rfl rfl ?_
  refine e_iconst (v := nI 0) f_176_39 (by decide) rfl ?_
  refine e_putp (vs' := mB ga gp gq gh gw gu (nI gs, nI fs, nI 0, nI 0, nI l, gv.2.2.2.2.2.1, gv.2.2.2.2.2.2.1, gv.2.2.2.2.2.2.2.1, gv.2.2.2.2.2.2.2.2)) f_176_40 g2 (Nat.le_of_ble_eq_true rfl) (rfl) (rfl) rfl rfl (fun h5 g6 fx7 => ?_)
  have fr8 : px_fi 269 1 h h5 := fi_tr fr4 fx7 (by omega)
  refine e_iload_n f_176_43 rfl rfl ?_
  refine e_if_ne f_176_44 rfl (fun c_44 => ?_) (fun c_44 => ?_)
  · skip
    rw [← nI_0] at c_44
    have c_44 : sw ≠ 0 := cv_ne c_44
    rcases (show sw = 1 ∨ sw = 2 ∨ sw = 3 by omega) with z | z | z
    · skip
      subst z
      refine e_iload_n f_176_122 rfl rfl ?_
      refine e_iconst (v := nI 1) f_176_123 (by decide) rfl ?_
      refine e_icmp_le_t f_176_124 (by decide) ?_
      refine e_iload_n f_176_133 rfl rfl ?_
      refine e_istore (L' := [some (.ref (269)), some (.int (nI 1)), some (.int (bI true)), some (.int (nI fs)), some (.int (nI gs)), some (.int (nI fs)), none, none, none]) f_176_134 (Nat.le_of_ble_eq_true rfl) rfl rfl ?_
      refine e_iload_n f_176_136 rfl rfl ?_
      refine e_iconst (v := nI 2) f_176_137 (by decide) rfl ?_
      refine e_icmp_le_t f_176_138 (by decide) ?_
      refine e_iload f_176_148 rfl rfl ?_
      refine e_istore (L' := [some (.ref (269)), some (.int (nI 1)), some (.int (bI true)), some (.int (nI fs)), some (.int (nI gs)), some (.int (nI fs)), some (.int (nI gs)), none, none]) f_176_150 (Nat.le_of_ble_eq_true rfl) rfl rfl ?_
      refine e_iload_n f_176_152 rfl rfl ?_
      refine e_iconst (v := nI 1) f_176_153 (by decide) rfl ?_
      refine e_icmp_le_t f_176_154 (by decide) ?_
      refine e_iload_n f_176_161 rfl rfl ?_
      refine e_istore (L' := [some (.ref (269)), some (.int (nI 1)), some (.int (bI true)), some (.int (nI fs)), some (.int (nI gs)), some (.int (nI fs)), some (.int (nI gs)), some (.int (nI fs)), none]) f_176_162 (Nat.le_of_ble_eq_true rfl) rfl rfl ?_
      exact ll_Md_thT1 (h0 := h) (L0 := thL true fs gs 1) (l0 := l) p1 (fun g1 pl x z0 zf y1 y2 => ⟨by rw [decide_eq_true y1]; rfl, ⟨_, _, _, z0, fun _ => congrArg nI y2.symm, fun z => absurd z (by omega)⟩, zf⟩) (fun g1 l1 z0 zf y => ⟨by rw [decide_eq_false (by omega)]; rfl, ⟨_, _, _, z0, fun z => absurd z (by omega), fun _ => congrArg nI (by omega)⟩, zf⟩) 30 (fs) l 0 h5 (by omega) (by omega) (by omega) (Nat.zero_le _) rfl p2 g6 fr8
    · skip
      subst z
      refine e_iload_n f_176_122 rfl rfl ?_
      refine e_iconst (v := nI 1) f_176_123 (by decide) rfl ?_
      refine e_icmp_le_f f_176_124 (by decide) rfl ?_
      refine e_iload_n f_176_127 rfl rfl ?_
      refine e_iconst (v := nI 1) f_176_128 (by decide) rfl ?_
      refine e_isub (z := (nI fs) - (nI 1)) f_176_129 rfl rfl ?_
      refine e_goto f_176_130 ?_
      refine e_istore (L' := [some (.ref (269)), some (.int (nI 2)), some (.int (bI true)), some (.int (nI fs)), some (.int (nI gs)), some (.int ((nI fs) - (nI 1))), none, none, none]) f_176_134 (Nat.le_of_ble_eq_true rfl) rfl rfl ?_
      refine e_iload_n f_176_136 rfl rfl ?_
      refine e_iconst (v := nI 2) f_176_137 (by decide) rfl ?_
      refine e_icmp_le_t f_176_138 (by decide) ?_
      refine e_iload f_176_148 rfl rfl ?_
      refine e_istore (L' := [some (.ref (269)), some (.int (nI 2)), some (.int (bI true)), some (.int (nI fs)), some (.int (nI gs)), some (.int ((nI fs) - (nI 1))), some (.int (nI gs)), none, none]) f_176_150 (Nat.le_of_ble_eq_true rfl) rfl rfl ?_
      refine e_iload_n f_176_152 rfl rfl ?_
      refine e_iconst (v := nI 1) f_176_153 (by decide) rfl ?_
      refine e_icmp_le_f f_176_154 (by decide) rfl ?_
      refine e_iconst (v := nI 1) f_176_157 (by decide) rfl ?_
      refine e_goto f_176_158 ?_
      refine e_istore (L' := [some (.ref (269)), some (.int (nI 2)), some (.int (bI true)), some (.int (nI fs)), some (.int (nI gs)), some (.int ((nI fs) - (nI 1))), some (.int (nI gs)), some (.int (nI 1)), none]) f_176_162 (Nat.le_of_ble_eq_true rfl) rfl rfl ?_
      exact ll_Md_thT2 (h0 := h) (L0 := thL true fs gs 2) (l0 := l) p1 (fun g1 pl x z0 zf y1 y2 => ⟨by rw [decide_eq_true y1]; rfl, ⟨_, _, _, z0, fun _ => congrArg nI y2.symm, fun z => absurd z (by omega)⟩, zf⟩) (fun g1 l1 z0 zf y => ⟨by rw [decide_eq_false (by omega)]; rfl, ⟨_, _, _, z0, fun z => absurd z (by omega), fun _ => congrArg nI (by omega)⟩, zf⟩) 30 (1) l 0 h5 (by omega) (by omega) (by omega) (Nat.zero_le _) rfl p2 g6 fr8
    · skip
      subst z
      refine e_iload_n f_176_122 rfl rfl ?_
      refine e_iconst (v := nI 1) f_176_123 (by decide) rfl ?_
      refine e_icmp_le_f f_176_124 (by decide) rfl ?_
      refine e_iload_n f_176_127 rfl rfl ?_
      refine e_iconst (v := nI 1) f_176_128 (by decide) rfl ?_
      refine e_isub (z := (nI fs) - (nI 1)) f_176_129 rfl rfl ?_
      refine e_goto f_176_130 ?_
      refine e_istore (L' := [some (.ref (269)), some (.int (nI 3)), some (.int (bI true)), some (.int (nI fs)), some (.int (nI gs)), some (.int ((nI fs) - (nI 1))), none, none, none]) f_176_134 (Nat.le_of_ble_eq_true rfl) rfl rfl ?_
      refine e_iload_n f_176_136 rfl rfl ?_
      refine e_iconst (v := nI 2) f_176_137 (by decide) rfl ?_
      refine e_icmp_le_f f_176_138 (by decide) rfl ?_
      refine e_iload f_176_141 rfl rfl ?_
      refine e_iconst (v := nI 1) f_176_143 (by decide) rfl ?_
      refine e_isub (z := (nI gs) - (nI 1)) f_176_144 rfl rfl ?_
      refine e_goto f_176_145 ?_
      refine e_istore (L' := [some (.ref (269)), some (.int (nI 3)), some (.int (bI true)), some (.int (nI fs)), some (.int (nI gs)), some (.int ((nI fs) - (nI 1))), some (.int ((nI gs) - (nI 1))), none, none]) f_176_150 (Nat.le_of_ble_eq_true rfl) rfl rfl ?_
      refine e_iload_n f_176_152 rfl rfl ?_
      refine e_iconst (v := nI 1) f_176_153 (by decide) rfl ?_
      refine e_icmp_le_f f_176_154 (by decide) rfl ?_
      refine e_iconst (v := nI 1) f_176_157 (by decide) rfl ?_
      refine e_goto f_176_158 ?_
      refine e_istore (L' := [some (.ref (269)), some (.int (nI 3)), some (.int (bI true)), some (.int (nI fs)), some (.int (nI gs)), some (.int ((nI fs) - (nI 1))), some (.int ((nI gs) - (nI 1))), some (.int (nI 1)), none]) f_176_162 (Nat.le_of_ble_eq_true rfl) rfl rfl ?_
      exact ll_Md_thT3 (h0 := h) (L0 := thL true fs gs 3) (l0 := l) p1 (fun g1 pl x z0 zf y1 y2 => ⟨by rw [decide_eq_true y1]; rfl, ⟨_, _, _, z0, fun _ => congrArg nI y2.symm, fun z => absurd z (by omega)⟩, zf⟩) (fun g1 l1 z0 zf y => ⟨by rw [decide_eq_false (by omega)]; rfl, ⟨_, _, _, z0, fun z => absurd z (by omega), fun _ => congrArg nI (by omega)⟩, zf⟩) 30 (1) l 0 h5 (by omega) (by omega) (by omega) (Nat.zero_le _) rfl p2 g6 fr8
  · skip
    rw [← nI_0] at c_44
    have c_44 : sw = 0 := cv_nne (by omega) (by omega) c_44
    refine e_iload f_176_47 rfl rfl ?_
    refine e_if_ne f_176_49 rfl (fun c_49 => ?_) (fun c_49 => ?_)
    · skip
      rw [← nI_0] at c_49
      have c_49 : gs ≠ 0 := cv_ne c_49
      refine e_iconst (v := nI 0) f_176_64 (by decide) rfl ?_
      refine e_istore (L' := [some (.ref (269)), some (.int (nI sw)), some (.int (bI true)), some (.int (nI fs)), some (.int (nI gs)), some (.int (nI 0)), none, none, none]) f_176_65 (Nat.le_of_ble_eq_true rfl) rfl rfl ?_
      refine e_aload_n f_176_67 rfl rfl ?_
      refine e_iload_n f_176_68 rfl rfl ?_
      refine e_iload f_176_69 rfl rfl ?_
      refine e_if_eq_t f_176_71 (by decide) ?_
      refine e_iconst (v := nI 0) f_176_78 (by decide) rfl ?_
      refine e_callV (As := [.int (bI true), .int (nI 0)]) (rest := []) f_176_79 rfl rfl rfl (Nat.le_of_ble_eq_true rfl) (Nat.le_of_ble_eq_true rfl) g6 rfl (Nat.le_of_ble_eq_true rfl) (cc_Md_app (b := true) (n := 0) (x := 0) (p := 0) (ga := ga) (gp := gp) (gq := gq) (gh := gh) (gw := gw) (gu := gu) (gv := (nI gs, nI fs, nI 0, nI 0, nI l, gv.2.2.2.2.2.1, gv.2.2.2.2.2.2.1, gv.2.2.2.2.2.2.2.1, gv.2.2.2.2.2.2.2.2)) g6 (by decide) (by omega)) rfl (fun h9 r10 q11 => ?_)
      obtain ⟨rfl, g12, fx13⟩ := q11
      have fr14 : px_fi 269 1 h h9 := fi_tr fr8 fx13 (by omega)
      show px_to 176 82 [some (.ref (269)), some (.int (nI sw)), some (.int (bI true)), some (.int (nI fs)), some (.int (nI gs)), some (.int (nI 0)), none, none, none] [] h9 _
      refine e_aload_n f_176_82 rfl rfl ?_
      refine e_iload f_176_83 rfl rfl ?_
      refine e_if_eq_t f_176_85 (by decide) ?_
      refine e_aload_n f_176_97 rfl rfl ?_
      refine e_getf f_176_98 g12 rfl rfl ?_
      show px_to 176 101 [some (.ref (269)), some (.int (nI sw)), some (.int (bI true)), some (.int (nI fs)), some (.int (nI gs)), some (.int (nI 0)), none, none, none] [.int (nI l), .ref (269)] h9 _
      refine e_putp (vs' := mB ga gp gq gh gw gu (nI gs, nI fs, nI (apB true 0 0 0), nI (0 + 0), nI l, gv.2.2.2.2.2.1, gv.2.2.2.2.2.2.1, gv.2.2.2.2.2.2.2.1, gv.2.2.2.2.2.2.2.2)) f_176_101 g12 (Nat.le_of_ble_eq_true rfl) (rfl) (rfl) rfl rfl (fun h15 g16 fx17 => ?_)
      have fr18 : px_fi 269 1 h h15 := fi_tr fr14 fx17 (by omega)
      refine e_iload f_176_104 rfl rfl ?_
      refine e_if_eq_t f_176_106 (by decide) ?_
      refine e_iconst (v := nI 0) f_176_120 (by decide) rfl ?_
      refine e_iret f_176_121 rfl (rfl) ?_
      subst c_44
      have eT : thL true fs gs 0 = [] := by unfold thL; exact if_neg (fun z => by rcases z with ⟨z1, z2 | z2⟩; omega; exact absurd z2 (by decide))
      rw [eT]
      exact ⟨by rw [decide_eq_false (by simp)]; rfl, ⟨_, _, _, g16, fun z => absurd z (by simp), fun _ => rfl⟩, fr18⟩
    · skip
      rw [← nI_0] at c_49
      have c_49 : gs = 0 := cv_nne (by omega) (by omega) c_49
      refine e_iload_n f_176_52 rfl rfl ?_
      refine e_if_gt f_176_53 rfl (fun c_53 => ?_) (fun c_53 => ?_)
      · skip
        rw [← nI_0] at c_53
        have c_53 : 0 < fs := cv_lt (by omega) (by omega) c_53
        refine e_iconst (v := nI 1) f_176_60 (by decide) rfl ?_
        refine e_goto f_176_61 ?_
        refine e_istore (L' := [some (.ref (269)), some (.int (nI sw)), some (.int (bI true)), some (.int (nI fs)), some (.int (nI gs)), some (.int (nI 1)), none, none, none]) f_176_65 (Nat.le_of_ble_eq_true rfl) rfl rfl ?_
        refine e_aload_n f_176_67 rfl rfl ?_
        refine e_iload_n f_176_68 rfl rfl ?_
        refine e_iload f_176_69 rfl rfl ?_
        refine e_if_eq_f f_176_71 (by decide) rfl ?_
        refine e_iload_n f_176_74 rfl rfl ?_
        refine e_goto f_176_75 ?_
        refine e_callV (As := [.int (bI true), .int (nI fs)]) (rest := []) f_176_79 rfl rfl rfl (Nat.le_of_ble_eq_true rfl) (Nat.le_of_ble_eq_true rfl) g6 rfl (Nat.le_of_ble_eq_true rfl) (cc_Md_app (b := true) (n := fs) (x := 0) (p := 0) (ga := ga) (gp := gp) (gq := gq) (gh := gh) (gw := gw) (gu := gu) (gv := (nI gs, nI fs, nI 0, nI 0, nI l, gv.2.2.2.2.2.1, gv.2.2.2.2.2.2.1, gv.2.2.2.2.2.2.2.1, gv.2.2.2.2.2.2.2.2)) g6 (by decide) (by omega)) rfl (fun h19 r20 q21 => ?_)
        obtain ⟨rfl, g22, fx23⟩ := q21
        have fr24 : px_fi 269 1 h h19 := fi_tr fr8 fx23 (by omega)
        show px_to 176 82 [some (.ref (269)), some (.int (nI sw)), some (.int (bI true)), some (.int (nI fs)), some (.int (nI gs)), some (.int (nI 1)), none, none, none] [] h19 _
        rcases Nat.eq_zero_or_pos l with hl | hl
        · skip
          refine e_aload_n f_176_82 rfl rfl ?_
          refine e_iload f_176_83 rfl rfl ?_
          refine e_if_eq_f f_176_85 (by decide) rfl ?_
          refine e_aload_n f_176_88 rfl rfl ?_
          refine e_getf f_176_89 g22 rfl rfl ?_
          show px_to 176 92 [some (.ref (269)), some (.int (nI sw)), some (.int (bI true)), some (.int (nI fs)), some (.int (nI gs)), some (.int (nI 1)), none, none, none] [.int (nI l), .ref (269)] h19 _
          refine e_iconst (v := nI 1) f_176_92 (by decide) rfl ?_
          refine e_isub (z := (-1)) f_176_93 (by rw [hl]; decide) rfl ?_
          refine e_goto f_176_94 ?_
          refine e_putp (vs' := mB ga gp gq gh gw gu (nI gs, nI fs, nI (apB true fs 0 0), nI (0 + fs), (-1), gv.2.2.2.2.2.1, gv.2.2.2.2.2.2.1, gv.2.2.2.2.2.2.2.1, gv.2.2.2.2.2.2.2.2)) f_176_101 g22 (Nat.le_of_ble_eq_true rfl) (rfl) (rfl) rfl rfl (fun h25 g26 fx27 => ?_)
          have fr28 : px_fi 269 1 h h25 := fi_tr fr24 fx27 (by omega)
          refine e_iload f_176_104 rfl rfl ?_
          refine e_if_eq_f f_176_106 (by decide) rfl ?_
          refine e_aload_n f_176_109 rfl rfl ?_
          refine e_getf f_176_110 g26 rfl rfl ?_
          show px_to 176 113 [some (.ref (269)), some (.int (nI sw)), some (.int (bI true)), some (.int (nI fs)), some (.int (nI gs)), some (.int (nI 1)), none, none, none] [.int ((-1))] h25 _
          refine e_if_ge_f f_176_113 (by decide) rfl ?_
          refine e_iconst (v := nI 1) f_176_116 (by decide) rfl ?_
          refine e_goto f_176_117 ?_
          refine e_iret f_176_121 rfl (rfl) ?_
          subst c_44
          have eT : thL true fs gs 0 = [apB true fs 0 0] := by unfold thL; exact if_pos ⟨by omega, Or.inl (by omega)⟩
          rw [eT]
          subst hl
          exact ⟨rfl, ⟨_, _, _, g26, fun _ => rfl, fun z => absurd z (by simp)⟩, fr28⟩
        · skip
          refine e_aload_n f_176_82 rfl rfl ?_
          refine e_iload f_176_83 rfl rfl ?_
          refine e_if_eq_f f_176_85 (by decide) rfl ?_
          refine e_aload_n f_176_88 rfl rfl ?_
          refine e_getf f_176_89 g22 rfl rfl ?_
          show px_to 176 92 [some (.ref (269)), some (.int (nI sw)), some (.int (bI true)), some (.int (nI fs)), some (.int (nI gs)), some (.int (nI 1)), none, none, none] [.int (nI l), .ref (269)] h19 _
          refine e_iconst (v := nI 1) f_176_92 (by decide) rfl ?_
          refine e_isub (z := nI (l - 1)) f_176_93 (pk_sub hl) rfl ?_
          refine e_goto f_176_94 ?_
          refine e_putp (vs' := mB ga gp gq gh gw gu (nI gs, nI fs, nI (apB true fs 0 0), nI (0 + fs), nI (l - 1), gv.2.2.2.2.2.1, gv.2.2.2.2.2.2.1, gv.2.2.2.2.2.2.2.1, gv.2.2.2.2.2.2.2.2)) f_176_101 g22 (Nat.le_of_ble_eq_true rfl) (rfl) (rfl) rfl rfl (fun h29 g30 fx31 => ?_)
          have fr32 : px_fi 269 1 h h29 := fi_tr fr24 fx31 (by omega)
          refine e_iload f_176_104 rfl rfl ?_
          refine e_if_eq_f f_176_106 (by decide) rfl ?_
          refine e_aload_n f_176_109 rfl rfl ?_
          refine e_getf f_176_110 g30 rfl rfl ?_
          show px_to 176 113 [some (.ref (269)), some (.int (nI sw)), some (.int (bI true)), some (.int (nI fs)), some (.int (nI gs)), some (.int (nI 1)), none, none, none] [.int (nI (l - 1))] h29 _
          refine e_if_ge_t f_176_113 (nI_pos' (by omega)) ?_
          refine e_iconst (v := nI 0) f_176_120 (by decide) rfl ?_
          refine e_iret f_176_121 rfl (rfl) ?_
          subst c_44
          have eT : thL true fs gs 0 = [apB true fs 0 0] := by unfold thL; exact if_pos ⟨by omega, Or.inl (by omega)⟩
          rw [eT]
          exact ⟨by rw [decide_eq_false (by simp only [List.length_singleton]; omega)]; rfl, ⟨_, _, _, g30, fun z => absurd z (by simp only [List.length_singleton]; omega), fun _ => rfl⟩, fr32⟩
      · skip
        rw [← nI_0] at c_53
        have c_53 : fs ≤ 0 := cv_nlt (by omega) (by omega) c_53
        refine e_iload_n f_176_56 rfl rfl ?_
        refine e_if_ne_t f_176_57 (by decide) ?_
        refine e_iconst (v := nI 0) f_176_64 (by decide) rfl ?_
        refine e_istore (L' := [some (.ref (269)), some (.int (nI sw)), some (.int (bI true)), some (.int (nI fs)), some (.int (nI gs)), some (.int (nI 0)), none, none, none]) f_176_65 (Nat.le_of_ble_eq_true rfl) rfl rfl ?_
        refine e_aload_n f_176_67 rfl rfl ?_
        refine e_iload_n f_176_68 rfl rfl ?_
        refine e_iload f_176_69 rfl rfl ?_
        refine e_if_eq_t f_176_71 (by decide) ?_
        refine e_iconst (v := nI 0) f_176_78 (by decide) rfl ?_
        refine e_callV (As := [.int (bI true), .int (nI 0)]) (rest := []) f_176_79 rfl rfl rfl (Nat.le_of_ble_eq_true rfl) (Nat.le_of_ble_eq_true rfl) g6 rfl (Nat.le_of_ble_eq_true rfl) (cc_Md_app (b := true) (n := 0) (x := 0) (p := 0) (ga := ga) (gp := gp) (gq := gq) (gh := gh) (gw := gw) (gu := gu) (gv := (nI gs, nI fs, nI 0, nI 0, nI l, gv.2.2.2.2.2.1, gv.2.2.2.2.2.2.1, gv.2.2.2.2.2.2.2.1, gv.2.2.2.2.2.2.2.2)) g6 (by decide) (by omega)) rfl (fun h33 r34 q35 => ?_)
        obtain ⟨rfl, g36, fx37⟩ := q35
        have fr38 : px_fi 269 1 h h33 := fi_tr fr8 fx37 (by omega)
        show px_to 176 82 [some (.ref (269)), some (.int (nI sw)), some (.int (bI true)), some (.int (nI fs)), some (.int (nI gs)), some (.int (nI 0)), none, none, none] [] h33 _
        refine e_aload_n f_176_82 rfl rfl ?_
        refine e_iload f_176_83 rfl rfl ?_
        refine e_if_eq_t f_176_85 (by decide) ?_
        refine e_aload_n f_176_97 rfl rfl ?_
        refine e_getf f_176_98 g36 rfl rfl ?_
        show px_to 176 101 [some (.ref (269)), some (.int (nI sw)), some (.int (bI true)), some (.int (nI fs)), some (.int (nI gs)), some (.int (nI 0)), none, none, none] [.int (nI l), .ref (269)] h33 _
        refine e_putp (vs' := mB ga gp gq gh gw gu (nI gs, nI fs, nI (apB true 0 0 0), nI (0 + 0), nI l, gv.2.2.2.2.2.1, gv.2.2.2.2.2.2.1, gv.2.2.2.2.2.2.2.1, gv.2.2.2.2.2.2.2.2)) f_176_101 g36 (Nat.le_of_ble_eq_true rfl) (rfl) (rfl) rfl rfl (fun h39 g40 fx41 => ?_)
        have fr42 : px_fi 269 1 h h39 := fi_tr fr38 fx41 (by omega)
        refine e_iload f_176_104 rfl rfl ?_
        refine e_if_eq_t f_176_106 (by decide) ?_
        refine e_iconst (v := nI 0) f_176_120 (by decide) rfl ?_
        refine e_iret f_176_121 rfl (rfl) ?_
        subst c_44
        have eT : thL true fs gs 0 = [] := by unfold thL; exact if_neg (fun z => by rcases z with ⟨z1, z2 | z2⟩; omega; exact absurd z2 (by decide))
        rw [eT]
        exact ⟨by rw [decide_eq_false (by simp)]; rfl, ⟨_, _, _, g40, fun z => absurd z (by simp), fun _ => rfl⟩, fr42⟩
