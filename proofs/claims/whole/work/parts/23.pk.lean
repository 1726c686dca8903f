theorem wb_tb (n : Nat) : (lN n).toBitVec = BitVec.ofNat 64 n := rfl
theorem wb_inj {a b : Int64} (h : a.toBitVec = b.toBitVec) : a = b := Int64.toBitVec_inj.mp h
theorem wb_tn {n : Nat} (h : n < 2 ^ 64) : (lN n).toBitVec.toNat = n := by rw [wb_tb, BitVec.toNat_ofNat, Nat.mod_eq_of_lt h]
theorem wb_of (x : Int64) : ∃ n, n < 2 ^ 64 ∧ x = lN n := ⟨x.toBitVec.toNat, x.toBitVec.isLt, wb_inj (by rw [wb_tb]; simp)⟩
theorem wb_of32 (x : Int32) : ∃ n, n < 2 ^ 32 ∧ x = nI n := ⟨x.toBitVec.toNat, x.toBitVec.isLt, Int32.toBitVec_inj.mp (by show _ = BitVec.ofNat 32 _; simp)⟩
theorem wb_c : ∀ k, k < 64 → ((nI k).toInt64 &&& 63) = lN k := by decide +kernel
theorem wb_cu : ∀ k, k < 64 → ((nI k).toInt64.toUInt64 &&& Int64.toUInt64 63) = UInt64.ofNat k := by decide +kernel
theorem wb_sm : ∀ k, k < 64 → (BitVec.ofNat 64 k).smod 64 = BitVec.ofNat 64 k := by decide +kernel
theorem wb_pw {a b : Nat} (h : a ≤ b) : 2 ^ b = 2 ^ a * 2 ^ (b - a) := by rw [← Nat.pow_add]; congr 1; omega
theorem wb_lt2 {a b : Nat} (h : a < b) : 2 ^ a < 2 ^ b := Nat.pow_lt_pow_right (by decide) h
theorem wb_mod (n : Nat) : lN n = lN (n % 2 ^ 64) := wb_inj (by rw [wb_tb, wb_tb]; apply BitVec.eq_of_toNat_eq; rw [BitVec.toNat_ofNat, BitVec.toNat_ofNat, Nat.mod_mod])
theorem wb_shr {n k : Nat} (hn : n < 2 ^ 64) (hk : k < 64) : ((lN n).toUInt64 >>> ((nI k).toInt64.toUInt64 &&& Int64.toUInt64 63)).toInt64 = lN (n / 2 ^ k) := by
  rw [wb_cu k hk]
  apply wb_inj
  apply BitVec.eq_of_toNat_eq
  show ((lN n).toUInt64 >>> UInt64.ofNat k).toNat = (BitVec.ofNat 64 _).toNat
  have h1 : (UInt64.ofNat k).toNat = k := by
    show (BitVec.ofNat 64 k).toNat = k
    rw [BitVec.toNat_ofNat, Nat.mod_eq_of_lt (by omega)]
  have h2 : (lN n).toUInt64.toNat = n := wb_tn hn
  rw [UInt64.toNat_shiftRight, h1, h2, Nat.mod_eq_of_lt hk, Nat.shiftRight_eq_div_pow, BitVec.toNat_ofNat, Nat.mod_eq_of_lt (Nat.lt_of_le_of_lt (Nat.div_le_self _ _) hn)]
theorem wb_shl (n : Nat) {k : Nat} (hk : k < 64) : lN n <<< ((nI k).toInt64 &&& 63) = lN (n * 2 ^ k) := by
  rw [wb_c k hk]
  apply wb_inj
  rw [Int64.toBitVec_shiftLeft, wb_tb, wb_tb, wb_tb, wb_sm k hk]
  apply BitVec.eq_of_toNat_eq
  rw [BitVec.shiftLeft_eq', BitVec.toNat_shiftLeft, BitVec.toNat_ofNat, BitVec.toNat_ofNat, BitVec.toNat_ofNat, Nat.mod_eq_of_lt (show k < 2 ^ 64 by omega), Nat.shiftLeft_eq, Nat.mul_mod, Nat.mod_mod, ← Nat.mul_mod]
theorem wb_and {a b : Nat} (ha : a < 2 ^ 64) (hb : b < 2 ^ 64) : lN a &&& lN b = lN (a &&& b) := by
  apply wb_inj
  rw [Int64.toBitVec_and, wb_tb, wb_tb, wb_tb]
  apply BitVec.eq_of_toNat_eq
  rw [BitVec.toNat_and, BitVec.toNat_ofNat, BitVec.toNat_ofNat, BitVec.toNat_ofNat, Nat.mod_eq_of_lt ha, Nat.mod_eq_of_lt hb, Nat.mod_eq_of_lt (Nat.and_lt_two_pow _ hb)]
theorem wb_or {a b : Nat} (ha : a < 2 ^ 64) (hb : b < 2 ^ 64) : lN a ||| lN b = lN (a ||| b) := by
  apply wb_inj
  rw [Int64.toBitVec_or, wb_tb, wb_tb, wb_tb]
  apply BitVec.eq_of_toNat_eq
  rw [BitVec.toNat_or, BitVec.toNat_ofNat, BitVec.toNat_ofNat, BitVec.toNat_ofNat, Nat.mod_eq_of_lt ha, Nat.mod_eq_of_lt hb, Nat.mod_eq_of_lt (Nat.or_lt_two_pow ha hb)]
theorem wb_mask {n k : Nat} (hn : n < 2 ^ 64) (hk : k < 64) : lN n &&& lN (2 ^ k - 1) = lN (n % 2 ^ k) := by
  rw [wb_and hn (by have := wb_lt2 hk; omega), Nat.and_two_pow_sub_one_eq_mod]
theorem wb_a1 {n : Nat} (hn : n < 2 ^ 64) : lN n &&& 1 = lN (n % 2) := wb_mask (k := 1) hn (by decide)
theorem wb_bit {n k : Nat} (hn : n < 2 ^ 64) (hk : k < 64) : ((lN n).toUInt64 >>> ((nI k).toInt64.toUInt64 &&& Int64.toUInt64 63)).toInt64 &&& 1 = lN (n / 2 ^ k % 2) := by
  rw [wb_shr hn hk, wb_a1 (Nat.lt_of_le_of_lt (Nat.div_le_self _ _) hn)]
theorem pf_lI {a : Nat} (h : a < 2 ^ 63) : (lN a).toInt = (a : Int) := lg_ofNat_toInt h
theorem pf_shr {a d : Nat} {D : Int64} (hD : (D.toBitVec.smod 64).toNat = d) (h : a < 2 ^ 62) : lN a >>> D = lN (a / 2 ^ d) := by
  have hd : a / 2 ^ d ≤ a := Nat.div_le_self _ _
  apply Int64.toInt_inj.mp
  have e : (lN a >>> D).toInt = (lN a).toInt >>> d := by
    rw [← hD]
    exact BitVec.toInt_sshiftRight ..
  rw [e, Int.shiftRight_eq_div_pow, pf_lI (by omega), pf_lI (by omega)]
  rfl
abbrev Row := Nat × Int32 × Nat
def uV (v : Int32) : Nat := (v.toInt + 2147483648).toNat
def rwN (r : Row) : Nat := (r.1 * 4294967296 + uV r.2.1) * 8192 + r.2.2
def rwP (r : Row) : Value := .long (rw_pk (nI r.1) r.2.1 (nI r.2.2))
def rwOk (r : Row) : Prop := r.1 < 4 ∧ r.2.2 < 8192
theorem uV_in (v : Int32) : v.toInt = (uV v : Int) - 2147483648 ∧ uV v < 4294967296 := by
  have h1 := Int32.le_toInt v
  have h2 := Int32.toInt_lt v
  unfold uV
  omega
theorem uV_inj {v w : Int32} (h : uV v = uV w) : v = w := by
  apply Int32.toInt_inj.mp
  have h1 := (uV_in v).1
  have h2 := (uV_in w).1
  omega
theorem uV_lN (v : Int32) : v.toInt64 - (-2147483648) = lN (uV v) := by
  have h := uV_in v
  apply Int64.toInt_inj.mp
  rw [Int64.toInt_sub, Int32.toInt_toInt64, pf_lI (by omega), show (-2147483648 : Int64).toInt = -2147483648 by decide]
  rw [Int.bmod_eq_of_le (by omega) (by omega)]
  omega
theorem or_add {a b k : Nat} (hb : b < 2 ^ k) : a * 2 ^ k ||| b = a * 2 ^ k + b := by
  rw [← Nat.shiftLeft_eq, Nat.shiftLeft_add_eq_or_of_lt hb]
theorem rw_lN {r : Row} (h : rwOk r) : rw_pk (nI r.1) r.2.1 (nI r.2.2) = lN (rwN r) := by
  obtain ⟨k, v, t⟩ := r
  obtain ⟨h1, h2⟩ := h
  dsimp only at h1 h2
  have hv := (uV_in v).2
  unfold rw_pk rwN
  dsimp only
  rw [nI_l (n := k) (by omega), nI_l (n := t) (by omega), uV_lN, wb_shl _ (by decide), wb_shl _ (by decide), wb_or (by omega) (by omega)]
  rw [or_add (k := 45) (by omega), wb_or (by omega) (by omega)]
  rw [show k * 2 ^ 45 + uV v * 2 ^ 13 = (k * 4294967296 + uV v) * 2 ^ 13 by omega, or_add (k := 13) (by omega)]
theorem rwN_lt {r : Row} (h : rwOk r) : rwN r < 2 ^ 47 := by
  have hv := (uV_in r.2.1).2
  have h1 := h.1
  have h2 := h.2
  unfold rwN
  omega
theorem rwN_inj {r s : Row} (hr : rwOk r) (hs : rwOk s) (h : rwN r = rwN s) : r = s := by
  have hv := (uV_in r.2.1).2
  have hw := (uV_in s.2.1).2
  have h1 := hr.2
  have h2 := hs.2
  unfold rwN at h
  have e1 : r.1 = s.1 := by omega
  have e2 : uV r.2.1 = uV s.2.1 := by omega
  have e3 : r.2.2 = s.2.2 := by omega
  exact Prod.ext e1 (Prod.ext (uV_inj e2) e3)
/-- r stands before s -/
def rlt (r s : Row) : Bool := if r.1 ≠ s.1 then decide (r.1 < s.1) else if r.2.1 ≠ s.2.1 then decide (r.2.1 < s.2.1) else decide (r.2.2 < s.2.2)
theorem uV_lt {v w : Int32} : v < w ↔ uV v < uV w := by
  rw [Int32.lt_iff_toInt_lt]
  have h1 := (uV_in v).1
  have h2 := (uV_in w).1
  omega
theorem rwN_rlt {r s : Row} (hr : rwOk r) (hs : rwOk s) : rwN r < rwN s ↔ rlt r s = true := by
  have hv := (uV_in r.2.1).2
  have hw := (uV_in s.2.1).2
  have h1 := hr.2
  have h2 := hs.2
  unfold rwN rlt
  by_cases e1 : r.1 = s.1
  · rw [if_neg (fun z => z e1)]
    by_cases e2 : r.2.1 = s.2.1
    · rw [if_neg (fun z => z e2), e1, e2, decide_eq_true_iff]
      omega
    · rw [if_pos e2, decide_eq_true_iff, uV_lt, e1]
      have : uV r.2.1 ≠ uV s.2.1 := fun z => e2 (uV_inj z)
      omega
  · rw [if_pos e1, decide_eq_true_iff]
    omega
theorem rw_eq {r s : Row} (hr : rwOk r) (hs : rwOk s) : rw_pk (nI r.1) r.2.1 (nI r.2.2) = rw_pk (nI s.1) s.2.1 (nI s.2.2) ↔ r = s := by
  rw [rw_lN hr, rw_lN hs, pk_lEQ (by have := rwN_lt hr; omega) (by have := rwN_lt hs; omega)]
  exact ⟨rwN_inj hr hs, fun e => by rw [e]⟩
theorem rw_lt {r s : Row} (hr : rwOk r) (hs : rwOk s) : rw_pk (nI r.1) r.2.1 (nI r.2.2) < rw_pk (nI s.1) s.2.1 (nI s.2.2) ↔ rlt r s = true := by
  rw [rw_lN hr, rw_lN hs, pk_lLT (by have := rwN_lt hr; omega) (by have := rwN_lt hs; omega)]
  exact rwN_rlt hr hs
theorem rw_key {r : Row} (h : rwOk r) : (rw_pk (nI r.1) r.2.1 (nI r.2.2) >>> ((nI 45).toInt64 &&& 63)).toInt32 = nI r.1 := by
  have hv := (uV_in r.2.1).2
  have h2 := h.2
  rw [rw_lN h, pf_shr (d := 45) (by decide) (by have := rwN_lt h; omega), lN_i]
  congr 1
  unfold rwN
  omega
theorem nI_mod (n : Nat) : nI n = nI (n % 2 ^ 32) := Int32.toBitVec_inj.mp (by show BitVec.ofNat 32 n = BitVec.ofNat 32 _; apply BitVec.eq_of_toNat_eq; rw [BitVec.toNat_ofNat, BitVec.toNat_ofNat, Nat.mod_mod])
theorem uV_back (v : Int32) : nI (uV v) + (-2147483648) = v := by
  have h := uV_in v
  apply Int32.toInt_inj.mp
  rw [Int32.toInt_add, show (nI (uV v)).toInt = ((uV v : Int)).bmod (2 ^ 32) from Int32.toInt_ofNat', show (-2147483648 : Int32).toInt = -2147483648 by decide]
  have h1 := Int32.le_toInt v
  have h2 := Int32.toInt_lt v
  rw [Int.bmod_add_bmod]
  rw [Int.bmod_eq_of_le (by omega) (by omega)]
  omega
theorem rw_val {r : Row} (h : rwOk r) : (rw_pk (nI r.1) r.2.1 (nI r.2.2) >>> ((nI 13).toInt64 &&& 63)).toInt32 + (-2147483648) = r.2.1 := by
  have hv := (uV_in r.2.1).2
  have h2 := h.2
  rw [rw_lN h, pf_shr (d := 13) (by decide) (by have := rwN_lt h; omega), lN_i, nI_mod]
  rw [show rwN r / 2 ^ 13 % 2 ^ 32 = uV r.2.1 by unfold rwN; omega]
  exact uV_back _
theorem rw_time {r : Row} (h : rwOk r) : (rw_pk (nI r.1) r.2.1 (nI r.2.2)).toInt32 &&& nI 8191 = nI r.2.2 := by
  have h2 := h.2
  rw [rw_lN h, lN_i, nI_mod, pk_andN (Nat.mod_lt _ (by decide)) 13 (by decide)]
  congr 1
  unfold rwN
  omega
/-- an array with a hole: A, one place, B -/
def px_ho (h : px_H) (a kd L : Nat) {α : Type} (f : α → Value) (A B : List α) : Prop := L < 2 ^ 31 ∧ ∃ w ws, h.2.2 a = some (kd, A.map f ++ w :: (B.map f ++ ws)) ∧ A.length + (1 + (B.length + ws.length)) = L
theorem ho_fi {lo n a kd L : Nat} {α : Type} {f : α → Value} {A B : List α} {h h1 : px_H} (hc : px_ho h a kd L f A B) (fr : px_fi lo n h h1) (d : a + 1 ≤ lo ∨ lo + n ≤ a) : px_ho h1 a kd L f A B := by
  obtain ⟨h0, w, ws, hw, hl⟩ := hc
  exact ⟨h0, w, ws, fi_at hw fr d, hl⟩
theorem ho_of {h : px_H} {a kd L : Nat} {α : Type} {f : α → Value} {xs : List α} (hp : px_pa h a kd L f xs) (hl : xs.length < L) : px_ho h a kd L f (xs.take xs.length) (xs.drop xs.length) := by
  obtain ⟨h0, ws, hw, hl⟩ := hp
  cases ws with
  | nil => exact absurd hl (by simp; omega)
  | cons w ws =>
    refine ⟨h0, w, ws, ?_, ?_⟩
    · rw [hw, List.take_length, List.drop_length]
      rfl
    · rw [List.take_length, List.drop_length]
      rw [List.length_cons] at hl
      simp
      omega
theorem ho_ld {h : px_H} {a kd L k p : Nat} {α : Type} {f : α → Value} {xs : List α} (d : α) (hp : px_ho h a kd L f (xs.take p) (xs.drop p)) (hk : k < p) (hx : k < xs.length) : ∃ vs, h.2.2 a = some (kd, vs) ∧ ¬ nI k < 0 ∧ vs[(nI k).toNatClampNeg]? = some (f (xs.getD k d)) := by
  obtain ⟨h0, w, ws, hw, hl⟩ := hp
  have e : (xs.take p).length = min p xs.length := List.length_take
  refine ⟨_, hw, nI_pos (by omega), ?_⟩
  rw [nI_clamp (by omega), List.getElem?_append_left (by rw [List.length_map, e]; omega), List.getElem?_map, List.getElem?_take, if_pos hk, List.getD_eq_getElem?_getD, List.getElem?_eq_getElem hx]
  rfl
theorem ho_sh {h : px_H} {a kd L k : Nat} {α : Type} {f : α → Value} {xs : List α} {d : α} (hp : px_ho h a kd L f (xs.take (k + 1)) (xs.drop (k + 1))) (hx : k < xs.length) {v : Value} (hv : v = f (xs.getD k d)) : ∃ vs, h.2.2 a = some (kd, vs) ∧ ¬ nI (k + 1) < 0 ∧ (nI (k + 1)).toNatClampNeg < vs.length ∧ px_ho (px_set h a (kd, vs.set (nI (k + 1)).toNatClampNeg v)) a kd L f (xs.take k) (xs.drop k) := by
  obtain ⟨h0, w, ws, hw, hl⟩ := hp
  have e : (xs.take (k + 1)).length = k + 1 := by rw [List.length_take]; omega
  have e2 : (xs.take k).length = k := by rw [List.length_take]; omega
  have e3 : xs.take (k + 1) = xs.take k ++ [xs.getD k d] := by
    rw [List.take_succ, List.getD_eq_getElem?_getD, List.getElem?_eq_getElem hx]
    rfl
  have e4 := drop_step d hx
  refine ⟨_, hw, nI_pos (by omega), ?_, h0, f (xs.getD k d), ws, ?_, ?_⟩
  · rw [nI_clamp (by omega), List.length_append, List.length_map, e, List.length_cons]
    omega
  · rw [px_set_at, nI_clamp (by omega), List.set_append_right _ _ (by rw [List.length_map, e]; omega), List.length_map, e, Nat.sub_self, List.set_cons_zero, hv, e3, e4, List.map_append, List.append_assoc]
    rfl
  · rw [e2, e4, List.length_cons]
    rw [e] at hl
    omega
theorem ho_fl {h : px_H} {a kd L p : Nat} {α : Type} {f : α → Value} {xs : List α} {x : α} (hp : px_ho h a kd L f (xs.take p) (xs.drop p)) (hx : p ≤ xs.length) {v : Value} (hv : v = f x) : ∃ vs, h.2.2 a = some (kd, vs) ∧ ¬ nI p < 0 ∧ (nI p).toNatClampNeg < vs.length ∧ px_pa (px_set h a (kd, vs.set (nI p).toNatClampNeg v)) a kd L f (xs.take p ++ x :: xs.drop p) := by
  obtain ⟨h0, w, ws, hw, hl⟩ := hp
  have e : (xs.take p).length = p := by rw [List.length_take]; omega
  refine ⟨_, hw, nI_pos (by omega), ?_, h0, ws, ?_, ?_⟩
  · rw [nI_clamp (by omega), List.length_append, List.length_map, e, List.length_cons]
    omega
  · rw [px_set_at, nI_clamp (by omega), List.set_append_right _ _ (by rw [List.length_map, e]; omega), List.length_map, e, Nat.sub_self, List.set_cons_zero, hv, List.map_append, List.append_assoc]
    rfl
  · rw [List.length_append, List.length_cons, e]
    rw [e] at hl
    omega
section RH
variable {m pc pc' : Nat} {L : px_L} {st : List Value} {h : px_H} {P : px_H → Option Value → Prop} {ln a0 b0 : Nat} {v0 : Value}
theorem e_laload_h {a La k p : Nat} {α : Type} {f : α → Value} {xs : List α} {d : α} (hf : px_at m pc = some (.laload, ln, a0, b0, v0)) (hq : px_ho h a 51 La f (xs.take p) (xs.drop p)) (hk : k < p) (hx : k < xs.length) (hp : pc + 1 = pc') (j : px_to m pc' L (f (xs.getD k d) :: st) h P) : px_to m pc L (.int (nI k) :: .ref a :: st) h P := by
  obtain ⟨vs, h1, h2, h3⟩ := ho_ld d hq hk hx
  exact e_laload hf h1 h2 h3 hp j
theorem e_iaload_h {a La k p : Nat} {α : Type} {f : α → Value} {xs : List α} {d : α} (hf : px_at m pc = some (.iaload, ln, a0, b0, v0)) (hq : px_ho h a 50 La f (xs.take p) (xs.drop p)) (hk : k < p) (hx : k < xs.length) (hp : pc + 1 = pc') (j : px_to m pc' L (f (xs.getD k d) :: st) h P) : px_to m pc L (.int (nI k) :: .ref a :: st) h P := by
  obtain ⟨vs, h1, h2, h3⟩ := ho_ld d hq hk hx
  exact e_iaload hf h1 h2 h3 hp j
theorem e_lastore_h {a La k : Nat} {y : Int64} {α : Type} {f : α → Value} {xs : List α} {d : α} (hf : px_at m pc = some (.lastore, ln, a0, b0, v0)) (hq : px_ho h a 51 La f (xs.take (k + 1)) (xs.drop (k + 1))) (h9 : 17 ≤ a) (hx : k < xs.length) (hn : Value.long y = f (xs.getD k d)) (hp : pc + 1 = pc') (j : ∀ h' : px_H, px_ho h' a 51 La f (xs.take k) (xs.drop k) → px_fi a 1 h h' → px_to m pc' L st h' P) : px_to m pc L (.long y :: .int (nI (k + 1)) :: .ref a :: st) h P := by
  obtain ⟨vs, h1, h2, h3, h4⟩ := ho_sh hq hx hn
  exact e_lastore hf h1 h9 h2 h3 rfl hp (fun h' e => by rw [e]; exact j _ h4 (fi_set _ _ _))
theorem e_iastore_h {a La k : Nat} {y : Int32} {α : Type} {f : α → Value} {xs : List α} {d : α} (hf : px_at m pc = some (.iastore, ln, a0, b0, v0)) (hq : px_ho h a 50 La f (xs.take (k + 1)) (xs.drop (k + 1))) (h9 : 17 ≤ a) (hx : k < xs.length) (hn : narrow .int (.int y) = f (xs.getD k d)) (hp : pc + 1 = pc') (j : ∀ h' : px_H, px_ho h' a 50 La f (xs.take k) (xs.drop k) → px_fi a 1 h h' → px_to m pc' L st h' P) : px_to m pc L (.int y :: .int (nI (k + 1)) :: .ref a :: st) h P := by
  obtain ⟨vs, h1, h2, h3, h4⟩ := ho_sh hq hx hn
  exact e_iastore hf h1 h9 h2 h3 rfl hp (fun h' e => by rw [e]; exact j _ h4 (fi_set _ _ _))
theorem e_lastore_f {a La p : Nat} {y : Int64} {α : Type} {f : α → Value} {xs : List α} {x : α} (hf : px_at m pc = some (.lastore, ln, a0, b0, v0)) (hq : px_ho h a 51 La f (xs.take p) (xs.drop p)) (h9 : 17 ≤ a) (hx : p ≤ xs.length) (hn : Value.long y = f x) (hp : pc + 1 = pc') (j : ∀ h' : px_H, px_pa h' a 51 La f (xs.take p ++ x :: xs.drop p) → px_fi a 1 h h' → px_to m pc' L st h' P) : px_to m pc L (.long y :: .int (nI p) :: .ref a :: st) h P := by
  obtain ⟨vs, h1, h2, h3, h4⟩ := ho_fl hq hx hn
  exact e_lastore hf h1 h9 h2 h3 rfl hp (fun h' e => by rw [e]; exact j _ h4 (fi_set _ _ _))
theorem e_iastore_f {a La p : Nat} {y : Int32} {α : Type} {f : α → Value} {xs : List α} {x : α} (hf : px_at m pc = some (.iastore, ln, a0, b0, v0)) (hq : px_ho h a 50 La f (xs.take p) (xs.drop p)) (h9 : 17 ≤ a) (hx : p ≤ xs.length) (hn : narrow .int (.int y) = f x) (hp : pc + 1 = pc') (j : ∀ h' : px_H, px_pa h' a 50 La f (xs.take p ++ x :: xs.drop p) → px_fi a 1 h h' → px_to m pc' L st h' P) : px_to m pc L (.int y :: .int (nI p) :: .ref a :: st) h P := by
  obtain ⟨vs, h1, h2, h3, h4⟩ := ho_fl hq hx hn
  exact e_iastore hf h1 h9 h2 h3 rfl hp (fun h' e => by rw [e]; exact j _ h4 (fi_set _ _ _))
end RH
