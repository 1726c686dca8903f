theorem andN (a b : Nat) : nI a &&& nI b = nI (a &&& b) := by
  apply Int32.toBitVec_inj.mp
  rw [Int32.toBitVec_and]
  apply BitVec.eq_of_toNat_eq
  rw [BitVec.toNat_and]
  show (BitVec.ofNat 32 a).toNat &&& (BitVec.ofNat 32 b).toNat = (BitVec.ofNat 32 (a &&& b)).toNat
  rw [BitVec.toNat_ofNat, BitVec.toNat_ofNat, BitVec.toNat_ofNat, Nat.and_mod_two_pow]
theorem u31 : ∀ k, k < 32 → ((nI k).toUInt32 &&& Int32.toUInt32 31) = UInt32.ofNat k := by decide +kernel
theorem ushrN {n k : Nat} (hn : n < 2 ^ 32) (hk : k < 32) : ((nI n).toUInt32 >>> ((nI k).toUInt32 &&& Int32.toUInt32 31)).toInt32 = nI (n / 2 ^ k) := by
  rw [u31 k hk]
  apply Int32.toBitVec_inj.mp
  apply BitVec.eq_of_toNat_eq
  show ((nI n).toUInt32 >>> UInt32.ofNat k).toNat = (BitVec.ofNat 32 (n / 2 ^ k)).toNat
  have h1 : (UInt32.ofNat k).toNat = k := by
    rw [UInt32.toNat_ofNat']
    omega
  have h2 : (nI n).toUInt32.toNat = n := by
    show (BitVec.ofNat 32 n).toNat = n
    rw [BitVec.toNat_ofNat]
    omega
  rw [UInt32.toNat_shiftRight, h1, h2, Nat.mod_eq_of_lt hk, Nat.shiftRight_eq_div_pow, BitVec.toNat_ofNat, Nat.mod_eq_of_lt (Nat.lt_of_le_of_lt (Nat.div_le_self _ _) hn)]
def ub1 (M n : Nat) : Nat := n - (n / 2 &&& M)
def ub2 (M x : Nat) : Nat := (x &&& M) + (x / 4 &&& M)
def ub3 (M x : Nat) : Nat := (x + x / 16) &&& M
/-- and, byte by byte -/
theorem and_sp {x y m k : Nat} (hx : x < 256) (hm : m < 256) : (x + 256 * y) &&& (m + 256 * k) = (x &&& m) + 256 * (y &&& k) := by
  have h1 : ((x + 256 * y) &&& (m + 256 * k)) % 2 ^ 8 = x &&& m := by
    rw [Nat.and_mod_two_pow]
    congr 1 <;> omega
  have h2 : ((x + 256 * y) &&& (m + 256 * k)) / 2 ^ 8 = y &&& k := by
    rw [Nat.and_div_two_pow]
    congr 1 <;> omega
  omega
theorem uc1 : ∀ x, x < 256 → ∀ c, c < 2 → (x / 2 + 128 * c) &&& 0x55 = (x / 2 &&& 0x55) := by decide +kernel
theorem uc2 : ∀ x, x < 256 → ∀ c, c < 4 → (x / 4 + 64 * c) &&& 0x33 = (x / 4 &&& 0x33) := by decide +kernel
theorem ub1_sp {x y k : Nat} (hx : x < 256) : ub1 (0x55 + 256 * k) (x + 256 * y) = ub1 0x55 x + 256 * ub1 k y := by
  unfold ub1
  rw [show (x + 256 * y) / 2 = (x / 2 + 128 * (y % 2)) + 256 * (y / 2) by omega, and_sp (by omega) (by decide), uc1 x hx _ (by omega)]
  have h1 : (x / 2 &&& 0x55) ≤ x / 2 := Nat.and_le_left
  have h2 : (y / 2 &&& k) ≤ y / 2 := Nat.and_le_left
  omega
theorem ub2_sp {x y k : Nat} (hx : x < 256) : ub2 (0x33 + 256 * k) (x + 256 * y) = ub2 0x33 x + 256 * ub2 k y := by
  unfold ub2
  rw [show (x + 256 * y) / 4 = (x / 4 + 64 * (y % 4)) + 256 * (y / 4) by omega, and_sp hx (by decide), and_sp (by omega) (by decide), uc2 x hx _ (by omega)]
  omega
theorem ub3_sp {x y k : Nat} (hx : (x + x / 16 + 16 * (y % 16) < 256) ∧ ((x + x / 16 + 16 * (y % 16)) &&& 0x0f = (x + x / 16) &&& 0x0f)) : ub3 (0x0f + 256 * k) (x + 256 * y) = ub3 0x0f x + 256 * ub3 k y := by
  unfold ub3
  rw [show x + 256 * y + (x + 256 * y) / 16 = (x + x / 16 + 16 * (y % 16)) + 256 * (y + y / 16) by omega, and_sp hx.1 (by decide), hx.2]
def pc8 (x : Nat) : Nat := x % 2 + x / 2 % 2 + x / 4 % 2 + x / 8 % 2 + x / 16 % 2 + x / 32 % 2 + x / 64 % 2 + x / 128 % 2
theorem byte_ok : ∀ x, x < 256 → ub1 0x55 x < 256 ∧ ub2 0x33 (ub1 0x55 x) < 256 ∧ ub3 0x0f (ub2 0x33 (ub1 0x55 x)) = pc8 x := by decide +kernel
theorem byte_c : ∀ x, x < 256 → ∀ c, c < 5 → (ub2 0x33 (ub1 0x55 x) + ub2 0x33 (ub1 0x55 x) / 16 + 16 * c < 256) ∧ ((ub2 0x33 (ub1 0x55 x) + ub2 0x33 (ub1 0x55 x) / 16 + 16 * c) &&& 0x0f = (ub2 0x33 (ub1 0x55 x) + ub2 0x33 (ub1 0x55 x) / 16) &&& 0x0f) := by decide +kernel
theorem byte_n : ∀ x, x < 256 → ub2 0x33 (ub1 0x55 x) % 16 < 5 := by decide +kernel
theorem byte_z : ∀ x, x < 256 → ub1 0x5555 x = ub1 0x55 x ∧ ub2 0x3333 (ub1 0x5555 x) = ub2 0x33 (ub1 0x55 x) ∧ ub3 0x0f0f (ub2 0x3333 (ub1 0x5555 x)) = pc8 x := by decide +kernel
theorem pc8_le : ∀ x, x < 256 → pc8 x ≤ 8 := by decide +kernel
theorem bc3 {x y z : Nat} (hx : x < 256) (hy : y < 256) (hz : z < 256) : ub3 0x0f0f0f0f (ub2 0x33333333 (ub1 0x55555555 (x + 256 * (y + 256 * z)))) = pc8 x + 256 * (pc8 y + 256 * pc8 z) := by
  obtain ⟨x1, x2, x3⟩ := byte_ok x hx
  obtain ⟨y1, y2, y3⟩ := byte_ok y hy
  obtain ⟨z1, z2, z3⟩ := byte_z z hz
  have e1 : ub1 0x55555555 (x + 256 * (y + 256 * z)) = ub1 0x55 x + 256 * (ub1 0x55 y + 256 * ub1 0x5555 z) := by
    rw [show 0x55555555 = 0x55 + 256 * 0x555555 by decide, ub1_sp hx, show 0x555555 = 0x55 + 256 * 0x5555 by decide, ub1_sp hy]
  have e2 : ub2 0x33333333 (ub1 0x55 x + 256 * (ub1 0x55 y + 256 * ub1 0x5555 z)) = ub2 0x33 (ub1 0x55 x) + 256 * (ub2 0x33 (ub1 0x55 y) + 256 * ub2 0x3333 (ub1 0x5555 z)) := by
    rw [show 0x33333333 = 0x33 + 256 * 0x333333 by decide, ub2_sp x1, show 0x333333 = 0x33 + 256 * 0x3333 by decide, ub2_sp y1]
  rw [e1, e2, show 0x0f0f0f0f = 0x0f + 256 * 0x0f0f0f by decide]
  have hny := byte_n y hy
  have hnz := byte_n z hz
  rw [ub3_sp (byte_c x hx _ (by omega)), show 0x0f0f0f = 0x0f + 256 * 0x0f0f by decide, ub3_sp (by rw [z2]; exact byte_c y hy _ (by omega)), x3, y3, z3]
def bcN (n : Nat) : Nat := let w := ub3 0x0f0f0f0f (ub2 0x33333333 (ub1 0x55555555 n)); (w + w / 256 + (w + w / 256) / 65536) &&& 63
theorem bcN_eq {n : Nat} (h : n < 2 ^ 24) : bcN n = pc8 (n % 256) + pc8 (n / 256 % 256) + pc8 (n / 65536) := by
  have e : n = n % 256 + 256 * (n / 256 % 256 + 256 * (n / 65536)) := by omega
  have h1 := pc8_le (n % 256) (by omega)
  have h2 := pc8_le (n / 256 % 256) (by omega)
  have h3 := pc8_le (n / 65536) (by omega)
  have h4 := bc3 (x := n % 256) (y := n / 256 % 256) (z := n / 65536) (by omega) (by omega) (by omega)
  rw [← e] at h4
  unfold bcN
  rw [h4]
  generalize pc8 (n % 256) = p at *
  generalize pc8 (n / 256 % 256) = q at *
  generalize pc8 (n / 65536) = r at *
  dsimp only
  have e1 : (p + 256 * (q + 256 * r)) / 256 = q + 256 * r := by clear h4; omega
  rw [e1]
  have e2 : (p + 256 * (q + 256 * r) + (q + 256 * r)) / 65536 = r := by clear h4; omega
  rw [e2, show 63 = 2 ^ 6 - 1 by decide, Nat.and_two_pow_sub_one_eq_mod]
  clear h4
  omega
def pcn : Nat → Nat → Nat
  | _, 0 => 0
  | n, m + 1 => n % 2 + pcn (n / 2) m
theorem pcn8 (n m : Nat) : pcn n (m + 8) = pc8 (n % 256) + pcn (n / 256) m := by
  simp only [pcn, pc8]
  rw [show n / 2 / 2 / 2 / 2 / 2 / 2 / 2 / 2 = n / 256 by omega]
  omega
theorem pcn0 : ∀ k, pcn 0 k = 0
  | 0 => rfl
  | k + 1 => by
    rw [pcn, Nat.zero_div, pcn0 k]
theorem pcn_stop : ∀ (m n k : Nat), n < 2 ^ m → pcn n (m + k) = pcn n m
  | 0, n, k, h => by
    have : n = 0 := by simpa using h
    subst this
    exact pcn0 (0 + k)
  | m + 1, n, k, h => by
    rw [show m + 1 + k = (m + k) + 1 by omega, pcn, pcn, pcn_stop m (n / 2) k (by rw [Nat.pow_succ] at h; omega)]
theorem bcN_pcn {n m : Nat} (hm : m ≤ 24) (h : n < 2 ^ m) : bcN n = pcn n m := by
  have h24 : n < 2 ^ 24 := Nat.lt_of_lt_of_le h (Nat.pow_le_pow_right (by decide) hm)
  rw [bcN_eq h24, ← pcn_stop m n (24 - m) h, show m + (24 - m) = 0 + 8 + 8 + 8 by omega, pcn8, pcn8, pcn8, pcn]
  rw [show n / 256 / 256 = n / 65536 by omega, show n / 65536 % 256 = n / 65536 by omega]
  omega
theorem ub1_lt {M n : Nat} : ub1 M n ≤ n := Nat.sub_le _ _
theorem ub2_lt {M n : Nat} : ub2 M n ≤ n + n := Nat.add_le_add Nat.and_le_left (Nat.le_trans Nat.and_le_left (Nat.div_le_self _ _))
theorem ub3_lt {n : Nat} : ub3 0x0f0f0f0f n < 2 ^ 28 := Nat.lt_of_le_of_lt Nat.and_le_right (by decide)
/-- how many bits of 0 stand before the first 1 -/
def ctz : Nat → Nat → Nat
  | 0, _ => 0
  | f + 1, n => if n % 2 = 1 then 0 else ctz f (n / 2) + 1

set_option maxRecDepth 20000 in
set_option maxHeartbeats 4000000 in
theorem cc_Int_bc {h : px_H} {n : Nat}  (p0 : n < 2 ^ 24) : px_wp 207 [.int (nI n)] h (fun h1 r => r = some (.int (nI (bcN n))) ∧ h1 = h) := by
  have h1 := ub1_lt (M := 0x55555555) (n := n)
  have h2 := ub2_lt (M := 0x33333333) (n := ub1 0x55555555 n)
  have h3 := ub3_lt (n := ub2 0x33333333 (ub1 0x55555555 n))
  show px_to 207 0 [some (.int (nI n))] [] h _
  refine e_iload_n f_207_0 rfl rfl ?_
  refine e_iload_n f_207_1 rfl rfl ?_
  refine e_iconst (v := nI 1) f_207_2 (by decide) rfl ?_
  refine e_iushr (z := nI (n / 2 ^ 1)) f_207_3 (ushrN (by omega) (by decide)) rfl ?_
  refine e_ldcw f_207_4 rfl ?_
  refine e_iand (z := nI (n / 2 &&& 1431655765)) f_207_7 (andN _ 1431655765) rfl ?_
  refine e_isub (z := nI (ub1 0x55555555 n)) f_207_8 (pk_sub (Nat.le_trans Nat.and_le_left (Nat.div_le_self _ _))) rfl ?_
  refine e_istore_n (L' := [some (.int (nI (ub1 0x55555555 n)))]) f_207_9 (Nat.le_of_ble_eq_true rfl) rfl rfl ?_
  refine e_iload_n f_207_10 rfl rfl ?_
  refine e_ldcw f_207_11 rfl ?_
  refine e_iand (z := nI ((ub1 0x55555555 n) &&& 858993459)) f_207_14 (andN _ 858993459) rfl ?_
  refine e_iload_n f_207_15 rfl rfl ?_
  refine e_iconst (v := nI 2) f_207_16 (by decide) rfl ?_
  refine e_iushr (z := nI ((ub1 0x55555555 n) / 2 ^ 2)) f_207_17 (ushrN (by omega) (by decide)) rfl ?_
  refine e_ldcw f_207_18 rfl ?_
  refine e_iand (z := nI ((ub1 0x55555555 n) / 4 &&& 858993459)) f_207_21 (andN _ 858993459) rfl ?_
  refine e_iadd (z := nI (ub2 0x33333333 (ub1 0x55555555 n))) f_207_22 (nI_add _ _) rfl ?_
  refine e_istore_n (L' := [some (.int (nI (ub2 0x33333333 (ub1 0x55555555 n))))]) f_207_23 (Nat.le_of_ble_eq_true rfl) rfl rfl ?_
  refine e_iload_n f_207_24 rfl rfl ?_
  refine e_iload_n f_207_25 rfl rfl ?_
  refine e_iconst (v := nI 4) f_207_26 (by decide) rfl ?_
  refine e_iushr (z := nI ((ub2 0x33333333 (ub1 0x55555555 n)) / 2 ^ 4)) f_207_27 (ushrN (by omega) (by decide)) rfl ?_
  refine e_iadd (z := nI ((ub2 0x33333333 (ub1 0x55555555 n)) + (ub2 0x33333333 (ub1 0x55555555 n)) / 16)) f_207_28 (nI_add _ _) rfl ?_
  refine e_ldcw f_207_29 rfl ?_
  refine e_iand (z := nI (ub3 0x0f0f0f0f (ub2 0x33333333 (ub1 0x55555555 n)))) f_207_32 (andN _ 252645135) rfl ?_
  refine e_istore_n (L' := [some (.int (nI (ub3 0x0f0f0f0f (ub2 0x33333333 (ub1 0x55555555 n)))))]) f_207_33 (Nat.le_of_ble_eq_true rfl) rfl rfl ?_
  refine e_iload_n f_207_34 rfl rfl ?_
  refine e_iload_n f_207_35 rfl rfl ?_
  refine e_bipush (v := nI 8) f_207_36 (by decide) rfl ?_
  refine e_iushr (z := nI ((ub3 0x0f0f0f0f (ub2 0x33333333 (ub1 0x55555555 n))) / 2 ^ 8)) f_207_38 (ushrN (by omega) (by decide)) rfl ?_
  refine e_iadd (z := nI ((ub3 0x0f0f0f0f (ub2 0x33333333 (ub1 0x55555555 n))) + (ub3 0x0f0f0f0f (ub2 0x33333333 (ub1 0x55555555 n))) / 256)) f_207_39 (nI_add _ _) rfl ?_
  refine e_istore_n (L' := [some (.int (nI ((ub3 0x0f0f0f0f (ub2 0x33333333 (ub1 0x55555555 n))) + (ub3 0x0f0f0f0f (ub2 0x33333333 (ub1 0x55555555 n))) / 256)))]) f_207_40 (Nat.le_of_ble_eq_true rfl) rfl rfl ?_
  refine e_iload_n f_207_41 rfl rfl ?_
  refine e_iload_n f_207_42 rfl rfl ?_
  refine e_bipush (v := nI 16) f_207_43 (by decide) rfl ?_
  refine e_iushr (z := nI (((ub3 0x0f0f0f0f (ub2 0x33333333 (ub1 0x55555555 n))) + (ub3 0x0f0f0f0f (ub2 0x33333333 (ub1 0x55555555 n))) / 256) / 2 ^ 16)) f_207_45 (ushrN (by omega) (by decide)) rfl ?_
  refine e_iadd (z := nI ((ub3 0x0f0f0f0f (ub2 0x33333333 (ub1 0x55555555 n))) + (ub3 0x0f0f0f0f (ub2 0x33333333 (ub1 0x55555555 n))) / 256 + ((ub3 0x0f0f0f0f (ub2 0x33333333 (ub1 0x55555555 n))) + (ub3 0x0f0f0f0f (ub2 0x33333333 (ub1 0x55555555 n))) / 256) / 65536)) f_207_46 (nI_add _ _) rfl ?_
  refine e_istore_n (L' := [some (.int (nI ((ub3 0x0f0f0f0f (ub2 0x33333333 (ub1 0x55555555 n))) + (ub3 0x0f0f0f0f (ub2 0x33333333 (ub1 0x55555555 n))) / 256 + ((ub3 0x0f0f0f0f (ub2 0x33333333 (ub1 0x55555555 n))) + (ub3 0x0f0f0f0f (ub2 0x33333333 (ub1 0x55555555 n))) / 256) / 65536)))]) f_207_47 (Nat.le_of_ble_eq_true rfl) rfl rfl ?_
  refine e_iload_n f_207_48 rfl rfl ?_
  refine e_bipush (v := nI 63) f_207_49 (by decide) rfl ?_
  refine e_iand (z := nI (bcN n)) f_207_51 (andN _ 63) rfl ?_
  refine e_iret f_207_52 rfl (rfl) ?_
  first | (exfalso; omega) | exact ⟨rfl, rfl⟩

theorem tz_leaf_0 : ∀ n, n < 256 → (!(decide (0 < n) && decide (0 < (((nI n) ^^^ (-1)) &&& ((nI n) - (nI 1)))) && decide ((((nI n) ^^^ (-1)) &&& ((nI n) - (nI 1))) ≤ 65536) && decide ((((nI n) ^^^ (-1)) &&& ((nI n) - (nI 1))) ≤ (nI 256)) && decide ((((nI n) ^^^ (-1)) &&& ((nI n) - (nI 1))) ≤ (nI 16)) && decide ((((nI n) ^^^ (-1)) &&& ((nI n) - (nI 1))) ≤ (nI 4))) || decide (((nI 1) + (((((nI n) ^^^ (-1)) &&& ((nI n) - (nI 1))).toUInt32 >>> ((nI 1).toUInt32 &&& Int32.toUInt32 31)).toInt32)) = nI (ctz 8 n))) = true := by decide +kernel
theorem tz_leaf_1 : ∀ n, n < 256 → (!(decide (0 < n) && decide (0 < (((nI n) ^^^ (-1)) &&& ((nI n) - (nI 1)))) && decide ((((nI n) ^^^ (-1)) &&& ((nI n) - (nI 1))) ≤ 65536) && decide ((((nI n) ^^^ (-1)) &&& ((nI n) - (nI 1))) ≤ (nI 256)) && decide ((((nI n) ^^^ (-1)) &&& ((nI n) - (nI 1))) ≤ (nI 16)) && decide (¬ ((((nI n) ^^^ (-1)) &&& ((nI n) - (nI 1))) ≤ (nI 4)))) || decide (((nI 3) + (((((((nI n) ^^^ (-1)) &&& ((nI n) - (nI 1))).toUInt32 >>> ((nI 2).toUInt32 &&& Int32.toUInt32 31)).toInt32).toUInt32 >>> ((nI 1).toUInt32 &&& Int32.toUInt32 31)).toInt32)) = nI (ctz 8 n))) = true := by decide +kernel
theorem tz_leaf_2 : ∀ n, n < 256 → (!(decide (0 < n) && decide (0 < (((nI n) ^^^ (-1)) &&& ((nI n) - (nI 1)))) && decide ((((nI n) ^^^ (-1)) &&& ((nI n) - (nI 1))) ≤ 65536) && decide ((((nI n) ^^^ (-1)) &&& ((nI n) - (nI 1))) ≤ (nI 256)) && decide (¬ ((((nI n) ^^^ (-1)) &&& ((nI n) - (nI 1))) ≤ (nI 16))) && decide ((((((nI n) ^^^ (-1)) &&& ((nI n) - (nI 1))).toUInt32 >>> ((nI 4).toUInt32 &&& Int32.toUInt32 31)).toInt32) ≤ (nI 4))) || decide (((nI 5) + (((((((nI n) ^^^ (-1)) &&& ((nI n) - (nI 1))).toUInt32 >>> ((nI 4).toUInt32 &&& Int32.toUInt32 31)).toInt32).toUInt32 >>> ((nI 1).toUInt32 &&& Int32.toUInt32 31)).toInt32)) = nI (ctz 8 n))) = true := by decide +kernel
theorem tz_leaf_3 : ∀ n, n < 256 → (!(decide (0 < n) && decide (0 < (((nI n) ^^^ (-1)) &&& ((nI n) - (nI 1)))) && decide ((((nI n) ^^^ (-1)) &&& ((nI n) - (nI 1))) ≤ 65536) && decide ((((nI n) ^^^ (-1)) &&& ((nI n) - (nI 1))) ≤ (nI 256)) && decide (¬ ((((nI n) ^^^ (-1)) &&& ((nI n) - (nI 1))) ≤ (nI 16))) && decide (¬ ((((((nI n) ^^^ (-1)) &&& ((nI n) - (nI 1))).toUInt32 >>> ((nI 4).toUInt32 &&& Int32.toUInt32 31)).toInt32) ≤ (nI 4)))) || decide (((nI 7) + (((((((((nI n) ^^^ (-1)) &&& ((nI n) - (nI 1))).toUInt32 >>> ((nI 4).toUInt32 &&& Int32.toUInt32 31)).toInt32).toUInt32 >>> ((nI 2).toUInt32 &&& Int32.toUInt32 31)).toInt32).toUInt32 >>> ((nI 1).toUInt32 &&& Int32.toUInt32 31)).toInt32)) = nI (ctz 8 n))) = true := by decide +kernel
theorem tz_leaf_4 : ∀ n, n < 256 → (!(decide (0 < n) && decide (0 < (((nI n) ^^^ (-1)) &&& ((nI n) - (nI 1)))) && decide ((((nI n) ^^^ (-1)) &&& ((nI n) - (nI 1))) ≤ 65536) && decide (¬ ((((nI n) ^^^ (-1)) &&& ((nI n) - (nI 1))) ≤ (nI 256))) && decide ((((((nI n) ^^^ (-1)) &&& ((nI n) - (nI 1))).toUInt32 >>> ((nI 8).toUInt32 &&& Int32.toUInt32 31)).toInt32) ≤ (nI 16)) && decide ((((((nI n) ^^^ (-1)) &&& ((nI n) - (nI 1))).toUInt32 >>> ((nI 8).toUInt32 &&& Int32.toUInt32 31)).toInt32) ≤ (nI 4))) || decide (((nI 9) + (((((((nI n) ^^^ (-1)) &&& ((nI n) - (nI 1))).toUInt32 >>> ((nI 8).toUInt32 &&& Int32.toUInt32 31)).toInt32).toUInt32 >>> ((nI 1).toUInt32 &&& Int32.toUInt32 31)).toInt32)) = nI (ctz 8 n))) = true := by decide +kernel
theorem tz_leaf_5 : ∀ n, n < 256 → (!(decide (0 < n) && decide (0 < (((nI n) ^^^ (-1)) &&& ((nI n) - (nI 1)))) && decide ((((nI n) ^^^ (-1)) &&& ((nI n) - (nI 1))) ≤ 65536) && decide (¬ ((((nI n) ^^^ (-1)) &&& ((nI n) - (nI 1))) ≤ (nI 256))) && decide ((((((nI n) ^^^ (-1)) &&& ((nI n) - (nI 1))).toUInt32 >>> ((nI 8).toUInt32 &&& Int32.toUInt32 31)).toInt32) ≤ (nI 16)) && decide (¬ ((((((nI n) ^^^ (-1)) &&& ((nI n) - (nI 1))).toUInt32 >>> ((nI 8).toUInt32 &&& Int32.toUInt32 31)).toInt32) ≤ (nI 4)))) || decide (((nI 11) + (((((((((nI n) ^^^ (-1)) &&& ((nI n) - (nI 1))).toUInt32 >>> ((nI 8).toUInt32 &&& Int32.toUInt32 31)).toInt32).toUInt32 >>> ((nI 2).toUInt32 &&& Int32.toUInt32 31)).toInt32).toUInt32 >>> ((nI 1).toUInt32 &&& Int32.toUInt32 31)).toInt32)) = nI (ctz 8 n))) = true := by decide +kernel
theorem tz_leaf_6 : ∀ n, n < 256 → (!(decide (0 < n) && decide (0 < (((nI n) ^^^ (-1)) &&& ((nI n) - (nI 1)))) && decide ((((nI n) ^^^ (-1)) &&& ((nI n) - (nI 1))) ≤ 65536) && decide (¬ ((((nI n) ^^^ (-1)) &&& ((nI n) - (nI 1))) ≤ (nI 256))) && decide (¬ ((((((nI n) ^^^ (-1)) &&& ((nI n) - (nI 1))).toUInt32 >>> ((nI 8).toUInt32 &&& Int32.toUInt32 31)).toInt32) ≤ (nI 16))) && decide ((((((((nI n) ^^^ (-1)) &&& ((nI n) - (nI 1))).toUInt32 >>> ((nI 8).toUInt32 &&& Int32.toUInt32 31)).toInt32).toUInt32 >>> ((nI 4).toUInt32 &&& Int32.toUInt32 31)).toInt32) ≤ (nI 4))) || decide (((nI 13) + (((((((((nI n) ^^^ (-1)) &&& ((nI n) - (nI 1))).toUInt32 >>> ((nI 8).toUInt32 &&& Int32.toUInt32 31)).toInt32).toUInt32 >>> ((nI 4).toUInt32 &&& Int32.toUInt32 31)).toInt32).toUInt32 >>> ((nI 1).toUInt32 &&& Int32.toUInt32 31)).toInt32)) = nI (ctz 8 n))) = true := by decide +kernel
theorem tz_leaf_7 : ∀ n, n < 256 → (!(decide (0 < n) && decide (0 < (((nI n) ^^^ (-1)) &&& ((nI n) - (nI 1)))) && decide ((((nI n) ^^^ (-1)) &&& ((nI n) - (nI 1))) ≤ 65536) && decide (¬ ((((nI n) ^^^ (-1)) &&& ((nI n) - (nI 1))) ≤ (nI 256))) && decide (¬ ((((((nI n) ^^^ (-1)) &&& ((nI n) - (nI 1))).toUInt32 >>> ((nI 8).toUInt32 &&& Int32.toUInt32 31)).toInt32) ≤ (nI 16))) && decide (¬ ((((((((nI n) ^^^ (-1)) &&& ((nI n) - (nI 1))).toUInt32 >>> ((nI 8).toUInt32 &&& Int32.toUInt32 31)).toInt32).toUInt32 >>> ((nI 4).toUInt32 &&& Int32.toUInt32 31)).toInt32) ≤ (nI 4)))) || decide (((nI 15) + (((((((((((nI n) ^^^ (-1)) &&& ((nI n) - (nI 1))).toUInt32 >>> ((nI 8).toUInt32 &&& Int32.toUInt32 31)).toInt32).toUInt32 >>> ((nI 4).toUInt32 &&& Int32.toUInt32 31)).toInt32).toUInt32 >>> ((nI 2).toUInt32 &&& Int32.toUInt32 31)).toInt32).toUInt32 >>> ((nI 1).toUInt32 &&& Int32.toUInt32 31)).toInt32)) = nI (ctz 8 n))) = true := by decide +kernel
theorem tz_leaf_8 : ∀ n, n < 256 → (!(decide (0 < n) && decide (0 < (((nI n) ^^^ (-1)) &&& ((nI n) - (nI 1)))) && decide (¬ ((((nI n) ^^^ (-1)) &&& ((nI n) - (nI 1))) ≤ 65536)) && decide ((((((nI n) ^^^ (-1)) &&& ((nI n) - (nI 1))).toUInt32 >>> ((nI 16).toUInt32 &&& Int32.toUInt32 31)).toInt32) ≤ (nI 256)) && decide ((((((nI n) ^^^ (-1)) &&& ((nI n) - (nI 1))).toUInt32 >>> ((nI 16).toUInt32 &&& Int32.toUInt32 31)).toInt32) ≤ (nI 16)) && decide ((((((nI n) ^^^ (-1)) &&& ((nI n) - (nI 1))).toUInt32 >>> ((nI 16).toUInt32 &&& Int32.toUInt32 31)).toInt32) ≤ (nI 4))) || decide (((nI 17) + (((((((nI n) ^^^ (-1)) &&& ((nI n) - (nI 1))).toUInt32 >>> ((nI 16).toUInt32 &&& Int32.toUInt32 31)).toInt32).toUInt32 >>> ((nI 1).toUInt32 &&& Int32.toUInt32 31)).toInt32)) = nI (ctz 8 n))) = true := by decide +kernel
theorem tz_leaf_9 : ∀ n, n < 256 → (!(decide (0 < n) && decide (0 < (((nI n) ^^^ (-1)) &&& ((nI n) - (nI 1)))) && decide (¬ ((((nI n) ^^^ (-1)) &&& ((nI n) - (nI 1))) ≤ 65536)) && decide ((((((nI n) ^^^ (-1)) &&& ((nI n) - (nI 1))).toUInt32 >>> ((nI 16).toUInt32 &&& Int32.toUInt32 31)).toInt32) ≤ (nI 256)) && decide ((((((nI n) ^^^ (-1)) &&& ((nI n) - (nI 1))).toUInt32 >>> ((nI 16).toUInt32 &&& Int32.toUInt32 31)).toInt32) ≤ (nI 16)) && decide (¬ ((((((nI n) ^^^ (-1)) &&& ((nI n) - (nI 1))).toUInt32 >>> ((nI 16).toUInt32 &&& Int32.toUInt32 31)).toInt32) ≤ (nI 4)))) || decide (((nI 19) + (((((((((nI n) ^^^ (-1)) &&& ((nI n) - (nI 1))).toUInt32 >>> ((nI 16).toUInt32 &&& Int32.toUInt32 31)).toInt32).toUInt32 >>> ((nI 2).toUInt32 &&& Int32.toUInt32 31)).toInt32).toUInt32 >>> ((nI 1).toUInt32 &&& Int32.toUInt32 31)).toInt32)) = nI (ctz 8 n))) = true := by decide +kernel
theorem tz_leaf_10 : ∀ n, n < 256 → (!(decide (0 < n) && decide (0 < (((nI n) ^^^ (-1)) &&& ((nI n) - (nI 1)))) && decide (¬ ((((nI n) ^^^ (-1)) &&& ((nI n) - (nI 1))) ≤ 65536)) && decide ((((((nI n) ^^^ (-1)) &&& ((nI n) - (nI 1))).toUInt32 >>> ((nI 16).toUInt32 &&& Int32.toUInt32 31)).toInt32) ≤ (nI 256)) && decide (¬ ((((((nI n) ^^^ (-1)) &&& ((nI n) - (nI 1))).toUInt32 >>> ((nI 16).toUInt32 &&& Int32.toUInt32 31)).toInt32) ≤ (nI 16))) && decide ((((((((nI n) ^^^ (-1)) &&& ((nI n) - (nI 1))).toUInt32 >>> ((nI 16).toUInt32 &&& Int32.toUInt32 31)).toInt32).toUInt32 >>> ((nI 4).toUInt32 &&& Int32.toUInt32 31)).toInt32) ≤ (nI 4))) || decide (((nI 21) + (((((((((nI n) ^^^ (-1)) &&& ((nI n) - (nI 1))).toUInt32 >>> ((nI 16).toUInt32 &&& Int32.toUInt32 31)).toInt32).toUInt32 >>> ((nI 4).toUInt32 &&& Int32.toUInt32 31)).toInt32).toUInt32 >>> ((nI 1).toUInt32 &&& Int32.toUInt32 31)).toInt32)) = nI (ctz 8 n))) = true := by decide +kernel
theorem tz_leaf_11 : ∀ n, n < 256 → (!(decide (0 < n) && decide (0 < (((nI n) ^^^ (-1)) &&& ((nI n) - (nI 1)))) && decide (¬ ((((nI n) ^^^ (-1)) &&& ((nI n) - (nI 1))) ≤ 65536)) && decide ((((((nI n) ^^^ (-1)) &&& ((nI n) - (nI 1))).toUInt32 >>> ((nI 16).toUInt32 &&& Int32.toUInt32 31)).toInt32) ≤ (nI 256)) && decide (¬ ((((((nI n) ^^^ (-1)) &&& ((nI n) - (nI 1))).toUInt32 >>> ((nI 16).toUInt32 &&& Int32.toUInt32 31)).toInt32) ≤ (nI 16))) && decide (¬ ((((((((nI n) ^^^ (-1)) &&& ((nI n) - (nI 1))).toUInt32 >>> ((nI 16).toUInt32 &&& Int32.toUInt32 31)).toInt32).toUInt32 >>> ((nI 4).toUInt32 &&& Int32.toUInt32 31)).toInt32) ≤ (nI 4)))) || decide (((nI 23) + (((((((((((nI n) ^^^ (-1)) &&& ((nI n) - (nI 1))).toUInt32 >>> ((nI 16).toUInt32 &&& Int32.toUInt32 31)).toInt32).toUInt32 >>> ((nI 4).toUInt32 &&& Int32.toUInt32 31)).toInt32).toUInt32 >>> ((nI 2).toUInt32 &&& Int32.toUInt32 31)).toInt32).toUInt32 >>> ((nI 1).toUInt32 &&& Int32.toUInt32 31)).toInt32)) = nI (ctz 8 n))) = true := by decide +kernel
theorem tz_leaf_12 : ∀ n, n < 256 → (!(decide (0 < n) && decide (0 < (((nI n) ^^^ (-1)) &&& ((nI n) - (nI 1)))) && decide (¬ ((((nI n) ^^^ (-1)) &&& ((nI n) - (nI 1))) ≤ 65536)) && decide (¬ ((((((nI n) ^^^ (-1)) &&& ((nI n) - (nI 1))).toUInt32 >>> ((nI 16).toUInt32 &&& Int32.toUInt32 31)).toInt32) ≤ (nI 256))) && decide ((((((((nI n) ^^^ (-1)) &&& ((nI n) - (nI 1))).toUInt32 >>> ((nI 16).toUInt32 &&& Int32.toUInt32 31)).toInt32).toUInt32 >>> ((nI 8).toUInt32 &&& Int32.toUInt32 31)).toInt32) ≤ (nI 16)) && decide ((((((((nI n) ^^^ (-1)) &&& ((nI n) - (nI 1))).toUInt32 >>> ((nI 16).toUInt32 &&& Int32.toUInt32 31)).toInt32).toUInt32 >>> ((nI 8).toUInt32 &&& Int32.toUInt32 31)).toInt32) ≤ (nI 4))) || decide (((nI 25) + (((((((((nI n) ^^^ (-1)) &&& ((nI n) - (nI 1))).toUInt32 >>> ((nI 16).toUInt32 &&& Int32.toUInt32 31)).toInt32).toUInt32 >>> ((nI 8).toUInt32 &&& Int32.toUInt32 31)).toInt32).toUInt32 >>> ((nI 1).toUInt32 &&& Int32.toUInt32 31)).toInt32)) = nI (ctz 8 n))) = true := by decide +kernel
theorem tz_leaf_13 : ∀ n, n < 256 → (!(decide (0 < n) && decide (0 < (((nI n) ^^^ (-1)) &&& ((nI n) - (nI 1)))) && decide (¬ ((((nI n) ^^^ (-1)) &&& ((nI n) - (nI 1))) ≤ 65536)) && decide (¬ ((((((nI n) ^^^ (-1)) &&& ((nI n) - (nI 1))).toUInt32 >>> ((nI 16).toUInt32 &&& Int32.toUInt32 31)).toInt32) ≤ (nI 256))) && decide ((((((((nI n) ^^^ (-1)) &&& ((nI n) - (nI 1))).toUInt32 >>> ((nI 16).toUInt32 &&& Int32.toUInt32 31)).toInt32).toUInt32 >>> ((nI 8).toUInt32 &&& Int32.toUInt32 31)).toInt32) ≤ (nI 16)) && decide (¬ ((((((((nI n) ^^^ (-1)) &&& ((nI n) - (nI 1))).toUInt32 >>> ((nI 16).toUInt32 &&& Int32.toUInt32 31)).toInt32).toUInt32 >>> ((nI 8).toUInt32 &&& Int32.toUInt32 31)).toInt32) ≤ (nI 4)))) || decide (((nI 27) + (((((((((((nI n) ^^^ (-1)) &&& ((nI n) - (nI 1))).toUInt32 >>> ((nI 16).toUInt32 &&& Int32.toUInt32 31)).toInt32).toUInt32 >>> ((nI 8).toUInt32 &&& Int32.toUInt32 31)).toInt32).toUInt32 >>> ((nI 2).toUInt32 &&& Int32.toUInt32 31)).toInt32).toUInt32 >>> ((nI 1).toUInt32 &&& Int32.toUInt32 31)).toInt32)) = nI (ctz 8 n))) = true := by decide +kernel
theorem tz_leaf_14 : ∀ n, n < 256 → (!(decide (0 < n) && decide (0 < (((nI n) ^^^ (-1)) &&& ((nI n) - (nI 1)))) && decide (¬ ((((nI n) ^^^ (-1)) &&& ((nI n) - (nI 1))) ≤ 65536)) && decide (¬ ((((((nI n) ^^^ (-1)) &&& ((nI n) - (nI 1))).toUInt32 >>> ((nI 16).toUInt32 &&& Int32.toUInt32 31)).toInt32) ≤ (nI 256))) && decide (¬ ((((((((nI n) ^^^ (-1)) &&& ((nI n) - (nI 1))).toUInt32 >>> ((nI 16).toUInt32 &&& Int32.toUInt32 31)).toInt32).toUInt32 >>> ((nI 8).toUInt32 &&& Int32.toUInt32 31)).toInt32) ≤ (nI 16))) && decide ((((((((((nI n) ^^^ (-1)) &&& ((nI n) - (nI 1))).toUInt32 >>> ((nI 16).toUInt32 &&& Int32.toUInt32 31)).toInt32).toUInt32 >>> ((nI 8).toUInt32 &&& Int32.toUInt32 31)).toInt32).toUInt32 >>> ((nI 4).toUInt32 &&& Int32.toUInt32 31)).toInt32) ≤ (nI 4))) || decide (((nI 29) + (((((((((((nI n) ^^^ (-1)) &&& ((nI n) - (nI 1))).toUInt32 >>> ((nI 16).toUInt32 &&& Int32.toUInt32 31)).toInt32).toUInt32 >>> ((nI 8).toUInt32 &&& Int32.toUInt32 31)).toInt32).toUInt32 >>> ((nI 4).toUInt32 &&& Int32.toUInt32 31)).toInt32).toUInt32 >>> ((nI 1).toUInt32 &&& Int32.toUInt32 31)).toInt32)) = nI (ctz 8 n))) = true := by decide +kernel
theorem tz_leaf_15 : ∀ n, n < 256 → (!(decide (0 < n) && decide (0 < (((nI n) ^^^ (-1)) &&& ((nI n) - (nI 1)))) && decide (¬ ((((nI n) ^^^ (-1)) &&& ((nI n) - (nI 1))) ≤ 65536)) && decide (¬ ((((((nI n) ^^^ (-1)) &&& ((nI n) - (nI 1))).toUInt32 >>> ((nI 16).toUInt32 &&& Int32.toUInt32 31)).toInt32) ≤ (nI 256))) && decide (¬ ((((((((nI n) ^^^ (-1)) &&& ((nI n) - (nI 1))).toUInt32 >>> ((nI 16).toUInt32 &&& Int32.toUInt32 31)).toInt32).toUInt32 >>> ((nI 8).toUInt32 &&& Int32.toUInt32 31)).toInt32) ≤ (nI 16))) && decide (¬ ((((((((((nI n) ^^^ (-1)) &&& ((nI n) - (nI 1))).toUInt32 >>> ((nI 16).toUInt32 &&& Int32.toUInt32 31)).toInt32).toUInt32 >>> ((nI 8).toUInt32 &&& Int32.toUInt32 31)).toInt32).toUInt32 >>> ((nI 4).toUInt32 &&& Int32.toUInt32 31)).toInt32) ≤ (nI 4)))) || decide (((nI 31) + (((((((((((((nI n) ^^^ (-1)) &&& ((nI n) - (nI 1))).toUInt32 >>> ((nI 16).toUInt32 &&& Int32.toUInt32 31)).toInt32).toUInt32 >>> ((nI 8).toUInt32 &&& Int32.toUInt32 31)).toInt32).toUInt32 >>> ((nI 4).toUInt32 &&& Int32.toUInt32 31)).toInt32).toUInt32 >>> ((nI 2).toUInt32 &&& Int32.toUInt32 31)).toInt32).toUInt32 >>> ((nI 1).toUInt32 &&& Int32.toUInt32 31)).toInt32)) = nI (ctz 8 n))) = true := by decide +kernel
theorem tz_leaf_16 : ∀ n, n < 256 → (!(decide (0 < n) && decide (¬ (0 < (((nI n) ^^^ (-1)) &&& ((nI n) - (nI 1)))))) || decide (((((nI n) ^^^ (-1)) &&& ((nI n) - (nI 1))) &&& (nI 32)) = nI (ctz 8 n))) = true := by decide +kernel
set_option maxRecDepth 20000 in
set_option maxHeartbeats 4000000 in
theorem cc_Int_tz {h : px_H} {n : Nat}  (p0 : n < 256) (p1 : 0 < n) : px_wp 206 [.int (nI n)] h (fun h1 r => r = some (.int (nI (ctz 8 n))) ∧ h1 = h) := by
  show px_to 206 0 [some (.int (nI n)), none] [] h _
  refine e_iload_n f_206_0 rfl rfl ?_
  refine e_iconst (v := (-1)) f_206_1 (by decide) rfl ?_
  refine e_ixor (z := (nI n) ^^^ (-1)) f_206_2 rfl rfl ?_
  refine e_iload_n f_206_3 rfl rfl ?_
  refine e_iconst (v := nI 1) f_206_4 (by decide) rfl ?_
  refine e_isub (z := (nI n) - (nI 1)) f_206_5 rfl rfl ?_
  refine e_iand (z := ((nI n) ^^^ (-1)) &&& ((nI n) - (nI 1))) f_206_6 rfl rfl ?_
  refine e_istore_n (L' := [some (.int (((nI n) ^^^ (-1)) &&& ((nI n) - (nI 1)))), none]) f_206_7 (Nat.le_of_ble_eq_true rfl) rfl rfl ?_
  refine e_iload_n f_206_8 rfl rfl ?_
  refine e_if_gt f_206_9 rfl (fun c_9 => ?_) (fun c_9 => ?_)
  · skip
    refine e_iconst (v := nI 1) f_206_17 (by decide) rfl ?_
    refine e_istore_n (L' := [some (.int (((nI n) ^^^ (-1)) &&& ((nI n) - (nI 1)))), some (.int (nI 1))]) f_206_18 (Nat.le_of_ble_eq_true rfl) rfl rfl ?_
    refine e_iload_n f_206_19 rfl rfl ?_
    refine e_ldcw f_206_20 rfl ?_
    refine e_icmp_le f_206_23 rfl (fun c_23 => ?_) (fun c_23 => ?_)
    · skip
      refine e_iload_n f_206_34 rfl rfl ?_
      refine e_sipush (v := nI 256) f_206_35 (by decide) rfl ?_
      refine e_icmp_le f_206_38 rfl (fun c_38 => ?_) (fun c_38 => ?_)
      · skip
        refine e_iload_n f_206_49 rfl rfl ?_
        refine e_bipush (v := nI 16) f_206_50 (by decide) rfl ?_
        refine e_icmp_le f_206_52 rfl (fun c_52 => ?_) (fun c_52 => ?_)
        · skip
          refine e_iload_n f_206_62 rfl rfl ?_
          refine e_iconst (v := nI 4) f_206_63 (by decide) rfl ?_
          refine e_icmp_le f_206_64 rfl (fun c_64 => ?_) (fun c_64 => ?_)
          · skip
            refine e_iload_n f_206_74 rfl rfl ?_
            refine e_iload_n f_206_75 rfl rfl ?_
            refine e_iconst (v := nI 1) f_206_76 (by decide) rfl ?_
            refine e_iushr (z := ((((nI n) ^^^ (-1)) &&& ((nI n) - (nI 1))).toUInt32 >>> ((nI 1).toUInt32 &&& Int32.toUInt32 31)).toInt32) f_206_77 rfl rfl ?_
            refine e_iadd (z := (nI 1) + (((((nI n) ^^^ (-1)) &&& ((nI n) - (nI 1))).toUInt32 >>> ((nI 1).toUInt32 &&& Int32.toUInt32 31)).toInt32)) f_206_78 rfl rfl ?_
            refine e_iret f_206_79 rfl (rfl) ?_
            exact ⟨congrArg (fun z => some (Value.int z)) (Classical.byContradiction (fun e => by have z := tz_leaf_0 n p0; rw [decide_eq_true p1, decide_eq_true c_9, decide_eq_true c_23, decide_eq_true c_38, decide_eq_true c_52, decide_eq_true c_64, decide_eq_false e] at z; exact absurd z (by decide))), rfl⟩
          · skip
            refine e_iinc (y := nI 3) (L' := [some (.int (((nI n) ^^^ (-1)) &&& ((nI n) - (nI 1)))), some (.int (nI 3))]) f_206_67 rfl (by rw [show Int32.ofInt 2 = nI 2 by decide]; exact (nI_add _ _).trans (congrArg nI (by omega))) rfl rfl ?_
            refine e_iload_n f_206_70 rfl rfl ?_
            refine e_iconst (v := nI 2) f_206_71 (by decide) rfl ?_
            refine e_iushr (z := ((((nI n) ^^^ (-1)) &&& ((nI n) - (nI 1))).toUInt32 >>> ((nI 2).toUInt32 &&& Int32.toUInt32 31)).toInt32) f_206_72 rfl rfl ?_
            refine e_istore_n (L' := [some (.int (((((nI n) ^^^ (-1)) &&& ((nI n) - (nI 1))).toUInt32 >>> ((nI 2).toUInt32 &&& Int32.toUInt32 31)).toInt32)), some (.int (nI 3))]) f_206_73 (Nat.le_of_ble_eq_true rfl) rfl rfl ?_
            refine e_iload_n f_206_74 rfl rfl ?_
            refine e_iload_n f_206_75 rfl rfl ?_
            refine e_iconst (v := nI 1) f_206_76 (by decide) rfl ?_
            refine e_iushr (z := ((((((nI n) ^^^ (-1)) &&& ((nI n) - (nI 1))).toUInt32 >>> ((nI 2).toUInt32 &&& Int32.toUInt32 31)).toInt32).toUInt32 >>> ((nI 1).toUInt32 &&& Int32.toUInt32 31)).toInt32) f_206_77 rfl rfl ?_
            refine e_iadd (z := (nI 3) + (((((((nI n) ^^^ (-1)) &&& ((nI n) - (nI 1))).toUInt32 >>> ((nI 2).toUInt32 &&& Int32.toUInt32 31)).toInt32).toUInt32 >>> ((nI 1).toUInt32 &&& Int32.toUInt32 31)).toInt32)) f_206_78 rfl rfl ?_
            refine e_iret f_206_79 rfl (rfl) ?_
            exact ⟨congrArg (fun z => some (Value.int z)) (Classical.byContradiction (fun e => by have z := tz_leaf_1 n p0; rw [decide_eq_true p1, decide_eq_true c_9, decide_eq_true c_23, decide_eq_true c_38, decide_eq_true c_52, decide_eq_true c_64, decide_eq_false e] at z; exact absurd z (by decide))), rfl⟩
        · skip
          refine e_iinc (y := nI 5) (L' := [some (.int (((nI n) ^^^ (-1)) &&& ((nI n) - (nI 1)))), some (.int (nI 5))]) f_206_55 rfl (by rw [show Int32.ofInt 4 = nI 4 by decide]; exact (nI_add _ _).trans (congrArg nI (by omega))) rfl rfl ?_
          refine e_iload_n f_206_58 rfl rfl ?_
          refine e_iconst (v := nI 4) f_206_59 (by decide) rfl ?_
          refine e_iushr (z := ((((nI n) ^^^ (-1)) &&& ((nI n) - (nI 1))).toUInt32 >>> ((nI 4).toUInt32 &&& Int32.toUInt32 31)).toInt32) f_206_60 rfl rfl ?_
          refine e_istore_n (L' := [some (.int (((((nI n) ^^^ (-1)) &&& ((nI n) - (nI 1))).toUInt32 >>> ((nI 4).toUInt32 &&& Int32.toUInt32 31)).toInt32)), some (.int (nI 5))]) f_206_61 (Nat.le_of_ble_eq_true rfl) rfl rfl ?_
          refine e_iload_n f_206_62 rfl rfl ?_
          refine e_iconst (v := nI 4) f_206_63 (by decide) rfl ?_
          refine e_icmp_le f_206_64 rfl (fun c_64 => ?_) (fun c_64 => ?_)
          · skip
            refine e_iload_n f_206_74 rfl rfl ?_
            refine e_iload_n f_206_75 rfl rfl ?_
            refine e_iconst (v := nI 1) f_206_76 (by decide) rfl ?_
            refine e_iushr (z := ((((((nI n) ^^^ (-1)) &&& ((nI n) - (nI 1))).toUInt32 >>> ((nI 4).toUInt32 &&& Int32.toUInt32 31)).toInt32).toUInt32 >>> ((nI 1).toUInt32 &&& Int32.toUInt32 31)).toInt32) f_206_77 rfl rfl ?_
            refine e_iadd (z := (nI 5) + (((((((nI n) ^^^ (-1)) &&& ((nI n) - (nI 1))).toUInt32 >>> ((nI 4).toUInt32 &&& Int32.toUInt32 31)).toInt32).toUInt32 >>> ((nI 1).toUInt32 &&& Int32.toUInt32 31)).toInt32)) f_206_78 rfl rfl ?_
            refine e_iret f_206_79 rfl (rfl) ?_
            exact ⟨congrArg (fun z => some (Value.int z)) (Classical.byContradiction (fun e => by have z := tz_leaf_2 n p0; rw [decide_eq_true p1, decide_eq_true c_9, decide_eq_true c_23, decide_eq_true c_38, decide_eq_true c_52, decide_eq_true c_64, decide_eq_false e] at z; exact absurd z (by decide))), rfl⟩
          · skip
            refine e_iinc (y := nI 7) (L' := [some (.int (((((nI n) ^^^ (-1)) &&& ((nI n) - (nI 1))).toUInt32 >>> ((nI 4).toUInt32 &&& Int32.toUInt32 31)).toInt32)), some (.int (nI 7))]) f_206_67 rfl (by rw [show Int32.ofInt 2 = nI 2 by decide]; exact (nI_add _ _).trans (congrArg nI (by omega))) rfl rfl ?_
            refine e_iload_n f_206_70 rfl rfl ?_
            refine e_iconst (v := nI 2) f_206_71 (by decide) rfl ?_
            refine e_iushr (z := ((((((nI n) ^^^ (-1)) &&& ((nI n) - (nI 1))).toUInt32 >>> ((nI 4).toUInt32 &&& Int32.toUInt32 31)).toInt32).toUInt32 >>> ((nI 2).toUInt32 &&& Int32.toUInt32 31)).toInt32) f_206_72 rfl rfl ?_
            refine e_istore_n (L' := [some (.int (((((((nI n) ^^^ (-1)) &&& ((nI n) - (nI 1))).toUInt32 >>> ((nI 4).toUInt32 &&& Int32.toUInt32 31)).toInt32).toUInt32 >>> ((nI 2).toUInt32 &&& Int32.toUInt32 31)).toInt32)), some (.int (nI 7))]) f_206_73 (Nat.le_of_ble_eq_true rfl) rfl rfl ?_
            refine e_iload_n f_206_74 rfl rfl ?_
            refine e_iload_n f_206_75 rfl rfl ?_
            refine e_iconst (v := nI 1) f_206_76 (by decide) rfl ?_
            refine e_iushr (z := ((((((((nI n) ^^^ (-1)) &&& ((nI n) - (nI 1))).toUInt32 >>> ((nI 4).toUInt32 &&& Int32.toUInt32 31)).toInt32).toUInt32 >>> ((nI 2).toUInt32 &&& Int32.toUInt32 31)).toInt32).toUInt32 >>> ((nI 1).toUInt32 &&& Int32.toUInt32 31)).toInt32) f_206_77 rfl rfl ?_
            refine e_iadd (z := (nI 7) + (((((((((nI n) ^^^ (-1)) &&& ((nI n) - (nI 1))).toUInt32 >>> ((nI 4).toUInt32 &&& Int32.toUInt32 31)).toInt32).toUInt32 >>> ((nI 2).toUInt32 &&& Int32.toUInt32 31)).toInt32).toUInt32 >>> ((nI 1).toUInt32 &&& Int32.toUInt32 31)).toInt32)) f_206_78 rfl rfl ?_
            refine e_iret f_206_79 rfl (rfl) ?_
            exact ⟨congrArg (fun z => some (Value.int z)) (Classical.byContradiction (fun e => by have z := tz_leaf_3 n p0; rw [decide_eq_true p1, decide_eq_true c_9, decide_eq_true c_23, decide_eq_true c_38, decide_eq_true c_52, decide_eq_true c_64, decide_eq_false e] at z; exact absurd z (by decide))), rfl⟩
      · skip
        refine e_iinc (y := nI 9) (L' := [some (.int (((nI n) ^^^ (-1)) &&& ((nI n) - (nI 1)))), some (.int (nI 9))]) f_206_41 rfl (by rw [show Int32.ofInt 8 = nI 8 by decide]; exact (nI_add _ _).trans (congrArg nI (by omega))) rfl rfl ?_
        refine e_iload_n f_206_44 rfl rfl ?_
        refine e_bipush (v := nI 8) f_206_45 (by decide) rfl ?_
        refine e_iushr (z := ((((nI n) ^^^ (-1)) &&& ((nI n) - (nI 1))).toUInt32 >>> ((nI 8).toUInt32 &&& Int32.toUInt32 31)).toInt32) f_206_47 rfl rfl ?_
        refine e_istore_n (L' := [some (.int (((((nI n) ^^^ (-1)) &&& ((nI n) - (nI 1))).toUInt32 >>> ((nI 8).toUInt32 &&& Int32.toUInt32 31)).toInt32)), some (.int (nI 9))]) f_206_48 (Nat.le_of_ble_eq_true rfl) rfl rfl ?_
        refine e_iload_n f_206_49 rfl rfl ?_
        refine e_bipush (v := nI 16) f_206_50 (by decide) rfl ?_
        refine e_icmp_le f_206_52 rfl (fun c_52 => ?_) (fun c_52 => ?_)
        · skip
          refine e_iload_n f_206_62 rfl rfl ?_
          refine e_iconst (v := nI 4) f_206_63 (by decide) rfl ?_
          refine e_icmp_le f_206_64 rfl (fun c_64 => ?_) (fun c_64 => ?_)
          · skip
            refine e_iload_n f_206_74 rfl rfl ?_
            refine e_iload_n f_206_75 rfl rfl ?_
            refine e_iconst (v := nI 1) f_206_76 (by decide) rfl ?_
            refine e_iushr (z := ((((((nI n) ^^^ (-1)) &&& ((nI n) - (nI 1))).toUInt32 >>> ((nI 8).toUInt32 &&& Int32.toUInt32 31)).toInt32).toUInt32 >>> ((nI 1).toUInt32 &&& Int32.toUInt32 31)).toInt32) f_206_77 rfl rfl ?_
            refine e_iadd (z := (nI 9) + (((((((nI n) ^^^ (-1)) &&& ((nI n) - (nI 1))).toUInt32 >>> ((nI 8).toUInt32 &&& Int32.toUInt32 31)).toInt32).toUInt32 >>> ((nI 1).toUInt32 &&& Int32.toUInt32 31)).toInt32)) f_206_78 rfl rfl ?_
            refine e_iret f_206_79 rfl (rfl) ?_
            exact ⟨congrArg (fun z => some (Value.int z)) (Classical.byContradiction (fun e => by have z := tz_leaf_4 n p0; rw [decide_eq_true p1, decide_eq_true c_9, decide_eq_true c_23, decide_eq_true c_38, decide_eq_true c_52, decide_eq_true c_64, decide_eq_false e] at z; exact absurd z (by decide))), rfl⟩
          · skip
            refine e_iinc (y := nI 11) (L' := [some (.int (((((nI n) ^^^ (-1)) &&& ((nI n) - (nI 1))).toUInt32 >>> ((nI 8).toUInt32 &&& Int32.toUInt32 31)).toInt32)), some (.int (nI 11))]) f_206_67 rfl (by rw [show Int32.ofInt 2 = nI 2 by decide]; exact (nI_add _ _).trans (congrArg nI (by omega))) rfl rfl ?_
            refine e_iload_n f_206_70 rfl rfl ?_
            refine e_iconst (v := nI 2) f_206_71 (by decide) rfl ?_
            refine e_iushr (z := ((((((nI n) ^^^ (-1)) &&& ((nI n) - (nI 1))).toUInt32 >>> ((nI 8).toUInt32 &&& Int32.toUInt32 31)).toInt32).toUInt32 >>> ((nI 2).toUInt32 &&& Int32.toUInt32 31)).toInt32) f_206_72 rfl rfl ?_
            refine e_istore_n (L' := [some (.int (((((((nI n) ^^^ (-1)) &&& ((nI n) - (nI 1))).toUInt32 >>> ((nI 8).toUInt32 &&& Int32.toUInt32 31)).toInt32).toUInt32 >>> ((nI 2).toUInt32 &&& Int32.toUInt32 31)).toInt32)), some (.int (nI 11))]) f_206_73 (Nat.le_of_ble_eq_true rfl) rfl rfl ?_
            refine e_iload_n f_206_74 rfl rfl ?_
            refine e_iload_n f_206_75 rfl rfl ?_
            refine e_iconst (v := nI 1) f_206_76 (by decide) rfl ?_
            refine e_iushr (z := ((((((((nI n) ^^^ (-1)) &&& ((nI n) - (nI 1))).toUInt32 >>> ((nI 8).toUInt32 &&& Int32.toUInt32 31)).toInt32).toUInt32 >>> ((nI 2).toUInt32 &&& Int32.toUInt32 31)).toInt32).toUInt32 >>> ((nI 1).toUInt32 &&& Int32.toUInt32 31)).toInt32) f_206_77 rfl rfl ?_
            refine e_iadd (z := (nI 11) + (((((((((nI n) ^^^ (-1)) &&& ((nI n) - (nI 1))).toUInt32 >>> ((nI 8).toUInt32 &&& Int32.toUInt32 31)).toInt32).toUInt32 >>> ((nI 2).toUInt32 &&& Int32.toUInt32 31)).toInt32).toUInt32 >>> ((nI 1).toUInt32 &&& Int32.toUInt32 31)).toInt32)) f_206_78 rfl rfl ?_
            refine e_iret f_206_79 rfl (rfl) ?_
            exact ⟨congrArg (fun z => some (Value.int z)) (Classical.byContradiction (fun e => by have z := tz_leaf_5 n p0; rw [decide_eq_true p1, decide_eq_true c_9, decide_eq_true c_23, decide_eq_true c_38, decide_eq_true c_52, decide_eq_true c_64, decide_eq_false e] at z; exact absurd z (by decide))), rfl⟩
        · skip
          refine e_iinc (y := nI 13) (L' := [some (.int (((((nI n) ^^^ (-1)) &&& ((nI n) - (nI 1))).toUInt32 >>> ((nI 8).toUInt32 &&& Int32.toUInt32 31)).toInt32)), some (.int (nI 13))]) f_206_55 rfl (by rw [show Int32.ofInt 4 = nI 4 by decide]; exact (nI_add _ _).trans (congrArg nI (by omega))) rfl rfl ?_
          refine e_iload_n f_206_58 rfl rfl ?_
          refine e_iconst (v := nI 4) f_206_59 (by decide) rfl ?_
          refine e_iushr (z := ((((((nI n) ^^^ (-1)) &&& ((nI n) - (nI 1))).toUInt32 >>> ((nI 8).toUInt32 &&& Int32.toUInt32 31)).toInt32).toUInt32 >>> ((nI 4).toUInt32 &&& Int32.toUInt32 31)).toInt32) f_206_60 rfl rfl ?_
          refine e_istore_n (L' := [some (.int (((((((nI n) ^^^ (-1)) &&& ((nI n) - (nI 1))).toUInt32 >>> ((nI 8).toUInt32 &&& Int32.toUInt32 31)).toInt32).toUInt32 >>> ((nI 4).toUInt32 &&& Int32.toUInt32 31)).toInt32)), some (.int (nI 13))]) f_206_61 (Nat.le_of_ble_eq_true rfl) rfl rfl ?_
          refine e_iload_n f_206_62 rfl rfl ?_
          refine e_iconst (v := nI 4) f_206_63 (by decide) rfl ?_
          refine e_icmp_le f_206_64 rfl (fun c_64 => ?_) (fun c_64 => ?_)
          · skip
            refine e_iload_n f_206_74 rfl rfl ?_
            refine e_iload_n f_206_75 rfl rfl ?_
            refine e_iconst (v := nI 1) f_206_76 (by decide) rfl ?_
            refine e_iushr (z := ((((((((nI n) ^^^ (-1)) &&& ((nI n) - (nI 1))).toUInt32 >>> ((nI 8).toUInt32 &&& Int32.toUInt32 31)).toInt32).toUInt32 >>> ((nI 4).toUInt32 &&& Int32.toUInt32 31)).toInt32).toUInt32 >>> ((nI 1).toUInt32 &&& Int32.toUInt32 31)).toInt32) f_206_77 rfl rfl ?_
            refine e_iadd (z := (nI 13) + (((((((((nI n) ^^^ (-1)) &&& ((nI n) - (nI 1))).toUInt32 >>> ((nI 8).toUInt32 &&& Int32.toUInt32 31)).toInt32).toUInt32 >>> ((nI 4).toUInt32 &&& Int32.toUInt32 31)).toInt32).toUInt32 >>> ((nI 1).toUInt32 &&& Int32.toUInt32 31)).toInt32)) f_206_78 rfl rfl ?_
            refine e_iret f_206_79 rfl (rfl) ?_
            exact ⟨congrArg (fun z => some (Value.int z)) (Classical.byContradiction (fun e => by have z := tz_leaf_6 n p0; rw [decide_eq_true p1, decide_eq_true c_9, decide_eq_true c_23, decide_eq_true c_38, decide_eq_true c_52, decide_eq_true c_64, decide_eq_false e] at z; exact absurd z (by decide))), rfl⟩
          · skip
            refine e_iinc (y := nI 15) (L' := [some (.int (((((((nI n) ^^^ (-1)) &&& ((nI n) - (nI 1))).toUInt32 >>> ((nI 8).toUInt32 &&& Int32.toUInt32 31)).toInt32).toUInt32 >>> ((nI 4).toUInt32 &&& Int32.toUInt32 31)).toInt32)), some (.int (nI 15))]) f_206_67 rfl (by rw [show Int32.ofInt 2 = nI 2 by decide]; exact (nI_add _ _).trans (congrArg nI (by omega))) rfl rfl ?_
            refine e_iload_n f_206_70 rfl rfl ?_
            refine e_iconst (v := nI 2) f_206_71 (by decide) rfl ?_
            refine e_iushr (z := ((((((((nI n) ^^^ (-1)) &&& ((nI n) - (nI 1))).toUInt32 >>> ((nI 8).toUInt32 &&& Int32.toUInt32 31)).toInt32).toUInt32 >>> ((nI 4).toUInt32 &&& Int32.toUInt32 31)).toInt32).toUInt32 >>> ((nI 2).toUInt32 &&& Int32.toUInt32 31)).toInt32) f_206_72 rfl rfl ?_
            refine e_istore_n (L' := [some (.int (((((((((nI n) ^^^ (-1)) &&& ((nI n) - (nI 1))).toUInt32 >>> ((nI 8).toUInt32 &&& Int32.toUInt32 31)).toInt32).toUInt32 >>> ((nI 4).toUInt32 &&& Int32.toUInt32 31)).toInt32).toUInt32 >>> ((nI 2).toUInt32 &&& Int32.toUInt32 31)).toInt32)), some (.int (nI 15))]) f_206_73 (Nat.le_of_ble_eq_true rfl) rfl rfl ?_
            refine e_iload_n f_206_74 rfl rfl ?_
            refine e_iload_n f_206_75 rfl rfl ?_
            refine e_iconst (v := nI 1) f_206_76 (by decide) rfl ?_
            refine e_iushr (z := ((((((((((nI n) ^^^ (-1)) &&& ((nI n) - (nI 1))).toUInt32 >>> ((nI 8).toUInt32 &&& Int32.toUInt32 31)).toInt32).toUInt32 >>> ((nI 4).toUInt32 &&& Int32.toUInt32 31)).toInt32).toUInt32 >>> ((nI 2).toUInt32 &&& Int32.toUInt32 31)).toInt32).toUInt32 >>> ((nI 1).toUInt32 &&& Int32.toUInt32 31)).toInt32) f_206_77 rfl rfl ?_
            refine e_iadd (z := (nI 15) + (((((((((((nI n) ^^^ (-1)) &&& ((nI n) - (nI 1))).toUInt32 >>> ((nI 8).toUInt32 &&& Int32.toUInt32 31)).toInt32).toUInt32 >>> ((nI 4).toUInt32 &&& Int32.toUInt32 31)).toInt32).toUInt32 >>> ((nI 2).toUInt32 &&& Int32.toUInt32 31)).toInt32).toUInt32 >>> ((nI 1).toUInt32 &&& Int32.toUInt32 31)).toInt32)) f_206_78 rfl rfl ?_
            refine e_iret f_206_79 rfl (rfl) ?_
            exact ⟨congrArg (fun z => some (Value.int z)) (Classical.byContradiction (fun e => by have z := tz_leaf_7 n p0; rw [decide_eq_true p1, decide_eq_true c_9, decide_eq_true c_23, decide_eq_true c_38, decide_eq_true c_52, decide_eq_true c_64, decide_eq_false e] at z; exact absurd z (by decide))), rfl⟩
    · skip
      refine e_iinc (y := nI 17) (L' := [some (.int (((nI n) ^^^ (-1)) &&& ((nI n) - (nI 1)))), some (.int (nI 17))]) f_206_26 rfl (by rw [show Int32.ofInt 16 = nI 16 by decide]; exact (nI_add _ _).trans (congrArg nI (by omega))) rfl rfl ?_
      refine e_iload_n f_206_29 rfl rfl ?_
      refine e_bipush (v := nI 16) f_206_30 (by decide) rfl ?_
      refine e_iushr (z := ((((nI n) ^^^ (-1)) &&& ((nI n) - (nI 1))).toUInt32 >>> ((nI 16).toUInt32 &&& Int32.toUInt32 31)).toInt32) f_206_32 rfl rfl ?_
      refine e_istore_n (L' := [some (.int (((((nI n) ^^^ (-1)) &&& ((nI n) - (nI 1))).toUInt32 >>> ((nI 16).toUInt32 &&& Int32.toUInt32 31)).toInt32)), some (.int (nI 17))]) f_206_33 (Nat.le_of_ble_eq_true rfl) rfl rfl ?_
      refine e_iload_n f_206_34 rfl rfl ?_
      refine e_sipush (v := nI 256) f_206_35 (by decide) rfl ?_
      refine e_icmp_le f_206_38 rfl (fun c_38 => ?_) (fun c_38 => ?_)
      · skip
        refine e_iload_n f_206_49 rfl rfl ?_
        refine e_bipush (v := nI 16) f_206_50 (by decide) rfl ?_
        refine e_icmp_le f_206_52 rfl (fun c_52 => ?_) (fun c_52 => ?_)
        · skip
          refine e_iload_n f_206_62 rfl rfl ?_
          refine e_iconst (v := nI 4) f_206_63 (by decide) rfl ?_
          refine e_icmp_le f_206_64 rfl (fun c_64 => ?_) (fun c_64 => ?_)
          · skip
            refine e_iload_n f_206_74 rfl rfl ?_
            refine e_iload_n f_206_75 rfl rfl ?_
            refine e_iconst (v := nI 1) f_206_76 (by decide) rfl ?_
            refine e_iushr (z := ((((((nI n) ^^^ (-1)) &&& ((nI n) - (nI 1))).toUInt32 >>> ((nI 16).toUInt32 &&& Int32.toUInt32 31)).toInt32).toUInt32 >>> ((nI 1).toUInt32 &&& Int32.toUInt32 31)).toInt32) f_206_77 rfl rfl ?_
            refine e_iadd (z := (nI 17) + (((((((nI n) ^^^ (-1)) &&& ((nI n) - (nI 1))).toUInt32 >>> ((nI 16).toUInt32 &&& Int32.toUInt32 31)).toInt32).toUInt32 >>> ((nI 1).toUInt32 &&& Int32.toUInt32 31)).toInt32)) f_206_78 rfl rfl ?_
            refine e_iret f_206_79 rfl (rfl) ?_
            exact ⟨congrArg (fun z => some (Value.int z)) (Classical.byContradiction (fun e => by have z := tz_leaf_8 n p0; rw [decide_eq_true p1, decide_eq_true c_9, decide_eq_true c_23, decide_eq_true c_38, decide_eq_true c_52, decide_eq_true c_64, decide_eq_false e] at z; exact absurd z (by decide))), rfl⟩
          · skip
            refine e_iinc (y := nI 19) (L' := [some (.int (((((nI n) ^^^ (-1)) &&& ((nI n) - (nI 1))).toUInt32 >>> ((nI 16).toUInt32 &&& Int32.toUInt32 31)).toInt32)), some (.int (nI 19))]) f_206_67 rfl (by rw [show Int32.ofInt 2 = nI 2 by decide]; exact (nI_add _ _).trans (congrArg nI (by omega))) rfl rfl ?_
            refine e_iload_n f_206_70 rfl rfl ?_
            refine e_iconst (v := nI 2) f_206_71 (by decide) rfl ?_
            refine e_iushr (z := ((((((nI n) ^^^ (-1)) &&& ((nI n) - (nI 1))).toUInt32 >>> ((nI 16).toUInt32 &&& Int32.toUInt32 31)).toInt32).toUInt32 >>> ((nI 2).toUInt32 &&& Int32.toUInt32 31)).toInt32) f_206_72 rfl rfl ?_
            refine e_istore_n (L' := [some (.int (((((((nI n) ^^^ (-1)) &&& ((nI n) - (nI 1))).toUInt32 >>> ((nI 16).toUInt32 &&& Int32.toUInt32 31)).toInt32).toUInt32 >>> ((nI 2).toUInt32 &&& Int32.toUInt32 31)).toInt32)), some (.int (nI 19))]) f_206_73 (Nat.le_of_ble_eq_true rfl) rfl rfl ?_
            refine e_iload_n f_206_74 rfl rfl ?_
            refine e_iload_n f_206_75 rfl rfl ?_
            refine e_iconst (v := nI 1) f_206_76 (by decide) rfl ?_
            refine e_iushr (z := ((((((((nI n) ^^^ (-1)) &&& ((nI n) - (nI 1))).toUInt32 >>> ((nI 16).toUInt32 &&& Int32.toUInt32 31)).toInt32).toUInt32 >>> ((nI 2).toUInt32 &&& Int32.toUInt32 31)).toInt32).toUInt32 >>> ((nI 1).toUInt32 &&& Int32.toUInt32 31)).toInt32) f_206_77 rfl rfl ?_
            refine e_iadd (z := (nI 19) + (((((((((nI n) ^^^ (-1)) &&& ((nI n) - (nI 1))).toUInt32 >>> ((nI 16).toUInt32 &&& Int32.toUInt32 31)).toInt32).toUInt32 >>> ((nI 2).toUInt32 &&& Int32.toUInt32 31)).toInt32).toUInt32 >>> ((nI 1).toUInt32 &&& Int32.toUInt32 31)).toInt32)) f_206_78 rfl rfl ?_
            refine e_iret f_206_79 rfl (rfl) ?_
            exact ⟨congrArg (fun z => some (Value.int z)) (Classical.byContradiction (fun e => by have z := tz_leaf_9 n p0; rw [decide_eq_true p1, decide_eq_true c_9, decide_eq_true c_23, decide_eq_true c_38, decide_eq_true c_52, decide_eq_true c_64, decide_eq_false e] at z; exact absurd z (by decide))), rfl⟩
        · skip
          refine e_iinc (y := nI 21) (L' := [some (.int (((((nI n) ^^^ (-1)) &&& ((nI n) - (nI 1))).toUInt32 >>> ((nI 16).toUInt32 &&& Int32.toUInt32 31)).toInt32)), some (.int (nI 21))]) f_206_55 rfl (by rw [show Int32.ofInt 4 = nI 4 by decide]; exact (nI_add _ _).trans (congrArg nI (by omega))) rfl rfl ?_
          refine e_iload_n f_206_58 rfl rfl ?_
          refine e_iconst (v := nI 4) f_206_59 (by decide) rfl ?_
          refine e_iushr (z := ((((((nI n) ^^^ (-1)) &&& ((nI n) - (nI 1))).toUInt32 >>> ((nI 16).toUInt32 &&& Int32.toUInt32 31)).toInt32).toUInt32 >>> ((nI 4).toUInt32 &&& Int32.toUInt32 31)).toInt32) f_206_60 rfl rfl ?_
          refine e_istore_n (L' := [some (.int (((((((nI n) ^^^ (-1)) &&& ((nI n) - (nI 1))).toUInt32 >>> ((nI 16).toUInt32 &&& Int32.toUInt32 31)).toInt32).toUInt32 >>> ((nI 4).toUInt32 &&& Int32.toUInt32 31)).toInt32)), some (.int (nI 21))]) f_206_61 (Nat.le_of_ble_eq_true rfl) rfl rfl ?_
          refine e_iload_n f_206_62 rfl rfl ?_
          refine e_iconst (v := nI 4) f_206_63 (by decide) rfl ?_
          refine e_icmp_le f_206_64 rfl (fun c_64 => ?_) (fun c_64 => ?_)
          · skip
            refine e_iload_n f_206_74 rfl rfl ?_
            refine e_iload_n f_206_75 rfl rfl ?_
            refine e_iconst (v := nI 1) f_206_76 (by decide) rfl ?_
            refine e_iushr (z := ((((((((nI n) ^^^ (-1)) &&& ((nI n) - (nI 1))).toUInt32 >>> ((nI 16).toUInt32 &&& Int32.toUInt32 31)).toInt32).toUInt32 >>> ((nI 4).toUInt32 &&& Int32.toUInt32 31)).toInt32).toUInt32 >>> ((nI 1).toUInt32 &&& Int32.toUInt32 31)).toInt32) f_206_77 rfl rfl ?_
            refine e_iadd (z := (nI 21) + (((((((((nI n) ^^^ (-1)) &&& ((nI n) - (nI 1))).toUInt32 >>> ((nI 16).toUInt32 &&& Int32.toUInt32 31)).toInt32).toUInt32 >>> ((nI 4).toUInt32 &&& Int32.toUInt32 31)).toInt32).toUInt32 >>> ((nI 1).toUInt32 &&& Int32.toUInt32 31)).toInt32)) f_206_78 rfl rfl ?_
            refine e_iret f_206_79 rfl (rfl) ?_
            exact ⟨congrArg (fun z => some (Value.int z)) (Classical.byContradiction (fun e => by have z := tz_leaf_10 n p0; rw [decide_eq_true p1, decide_eq_true c_9, decide_eq_true c_23, decide_eq_true c_38, decide_eq_true c_52, decide_eq_true c_64, decide_eq_false e] at z; exact absurd z (by decide))), rfl⟩
          · skip
            refine e_iinc (y := nI 23) (L' := [some (.int (((((((nI n) ^^^ (-1)) &&& ((nI n) - (nI 1))).toUInt32 >>> ((nI 16).toUInt32 &&& Int32.toUInt32 31)).toInt32).toUInt32 >>> ((nI 4).toUInt32 &&& Int32.toUInt32 31)).toInt32)), some (.int (nI 23))]) f_206_67 rfl (by rw [show Int32.ofInt 2 = nI 2 by decide]; exact (nI_add _ _).trans (congrArg nI (by omega))) rfl rfl ?_
            refine e_iload_n f_206_70 rfl rfl ?_
            refine e_iconst (v := nI 2) f_206_71 (by decide) rfl ?_
            refine e_iushr (z := ((((((((nI n) ^^^ (-1)) &&& ((nI n) - (nI 1))).toUInt32 >>> ((nI 16).toUInt32 &&& Int32.toUInt32 31)).toInt32).toUInt32 >>> ((nI 4).toUInt32 &&& Int32.toUInt32 31)).toInt32).toUInt32 >>> ((nI 2).toUInt32 &&& Int32.toUInt32 31)).toInt32) f_206_72 rfl rfl ?_
            refine e_istore_n (L' := [some (.int (((((((((nI n) ^^^ (-1)) &&& ((nI n) - (nI 1))).toUInt32 >>> ((nI 16).toUInt32 &&& Int32.toUInt32 31)).toInt32).toUInt32 >>> ((nI 4).toUInt32 &&& Int32.toUInt32 31)).toInt32).toUInt32 >>> ((nI 2).toUInt32 &&& Int32.toUInt32 31)).toInt32)), some (.int (nI 23))]) f_206_73 (Nat.le_of_ble_eq_true rfl) rfl rfl ?_
            refine e_iload_n f_206_74 rfl rfl ?_
            refine e_iload_n f_206_75 rfl rfl ?_
            refine e_iconst (v := nI 1) f_206_76 (by decide) rfl ?_
            refine e_iushr (z := ((((((((((nI n) ^^^ (-1)) &&& ((nI n) - (nI 1))).toUInt32 >>> ((nI 16).toUInt32 &&& Int32.toUInt32 31)).toInt32).toUInt32 >>> ((nI 4).toUInt32 &&& Int32.toUInt32 31)).toInt32).toUInt32 >>> ((nI 2).toUInt32 &&& Int32.toUInt32 31)).toInt32).toUInt32 >>> ((nI 1).toUInt32 &&& Int32.toUInt32 31)).toInt32) f_206_77 rfl rfl ?_
            refine e_iadd (z := (nI 23) + (((((((((((nI n) ^^^ (-1)) &&& ((nI n) - (nI 1))).toUInt32 >>> ((nI 16).toUInt32 &&& Int32.toUInt32 31)).toInt32).toUInt32 >>> ((nI 4).toUInt32 &&& Int32.toUInt32 31)).toInt32).toUInt32 >>> ((nI 2).toUInt32 &&& Int32.toUInt32 31)).toInt32).toUInt32 >>> ((nI 1).toUInt32 &&& Int32.toUInt32 31)).toInt32)) f_206_78 rfl rfl ?_
            refine e_iret f_206_79 rfl (rfl) ?_
            exact ⟨congrArg (fun z => some (Value.int z)) (Classical.byContradiction (fun e => by have z := tz_leaf_11 n p0; rw [decide_eq_true p1, decide_eq_true c_9, decide_eq_true c_23, decide_eq_true c_38, decide_eq_true c_52, decide_eq_true c_64, decide_eq_false e] at z; exact absurd z (by decide))), rfl⟩
      · skip
        refine e_iinc (y := nI 25) (L' := [some (.int (((((nI n) ^^^ (-1)) &&& ((nI n) - (nI 1))).toUInt32 >>> ((nI 16).toUInt32 &&& Int32.toUInt32 31)).toInt32)), some (.int (nI 25))]) f_206_41 rfl (by rw [show Int32.ofInt 8 = nI 8 by decide]; exact (nI_add _ _).trans (congrArg nI (by omega))) rfl rfl ?_
        refine e_iload_n f_206_44 rfl rfl ?_
        refine e_bipush (v := nI 8) f_206_45 (by decide) rfl ?_
        refine e_iushr (z := ((((((nI n) ^^^ (-1)) &&& ((nI n) - (nI 1))).toUInt32 >>> ((nI 16).toUInt32 &&& Int32.toUInt32 31)).toInt32).toUInt32 >>> ((nI 8).toUInt32 &&& Int32.toUInt32 31)).toInt32) f_206_47 rfl rfl ?_
        refine e_istore_n (L' := [some (.int (((((((nI n) ^^^ (-1)) &&& ((nI n) - (nI 1))).toUInt32 >>> ((nI 16).toUInt32 &&& Int32.toUInt32 31)).toInt32).toUInt32 >>> ((nI 8).toUInt32 &&& Int32.toUInt32 31)).toInt32)), some (.int (nI 25))]) f_206_48 (Nat.le_of_ble_eq_true rfl) rfl rfl ?_
        refine e_iload_n f_206_49 rfl rfl ?_
        refine e_bipush (v := nI 16) f_206_50 (by decide) rfl ?_
        refine e_icmp_le f_206_52 rfl (fun c_52 => ?_) (fun c_52 => ?_)
        · skip
          refine e_iload_n f_206_62 rfl rfl ?_
          refine e_iconst (v := nI 4) f_206_63 (by decide) rfl ?_
          refine e_icmp_le f_206_64 rfl (fun c_64 => ?_) (fun c_64 => ?_)
          · skip
            refine e_iload_n f_206_74 rfl rfl ?_
            refine e_iload_n f_206_75 rfl rfl ?_
            refine e_iconst (v := nI 1) f_206_76 (by decide) rfl ?_
            refine e_iushr (z := ((((((((nI n) ^^^ (-1)) &&& ((nI n) - (nI 1))).toUInt32 >>> ((nI 16).toUInt32 &&& Int32.toUInt32 31)).toInt32).toUInt32 >>> ((nI 8).toUInt32 &&& Int32.toUInt32 31)).toInt32).toUInt32 >>> ((nI 1).toUInt32 &&& Int32.toUInt32 31)).toInt32) f_206_77 rfl rfl ?_
            refine e_iadd (z := (nI 25) + (((((((((nI n) ^^^ (-1)) &&& ((nI n) - (nI 1))).toUInt32 >>> ((nI 16).toUInt32 &&& Int32.toUInt32 31)).toInt32).toUInt32 >>> ((nI 8).toUInt32 &&& Int32.toUInt32 31)).toInt32).toUInt32 >>> ((nI 1).toUInt32 &&& Int32.toUInt32 31)).toInt32)) f_206_78 rfl rfl ?_
            refine e_iret f_206_79 rfl (rfl) ?_
            exact ⟨congrArg (fun z => some (Value.int z)) (Classical.byContradiction (fun e => by have z := tz_leaf_12 n p0; rw [decide_eq_true p1, decide_eq_true c_9, decide_eq_true c_23, decide_eq_true c_38, decide_eq_true c_52, decide_eq_true c_64, decide_eq_false e] at z; exact absurd z (by decide))), rfl⟩
          · skip
            refine e_iinc (y := nI 27) (L' := [some (.int (((((((nI n) ^^^ (-1)) &&& ((nI n) - (nI 1))).toUInt32 >>> ((nI 16).toUInt32 &&& Int32.toUInt32 31)).toInt32).toUInt32 >>> ((nI 8).toUInt32 &&& Int32.toUInt32 31)).toInt32)), some (.int (nI 27))]) f_206_67 rfl (by rw [show Int32.ofInt 2 = nI 2 by decide]; exact (nI_add _ _).trans (congrArg nI (by omega))) rfl rfl ?_
            refine e_iload_n f_206_70 rfl rfl ?_
            refine e_iconst (v := nI 2) f_206_71 (by decide) rfl ?_
            refine e_iushr (z := ((((((((nI n) ^^^ (-1)) &&& ((nI n) - (nI 1))).toUInt32 >>> ((nI 16).toUInt32 &&& Int32.toUInt32 31)).toInt32).toUInt32 >>> ((nI 8).toUInt32 &&& Int32.toUInt32 31)).toInt32).toUInt32 >>> ((nI 2).toUInt32 &&& Int32.toUInt32 31)).toInt32) f_206_72 rfl rfl ?_
            refine e_istore_n (L' := [some (.int (((((((((nI n) ^^^ (-1)) &&& ((nI n) - (nI 1))).toUInt32 >>> ((nI 16).toUInt32 &&& Int32.toUInt32 31)).toInt32).toUInt32 >>> ((nI 8).toUInt32 &&& Int32.toUInt32 31)).toInt32).toUInt32 >>> ((nI 2).toUInt32 &&& Int32.toUInt32 31)).toInt32)), some (.int (nI 27))]) f_206_73 (Nat.le_of_ble_eq_true rfl) rfl rfl ?_
            refine e_iload_n f_206_74 rfl rfl ?_
            refine e_iload_n f_206_75 rfl rfl ?_
            refine e_iconst (v := nI 1) f_206_76 (by decide) rfl ?_
            refine e_iushr (z := ((((((((((nI n) ^^^ (-1)) &&& ((nI n) - (nI 1))).toUInt32 >>> ((nI 16).toUInt32 &&& Int32.toUInt32 31)).toInt32).toUInt32 >>> ((nI 8).toUInt32 &&& Int32.toUInt32 31)).toInt32).toUInt32 >>> ((nI 2).toUInt32 &&& Int32.toUInt32 31)).toInt32).toUInt32 >>> ((nI 1).toUInt32 &&& Int32.toUInt32 31)).toInt32) f_206_77 rfl rfl ?_
            refine e_iadd (z := (nI 27) + (((((((((((nI n) ^^^ (-1)) &&& ((nI n) - (nI 1))).toUInt32 >>> ((nI 16).toUInt32 &&& Int32.toUInt32 31)).toInt32).toUInt32 >>> ((nI 8).toUInt32 &&& Int32.toUInt32 31)).toInt32).toUInt32 >>> ((nI 2).toUInt32 &&& Int32.toUInt32 31)).toInt32).toUInt32 >>> ((nI 1).toUInt32 &&& Int32.toUInt32 31)).toInt32)) f_206_78 rfl rfl ?_
            refine e_iret f_206_79 rfl (rfl) ?_
            exact ⟨congrArg (fun z => some (Value.int z)) (Classical.byContradiction (fun e => by have z := tz_leaf_13 n p0; rw [decide_eq_true p1, decide_eq_true c_9, decide_eq_true c_23, decide_eq_true c_38, decide_eq_true c_52, decide_eq_true c_64, decide_eq_false e] at z; exact absurd z (by decide))), rfl⟩
        · skip
          refine e_iinc (y := nI 29) (L' := [some (.int (((((((nI n) ^^^ (-1)) &&& ((nI n) - (nI 1))).toUInt32 >>> ((nI 16).toUInt32 &&& Int32.toUInt32 31)).toInt32).toUInt32 >>> ((nI 8).toUInt32 &&& Int32.toUInt32 31)).toInt32)), some (.int (nI 29))]) f_206_55 rfl (by rw [show Int32.ofInt 4 = nI 4 by decide]; exact (nI_add _ _).trans (congrArg nI (by omega))) rfl rfl ?_
          refine e_iload_n f_206_58 rfl rfl ?_
          refine e_iconst (v := nI 4) f_206_59 (by decide) rfl ?_
          refine e_iushr (z := ((((((((nI n) ^^^ (-1)) &&& ((nI n) - (nI 1))).toUInt32 >>> ((nI 16).toUInt32 &&& Int32.toUInt32 31)).toInt32).toUInt32 >>> ((nI 8).toUInt32 &&& Int32.toUInt32 31)).toInt32).toUInt32 >>> ((nI 4).toUInt32 &&& Int32.toUInt32 31)).toInt32) f_206_60 rfl rfl ?_
          refine e_istore_n (L' := [some (.int (((((((((nI n) ^^^ (-1)) &&& ((nI n) - (nI 1))).toUInt32 >>> ((nI 16).toUInt32 &&& Int32.toUInt32 31)).toInt32).toUInt32 >>> ((nI 8).toUInt32 &&& Int32.toUInt32 31)).toInt32).toUInt32 >>> ((nI 4).toUInt32 &&& Int32.toUInt32 31)).toInt32)), some (.int (nI 29))]) f_206_61 (Nat.le_of_ble_eq_true rfl) rfl rfl ?_
          refine e_iload_n f_206_62 rfl rfl ?_
          refine e_iconst (v := nI 4) f_206_63 (by decide) rfl ?_
          refine e_icmp_le f_206_64 rfl (fun c_64 => ?_) (fun c_64 => ?_)
          · skip
            refine e_iload_n f_206_74 rfl rfl ?_
            refine e_iload_n f_206_75 rfl rfl ?_
            refine e_iconst (v := nI 1) f_206_76 (by decide) rfl ?_
            refine e_iushr (z := ((((((((((nI n) ^^^ (-1)) &&& ((nI n) - (nI 1))).toUInt32 >>> ((nI 16).toUInt32 &&& Int32.toUInt32 31)).toInt32).toUInt32 >>> ((nI 8).toUInt32 &&& Int32.toUInt32 31)).toInt32).toUInt32 >>> ((nI 4).toUInt32 &&& Int32.toUInt32 31)).toInt32).toUInt32 >>> ((nI 1).toUInt32 &&& Int32.toUInt32 31)).toInt32) f_206_77 rfl rfl ?_
            refine e_iadd (z := (nI 29) + (((((((((((nI n) ^^^ (-1)) &&& ((nI n) - (nI 1))).toUInt32 >>> ((nI 16).toUInt32 &&& Int32.toUInt32 31)).toInt32).toUInt32 >>> ((nI 8).toUInt32 &&& Int32.toUInt32 31)).toInt32).toUInt32 >>> ((nI 4).toUInt32 &&& Int32.toUInt32 31)).toInt32).toUInt32 >>> ((nI 1).toUInt32 &&& Int32.toUInt32 31)).toInt32)) f_206_78 rfl rfl ?_
            refine e_iret f_206_79 rfl (rfl) ?_
            exact ⟨congrArg (fun z => some (Value.int z)) (Classical.byContradiction (fun e => by have z := tz_leaf_14 n p0; rw [decide_eq_true p1, decide_eq_true c_9, decide_eq_true c_23, decide_eq_true c_38, decide_eq_true c_52, decide_eq_true c_64, decide_eq_false e] at z; exact absurd z (by decide))), rfl⟩
          · skip
            refine e_iinc (y := nI 31) (L' := [some (.int (((((((((nI n) ^^^ (-1)) &&& ((nI n) - (nI 1))).toUInt32 >>> ((nI 16).toUInt32 &&& Int32.toUInt32 31)).toInt32).toUInt32 >>> ((nI 8).toUInt32 &&& Int32.toUInt32 31)).toInt32).toUInt32 >>> ((nI 4).toUInt32 &&& Int32.toUInt32 31)).toInt32)), some (.int (nI 31))]) f_206_67 rfl (by rw [show Int32.ofInt 2 = nI 2 by decide]; exact (nI_add _ _).trans (congrArg nI (by omega))) rfl rfl ?_
            refine e_iload_n f_206_70 rfl rfl ?_
            refine e_iconst (v := nI 2) f_206_71 (by decide) rfl ?_
            refine e_iushr (z := ((((((((((nI n) ^^^ (-1)) &&& ((nI n) - (nI 1))).toUInt32 >>> ((nI 16).toUInt32 &&& Int32.toUInt32 31)).toInt32).toUInt32 >>> ((nI 8).toUInt32 &&& Int32.toUInt32 31)).toInt32).toUInt32 >>> ((nI 4).toUInt32 &&& Int32.toUInt32 31)).toInt32).toUInt32 >>> ((nI 2).toUInt32 &&& Int32.toUInt32 31)).toInt32) f_206_72 rfl rfl ?_
            refine e_istore_n (L' := [some (.int (((((((((((nI n) ^^^ (-1)) &&& ((nI n) - (nI 1))).toUInt32 >>> ((nI 16).toUInt32 &&& Int32.toUInt32 31)).toInt32).toUInt32 >>> ((nI 8).toUInt32 &&& Int32.toUInt32 31)).toInt32).toUInt32 >>> ((nI 4).toUInt32 &&& Int32.toUInt32 31)).toInt32).toUInt32 >>> ((nI 2).toUInt32 &&& Int32.toUInt32 31)).toInt32)), some (.int (nI 31))]) f_206_73 (Nat.le_of_ble_eq_true rfl) rfl rfl ?_
            refine e_iload_n f_206_74 rfl rfl ?_
            refine e_iload_n f_206_75 rfl rfl ?_
            refine e_iconst (v := nI 1) f_206_76 (by decide) rfl ?_
            refine e_iushr (z := ((((((((((((nI n) ^^^ (-1)) &&& ((nI n) - (nI 1))).toUInt32 >>> ((nI 16).toUInt32 &&& Int32.toUInt32 31)).toInt32).toUInt32 >>> ((nI 8).toUInt32 &&& Int32.toUInt32 31)).toInt32).toUInt32 >>> ((nI 4).toUInt32 &&& Int32.toUInt32 31)).toInt32).toUInt32 >>> ((nI 2).toUInt32 &&& Int32.toUInt32 31)).toInt32).toUInt32 >>> ((nI 1).toUInt32 &&& Int32.toUInt32 31)).toInt32) f_206_77 rfl rfl ?_
            refine e_iadd (z := (nI 31) + (((((((((((((nI n) ^^^ (-1)) &&& ((nI n) - (nI 1))).toUInt32 >>> ((nI 16).toUInt32 &&& Int32.toUInt32 31)).toInt32).toUInt32 >>> ((nI 8).toUInt32 &&& Int32.toUInt32 31)).toInt32).toUInt32 >>> ((nI 4).toUInt32 &&& Int32.toUInt32 31)).toInt32).toUInt32 >>> ((nI 2).toUInt32 &&& Int32.toUInt32 31)).toInt32).toUInt32 >>> ((nI 1).toUInt32 &&& Int32.toUInt32 31)).toInt32)) f_206_78 rfl rfl ?_
            refine e_iret f_206_79 rfl (rfl) ?_
            exact ⟨congrArg (fun z => some (Value.int z)) (Classical.byContradiction (fun e => by have z := tz_leaf_15 n p0; rw [decide_eq_true p1, decide_eq_true c_9, decide_eq_true c_23, decide_eq_true c_38, decide_eq_true c_52, decide_eq_true c_64, decide_eq_false e] at z; exact absurd z (by decide))), rfl⟩
  · skip
    refine e_iload_n f_206_12 rfl rfl ?_
    refine e_bipush (v := nI 32) f_206_13 (by decide) rfl ?_
    refine e_iand (z := (((nI n) ^^^ (-1)) &&& ((nI n) - (nI 1))) &&& (nI 32)) f_206_15 rfl rfl ?_
    refine e_iret f_206_16 rfl (rfl) ?_
    exact ⟨congrArg (fun z => some (Value.int z)) (Classical.byContradiction (fun e => by have z := tz_leaf_16 n p0; rw [decide_eq_true p1, decide_eq_true c_9, decide_eq_false e] at z; exact absurd z (by decide))), rfl⟩
