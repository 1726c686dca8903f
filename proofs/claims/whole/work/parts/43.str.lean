def pStr (h : px_H) (k : Nat) (bs : List Nat) : Prop := h.2.2 k = some (40, [.ref (k + 8), .int (nI 0)]) ∧ px_pa h (k + 8) 54 bs.length vN bs
theorem pStr_fi {h h1 : px_H} {k lo n : Nat} {bs : List Nat} (p : pStr h k bs) (f : px_fi lo n h h1) (d : k + 9 ≤ lo) : pStr h1 k bs := ⟨fi_at p.1 f (by omega), pa_fi p.2 f (by omega)⟩
/-- where a sign stands in a text -/
def ixf : List Nat → Nat → Nat → Int32
  | [], _, _ => -1
  | b :: r, c, i => if b = c then nI i else ixf r c (i + 1)
theorem i2b_id : ∀ c, c < 128 → (nI c).toInt8.toInt32 = nI c := by decide +kernel
theorem and255 : ∀ c, c < 128 → nI c &&& nI 255 = nI c := by decide +kernel
theorem i2c_idS : ∀ c, c < 128 → ((nI c).toUInt32 % 65536).toInt32 = nI c := by decide +kernel
theorem i2c_id {n : Nat} (h : n < 65536) : ((nI n).toUInt32 % 65536).toInt32 = nI n := by
  apply Int32.toBitVec_inj.mp
  show (BitVec.ofNat 32 n) % 65536 = BitVec.ofNat 32 n
  apply BitVec.eq_of_toNat_eq
  rw [BitVec.toNat_umod, BitVec.toNat_ofNat, Nat.mod_eq_of_lt (show n < 2 ^ 32 by omega)]
  exact Nat.mod_eq_of_lt h
theorem nw_ch {n : Nat} (h : n < 65536) : narrow .char (.int (nI n)) = .int (nI n) := congrArg Value.int (i2c_id h)
theorem shr0 (n : Nat) : nI n >>> (nI 0 &&& 31) = nI n := by
  apply Int32.toBitVec_inj.mp
  rw [Int32.toBitVec_shiftRight]
  show (BitVec.ofNat 32 n).sshiftRight' ((0 : BitVec 32).smod 32) = BitVec.ofNat 32 n
  rw [show (0 : BitVec 32).smod 32 = 0 by decide]
  exact BitVec.sshiftRight_zero

set_option maxRecDepth 20000 in
set_option maxHeartbeats 4000000 in
theorem cc_Str_coder {h : px_H} {k : Nat} {bs : List Nat} (H0 : pStr h k bs)  : px_wp 212 [.ref (k)] h (fun h1 r => r = some (.int (nI 0)) ∧ h1 = h) := by
  show px_to 212 0 [some (.ref (k))] [] h _
  refine e_gets f_212_0 (by decide) rfl ?_
  refine e_if_eq_f f_212_3 (by decide) rfl ?_
  refine e_aload_n f_212_6 rfl rfl ?_
  refine e_getf f_212_7 H0.1 rfl rfl ?_
  refine e_goto f_212_10 ?_
  refine e_iret f_212_14 rfl (rfl) ?_
  first | (exfalso; omega) | exact ⟨rfl, rfl⟩

set_option maxRecDepth 20000 in
set_option maxHeartbeats 4000000 in
theorem cc_Str_latin {h : px_H} {k : Nat} {bs : List Nat} (H0 : pStr h k bs)  : px_wp 213 [.ref (k)] h (fun h1 r => r = some (.int (nI 1)) ∧ h1 = h) := by
  show px_to 213 0 [some (.ref (k))] [] h _
  refine e_gets f_213_0 (by decide) rfl ?_
  refine e_if_eq_f f_213_3 (by decide) rfl ?_
  refine e_aload_n f_213_6 rfl rfl ?_
  refine e_getf f_213_7 H0.1 rfl rfl ?_
  refine e_if_ne_f f_213_10 (by decide) rfl ?_
  refine e_iconst (v := nI 1) f_213_13 (by decide) rfl ?_
  refine e_goto f_213_14 ?_
  refine e_iret f_213_18 rfl (rfl) ?_
  first | (exfalso; omega) | exact ⟨rfl, rfl⟩

set_option maxRecDepth 20000 in
set_option maxHeartbeats 4000000 in
theorem cc_Str_len {h : px_H} {k : Nat} {bs : List Nat} (H0 : pStr h k bs)  : px_wp 208 [.ref (k)] h (fun h1 r => r = some (.int (nI bs.length)) ∧ h1 = h) := by
  show px_to 208 0 [some (.ref (k))] [] h _
  refine e_aload_n f_208_0 rfl rfl ?_
  refine e_getf f_208_1 H0.1 rfl rfl ?_
  refine e_alen_p f_208_4 (Nat.le_of_ble_eq_true rfl) H0.2 rfl ?_
  refine e_aload_n f_208_5 rfl rfl ?_
  refine e_callV (As := []) (rest := [.int (nI bs.length)]) f_208_6 rfl rfl rfl (Nat.le_of_ble_eq_true rfl) (Nat.le_of_ble_eq_true rfl) H0.1 rfl (Nat.le_of_ble_eq_true rfl) (cc_Str_coder (k := k) (bs := bs) H0 ) rfl (fun h1 r2 q3 => ?_)
  obtain ⟨rfl, qe⟩ := q3
  have qe := qe.symm
  subst qe
  show px_to 208 9 [some (.ref (k))] [.int (nI 0), .int (nI bs.length)] h _
  refine e_ishr (z := nI bs.length) f_208_9 (shr0 _) rfl ?_
  refine e_iret f_208_10 rfl (rfl) ?_
  first | (exfalso; omega) | exact ⟨rfl, rfl⟩

set_option maxRecDepth 20000 in
set_option maxHeartbeats 4000000 in
theorem cc_Lat_can {h : px_H} {c : Nat}  (p0 : c < 128) : px_wp 216 [.int (nI c)] h (fun h1 r => r = some (.int (nI 1)) ∧ h1 = h) := by
  show px_to 216 0 [some (.int (nI c))] [] h _
  refine e_iload_n f_216_0 rfl rfl ?_
  refine e_if_lt_f f_216_1 (nI_pos (by omega)) rfl ?_
  refine e_iload_n f_216_4 rfl rfl ?_
  refine e_sipush (v := nI 255) f_216_5 (by decide) rfl ?_
  refine e_icmp_gt f_216_8 rfl (fun c_8 => ?_) (fun c_8 => ?_)
  · skip
    have c_8 : 255 < c := cv_lt (by omega) (by omega) c_8
    refine e_iconst (v := nI 0) f_216_15 (by decide) rfl ?_
    refine e_iret f_216_16 rfl (rfl) ?_
    first | (exfalso; omega) | exact ⟨rfl, rfl⟩
  · skip
    have c_8 : c ≤ 255 := cv_nlt (by omega) (by omega) c_8
    refine e_iconst (v := nI 1) f_216_11 (by decide) rfl ?_
    refine e_goto f_216_12 ?_
    refine e_iret f_216_16 rfl (rfl) ?_
    first | (exfalso; omega) | exact ⟨rfl, rfl⟩

set_option maxRecDepth 20000 in
set_option maxHeartbeats 4000000 in
theorem ll_Lat_ixc {P : px_H → Option Value → Prop} {h : px_H} {c : Nat} {res : Int32} {k : Nat} {bs : List Nat} (H0 : pStr h k bs) (p0 : c < 128) (p2 : ∀ b ∈ bs, b < 128) (hk : ∀ {r}, r = some (.int res) → P h r) : ∀ (d : Nat) (i : Nat), (bs.length ≤ i + d) → (i ≤ bs.length) → (ixf (bs.drop i) c i = res) → px_to 218 7 [some (.ref (k + 8)), some (.int (nI c)), some (.int (nI 0)), some (.int (nI bs.length)), some (.int (nI c)), some (.int (nI i))] [] h P := by
  intro d
  induction d using Nat.strongRecOn with
  | ind d ih =>
    intro i q0 q1 q2
    have lb := pa_L H0.2
    refine e_iload f_218_7 rfl rfl ?_
    refine e_iload_n f_218_9 rfl rfl ?_
    refine e_icmp_ge f_218_10 rfl (fun c_10 => ?_) (fun c_10 => ?_)
    · skip
      have c_10 : bs.length ≤ i := cv_le (by omega) (by omega) c_10
      refine e_iconst (v := (-1)) f_218_31 (by decide) rfl ?_
      refine e_iret f_218_32 rfl (rfl) ?_
      rw [List.drop_eq_nil_of_le (by omega), ixf] at q2
      exact hk (by rw [← q2])
    · skip
      have c_10 : i < bs.length := cv_nle (by omega) (by omega) c_10
      have hb := p2 _ (getD_mem 0 (show i < bs.length by omega))
      refine e_aload_n f_218_13 rfl rfl ?_
      refine e_iload f_218_14 rfl rfl ?_
      refine e_baload_p (xs := bs) f_218_16 H0.2 (d := 0) (by first | omega | (simp only [List.length_set]; omega)) rfl ?_
      show px_to 218 17 [some (.ref (k + 8)), some (.int (nI c)), some (.int (nI 0)), some (.int (nI bs.length)), some (.int (nI c)), some (.int (nI i))] [.int (nI (bs.getD i 0))] h _
      refine e_iload f_218_17 rfl rfl ?_
      refine e_icmp_ne f_218_19 rfl (fun c_19 => ?_) (fun c_19 => ?_)
      · skip
        have c_19 : bs.getD i 0 ≠ c := cv_ne c_19
        refine e_iinc (y := nI (i + 1)) (L' := [some (.ref (k + 8)), some (.int (nI c)), some (.int (nI 0)), some (.int (nI bs.length)), some (.int (nI c)), some (.int (nI (i + 1)))]) f_218_25 rfl (by rw [show Int32.ofInt 1 = nI 1 by decide]; exact (nI_add _ _)) rfl rfl ?_
        refine e_goto f_218_28 ?_
        first | (exfalso; omega) | exact ih (d - 1) (by omega) (i + 1)  (by omega) (by omega) (by rw [drop_step 0 (show i < bs.length by omega), ixf, if_neg c_19] at q2; exact q2)  
      · skip
        have c_19 : bs.getD i 0 = c := cv_nne (by omega) (by omega) c_19
        refine e_iload f_218_22 rfl rfl ?_
        refine e_iret f_218_24 rfl (rfl) ?_
        rw [drop_step 0 (show i < bs.length by omega), ixf, if_pos c_19] at q2
        exact hk (by rw [← q2])

set_option maxRecDepth 20000 in
set_option maxHeartbeats 4000000 in
theorem cc_Lat_ixc {h : px_H} {c e : Nat} {k : Nat} {bs : List Nat} (H0 : pStr h k bs) (p0 : c < 128) (p1 : e = bs.length) (p2 : ∀ b ∈ bs, b < 128) : px_wp 218 [.ref (k + 8), .int (nI c), .int (nI 0), .int (nI e)] h (fun h1 r => r = some (.int (ixf bs c 0)) ∧ h1 = h) := by
  show px_to 218 0 [some (.ref (k + 8)), some (.int (nI c)), some (.int (nI 0)), some (.int (nI e)), none, none] [] h _
  refine e_iload_n f_218_0 rfl rfl ?_
  refine e_i2b (z := nI c) f_218_1 (i2b_id _ (by omega)) rfl ?_
  refine e_istore (L' := [some (.ref (k + 8)), some (.int (nI c)), some (.int (nI 0)), some (.int (nI e)), some (.int (nI c)), none]) f_218_2 (Nat.le_of_ble_eq_true rfl) rfl rfl ?_
  refine e_iload_n f_218_4 rfl rfl ?_
  refine e_istore (L' := [some (.ref (k + 8)), some (.int (nI c)), some (.int (nI 0)), some (.int (nI e)), some (.int (nI c)), some (.int (nI 0))]) f_218_5 (Nat.le_of_ble_eq_true rfl) rfl rfl ?_
  subst p1
  exact ll_Lat_ixc H0 p0 p2 (fun e => ⟨e, rfl⟩) bs.length 0 (by omega) (by omega) rfl

set_option maxRecDepth 20000 in
set_option maxHeartbeats 4000000 in
theorem cc_Lat_ix {h : px_H} {c e : Nat} {k : Nat} {bs : List Nat} (H0 : pStr h k bs) (p0 : c < 128) (p1 : e = bs.length) (p2 : ∀ b ∈ bs, b < 128) (p3 : 0 < bs.length) : px_wp 217 [.ref (k + 8), .int (nI c), .int (nI 0), .int (nI e)] h (fun h1 r => r = some (.int (ixf bs c 0)) ∧ h1 = h) := by
  have lb := pa_L H0.2
  show px_to 217 0 [some (.ref (k + 8)), some (.int (nI c)), some (.int (nI 0)), some (.int (nI e))] [] h _
  refine e_iload_n f_217_0 rfl rfl ?_
  refine e_callS (As := [.int (nI c)]) (rest := []) f_217_1 rfl rfl rfl (Nat.le_of_ble_eq_true rfl) (Nat.le_of_ble_eq_true rfl) (cc_Lat_can (c := c)  (by omega)) rfl (fun h1 r2 q3 => ?_)
  obtain ⟨rfl, qe⟩ := q3
  have qe := qe.symm
  subst qe
  show px_to 217 4 [some (.ref (k + 8)), some (.int (nI c)), some (.int (nI 0)), some (.int (nI e))] [.int (nI 1)] h _
  refine e_if_ne_t f_217_4 (by decide) ?_
  refine e_iload_n f_217_9 rfl rfl ?_
  refine e_iconst (v := nI 0) f_217_10 (by decide) rfl ?_
  refine e_maxN f_217_11 (by omega) (by omega) (Nat.le_of_ble_eq_true rfl) rfl ?_
  refine e_istore_n (L' := [some (.ref (k + 8)), some (.int (nI c)), some (.int (nI (max 0 0))), some (.int (nI e))]) f_217_14 (Nat.le_of_ble_eq_true rfl) rfl rfl ?_
  refine e_iload_n f_217_15 rfl rfl ?_
  refine e_aload_n f_217_16 rfl rfl ?_
  refine e_alen_p f_217_17 (Nat.le_of_ble_eq_true rfl) H0.2 rfl ?_
  refine e_minN f_217_18 (by omega) (by omega) (Nat.le_of_ble_eq_true rfl) rfl ?_
  refine e_istore_n (L' := [some (.ref (k + 8)), some (.int (nI c)), some (.int (nI (max 0 0))), some (.int (nI (min e bs.length)))]) f_217_21 (Nat.le_of_ble_eq_true rfl) rfl rfl ?_
  refine e_iload_n f_217_22 rfl rfl ?_
  refine e_iload_n f_217_23 rfl rfl ?_
  rw [show max 0 0 = 0 from rfl]
  refine e_icmp_lt f_217_24 rfl (fun c_24 => ?_) (fun c_24 => ?_)
  · skip
    have c_24 : max 0 0 < min e bs.length := cv_lt (by omega) (by omega) c_24
    refine e_aload_n f_217_29 rfl rfl ?_
    refine e_iload_n f_217_30 rfl rfl ?_
    refine e_iload_n f_217_31 rfl rfl ?_
    refine e_iload_n f_217_32 rfl rfl ?_
    refine e_callS (As := [.ref (k + 8), .int (nI c), .int (nI 0), .int (nI (min e bs.length))]) (rest := []) f_217_33 rfl rfl rfl (Nat.le_of_ble_eq_true rfl) (Nat.le_of_ble_eq_true rfl) (cc_Lat_ixc (c := c) (e := min e bs.length) (k := k) (bs := bs) H0 (by omega) (by omega) (p2)) rfl (fun h4 r5 q6 => ?_)
    obtain ⟨rfl, qe⟩ := q6
    have qe := qe.symm
    subst qe
    show px_to 217 36 [some (.ref (k + 8)), some (.int (nI c)), some (.int (nI 0)), some (.int (nI (min e bs.length)))] [.int (ixf bs c 0)] h _
    refine e_iret f_217_36 rfl (rfl) ?_
    exact ⟨rfl, rfl⟩
  · skip
    have c_24 : min e bs.length ≤ max 0 0 := cv_nlt (by omega) (by omega) c_24
    refine e_iconst (v := (-1)) f_217_27 (by decide) rfl ?_
    refine e_iret f_217_28 rfl (rfl) ?_
    exfalso; omega

set_option maxRecDepth 20000 in
set_option maxHeartbeats 4000000 in
theorem cc_Str_ix2 {h : px_H} {c : Nat} {k : Nat} {bs : List Nat} (H0 : pStr h k bs) (p0 : c < 128) (p1 : ∀ b ∈ bs, b < 128) (p2 : 0 < bs.length) : px_wp 211 [.ref (k), .int (nI c), .int (nI 0)] h (fun h1 r => r = some (.int (ixf bs c 0)) ∧ h1 = h) := by
  show px_to 211 0 [some (.ref (k)), some (.int (nI c)), some (.int (nI 0))] [] h _
  refine e_aload_n f_211_0 rfl rfl ?_
  refine e_callV (As := []) (rest := []) f_211_1 rfl rfl rfl (Nat.le_of_ble_eq_true rfl) (Nat.le_of_ble_eq_true rfl) H0.1 rfl (Nat.le_of_ble_eq_true rfl) (cc_Str_latin (k := k) (bs := bs) H0 ) rfl (fun h1 r2 q3 => ?_)
  obtain ⟨rfl, qe⟩ := q3
  have qe := qe.symm
  subst qe
  show px_to 211 4 [some (.ref (k)), some (.int (nI c)), some (.int (nI 0))] [.int (nI 1)] h _
  refine e_if_eq_f f_211_4 (by decide) rfl ?_
  refine e_aload_n f_211_7 rfl rfl ?_
  refine e_getf f_211_8 H0.1 rfl rfl ?_
  refine e_iload_n f_211_11 rfl rfl ?_
  refine e_iload_n f_211_12 rfl rfl ?_
  refine e_aload_n f_211_13 rfl rfl ?_
  refine e_callV (As := []) (rest := [.int (nI 0), .int (nI c), .ref (k + 8)]) f_211_14 rfl rfl rfl (Nat.le_of_ble_eq_true rfl) (Nat.le_of_ble_eq_true rfl) H0.1 rfl (Nat.le_of_ble_eq_true rfl) (cc_Str_len (k := k) (bs := bs) H0 ) rfl (fun h4 r5 q6 => ?_)
  obtain ⟨rfl, qe⟩ := q6
  have qe := qe.symm
  subst qe
  show px_to 211 17 [some (.ref (k)), some (.int (nI c)), some (.int (nI 0))] [.int (nI bs.length), .int (nI 0), .int (nI c), .ref (k + 8)] h _
  refine e_callS (As := [.ref (k + 8), .int (nI c), .int (nI 0), .int (nI bs.length)]) (rest := []) f_211_17 rfl rfl rfl (Nat.le_of_ble_eq_true rfl) (Nat.le_of_ble_eq_true rfl) (cc_Lat_ix (c := c) (e := bs.length) (k := k) (bs := bs) H0 (by omega) (rfl) (p1) (by omega)) rfl (fun h7 r8 q9 => ?_)
  obtain ⟨rfl, qe⟩ := q9
  have qe := qe.symm
  subst qe
  show px_to 211 20 [some (.ref (k)), some (.int (nI c)), some (.int (nI 0))] [.int (ixf bs c 0)] h _
  refine e_goto f_211_20 ?_
  refine e_iret f_211_36 rfl (rfl) ?_
  first | (exfalso; omega) | exact ⟨rfl, rfl⟩

set_option maxRecDepth 20000 in
set_option maxHeartbeats 4000000 in
theorem cc_Str_ix {h : px_H} {c : Nat} {k : Nat} {bs : List Nat} (H0 : pStr h k bs) (p0 : c < 128) (p1 : ∀ b ∈ bs, b < 128) (p2 : 0 < bs.length) : px_wp 210 [.ref (k), .int (nI c)] h (fun h1 r => r = some (.int (ixf bs c 0)) ∧ h1 = h) := by
  show px_to 210 0 [some (.ref (k)), some (.int (nI c))] [] h _
  refine e_aload_n f_210_0 rfl rfl ?_
  refine e_iload_n f_210_1 rfl rfl ?_
  refine e_iconst (v := nI 0) f_210_2 (by decide) rfl ?_
  refine e_callV (As := [.int (nI c), .int (nI 0)]) (rest := []) f_210_3 rfl rfl rfl (Nat.le_of_ble_eq_true rfl) (Nat.le_of_ble_eq_true rfl) H0.1 rfl (Nat.le_of_ble_eq_true rfl) (cc_Str_ix2 (c := c) (k := k) (bs := bs) H0 (by omega) (p1) (by omega)) rfl (fun h1 r2 q3 => ?_)
  obtain ⟨rfl, qe⟩ := q3
  have qe := qe.symm
  subst qe
  show px_to 210 6 [some (.ref (k)), some (.int (nI c))] [.int (ixf bs c 0)] h _
  refine e_iret f_210_6 rfl (rfl) ?_
  first | (exfalso; omega) | exact ⟨rfl, rfl⟩

set_option maxRecDepth 20000 in
set_option maxHeartbeats 4000000 in
theorem cc_Pre_chk {h : px_H} {i n : Nat}  (p0 : i < n) (p1 : n < 2 ^ 31) : px_wp 219 [.int (nI i), .int (nI n), .retAddr (0)] h (fun h1 r => r = some (.int (nI i)) ∧ h1 = h) := by
  show px_to 219 0 [some (.int (nI i)), some (.int (nI n)), some (.retAddr (0))] [] h _
  refine e_iload_n f_219_0 rfl rfl ?_
  refine e_if_lt_f f_219_1 (nI_pos (by omega)) rfl ?_
  refine e_iload_n f_219_4 rfl rfl ?_
  refine e_iload_n f_219_5 rfl rfl ?_
  refine e_icmp_lt_t f_219_6 ((nI_ltI (by omega) (by omega)).mpr (by omega)) ?_
  refine e_iload_n f_219_16 rfl rfl ?_
  refine e_iret f_219_17 rfl (rfl) ?_
  first | (exfalso; omega) | exact ⟨rfl, rfl⟩

set_option maxRecDepth 20000 in
set_option maxHeartbeats 4000000 in
theorem cc_Str_chk {h : px_H} {i n : Nat}  (p0 : i < n) (p1 : n < 2 ^ 31) : px_wp 214 [.int (nI i), .int (nI n)] h (fun h1 r => r = none ∧ h1 = h) := by
  show px_to 214 0 [some (.int (nI i)), some (.int (nI n))] [] h _
  refine e_iload_n f_214_0 rfl rfl ?_
  refine e_iload_n f_214_1 rfl rfl ?_
  refine e_gets f_214_2 (by decide) rfl ?_
  refine e_callS (As := [.int (nI i), .int (nI n), .retAddr (0)]) (rest := []) f_214_5 rfl rfl rfl (Nat.le_of_ble_eq_true rfl) (Nat.le_of_ble_eq_true rfl) (cc_Pre_chk (i := i) (n := n)  (by omega) (by omega)) rfl (fun h1 r2 q3 => ?_)
  obtain ⟨rfl, qe⟩ := q3
  have qe := qe.symm
  subst qe
  show px_to 214 8 [some (.int (nI i)), some (.int (nI n))] [.int (nI i)] h _
  refine e_pop f_214_8 rfl rfl ?_
  refine e_vret f_214_9 rfl ?_
  first | (exfalso; omega) | exact ⟨rfl, rfl⟩

set_option maxRecDepth 20000 in
set_option maxHeartbeats 4000000 in
theorem cc_Lat_at {h : px_H} {i : Nat} {k : Nat} {bs : List Nat} (H0 : pStr h k bs) (p0 : i < bs.length) (p1 : ∀ b ∈ bs, b < 128) : px_wp 215 [.ref (k + 8), .int (nI i)] h (fun h1 r => r = some (.int (nI (bs.getD i 0))) ∧ h1 = h) := by
  have lb := pa_L H0.2
  have hb := p1 _ (getD_mem 0 p0)
  show px_to 215 0 [some (.ref (k + 8)), some (.int (nI i))] [] h _
  refine e_iload_n f_215_0 rfl rfl ?_
  refine e_aload_n f_215_1 rfl rfl ?_
  refine e_alen_p f_215_2 (Nat.le_of_ble_eq_true rfl) H0.2 rfl ?_
  refine e_callS (As := [.int (nI i), .int (nI bs.length)]) (rest := []) f_215_3 rfl rfl rfl (Nat.le_of_ble_eq_true rfl) (Nat.le_of_ble_eq_true rfl) (cc_Str_chk (i := i) (n := bs.length)  (by omega) (by omega)) rfl (fun h1 r2 q3 => ?_)
  obtain ⟨rfl, qe⟩ := q3
  have qe := qe.symm
  subst qe
  show px_to 215 6 [some (.ref (k + 8)), some (.int (nI i))] [] h _
  refine e_aload_n f_215_6 rfl rfl ?_
  refine e_iload_n f_215_7 rfl rfl ?_
  refine e_baload_p (xs := bs) f_215_8 H0.2 (d := 0) (by first | omega | (simp only [List.length_set]; omega)) rfl ?_
  show px_to 215 9 [some (.ref (k + 8)), some (.int (nI i))] [.int (nI (bs.getD i 0))] h _
  refine e_sipush (v := nI 255) f_215_9 (by decide) rfl ?_
  refine e_iand (z := nI (bs.getD i 0)) f_215_12 (and255 _ hb) rfl ?_
  refine e_i2c (z := nI (bs.getD i 0)) f_215_13 (i2c_idS _ hb) rfl ?_
  refine e_iret f_215_14 rfl (nw_ch (by omega)) ?_
  first | (exfalso; omega) | exact ⟨rfl, rfl⟩

set_option maxRecDepth 20000 in
set_option maxHeartbeats 4000000 in
theorem cc_Str_at {h : px_H} {i : Nat} {k : Nat} {bs : List Nat} (H0 : pStr h k bs) (p0 : i < bs.length) (p1 : ∀ b ∈ bs, b < 128) : px_wp 209 [.ref (k), .int (nI i)] h (fun h1 r => r = some (.int (nI (bs.getD i 0))) ∧ h1 = h) := by
  have hb := p1 _ (getD_mem 0 p0)
  show px_to 209 0 [some (.ref (k)), some (.int (nI i))] [] h _
  refine e_aload_n f_209_0 rfl rfl ?_
  refine e_callV (As := []) (rest := []) f_209_1 rfl rfl rfl (Nat.le_of_ble_eq_true rfl) (Nat.le_of_ble_eq_true rfl) H0.1 rfl (Nat.le_of_ble_eq_true rfl) (cc_Str_latin (k := k) (bs := bs) H0 ) rfl (fun h1 r2 q3 => ?_)
  obtain ⟨rfl, qe⟩ := q3
  have qe := qe.symm
  subst qe
  show px_to 209 4 [some (.ref (k)), some (.int (nI i))] [.int (nI 1)] h _
  refine e_if_eq_f f_209_4 (by decide) rfl ?_
  refine e_aload_n f_209_7 rfl rfl ?_
  refine e_getf f_209_8 H0.1 rfl rfl ?_
  refine e_iload_n f_209_11 rfl rfl ?_
  refine e_callS (As := [.ref (k + 8), .int (nI i)]) (rest := []) f_209_12 rfl rfl rfl (Nat.le_of_ble_eq_true rfl) (Nat.le_of_ble_eq_true rfl) (cc_Lat_at (i := i) (k := k) (bs := bs) H0 (p0) (p1)) rfl (fun h4 r5 q6 => ?_)
  obtain ⟨rfl, qe⟩ := q6
  have qe := qe.symm
  subst qe
  show px_to 209 15 [some (.ref (k)), some (.int (nI i))] [.int (nI (bs.getD i 0))] h _
  refine e_iret f_209_15 rfl (nw_ch (by omega)) ?_
  first | (exfalso; omega) | exact ⟨rfl, rfl⟩
