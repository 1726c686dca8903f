section RL
variable {m pc pc' : Nat} {L L' : px_L} {st : List Value} {h : px_H} {r : px_H × Option Value} {ln a0 b0 : Nat} {v0 : Value}
theorem e_iconst {n : Int} {v : Int32} (hf : px_at m pc = some (.iconst n, ln, a0, b0, v0)) (hv : Int32.ofInt n = v) (hp : pc + 1 = pc') (k : px_ev m pc' L (.int v :: st) h r) : px_ev m pc L (st) h r := ev_stk hf rfl (by rw [← hv]; rfl) hp k
theorem e_bipush {n : Int} {v : Int32} (hf : px_at m pc = some (.bipush n, ln, a0, b0, v0)) (hv : (Int8.ofInt n).toInt32 = v) (hp : pc + 2 = pc') (k : px_ev m pc' L (.int v :: st) h r) : px_ev m pc L (st) h r := ev_stk hf rfl (by rw [← hv]; rfl) hp k
theorem e_sipush {n : Int} {v : Int32} (hf : px_at m pc = some (.sipush n, ln, a0, b0, v0)) (hv : (Int16.ofInt n).toInt32 = v) (hp : pc + 3 = pc') (k : px_ev m pc' L (.int v :: st) h r) : px_ev m pc L (st) h r := ev_stk hf rfl (by rw [← hv]; rfl) hp k
theorem e_iload_n {i : Fin 4} {x : Int32} (hf : px_at m pc = some (.iload_n i, ln, a0, b0, v0)) (hl : L[i.val]? = some (some (.int x))) (hp : pc + 1 = pc') (k : px_ev m pc' L (.int x :: st) h r) : px_ev m pc L (st) h r := ev_stk hf rfl (by show px_ldi L i.val st = _; unfold px_ldi; rw [hl]) hp k
theorem e_iload {i : Nat} {x : Int32} (hf : px_at m pc = some (.iload i, ln, a0, b0, v0)) (hl : L[i]? = some (some (.int x))) (hp : pc + 2 = pc') (k : px_ev m pc' L (.int x :: st) h r) : px_ev m pc L (st) h r := ev_stk hf rfl (by show px_ldi L i st = _; unfold px_ldi; rw [hl]) hp k
theorem e_lload_n {i : Fin 4} {x : Int64} (hf : px_at m pc = some (.lload_n i, ln, a0, b0, v0)) (hl : L[i.val]? = some (some (.long x))) (hp : pc + 1 = pc') (k : px_ev m pc' L (.long x :: st) h r) : px_ev m pc L (st) h r := ev_stk hf rfl (by show px_ldl L i.val st = _; unfold px_ldl; rw [hl]) hp k
theorem e_lload {i : Nat} {x : Int64} (hf : px_at m pc = some (.lload i, ln, a0, b0, v0)) (hl : L[i]? = some (some (.long x))) (hp : pc + 2 = pc') (k : px_ev m pc' L (.long x :: st) h r) : px_ev m pc L (st) h r := ev_stk hf rfl (by show px_ldl L i st = _; unfold px_ldl; rw [hl]) hp k
theorem e_aload_n {i : Fin 4} {x : Nat} (hf : px_at m pc = some (.aload_n i, ln, a0, b0, v0)) (hl : L[i.val]? = some (some (.ref x))) (hp : pc + 1 = pc') (k : px_ev m pc' L (.ref x :: st) h r) : px_ev m pc L (st) h r := ev_stk hf rfl (by show px_lda L i.val st = _; unfold px_lda; rw [hl]) hp k
theorem e_aload {i : Nat} {x : Nat} (hf : px_at m pc = some (.aload i, ln, a0, b0, v0)) (hl : L[i]? = some (some (.ref x))) (hp : pc + 2 = pc') (k : px_ev m pc' L (.ref x :: st) h r) : px_ev m pc L (st) h r := ev_stk hf rfl (by show px_lda L i st = _; unfold px_lda; rw [hl]) hp k
theorem e_iadd {x y : Int32} (hf : px_at m pc = some (.iadd, ln, a0, b0, v0)) (hp : pc + 1 = pc') (k : px_ev m pc' L (.int (x + y) :: st) h r) : px_ev m pc L (.int y :: .int x :: st) h r := ev_stk hf rfl (rfl) hp k
theorem e_isub {x y : Int32} (hf : px_at m pc = some (.isub, ln, a0, b0, v0)) (hp : pc + 1 = pc') (k : px_ev m pc' L (.int (x - y) :: st) h r) : px_ev m pc L (.int y :: .int x :: st) h r := ev_stk hf rfl (rfl) hp k
theorem e_imul {x y : Int32} (hf : px_at m pc = some (.imul, ln, a0, b0, v0)) (hp : pc + 1 = pc') (k : px_ev m pc' L (.int (x * y) :: st) h r) : px_ev m pc L (.int y :: .int x :: st) h r := ev_stk hf rfl (rfl) hp k
theorem e_iand {x y : Int32} (hf : px_at m pc = some (.iand, ln, a0, b0, v0)) (hp : pc + 1 = pc') (k : px_ev m pc' L (.int (x &&& y) :: st) h r) : px_ev m pc L (.int y :: .int x :: st) h r := ev_stk hf rfl (rfl) hp k
theorem e_ior {x y : Int32} (hf : px_at m pc = some (.ior, ln, a0, b0, v0)) (hp : pc + 1 = pc') (k : px_ev m pc' L (.int (x ||| y) :: st) h r) : px_ev m pc L (.int y :: .int x :: st) h r := ev_stk hf rfl (rfl) hp k
theorem e_ixor {x y : Int32} (hf : px_at m pc = some (.ixor, ln, a0, b0, v0)) (hp : pc + 1 = pc') (k : px_ev m pc' L (.int (x ^^^ y) :: st) h r) : px_ev m pc L (.int y :: .int x :: st) h r := ev_stk hf rfl (rfl) hp k
theorem e_ishl {x y : Int32} (hf : px_at m pc = some (.ishl, ln, a0, b0, v0)) (hp : pc + 1 = pc') (k : px_ev m pc' L (.int (x <<< (y &&& 31)) :: st) h r) : px_ev m pc L (.int y :: .int x :: st) h r := ev_stk hf rfl (rfl) hp k
theorem e_ishr {x y : Int32} (hf : px_at m pc = some (.ishr, ln, a0, b0, v0)) (hp : pc + 1 = pc') (k : px_ev m pc' L (.int (x >>> (y &&& 31)) :: st) h r) : px_ev m pc L (.int y :: .int x :: st) h r := ev_stk hf rfl (rfl) hp k
theorem e_iushr {x y : Int32} (hf : px_at m pc = some (.iushr, ln, a0, b0, v0)) (hp : pc + 1 = pc') (k : px_ev m pc' L (.int ((x.toUInt32 >>> (y.toUInt32 &&& Int32.toUInt32 31)).toInt32) :: st) h r) : px_ev m pc L (.int y :: .int x :: st) h r := ev_stk hf rfl (rfl) hp k
theorem e_ineg {x : Int32} (hf : px_at m pc = some (.ineg, ln, a0, b0, v0)) (hp : pc + 1 = pc') (k : px_ev m pc' L (.int (-x) :: st) h r) : px_ev m pc L (.int x :: st) h r := ev_stk hf rfl (rfl) hp k
theorem e_i2b {x : Int32} (hf : px_at m pc = some (.i2b, ln, a0, b0, v0)) (hp : pc + 1 = pc') (k : px_ev m pc' L (.int (x.toInt8.toInt32) :: st) h r) : px_ev m pc L (.int x :: st) h r := ev_stk hf rfl (rfl) hp k
theorem e_i2s {x : Int32} (hf : px_at m pc = some (.i2s, ln, a0, b0, v0)) (hp : pc + 1 = pc') (k : px_ev m pc' L (.int (x.toInt16.toInt32) :: st) h r) : px_ev m pc L (.int x :: st) h r := ev_stk hf rfl (rfl) hp k
theorem e_i2c {x : Int32} (hf : px_at m pc = some (.i2c, ln, a0, b0, v0)) (hp : pc + 1 = pc') (k : px_ev m pc' L (.int ((x.toUInt32 % 65536).toInt32) :: st) h r) : px_ev m pc L (.int x :: st) h r := ev_stk hf rfl (rfl) hp k
theorem e_i2l {x : Int32} (hf : px_at m pc = some (.i2l, ln, a0, b0, v0)) (hp : pc + 1 = pc') (k : px_ev m pc' L (.long x.toInt64 :: st) h r) : px_ev m pc L (.int x :: st) h r := ev_stk hf rfl (rfl) hp k
theorem e_l2i {x : Int64} (hf : px_at m pc = some (.l2i, ln, a0, b0, v0)) (hp : pc + 1 = pc') (k : px_ev m pc' L (.int x.toInt32 :: st) h r) : px_ev m pc L (.long x :: st) h r := ev_stk hf rfl (rfl) hp k
theorem e_ladd {x y : Int64} (hf : px_at m pc = some (.ladd, ln, a0, b0, v0)) (hp : pc + 1 = pc') (k : px_ev m pc' L (.long (x + y) :: st) h r) : px_ev m pc L (.long y :: .long x :: st) h r := ev_stk hf rfl (rfl) hp k
theorem e_lsub {x y : Int64} (hf : px_at m pc = some (.lsub, ln, a0, b0, v0)) (hp : pc + 1 = pc') (k : px_ev m pc' L (.long (x - y) :: st) h r) : px_ev m pc L (.long y :: .long x :: st) h r := ev_stk hf rfl (rfl) hp k
theorem e_lmul {x y : Int64} (hf : px_at m pc = some (.lmul, ln, a0, b0, v0)) (hp : pc + 1 = pc') (k : px_ev m pc' L (.long (x * y) :: st) h r) : px_ev m pc L (.long y :: .long x :: st) h r := ev_stk hf rfl (rfl) hp k
theorem e_land {x y : Int64} (hf : px_at m pc = some (.land, ln, a0, b0, v0)) (hp : pc + 1 = pc') (k : px_ev m pc' L (.long (x &&& y) :: st) h r) : px_ev m pc L (.long y :: .long x :: st) h r := ev_stk hf rfl (rfl) hp k
theorem e_lor {x y : Int64} (hf : px_at m pc = some (.lor, ln, a0, b0, v0)) (hp : pc + 1 = pc') (k : px_ev m pc' L (.long (x ||| y) :: st) h r) : px_ev m pc L (.long y :: .long x :: st) h r := ev_stk hf rfl (rfl) hp k
theorem e_lshl {x : Int64} {y : Int32} (hf : px_at m pc = some (.lshl, ln, a0, b0, v0)) (hp : pc + 1 = pc') (k : px_ev m pc' L (.long (x <<< (y.toInt64 &&& 63)) :: st) h r) : px_ev m pc L (.int y :: .long x :: st) h r := ev_stk hf rfl (rfl) hp k
theorem e_lshr {x : Int64} {y : Int32} (hf : px_at m pc = some (.lshr, ln, a0, b0, v0)) (hp : pc + 1 = pc') (k : px_ev m pc' L (.long (x >>> (y.toInt64 &&& 63)) :: st) h r) : px_ev m pc L (.int y :: .long x :: st) h r := ev_stk hf rfl (rfl) hp k
theorem e_lushr {x : Int64} {y : Int32} (hf : px_at m pc = some (.lushr, ln, a0, b0, v0)) (hp : pc + 1 = pc') (k : px_ev m pc' L (.long ((x.toUInt64 >>> (y.toInt64.toUInt64 &&& Int64.toUInt64 63)).toInt64) :: st) h r) : px_ev m pc L (.int y :: .long x :: st) h r := ev_stk hf rfl (rfl) hp k
theorem e_lcmp {x y : Int64} (hf : px_at m pc = some (.lcmp, ln, a0, b0, v0)) (hp : pc + 1 = pc') (k : px_ev m pc' L (.int (lg_cmp x y) :: st) h r) : px_ev m pc L (.long y :: .long x :: st) h r := ev_stk hf rfl (rfl) hp k
theorem e_idiv {x y : Int32} (hf : px_at m pc = some (.idiv, ln, a0, b0, v0)) (hy : ¬ y = 0) (hp : pc + 1 = pc') (k : px_ev m pc' L (.int (x / y) :: st) h r) : px_ev m pc L (.int y :: .int x :: st) h r := ev_stk hf rfl (by show px_idiv _ = _; unfold px_idiv; rw [if_neg hy]) hp k
theorem e_ldiv {x y : Int64} (hf : px_at m pc = some (.ldiv, ln, a0, b0, v0)) (hy : ¬ y = 0) (hp : pc + 1 = pc') (k : px_ev m pc' L (.long (x / y) :: st) h r) : px_ev m pc L (.long y :: .long x :: st) h r := ev_stk hf rfl (by show px_ldiv _ = _; unfold px_ldiv; rw [if_neg hy]) hp k
theorem e_lrem {x y : Int64} (hf : px_at m pc = some (.lrem, ln, a0, b0, v0)) (hy : ¬ y = 0) (hp : pc + 1 = pc') (k : px_ev m pc' L (.long (x - x / y * y) :: st) h r) : px_ev m pc L (.long y :: .long x :: st) h r := ev_stk hf rfl (by show px_lrem _ = _; unfold px_lrem; rw [if_neg hy]) hp k
theorem e_dup {v : Value} (hf : px_at m pc = some (.dup, ln, a0, b0, v0)) (hc : v.category = 1) (hp : pc + 1 = pc') (k : px_ev m pc' L (v :: v :: st) h r) : px_ev m pc L (v :: st) h r := ev_stk hf rfl (by show px_dup _ = _; unfold px_dup; rw [if_pos hc]) hp k
theorem e_dup2 {v w : Value} (hf : px_at m pc = some (.dup2, ln, a0, b0, v0)) (hc : v.category = 1) (hd : w.category = 1) (hp : pc + 1 = pc') (k : px_ev m pc' L (v :: w :: v :: w :: st) h r) : px_ev m pc L (v :: w :: st) h r := ev_stk hf rfl (by show px_dup2 _ = _; unfold px_dup2; rw [if_pos ⟨hc, hd⟩]) hp k
theorem e_pop {v : Value} (hf : px_at m pc = some (.pop, ln, a0, b0, v0)) (hc : v.category = 1) (hp : pc + 1 = pc') (k : px_ev m pc' L (st) h r) : px_ev m pc L (v :: st) h r := ev_stk hf rfl (by show px_pop _ = _; unfold px_pop; rw [if_pos hc]) hp k
theorem e_istore_n {i : Fin 4} {x : Int32} (hf : px_at m pc = some (.istore_n i, ln, a0, b0, v0)) (hi : i.val < L.length) (hL : px_st1 L i.val (.int x) = L') (hp : pc + 1 = pc') (k : px_ev m pc' L' st h r) : px_ev m pc L (.int x :: st) h r := ev_lop hf rfl rfl (by show px_sti L i.val _ = _; unfold px_sti; rw [if_pos hi, hL]) hp k
theorem e_istore {i : Nat} {x : Int32} (hf : px_at m pc = some (.istore i, ln, a0, b0, v0)) (hi : i < L.length) (hL : px_st1 L i (.int x) = L') (hp : pc + 2 = pc') (k : px_ev m pc' L' st h r) : px_ev m pc L (.int x :: st) h r := ev_lop hf rfl rfl (by show px_sti L i _ = _; unfold px_sti; rw [if_pos hi, hL]) hp k
theorem e_astore_n {i : Fin 4} {x : Nat} (hf : px_at m pc = some (.astore_n i, ln, a0, b0, v0)) (hi : i.val < L.length) (hL : px_st1 L i.val (.ref x) = L') (hp : pc + 1 = pc') (k : px_ev m pc' L' st h r) : px_ev m pc L (.ref x :: st) h r := ev_lop hf rfl rfl (by show px_sta L i.val _ = _; unfold px_sta; rw [if_pos hi, hL]) hp k
theorem e_astore {i : Nat} {x : Nat} (hf : px_at m pc = some (.astore i, ln, a0, b0, v0)) (hi : i < L.length) (hL : px_st1 L i (.ref x) = L') (hp : pc + 2 = pc') (k : px_ev m pc' L' st h r) : px_ev m pc L (.ref x :: st) h r := ev_lop hf rfl rfl (by show px_sta L i _ = _; unfold px_sta; rw [if_pos hi, hL]) hp k
theorem e_lstore_n {i : Fin 4} {x : Int64} (hf : px_at m pc = some (.lstore_n i, ln, a0, b0, v0)) (hi : i.val + 1 < L.length) (hL : px_st2 L i.val (.long x) = L') (hp : pc + 1 = pc') (k : px_ev m pc' L' st h r) : px_ev m pc L (.long x :: st) h r := ev_lop hf rfl rfl (by show px_stl L i.val _ = _; unfold px_stl; rw [if_pos hi, hL]) hp k
theorem e_lstore {i : Nat} {x : Int64} (hf : px_at m pc = some (.lstore i, ln, a0, b0, v0)) (hi : i + 1 < L.length) (hL : px_st2 L i (.long x) = L') (hp : pc + 2 = pc') (k : px_ev m pc' L' st h r) : px_ev m pc L (.long x :: st) h r := ev_lop hf rfl rfl (by show px_stl L i _ = _; unfold px_stl; rw [if_pos hi, hL]) hp k
theorem e_iinc {i : Nat} {d : Int} {x y : Int32} (hf : px_at m pc = some (.iinc i d, ln, a0, b0, v0)) (hl : L[i]? = some (some (.int x))) (hy : x + Int32.ofInt d = y) (hL : px_st1 L i (.int y) = L') (hp : pc + 3 = pc') (k : px_ev m pc' L' st h r) : px_ev m pc L st h r := ev_lop hf rfl rfl (by show px_iic L i d st = _; unfold px_iic; rw [hl]; dsimp only; rw [hy, hL]) hp k
theorem e_goto {off : Int} (hf : px_at m pc = some (.goto off, ln, pc', b0, v0)) (k : px_ev m pc' L st h r) : px_ev m pc L st h r := ev_br hf rfl rfl rfl rfl k
theorem e_if_eq_t {x : Int32} {off : Int} (hf : px_at m pc = some (.ifCond .eq off, ln, pc', b0, v0)) (hc : x = 0) (k : px_ev m pc' L st h r) : px_ev m pc L (.int x :: st) h r := ev_br hf rfl rfl rfl (by show px_ifc _ _ _ _ = _; unfold px_ifc; simp only [px_cmp, decide_eq_true hc, if_true]) k
theorem e_if_eq_f {x : Int32} {off : Int} {tg : Nat} (hf : px_at m pc = some (.ifCond .eq off, ln, tg, b0, v0)) (hc : ¬ (x = 0)) (hp : pc + 3 = pc') (k : px_ev m pc' L st h r) : px_ev m pc L (.int x :: st) h r := ev_br hf rfl rfl rfl (by subst hp; show px_ifc _ _ _ _ = _; unfold px_ifc; simp only [px_cmp, decide_eq_false hc, if_false, Bool.false_eq_true]) k
theorem e_if_eq {x : Int32} {off : Int} {tg : Nat} (hf : px_at m pc = some (.ifCond .eq off, ln, tg, b0, v0)) (hp : pc + 3 = pc') (kt : x = 0 → px_ev m tg L st h r) (kf : ¬ (x = 0) → px_ev m pc' L st h r) : px_ev m pc L (.int x :: st) h r := by
  by_cases hc : x = 0
  · exact e_if_eq_t hf hc (kt hc)
  · exact e_if_eq_f hf hc hp (kf hc)
theorem e_icmp_eq_t {x y : Int32} {off : Int} (hf : px_at m pc = some (.if_icmp .eq off, ln, pc', b0, v0)) (hc : x = y) (k : px_ev m pc' L st h r) : px_ev m pc L (.int y :: .int x :: st) h r := ev_br hf rfl rfl rfl (by show px_icm _ _ _ _ = _; unfold px_icm; simp only [px_cmp, decide_eq_true hc, if_true]) k
theorem e_icmp_eq_f {x y : Int32} {off : Int} {tg : Nat} (hf : px_at m pc = some (.if_icmp .eq off, ln, tg, b0, v0)) (hc : ¬ (x = y)) (hp : pc + 3 = pc') (k : px_ev m pc' L st h r) : px_ev m pc L (.int y :: .int x :: st) h r := ev_br hf rfl rfl rfl (by subst hp; show px_icm _ _ _ _ = _; unfold px_icm; simp only [px_cmp, decide_eq_false hc, if_false, Bool.false_eq_true]) k
theorem e_icmp_eq {x y : Int32} {off : Int} {tg : Nat} (hf : px_at m pc = some (.if_icmp .eq off, ln, tg, b0, v0)) (hp : pc + 3 = pc') (kt : x = y → px_ev m tg L st h r) (kf : ¬ (x = y) → px_ev m pc' L st h r) : px_ev m pc L (.int y :: .int x :: st) h r := by
  by_cases hc : x = y
  · exact e_icmp_eq_t hf hc (kt hc)
  · exact e_icmp_eq_f hf hc hp (kf hc)
theorem e_if_ne_t {x : Int32} {off : Int} (hf : px_at m pc = some (.ifCond .ne off, ln, pc', b0, v0)) (hc : ¬ x = 0) (k : px_ev m pc' L st h r) : px_ev m pc L (.int x :: st) h r := ev_br hf rfl rfl rfl (by show px_ifc _ _ _ _ = _; unfold px_ifc; simp only [px_cmp, decide_eq_true hc, if_true]) k
theorem e_if_ne_f {x : Int32} {off : Int} {tg : Nat} (hf : px_at m pc = some (.ifCond .ne off, ln, tg, b0, v0)) (hc : ¬ (¬ x = 0)) (hp : pc + 3 = pc') (k : px_ev m pc' L st h r) : px_ev m pc L (.int x :: st) h r := ev_br hf rfl rfl rfl (by subst hp; show px_ifc _ _ _ _ = _; unfold px_ifc; simp only [px_cmp, decide_eq_false hc, if_false, Bool.false_eq_true]) k
theorem e_if_ne {x : Int32} {off : Int} {tg : Nat} (hf : px_at m pc = some (.ifCond .ne off, ln, tg, b0, v0)) (hp : pc + 3 = pc') (kt : ¬ x = 0 → px_ev m tg L st h r) (kf : ¬ (¬ x = 0) → px_ev m pc' L st h r) : px_ev m pc L (.int x :: st) h r := by
  by_cases hc : ¬ x = 0
  · exact e_if_ne_t hf hc (kt hc)
  · exact e_if_ne_f hf hc hp (kf hc)
theorem e_icmp_ne_t {x y : Int32} {off : Int} (hf : px_at m pc = some (.if_icmp .ne off, ln, pc', b0, v0)) (hc : ¬ x = y) (k : px_ev m pc' L st h r) : px_ev m pc L (.int y :: .int x :: st) h r := ev_br hf rfl rfl rfl (by show px_icm _ _ _ _ = _; unfold px_icm; simp only [px_cmp, decide_eq_true hc, if_true]) k
theorem e_icmp_ne_f {x y : Int32} {off : Int} {tg : Nat} (hf : px_at m pc = some (.if_icmp .ne off, ln, tg, b0, v0)) (hc : ¬ (¬ x = y)) (hp : pc + 3 = pc') (k : px_ev m pc' L st h r) : px_ev m pc L (.int y :: .int x :: st) h r := ev_br hf rfl rfl rfl (by subst hp; show px_icm _ _ _ _ = _; unfold px_icm; simp only [px_cmp, decide_eq_false hc, if_false, Bool.false_eq_true]) k
theorem e_icmp_ne {x y : Int32} {off : Int} {tg : Nat} (hf : px_at m pc = some (.if_icmp .ne off, ln, tg, b0, v0)) (hp : pc + 3 = pc') (kt : ¬ x = y → px_ev m tg L st h r) (kf : ¬ (¬ x = y) → px_ev m pc' L st h r) : px_ev m pc L (.int y :: .int x :: st) h r := by
  by_cases hc : ¬ x = y
  · exact e_icmp_ne_t hf hc (kt hc)
  · exact e_icmp_ne_f hf hc hp (kf hc)
theorem e_if_lt_t {x : Int32} {off : Int} (hf : px_at m pc = some (.ifCond .lt off, ln, pc', b0, v0)) (hc : x < 0) (k : px_ev m pc' L st h r) : px_ev m pc L (.int x :: st) h r := ev_br hf rfl rfl rfl (by show px_ifc _ _ _ _ = _; unfold px_ifc; simp only [px_cmp, decide_eq_true hc, if_true]) k
theorem e_if_lt_f {x : Int32} {off : Int} {tg : Nat} (hf : px_at m pc = some (.ifCond .lt off, ln, tg, b0, v0)) (hc : ¬ (x < 0)) (hp : pc + 3 = pc') (k : px_ev m pc' L st h r) : px_ev m pc L (.int x :: st) h r := ev_br hf rfl rfl rfl (by subst hp; show px_ifc _ _ _ _ = _; unfold px_ifc; simp only [px_cmp, decide_eq_false hc, if_false, Bool.false_eq_true]) k
theorem e_if_lt {x : Int32} {off : Int} {tg : Nat} (hf : px_at m pc = some (.ifCond .lt off, ln, tg, b0, v0)) (hp : pc + 3 = pc') (kt : x < 0 → px_ev m tg L st h r) (kf : ¬ (x < 0) → px_ev m pc' L st h r) : px_ev m pc L (.int x :: st) h r := by
  by_cases hc : x < 0
  · exact e_if_lt_t hf hc (kt hc)
  · exact e_if_lt_f hf hc hp (kf hc)
theorem e_icmp_lt_t {x y : Int32} {off : Int} (hf : px_at m pc = some (.if_icmp .lt off, ln, pc', b0, v0)) (hc : x < y) (k : px_ev m pc' L st h r) : px_ev m pc L (.int y :: .int x :: st) h r := ev_br hf rfl rfl rfl (by show px_icm _ _ _ _ = _; unfold px_icm; simp only [px_cmp, decide_eq_true hc, if_true]) k
theorem e_icmp_lt_f {x y : Int32} {off : Int} {tg : Nat} (hf : px_at m pc = some (.if_icmp .lt off, ln, tg, b0, v0)) (hc : ¬ (x < y)) (hp : pc + 3 = pc') (k : px_ev m pc' L st h r) : px_ev m pc L (.int y :: .int x :: st) h r := ev_br hf rfl rfl rfl (by subst hp; show px_icm _ _ _ _ = _; unfold px_icm; simp only [px_cmp, decide_eq_false hc, if_false, Bool.false_eq_true]) k
theorem e_icmp_lt {x y : Int32} {off : Int} {tg : Nat} (hf : px_at m pc = some (.if_icmp .lt off, ln, tg, b0, v0)) (hp : pc + 3 = pc') (kt : x < y → px_ev m tg L st h r) (kf : ¬ (x < y) → px_ev m pc' L st h r) : px_ev m pc L (.int y :: .int x :: st) h r := by
  by_cases hc : x < y
  · exact e_icmp_lt_t hf hc (kt hc)
  · exact e_icmp_lt_f hf hc hp (kf hc)
theorem e_if_ge_t {x : Int32} {off : Int} (hf : px_at m pc = some (.ifCond .ge off, ln, pc', b0, v0)) (hc : 0 ≤ x) (k : px_ev m pc' L st h r) : px_ev m pc L (.int x :: st) h r := ev_br hf rfl rfl rfl (by show px_ifc _ _ _ _ = _; unfold px_ifc; simp only [px_cmp, decide_eq_true hc, if_true]) k
theorem e_if_ge_f {x : Int32} {off : Int} {tg : Nat} (hf : px_at m pc = some (.ifCond .ge off, ln, tg, b0, v0)) (hc : ¬ (0 ≤ x)) (hp : pc + 3 = pc') (k : px_ev m pc' L st h r) : px_ev m pc L (.int x :: st) h r := ev_br hf rfl rfl rfl (by subst hp; show px_ifc _ _ _ _ = _; unfold px_ifc; simp only [px_cmp, decide_eq_false hc, if_false, Bool.false_eq_true]) k
theorem e_if_ge {x : Int32} {off : Int} {tg : Nat} (hf : px_at m pc = some (.ifCond .ge off, ln, tg, b0, v0)) (hp : pc + 3 = pc') (kt : 0 ≤ x → px_ev m tg L st h r) (kf : ¬ (0 ≤ x) → px_ev m pc' L st h r) : px_ev m pc L (.int x :: st) h r := by
  by_cases hc : 0 ≤ x
  · exact e_if_ge_t hf hc (kt hc)
  · exact e_if_ge_f hf hc hp (kf hc)
theorem e_icmp_ge_t {x y : Int32} {off : Int} (hf : px_at m pc = some (.if_icmp .ge off, ln, pc', b0, v0)) (hc : y ≤ x) (k : px_ev m pc' L st h r) : px_ev m pc L (.int y :: .int x :: st) h r := ev_br hf rfl rfl rfl (by show px_icm _ _ _ _ = _; unfold px_icm; simp only [px_cmp, decide_eq_true hc, if_true]) k
theorem e_icmp_ge_f {x y : Int32} {off : Int} {tg : Nat} (hf : px_at m pc = some (.if_icmp .ge off, ln, tg, b0, v0)) (hc : ¬ (y ≤ x)) (hp : pc + 3 = pc') (k : px_ev m pc' L st h r) : px_ev m pc L (.int y :: .int x :: st) h r := ev_br hf rfl rfl rfl (by subst hp; show px_icm _ _ _ _ = _; unfold px_icm; simp only [px_cmp, decide_eq_false hc, if_false, Bool.false_eq_true]) k
theorem e_icmp_ge {x y : Int32} {off : Int} {tg : Nat} (hf : px_at m pc = some (.if_icmp .ge off, ln, tg, b0, v0)) (hp : pc + 3 = pc') (kt : y ≤ x → px_ev m tg L st h r) (kf : ¬ (y ≤ x) → px_ev m pc' L st h r) : px_ev m pc L (.int y :: .int x :: st) h r := by
  by_cases hc : y ≤ x
  · exact e_icmp_ge_t hf hc (kt hc)
  · exact e_icmp_ge_f hf hc hp (kf hc)
theorem e_if_gt_t {x : Int32} {off : Int} (hf : px_at m pc = some (.ifCond .gt off, ln, pc', b0, v0)) (hc : 0 < x) (k : px_ev m pc' L st h r) : px_ev m pc L (.int x :: st) h r := ev_br hf rfl rfl rfl (by show px_ifc _ _ _ _ = _; unfold px_ifc; simp only [px_cmp, decide_eq_true hc, if_true]) k
theorem e_if_gt_f {x : Int32} {off : Int} {tg : Nat} (hf : px_at m pc = some (.ifCond .gt off, ln, tg, b0, v0)) (hc : ¬ (0 < x)) (hp : pc + 3 = pc') (k : px_ev m pc' L st h r) : px_ev m pc L (.int x :: st) h r := ev_br hf rfl rfl rfl (by subst hp; show px_ifc _ _ _ _ = _; unfold px_ifc; simp only [px_cmp, decide_eq_false hc, if_false, Bool.false_eq_true]) k
theorem e_if_gt {x : Int32} {off : Int} {tg : Nat} (hf : px_at m pc = some (.ifCond .gt off, ln, tg, b0, v0)) (hp : pc + 3 = pc') (kt : 0 < x → px_ev m tg L st h r) (kf : ¬ (0 < x) → px_ev m pc' L st h r) : px_ev m pc L (.int x :: st) h r := by
  by_cases hc : 0 < x
  · exact e_if_gt_t hf hc (kt hc)
  · exact e_if_gt_f hf hc hp (kf hc)
theorem e_icmp_gt_t {x y : Int32} {off : Int} (hf : px_at m pc = some (.if_icmp .gt off, ln, pc', b0, v0)) (hc : y < x) (k : px_ev m pc' L st h r) : px_ev m pc L (.int y :: .int x :: st) h r := ev_br hf rfl rfl rfl (by show px_icm _ _ _ _ = _; unfold px_icm; simp only [px_cmp, decide_eq_true hc, if_true]) k
theorem e_icmp_gt_f {x y : Int32} {off : Int} {tg : Nat} (hf : px_at m pc = some (.if_icmp .gt off, ln, tg, b0, v0)) (hc : ¬ (y < x)) (hp : pc + 3 = pc') (k : px_ev m pc' L st h r) : px_ev m pc L (.int y :: .int x :: st) h r := ev_br hf rfl rfl rfl (by subst hp; show px_icm _ _ _ _ = _; unfold px_icm; simp only [px_cmp, decide_eq_false hc, if_false, Bool.false_eq_true]) k
theorem e_icmp_gt {x y : Int32} {off : Int} {tg : Nat} (hf : px_at m pc = some (.if_icmp .gt off, ln, tg, b0, v0)) (hp : pc + 3 = pc') (kt : y < x → px_ev m tg L st h r) (kf : ¬ (y < x) → px_ev m pc' L st h r) : px_ev m pc L (.int y :: .int x :: st) h r := by
  by_cases hc : y < x
  · exact e_icmp_gt_t hf hc (kt hc)
  · exact e_icmp_gt_f hf hc hp (kf hc)
theorem e_if_le_t {x : Int32} {off : Int} (hf : px_at m pc = some (.ifCond .le off, ln, pc', b0, v0)) (hc : x ≤ 0) (k : px_ev m pc' L st h r) : px_ev m pc L (.int x :: st) h r := ev_br hf rfl rfl rfl (by show px_ifc _ _ _ _ = _; unfold px_ifc; simp only [px_cmp, decide_eq_true hc, if_true]) k
theorem e_if_le_f {x : Int32} {off : Int} {tg : Nat} (hf : px_at m pc = some (.ifCond .le off, ln, tg, b0, v0)) (hc : ¬ (x ≤ 0)) (hp : pc + 3 = pc') (k : px_ev m pc' L st h r) : px_ev m pc L (.int x :: st) h r := ev_br hf rfl rfl rfl (by subst hp; show px_ifc _ _ _ _ = _; unfold px_ifc; simp only [px_cmp, decide_eq_false hc, if_false, Bool.false_eq_true]) k
theorem e_if_le {x : Int32} {off : Int} {tg : Nat} (hf : px_at m pc = some (.ifCond .le off, ln, tg, b0, v0)) (hp : pc + 3 = pc') (kt : x ≤ 0 → px_ev m tg L st h r) (kf : ¬ (x ≤ 0) → px_ev m pc' L st h r) : px_ev m pc L (.int x :: st) h r := by
  by_cases hc : x ≤ 0
  · exact e_if_le_t hf hc (kt hc)
  · exact e_if_le_f hf hc hp (kf hc)
theorem e_icmp_le_t {x y : Int32} {off : Int} (hf : px_at m pc = some (.if_icmp .le off, ln, pc', b0, v0)) (hc : x ≤ y) (k : px_ev m pc' L st h r) : px_ev m pc L (.int y :: .int x :: st) h r := ev_br hf rfl rfl rfl (by show px_icm _ _ _ _ = _; unfold px_icm; simp only [px_cmp, decide_eq_true hc, if_true]) k
theorem e_icmp_le_f {x y : Int32} {off : Int} {tg : Nat} (hf : px_at m pc = some (.if_icmp .le off, ln, tg, b0, v0)) (hc : ¬ (x ≤ y)) (hp : pc + 3 = pc') (k : px_ev m pc' L st h r) : px_ev m pc L (.int y :: .int x :: st) h r := ev_br hf rfl rfl rfl (by subst hp; show px_icm _ _ _ _ = _; unfold px_icm; simp only [px_cmp, decide_eq_false hc, if_false, Bool.false_eq_true]) k
theorem e_icmp_le {x y : Int32} {off : Int} {tg : Nat} (hf : px_at m pc = some (.if_icmp .le off, ln, tg, b0, v0)) (hp : pc + 3 = pc') (kt : x ≤ y → px_ev m tg L st h r) (kf : ¬ (x ≤ y) → px_ev m pc' L st h r) : px_ev m pc L (.int y :: .int x :: st) h r := by
  by_cases hc : x ≤ y
  · exact e_icmp_le_t hf hc (kt hc)
  · exact e_icmp_le_f hf hc hp (kf hc)
theorem e_getf {idx ci fk a : Nat} {vs : List Value} {v : Value} (hf : px_at m pc = some (.getfield idx, ln, ci, fk, v0)) (ha : h.2.2 a = some (ci, vs)) (hv : vs[fk]? = some v) (hp : pc + 3 = pc') (k : px_ev m pc' L (v :: st) h r) : px_ev m pc L (.ref a :: st) h r := ev_hop hf rfl rfl rfl rfl (by show px_getf ci fk h _ = _; unfold px_getf; dsimp only; rw [ha]; dsimp only; rw [if_pos rfl, hv]; rfl) hp k
theorem e_putf {idx ci fk a : Nat} {vs vs' : List Value} {v : Value} (hf : px_at m pc = some (.putfield idx, ln, ci, fk, v0)) (ha : h.2.2 a = some (ci, vs)) (hk : fk < vs.length) (hn : narrow (px_ty ci fk) v = v) (hft : fits (px_ty ci fk) v = true) (hvs : vs.set fk v = vs') (hp : pc + 3 = pc') (k : px_ev m pc' L st (px_set h a (ci, vs')) r) : px_ev m pc L (v :: .ref a :: st) h r := ev_hop hf rfl rfl rfl rfl (by show px_putf ci fk h _ = _; unfold px_putf; dsimp only; rw [ha]; dsimp only; rw [if_pos ⟨rfl, hk, hn, hft⟩, hvs]) hp k
theorem e_iaload {a : Nat} {i : Int32} {vs : List Value} {v : Value} (hf : px_at m pc = some (.iaload, ln, a0, b0, v0)) (ha : h.2.2 a = some (50, vs)) (h0 : ¬ i < 0) (hv : vs[i.toNatClampNeg]? = some v) (hp : pc + 1 = pc') (k : px_ev m pc' L (v :: st) h r) : px_ev m pc L (.int i :: .ref a :: st) h r := ev_hop hf rfl rfl rfl rfl (by show px_ald 50 h _ = _; unfold px_ald; dsimp only; rw [ha]; dsimp only; rw [if_pos ⟨rfl, h0⟩, hv]; rfl) hp k
theorem e_laload {a : Nat} {i : Int32} {vs : List Value} {v : Value} (hf : px_at m pc = some (.laload, ln, a0, b0, v0)) (ha : h.2.2 a = some (51, vs)) (h0 : ¬ i < 0) (hv : vs[i.toNatClampNeg]? = some v) (hp : pc + 1 = pc') (k : px_ev m pc' L (v :: st) h r) : px_ev m pc L (.int i :: .ref a :: st) h r := ev_hop hf rfl rfl rfl rfl (by show px_ald 51 h _ = _; unfold px_ald; dsimp only; rw [ha]; dsimp only; rw [if_pos ⟨rfl, h0⟩, hv]; rfl) hp k
theorem e_caload {a : Nat} {i : Int32} {vs : List Value} {v : Value} (hf : px_at m pc = some (.caload, ln, a0, b0, v0)) (ha : h.2.2 a = some (52, vs)) (h0 : ¬ i < 0) (hv : vs[i.toNatClampNeg]? = some v) (hp : pc + 1 = pc') (k : px_ev m pc' L (v :: st) h r) : px_ev m pc L (.int i :: .ref a :: st) h r := ev_hop hf rfl rfl rfl rfl (by show px_ald 52 h _ = _; unfold px_ald; dsimp only; rw [ha]; dsimp only; rw [if_pos ⟨rfl, h0⟩, hv]; rfl) hp k
theorem e_saload {a : Nat} {i : Int32} {vs : List Value} {v : Value} (hf : px_at m pc = some (.saload, ln, a0, b0, v0)) (ha : h.2.2 a = some (53, vs)) (h0 : ¬ i < 0) (hv : vs[i.toNatClampNeg]? = some v) (hp : pc + 1 = pc') (k : px_ev m pc' L (v :: st) h r) : px_ev m pc L (.int i :: .ref a :: st) h r := ev_hop hf rfl rfl rfl rfl (by show px_ald 53 h _ = _; unfold px_ald; dsimp only; rw [ha]; dsimp only; rw [if_pos ⟨rfl, h0⟩, hv]; rfl) hp k
theorem e_baload {a : Nat} {i : Int32} {vs : List Value} {v : Value} (hf : px_at m pc = some (.baload, ln, a0, b0, v0)) (ha : h.2.2 a = some (54, vs)) (h0 : ¬ i < 0) (hv : vs[i.toNatClampNeg]? = some v) (hp : pc + 1 = pc') (k : px_ev m pc' L (v :: st) h r) : px_ev m pc L (.int i :: .ref a :: st) h r := ev_hop hf rfl rfl rfl rfl (by show px_ald 54 h _ = _; unfold px_ald; dsimp only; rw [ha]; dsimp only; rw [if_pos ⟨rfl, h0⟩, hv]; rfl) hp k
theorem e_aaload {a kd : Nat} {i : Int32} {vs : List Value} {v : Value} (hf : px_at m pc = some (.aaload, ln, a0, b0, v0)) (ha : h.2.2 a = some (kd, vs)) (hkd : kd = 55 ∨ kd = 56) (h0 : ¬ i < 0) (hv : vs[i.toNatClampNeg]? = some v) (hp : pc + 1 = pc') (k : px_ev m pc' L (v :: st) h r) : px_ev m pc L (.int i :: .ref a :: st) h r := ev_hop hf rfl rfl rfl rfl (by show px_aald h _ = _; unfold px_aald; dsimp only; rw [ha]; dsimp only; rw [if_pos ⟨hkd, h0⟩, hv]; rfl) hp k
theorem e_iastore {a : Nat} {i x : Int32} {vs vs' : List Value} (hf : px_at m pc = some (.iastore, ln, a0, b0, v0)) (ha : h.2.2 a = some (50, vs)) (h9 : 17 ≤ a) (h0 : ¬ i < 0) (hl : i.toNatClampNeg < vs.length) (hvs : vs.set i.toNatClampNeg (narrow .int (.int x)) = vs') (hp : pc + 1 = pc') (k : px_ev m pc' L st (px_set h a (50, vs')) r) : px_ev m pc L (.int x :: .int i :: .ref a :: st) h r := ev_hop hf rfl rfl rfl rfl (by show px_ast 50 .int h _ = _; unfold px_ast; dsimp only; rw [ha]; dsimp only; rw [if_pos ⟨rfl, h9, h0, hl⟩, hvs]) hp k
theorem e_castore {a : Nat} {i x : Int32} {vs vs' : List Value} (hf : px_at m pc = some (.castore, ln, a0, b0, v0)) (ha : h.2.2 a = some (52, vs)) (h9 : 17 ≤ a) (h0 : ¬ i < 0) (hl : i.toNatClampNeg < vs.length) (hvs : vs.set i.toNatClampNeg (narrow .char (.int x)) = vs') (hp : pc + 1 = pc') (k : px_ev m pc' L st (px_set h a (52, vs')) r) : px_ev m pc L (.int x :: .int i :: .ref a :: st) h r := ev_hop hf rfl rfl rfl rfl (by show px_ast 52 .char h _ = _; unfold px_ast; dsimp only; rw [ha]; dsimp only; rw [if_pos ⟨rfl, h9, h0, hl⟩, hvs]) hp k
theorem e_sastore {a : Nat} {i x : Int32} {vs vs' : List Value} (hf : px_at m pc = some (.sastore, ln, a0, b0, v0)) (ha : h.2.2 a = some (53, vs)) (h9 : 17 ≤ a) (h0 : ¬ i < 0) (hl : i.toNatClampNeg < vs.length) (hvs : vs.set i.toNatClampNeg (narrow .short (.int x)) = vs') (hp : pc + 1 = pc') (k : px_ev m pc' L st (px_set h a (53, vs')) r) : px_ev m pc L (.int x :: .int i :: .ref a :: st) h r := ev_hop hf rfl rfl rfl rfl (by show px_ast 53 .short h _ = _; unfold px_ast; dsimp only; rw [ha]; dsimp only; rw [if_pos ⟨rfl, h9, h0, hl⟩, hvs]) hp k
theorem e_bastore {a : Nat} {i x : Int32} {vs vs' : List Value} (hf : px_at m pc = some (.bastore, ln, a0, b0, v0)) (ha : h.2.2 a = some (54, vs)) (h9 : 17 ≤ a) (h0 : ¬ i < 0) (hl : i.toNatClampNeg < vs.length) (hvs : vs.set i.toNatClampNeg (narrow .byte (.int x)) = vs') (hp : pc + 1 = pc') (k : px_ev m pc' L st (px_set h a (54, vs')) r) : px_ev m pc L (.int x :: .int i :: .ref a :: st) h r := ev_hop hf rfl rfl rfl rfl (by show px_ast 54 .byte h _ = _; unfold px_ast; dsimp only; rw [ha]; dsimp only; rw [if_pos ⟨rfl, h9, h0, hl⟩, hvs]) hp k
theorem e_lastore {a : Nat} {i : Int32} {x : Int64} {vs vs' : List Value} (hf : px_at m pc = some (.lastore, ln, a0, b0, v0)) (ha : h.2.2 a = some (51, vs)) (h9 : 17 ≤ a) (h0 : ¬ i < 0) (hl : i.toNatClampNeg < vs.length) (hvs : vs.set i.toNatClampNeg (.long x) = vs') (hp : pc + 1 = pc') (k : px_ev m pc' L st (px_set h a (51, vs')) r) : px_ev m pc L (.long x :: .int i :: .ref a :: st) h r := ev_hop hf rfl rfl rfl rfl (by show px_last h _ = _; unfold px_last; dsimp only; rw [ha]; dsimp only; rw [if_pos ⟨rfl, h9, h0, hl⟩, hvs]) hp k
theorem e_alen {a kd : Nat} {vs : List Value} {n : Int32} (hf : px_at m pc = some (.arraylength, ln, a0, b0, v0)) (ha : h.2.2 a = some (kd, vs)) (hk : 50 ≤ kd) (hn : Int32.ofNat vs.length = n) (hp : pc + 1 = pc') (k : px_ev m pc' L (.int n :: st) h r) : px_ev m pc L (.ref a :: st) h r := ev_hop hf rfl rfl rfl rfl (by show px_alen h _ = _; unfold px_alen; dsimp only; rw [ha]; dsimp only; rw [if_pos hk, hn]) hp k
theorem e_max {idx : Nat} {x y : Int32} (hf : px_at m pc = some (.invokestatic idx, ln, a0, 11, v0)) (hs : px_sum st ≤ 8) (hp : pc + 3 = pc') (k : px_ev m pc' L (.int (if x < y then y else x) :: st) h r) : px_ev m pc L (.int y :: .int x :: st) h r := ev_hop hf rfl rfl rfl rfl (by show px_max h _ = _; unfold px_max; dsimp only; rw [if_pos hs]) hp k
theorem e_min {idx : Nat} {x y : Int32} (hf : px_at m pc = some (.invokestatic idx, ln, a0, 12, v0)) (hs : px_sum st ≤ 8) (hp : pc + 3 = pc') (k : px_ev m pc' L (.int (if y < x then y else x) :: st) h r) : px_ev m pc L (.int y :: .int x :: st) h r := ev_hop hf rfl rfl rfl rfl (by show px_min h _ = _; unfold px_min; dsimp only; rw [if_pos hs]) hp k
theorem e_ldc {idx : Nat} (hf : px_at m pc = some (.ldc idx, ln, a0, b0, v0)) (hp : pc + 2 = pc') (k : px_ev m pc' L (v0 :: st) h r) : px_ev m pc L st h r := ev_hop hf rfl rfl rfl rfl rfl hp k
theorem e_ldcw {idx : Nat} (hf : px_at m pc = some (.ldc_w idx, ln, a0, b0, v0)) (hp : pc + 3 = pc') (k : px_ev m pc' L (v0 :: st) h r) : px_ev m pc L st h r := ev_hop hf rfl rfl rfl rfl rfl hp k
theorem e_ldc2 {idx : Nat} (hf : px_at m pc = some (.ldc2_w idx, ln, a0, b0, v0)) (hp : pc + 3 = pc') (k : px_ev m pc' L (v0 :: st) h r) : px_ev m pc L st h r := ev_hop hf rfl rfl rfl rfl rfl hp k
theorem e_gets {idx : Nat} (hf : px_at m pc = some (.getstatic idx, ln, a0, b0, v0)) (hx : a0 < 2) (hp : pc + 3 = pc') (k : px_ev m pc' L (v0 :: st) h r) : px_ev m pc L st h r := ev_hop hf rfl rfl rfl rfl (by show (if a0 < 2 then _ else _) = _; rw [if_pos hx]) hp k
theorem e_iret {v : Int32} {ty : FieldType} (hf : px_at m pc = some (.ireturn, ln, a0, b0, v0)) (ht : px_rts.getD m none = some ty) (hn : narrow ty (.int v) = .int v) : px_ev m pc L [.int v] h (h, some (.int v)) := ev_ret hf rfl (by show px_ret m .ireturn _ = _; unfold px_ret; rw [ht]; dsimp only; rw [if_pos hn])
theorem e_vret (hf : px_at m pc = some (.return_, ln, a0, b0, v0)) (ht : px_rts.getD m none = none) : px_ev m pc L [] h (h, none) := ev_ret hf rfl (by show px_ret m .return_ _ = _; unfold px_ret; rw [ht])
theorem e_callV {idx mi b np : Nat} {As rest stk : List Value} {ci : Nat} {vs : List Value} {h1 : px_H} {v : Option Value} (hf : px_at m pc = some (.invokevirtual idx, ln, mi, 1, v0)) (hnp : px_nps.getD mi 0 = np) (hst : stk = As.reverse ++ .ref b :: rest) (hlen : As.length = np) (hsum : px_sum rest ≤ 8) (hsl : (px_sl (.ref b :: As)).length ≤ px_mls.getD mi 0) (hb : h.2.2 b = some (ci, vs)) (hci : ci = px_owns.getD mi 60) (hc50 : ci < 50) (hm : px_m mi (.ref b :: As) h h1 v) (hp : pc + 3 = pc') (k : px_ev m pc' L (v.toList ++ rest) h1 r) : px_ev m pc L stk h r := by
  subst hp
  refine ev_call hf rfl (as := .ref b :: As) (rest := rest) ?_ hm k
  have e1 : stk.take (np + 1) = As.reverse ++ [.ref b] := by
    rw [hst, show As.reverse ++ Value.ref b :: rest = (As.reverse ++ [.ref b]) ++ rest by simp]
    exact List.take_left' (by simp [hlen])
  have e2 : stk.drop (np + 1) = rest := by
    rw [hst, show As.reverse ++ Value.ref b :: rest = (As.reverse ++ [.ref b]) ++ rest by simp]
    exact List.drop_left' (by simp [hlen])
  unfold px_cut
  dsimp only
  rw [if_neg (show ¬ (1 : Nat) = 2 by decide), hnp, e1, e2]
  have e3 : (As.reverse ++ [Value.ref b]).reverse = .ref b :: As := by simp
  rw [e3, if_pos]
  refine ⟨by simp [hlen], hsum, hsl, ?_⟩
  unfold px_rcv
  dsimp only
  rw [hb]
  simp [hci, hc50]
  rw [← hci]
  exact hc50
theorem e_callS {idx mi np : Nat} {As rest stk : List Value} {h1 : px_H} {v : Option Value} (hf : px_at m pc = some (.invokestatic idx, ln, mi, 2, v0)) (hnp : px_nps.getD mi 0 = np) (hst : stk = As.reverse ++ rest) (hlen : As.length = np) (hsum : px_sum rest ≤ 8) (hsl : (px_sl As).length ≤ px_mls.getD mi 0) (hm : px_m mi As h h1 v) (hp : pc + 3 = pc') (k : px_ev m pc' L (v.toList ++ rest) h1 r) : px_ev m pc L stk h r := by
  subst hp
  refine ev_call hf rfl (as := As) (rest := rest) ?_ hm k
  have e1 : stk.take (np + 0) = As.reverse := by
    rw [hst]
    exact List.take_left' (by simp [hlen])
  have e2 : stk.drop (np + 0) = rest := by
    rw [hst]
    exact List.drop_left' (by simp [hlen])
  unfold px_cut
  dsimp only
  rw [if_pos (show (2 : Nat) = 2 from rfl), hnp, e1, e2, List.reverse_reverse, if_pos]
  refine ⟨by simp [hlen], hsum, hsl, ?_⟩
  unfold px_rcv
  split <;> rfl
end RL
