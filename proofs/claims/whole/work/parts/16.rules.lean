/-- from here to an end with P -/
def px_to (m pc : Nat) (L : px_L) (st : List Value) (h : px_H) (P : px_H → Option Value → Prop) : Prop := ∃ (h1 : px_H) (v : Option Value), px_ev m pc L st h (h1, v) ∧ P h1 v
/-- a call of m with as comes to an end with P -/
def px_wp (m : Nat) (as : List Value) (h : px_H) (P : px_H → Option Value → Prop) : Prop := px_to m 0 (px_ent m as) [] h P
theorem px_to_mono {m pc : Nat} {L : px_L} {st : List Value} {h : px_H} {P P' : px_H → Option Value → Prop} (k : px_to m pc L st h P) (hP : ∀ h1 v, P h1 v → P' h1 v) : px_to m pc L st h P' := by
  obtain ⟨h1, v, a, b⟩ := k
  exact ⟨h1, v, a, hP h1 v b⟩
theorem px_wp_mono {m : Nat} {as : List Value} {h : px_H} {P P' : px_H → Option Value → Prop} (k : px_wp m as h P) (hP : ∀ h1 v, P h1 v → P' h1 v) : px_wp m as h P' := px_to_mono k hP
theorem to_of {m pc pc' : Nat} {L L' : px_L} {st st' : List Value} {h h' : px_H} {P : px_H → Option Value → Prop} (f : ∀ r, px_ev m pc' L' st' h' r → px_ev m pc L st h r) (k : px_to m pc' L' st' h' P) : px_to m pc L st h P := by
  obtain ⟨h1, v, a, b⟩ := k
  exact ⟨h1, v, f _ a, b⟩
theorem to_call {m pc : Nat} {L : px_L} {st as rest : List Value} {h : px_H} {P Pc : px_H → Option Value → Prop} {e : px_E} (hf : px_at m pc = some e) (hk : px_kd e = 1) (hc : px_cut e st h = some (as, rest)) (hm : px_wp e.2.2.1 as h Pc) (k : ∀ h1 v, Pc h1 v → px_to m (pc + 3) L (v.toList ++ rest) h1 P) : px_to m pc L st h P := by
  obtain ⟨h1, v, a, b⟩ := hm
  obtain ⟨h2, w, a2, b2⟩ := k h1 v b
  exact ⟨h2, w, ev_call hf hk hc a a2, b2⟩
theorem px_set_at (h : px_H) (a : Nat) (c : px_C) : (px_set h a c).2.2 a = some c := by
  show (if a = a then some c else h.2.2 a) = some c
  rw [if_pos rfl]
theorem px_set_ne {h : px_H} {a b : Nat} {c : px_C} (hne : b ≠ a) : (px_set h a c).2.2 b = h.2.2 b := by
  show (if b = a then some c else h.2.2 b) = h.2.2 b
  rw [if_neg hne]
/-- only the cells in S have changed -/
def px_fr (S : Nat → Prop) (h h1 : px_H) : Prop := h1.1 = h.1 ∧ h1.2.1 = h.2.1 ∧ ∀ q, ¬ S q → h1.2.2 q = h.2.2 q
theorem px_fr_rf (S : Nat → Prop) (h : px_H) : px_fr S h h := ⟨rfl, rfl, fun _ _ => rfl⟩
theorem px_fr_set {S : Nat → Prop} {h h1 : px_H} {a : Nat} {c : px_C} (ha : S a) (hf : px_fr S h h1) : px_fr S h (px_set h1 a c) := ⟨hf.1, hf.2.1, fun q hq => by rw [px_set_ne (fun e : q = a => hq (by rw [e]; exact ha))]; exact hf.2.2 q hq⟩
theorem px_fr_tr {S S' : Nat → Prop} {h h1 h2 : px_H} (h12 : px_fr S h h1) (h23 : px_fr S' h1 h2) (hs : ∀ q, S' q → S q) : px_fr S h h2 := ⟨h23.1.trans h12.1, h23.2.1.trans h12.2.1, fun q hq => (h23.2.2 q (fun z => hq (hs q z))).trans (h12.2.2 q hq)⟩
theorem px_fr_le {S S' : Nat → Prop} {h h1 : px_H} (h12 : px_fr S' h h1) (hs : ∀ q, S' q → S q) : px_fr S h h1 := ⟨h12.1, h12.2.1, fun q hq => h12.2.2 q (fun z => hq (hs q z))⟩
section RL
variable {m pc pc' : Nat} {L L' : px_L} {st : List Value} {h : px_H} {P : px_H → Option Value → Prop} {ln a0 b0 : Nat} {v0 : Value}
theorem e_iconst {n : Int} {v : Int32} (hf : px_at m pc = some (.iconst n, ln, a0, b0, v0)) (hv : Int32.ofInt n = v) (hp : pc + 1 = pc') (k : px_to m pc' L (.int v :: st) (h) P) : px_to m pc L (st) h P := to_of (fun _ k => ev_stk hf rfl (by rw [← hv]; rfl) hp k) k
theorem e_bipush {n : Int} {v : Int32} (hf : px_at m pc = some (.bipush n, ln, a0, b0, v0)) (hv : (Int8.ofInt n).toInt32 = v) (hp : pc + 2 = pc') (k : px_to m pc' L (.int v :: st) (h) P) : px_to m pc L (st) h P := to_of (fun _ k => ev_stk hf rfl (by rw [← hv]; rfl) hp k) k
theorem e_sipush {n : Int} {v : Int32} (hf : px_at m pc = some (.sipush n, ln, a0, b0, v0)) (hv : (Int16.ofInt n).toInt32 = v) (hp : pc + 3 = pc') (k : px_to m pc' L (.int v :: st) (h) P) : px_to m pc L (st) h P := to_of (fun _ k => ev_stk hf rfl (by rw [← hv]; rfl) hp k) k
theorem e_iload_n {i : Fin 4} {x : Int32} (hf : px_at m pc = some (.iload_n i, ln, a0, b0, v0)) (hl : L[i.val]? = some (some (.int x))) (hp : pc + 1 = pc') (k : px_to m pc' L (.int x :: st) (h) P) : px_to m pc L (st) h P := to_of (fun _ k => ev_stk hf rfl (by show px_ldi L i.val st = _; unfold px_ldi; rw [hl]) hp k) k
theorem e_iload {i : Nat} {x : Int32} (hf : px_at m pc = some (.iload i, ln, a0, b0, v0)) (hl : L[i]? = some (some (.int x))) (hp : pc + 2 = pc') (k : px_to m pc' L (.int x :: st) (h) P) : px_to m pc L (st) h P := to_of (fun _ k => ev_stk hf rfl (by show px_ldi L i st = _; unfold px_ldi; rw [hl]) hp k) k
theorem e_lload_n {i : Fin 4} {x : Int64} (hf : px_at m pc = some (.lload_n i, ln, a0, b0, v0)) (hl : L[i.val]? = some (some (.long x))) (hp : pc + 1 = pc') (k : px_to m pc' L (.long x :: st) (h) P) : px_to m pc L (st) h P := to_of (fun _ k => ev_stk hf rfl (by show px_ldl L i.val st = _; unfold px_ldl; rw [hl]) hp k) k
theorem e_lload {i : Nat} {x : Int64} (hf : px_at m pc = some (.lload i, ln, a0, b0, v0)) (hl : L[i]? = some (some (.long x))) (hp : pc + 2 = pc') (k : px_to m pc' L (.long x :: st) (h) P) : px_to m pc L (st) h P := to_of (fun _ k => ev_stk hf rfl (by show px_ldl L i st = _; unfold px_ldl; rw [hl]) hp k) k
theorem e_aload_n {i : Fin 4} {x : Nat} (hf : px_at m pc = some (.aload_n i, ln, a0, b0, v0)) (hl : L[i.val]? = some (some (.ref x))) (hp : pc + 1 = pc') (k : px_to m pc' L (.ref x :: st) (h) P) : px_to m pc L (st) h P := to_of (fun _ k => ev_stk hf rfl (by show px_lda L i.val st = _; unfold px_lda; rw [hl]) hp k) k
theorem e_aload {i : Nat} {x : Nat} (hf : px_at m pc = some (.aload i, ln, a0, b0, v0)) (hl : L[i]? = some (some (.ref x))) (hp : pc + 2 = pc') (k : px_to m pc' L (.ref x :: st) (h) P) : px_to m pc L (st) h P := to_of (fun _ k => ev_stk hf rfl (by show px_lda L i st = _; unfold px_lda; rw [hl]) hp k) k
theorem e_iadd {x y z : Int32} (hf : px_at m pc = some (.iadd, ln, a0, b0, v0)) (hv : x + y = z) (hp : pc + 1 = pc') (k : px_to m pc' L (.int z :: st) (h) P) : px_to m pc L (.int y :: .int x :: st) h P := to_of (fun _ k => ev_stk hf rfl (by rw [← hv]; rfl) hp k) k
theorem e_isub {x y z : Int32} (hf : px_at m pc = some (.isub, ln, a0, b0, v0)) (hv : x - y = z) (hp : pc + 1 = pc') (k : px_to m pc' L (.int z :: st) (h) P) : px_to m pc L (.int y :: .int x :: st) h P := to_of (fun _ k => ev_stk hf rfl (by rw [← hv]; rfl) hp k) k
theorem e_imul {x y z : Int32} (hf : px_at m pc = some (.imul, ln, a0, b0, v0)) (hv : x * y = z) (hp : pc + 1 = pc') (k : px_to m pc' L (.int z :: st) (h) P) : px_to m pc L (.int y :: .int x :: st) h P := to_of (fun _ k => ev_stk hf rfl (by rw [← hv]; rfl) hp k) k
theorem e_iand {x y z : Int32} (hf : px_at m pc = some (.iand, ln, a0, b0, v0)) (hv : x &&& y = z) (hp : pc + 1 = pc') (k : px_to m pc' L (.int z :: st) (h) P) : px_to m pc L (.int y :: .int x :: st) h P := to_of (fun _ k => ev_stk hf rfl (by rw [← hv]; rfl) hp k) k
theorem e_ior {x y z : Int32} (hf : px_at m pc = some (.ior, ln, a0, b0, v0)) (hv : x ||| y = z) (hp : pc + 1 = pc') (k : px_to m pc' L (.int z :: st) (h) P) : px_to m pc L (.int y :: .int x :: st) h P := to_of (fun _ k => ev_stk hf rfl (by rw [← hv]; rfl) hp k) k
theorem e_ixor {x y z : Int32} (hf : px_at m pc = some (.ixor, ln, a0, b0, v0)) (hv : x ^^^ y = z) (hp : pc + 1 = pc') (k : px_to m pc' L (.int z :: st) (h) P) : px_to m pc L (.int y :: .int x :: st) h P := to_of (fun _ k => ev_stk hf rfl (by rw [← hv]; rfl) hp k) k
theorem e_ishl {x y z : Int32} (hf : px_at m pc = some (.ishl, ln, a0, b0, v0)) (hv : x <<< (y &&& 31) = z) (hp : pc + 1 = pc') (k : px_to m pc' L (.int z :: st) (h) P) : px_to m pc L (.int y :: .int x :: st) h P := to_of (fun _ k => ev_stk hf rfl (by rw [← hv]; rfl) hp k) k
theorem e_ishr {x y z : Int32} (hf : px_at m pc = some (.ishr, ln, a0, b0, v0)) (hv : x >>> (y &&& 31) = z) (hp : pc + 1 = pc') (k : px_to m pc' L (.int z :: st) (h) P) : px_to m pc L (.int y :: .int x :: st) h P := to_of (fun _ k => ev_stk hf rfl (by rw [← hv]; rfl) hp k) k
theorem e_iushr {x y z : Int32} (hf : px_at m pc = some (.iushr, ln, a0, b0, v0)) (hv : (x.toUInt32 >>> (y.toUInt32 &&& Int32.toUInt32 31)).toInt32 = z) (hp : pc + 1 = pc') (k : px_to m pc' L (.int z :: st) (h) P) : px_to m pc L (.int y :: .int x :: st) h P := to_of (fun _ k => ev_stk hf rfl (by rw [← hv]; rfl) hp k) k
theorem e_ineg {x z : Int32} (hf : px_at m pc = some (.ineg, ln, a0, b0, v0)) (hv : -x = z) (hp : pc + 1 = pc') (k : px_to m pc' L (.int z :: st) (h) P) : px_to m pc L (.int x :: st) h P := to_of (fun _ k => ev_stk hf rfl (by rw [← hv]; rfl) hp k) k
theorem e_i2b {x z : Int32} (hf : px_at m pc = some (.i2b, ln, a0, b0, v0)) (hv : x.toInt8.toInt32 = z) (hp : pc + 1 = pc') (k : px_to m pc' L (.int z :: st) (h) P) : px_to m pc L (.int x :: st) h P := to_of (fun _ k => ev_stk hf rfl (by rw [← hv]; rfl) hp k) k
theorem e_i2s {x z : Int32} (hf : px_at m pc = some (.i2s, ln, a0, b0, v0)) (hv : x.toInt16.toInt32 = z) (hp : pc + 1 = pc') (k : px_to m pc' L (.int z :: st) (h) P) : px_to m pc L (.int x :: st) h P := to_of (fun _ k => ev_stk hf rfl (by rw [← hv]; rfl) hp k) k
theorem e_i2c {x z : Int32} (hf : px_at m pc = some (.i2c, ln, a0, b0, v0)) (hv : (x.toUInt32 % 65536).toInt32 = z) (hp : pc + 1 = pc') (k : px_to m pc' L (.int z :: st) (h) P) : px_to m pc L (.int x :: st) h P := to_of (fun _ k => ev_stk hf rfl (by rw [← hv]; rfl) hp k) k
theorem e_i2l {x : Int32} {z : Int64} (hf : px_at m pc = some (.i2l, ln, a0, b0, v0)) (hv : x.toInt64 = z) (hp : pc + 1 = pc') (k : px_to m pc' L (.long z :: st) (h) P) : px_to m pc L (.int x :: st) h P := to_of (fun _ k => ev_stk hf rfl (by rw [← hv]; rfl) hp k) k
theorem e_l2i {x : Int64} {z : Int32} (hf : px_at m pc = some (.l2i, ln, a0, b0, v0)) (hv : x.toInt32 = z) (hp : pc + 1 = pc') (k : px_to m pc' L (.int z :: st) (h) P) : px_to m pc L (.long x :: st) h P := to_of (fun _ k => ev_stk hf rfl (by rw [← hv]; rfl) hp k) k
theorem e_ladd {x y z : Int64} (hf : px_at m pc = some (.ladd, ln, a0, b0, v0)) (hv : x + y = z) (hp : pc + 1 = pc') (k : px_to m pc' L (.long z :: st) (h) P) : px_to m pc L (.long y :: .long x :: st) h P := to_of (fun _ k => ev_stk hf rfl (by rw [← hv]; rfl) hp k) k
theorem e_lsub {x y z : Int64} (hf : px_at m pc = some (.lsub, ln, a0, b0, v0)) (hv : x - y = z) (hp : pc + 1 = pc') (k : px_to m pc' L (.long z :: st) (h) P) : px_to m pc L (.long y :: .long x :: st) h P := to_of (fun _ k => ev_stk hf rfl (by rw [← hv]; rfl) hp k) k
theorem e_lmul {x y z : Int64} (hf : px_at m pc = some (.lmul, ln, a0, b0, v0)) (hv : x * y = z) (hp : pc + 1 = pc') (k : px_to m pc' L (.long z :: st) (h) P) : px_to m pc L (.long y :: .long x :: st) h P := to_of (fun _ k => ev_stk hf rfl (by rw [← hv]; rfl) hp k) k
theorem e_land {x y z : Int64} (hf : px_at m pc = some (.land, ln, a0, b0, v0)) (hv : x &&& y = z) (hp : pc + 1 = pc') (k : px_to m pc' L (.long z :: st) (h) P) : px_to m pc L (.long y :: .long x :: st) h P := to_of (fun _ k => ev_stk hf rfl (by rw [← hv]; rfl) hp k) k
theorem e_lor {x y z : Int64} (hf : px_at m pc = some (.lor, ln, a0, b0, v0)) (hv : x ||| y = z) (hp : pc + 1 = pc') (k : px_to m pc' L (.long z :: st) (h) P) : px_to m pc L (.long y :: .long x :: st) h P := to_of (fun _ k => ev_stk hf rfl (by rw [← hv]; rfl) hp k) k
theorem e_lshl {x z : Int64} {y : Int32} (hf : px_at m pc = some (.lshl, ln, a0, b0, v0)) (hv : x <<< (y.toInt64 &&& 63) = z) (hp : pc + 1 = pc') (k : px_to m pc' L (.long z :: st) (h) P) : px_to m pc L (.int y :: .long x :: st) h P := to_of (fun _ k => ev_stk hf rfl (by rw [← hv]; rfl) hp k) k
theorem e_lshr {x z : Int64} {y : Int32} (hf : px_at m pc = some (.lshr, ln, a0, b0, v0)) (hv : x >>> (y.toInt64 &&& 63) = z) (hp : pc + 1 = pc') (k : px_to m pc' L (.long z :: st) (h) P) : px_to m pc L (.int y :: .long x :: st) h P := to_of (fun _ k => ev_stk hf rfl (by rw [← hv]; rfl) hp k) k
theorem e_lushr {x z : Int64} {y : Int32} (hf : px_at m pc = some (.lushr, ln, a0, b0, v0)) (hv : (x.toUInt64 >>> (y.toInt64.toUInt64 &&& Int64.toUInt64 63)).toInt64 = z) (hp : pc + 1 = pc') (k : px_to m pc' L (.long z :: st) (h) P) : px_to m pc L (.int y :: .long x :: st) h P := to_of (fun _ k => ev_stk hf rfl (by rw [← hv]; rfl) hp k) k
theorem e_lcmp {x y : Int64} (hf : px_at m pc = some (.lcmp, ln, a0, b0, v0)) (hp : pc + 1 = pc') (k : px_to m pc' L (.int (lg_cmp x y) :: st) (h) P) : px_to m pc L (.long y :: .long x :: st) h P := to_of (fun _ k => ev_stk hf rfl (rfl) hp k) k
theorem e_idiv {x y z : Int32} (hf : px_at m pc = some (.idiv, ln, a0, b0, v0)) (hy : ¬ y = 0) (hv : x / y = z) (hp : pc + 1 = pc') (k : px_to m pc' L (.int z :: st) (h) P) : px_to m pc L (.int y :: .int x :: st) h P := to_of (fun _ k => ev_stk hf rfl (by show px_idiv (.int y :: .int x :: st) = _; unfold px_idiv; dsimp only; rw [if_neg hy, hv]) hp k) k
theorem e_ldiv {x y z : Int64} (hf : px_at m pc = some (.ldiv, ln, a0, b0, v0)) (hy : ¬ y = 0) (hv : x / y = z) (hp : pc + 1 = pc') (k : px_to m pc' L (.long z :: st) (h) P) : px_to m pc L (.long y :: .long x :: st) h P := to_of (fun _ k => ev_stk hf rfl (by show px_ldiv (.long y :: .long x :: st) = _; unfold px_ldiv; dsimp only; rw [if_neg hy, hv]) hp k) k
theorem e_lrem {x y z : Int64} (hf : px_at m pc = some (.lrem, ln, a0, b0, v0)) (hy : ¬ y = 0) (hv : x - x / y * y = z) (hp : pc + 1 = pc') (k : px_to m pc' L (.long z :: st) (h) P) : px_to m pc L (.long y :: .long x :: st) h P := to_of (fun _ k => ev_stk hf rfl (by show px_lrem (.long y :: .long x :: st) = _; unfold px_lrem; dsimp only; rw [if_neg hy, hv]) hp k) k
theorem e_dup {v : Value} (hf : px_at m pc = some (.dup, ln, a0, b0, v0)) (hc : v.category = 1) (hp : pc + 1 = pc') (k : px_to m pc' L (v :: v :: st) (h) P) : px_to m pc L (v :: st) h P := to_of (fun _ k => ev_stk hf rfl (by show px_dup (v :: st) = _; unfold px_dup; dsimp only; rw [if_pos hc]) hp k) k
theorem e_dup2 {v w : Value} (hf : px_at m pc = some (.dup2, ln, a0, b0, v0)) (hc : v.category = 1) (hd : w.category = 1) (hp : pc + 1 = pc') (k : px_to m pc' L (v :: w :: v :: w :: st) (h) P) : px_to m pc L (v :: w :: st) h P := to_of (fun _ k => ev_stk hf rfl (by show px_dup2 (v :: w :: st) = _; unfold px_dup2; dsimp only; rw [if_pos ⟨hc, hd⟩]) hp k) k
theorem e_pop {v : Value} (hf : px_at m pc = some (.pop, ln, a0, b0, v0)) (hc : v.category = 1) (hp : pc + 1 = pc') (k : px_to m pc' L (st) (h) P) : px_to m pc L (v :: st) h P := to_of (fun _ k => ev_stk hf rfl (by show px_pop (v :: st) = _; unfold px_pop; dsimp only; rw [if_pos hc]) hp k) k
theorem e_istore_n {i : Fin 4} {x : Int32} (hf : px_at m pc = some (.istore_n i, ln, a0, b0, v0)) (hi : i.val < L.length) (hL : px_st1 L i.val (.int x) = L') (hp : pc + 1 = pc') (k : px_to m pc' L' (st) (h) P) : px_to m pc L (.int x :: st) h P := to_of (fun _ k => ev_lop hf rfl rfl (by show px_sti L i.val (.int x :: st) = _; unfold px_sti; dsimp only; rw [if_pos hi, hL]) hp k) k
theorem e_istore {i : Nat} {x : Int32} (hf : px_at m pc = some (.istore i, ln, a0, b0, v0)) (hi : i < L.length) (hL : px_st1 L i (.int x) = L') (hp : pc + 2 = pc') (k : px_to m pc' L' (st) (h) P) : px_to m pc L (.int x :: st) h P := to_of (fun _ k => ev_lop hf rfl rfl (by show px_sti L i (.int x :: st) = _; unfold px_sti; dsimp only; rw [if_pos hi, hL]) hp k) k
theorem e_astore_n {i : Fin 4} {x : Nat} (hf : px_at m pc = some (.astore_n i, ln, a0, b0, v0)) (hi : i.val < L.length) (hL : px_st1 L i.val (.ref x) = L') (hp : pc + 1 = pc') (k : px_to m pc' L' (st) (h) P) : px_to m pc L (.ref x :: st) h P := to_of (fun _ k => ev_lop hf rfl rfl (by show px_sta L i.val (.ref x :: st) = _; unfold px_sta; dsimp only; rw [if_pos hi, hL]) hp k) k
theorem e_astore {i : Nat} {x : Nat} (hf : px_at m pc = some (.astore i, ln, a0, b0, v0)) (hi : i < L.length) (hL : px_st1 L i (.ref x) = L') (hp : pc + 2 = pc') (k : px_to m pc' L' (st) (h) P) : px_to m pc L (.ref x :: st) h P := to_of (fun _ k => ev_lop hf rfl rfl (by show px_sta L i (.ref x :: st) = _; unfold px_sta; dsimp only; rw [if_pos hi, hL]) hp k) k
theorem e_lstore_n {i : Fin 4} {x : Int64} (hf : px_at m pc = some (.lstore_n i, ln, a0, b0, v0)) (hi : i.val + 1 < L.length) (hL : px_st2 L i.val (.long x) = L') (hp : pc + 1 = pc') (k : px_to m pc' L' (st) (h) P) : px_to m pc L (.long x :: st) h P := to_of (fun _ k => ev_lop hf rfl rfl (by show px_stl L i.val (.long x :: st) = _; unfold px_stl; dsimp only; rw [if_pos hi, hL]) hp k) k
theorem e_lstore {i : Nat} {x : Int64} (hf : px_at m pc = some (.lstore i, ln, a0, b0, v0)) (hi : i + 1 < L.length) (hL : px_st2 L i (.long x) = L') (hp : pc + 2 = pc') (k : px_to m pc' L' (st) (h) P) : px_to m pc L (.long x :: st) h P := to_of (fun _ k => ev_lop hf rfl rfl (by show px_stl L i (.long x :: st) = _; unfold px_stl; dsimp only; rw [if_pos hi, hL]) hp k) k
theorem e_iinc {i : Nat} {d : Int} {x y : Int32} (hf : px_at m pc = some (.iinc i d, ln, a0, b0, v0)) (hl : L[i]? = some (some (.int x))) (hy : x + Int32.ofInt d = y) (hL : px_st1 L i (.int y) = L') (hp : pc + 3 = pc') (k : px_to m pc' L' (st) (h) P) : px_to m pc L (st) h P := to_of (fun _ k => ev_lop hf rfl rfl (by show px_iic L i d st = _; unfold px_iic; rw [hl]; dsimp only; rw [hy, hL]) hp k) k
theorem e_goto {off : Int} (hf : px_at m pc = some (.goto off, ln, pc', b0, v0)) (k : px_to m pc' L (st) (h) P) : px_to m pc L (st) h P := to_of (fun _ k => ev_br hf rfl rfl rfl rfl k) k
theorem e_if_eq_t {x : Int32} {off : Int} (hf : px_at m pc = some (.ifCond .eq off, ln, pc', b0, v0)) (hc : x = 0) (k : px_to m pc' L (st) (h) P) : px_to m pc L (.int x :: st) h P := to_of (fun _ k => ev_br hf rfl rfl rfl (by show px_ifc .eq pc' (pc + 3) (.int x :: st) = _; unfold px_ifc; dsimp only; rw [show px_cmp .eq x 0 = true from decide_eq_true hc]; rfl) k) k
theorem e_if_eq_f {x : Int32} {off : Int} {tg : Nat} (hf : px_at m pc = some (.ifCond .eq off, ln, tg, b0, v0)) (hc : ¬ (x = 0)) (hp : pc + 3 = pc') (k : px_to m pc' L (st) (h) P) : px_to m pc L (.int x :: st) h P := to_of (fun _ k => ev_br hf rfl rfl rfl (by subst hp; show px_ifc .eq tg (pc + 3) (.int x :: st) = _; unfold px_ifc; dsimp only; rw [show px_cmp .eq x 0 = false from decide_eq_false hc]; rfl) k) k
theorem e_if_eq {x : Int32} {off : Int} {tg : Nat} (hf : px_at m pc = some (.ifCond .eq off, ln, tg, b0, v0)) (hp : pc + 3 = pc') (kt : x = 0 → px_to m tg L st h P) (kf : ¬ (x = 0) → px_to m pc' L st h P) : px_to m pc L (.int x :: st) h P := by
  by_cases hc : x = 0
  · exact e_if_eq_t hf hc (kt hc)
  · exact e_if_eq_f hf hc hp (kf hc)
theorem e_icmp_eq_t {x y : Int32} {off : Int} (hf : px_at m pc = some (.if_icmp .eq off, ln, pc', b0, v0)) (hc : x = y) (k : px_to m pc' L (st) (h) P) : px_to m pc L (.int y :: .int x :: st) h P := to_of (fun _ k => ev_br hf rfl rfl rfl (by show px_icm .eq pc' (pc + 3) (.int y :: .int x :: st) = _; unfold px_icm; dsimp only; rw [show px_cmp .eq x y = true from decide_eq_true hc]; rfl) k) k
theorem e_icmp_eq_f {x y : Int32} {off : Int} {tg : Nat} (hf : px_at m pc = some (.if_icmp .eq off, ln, tg, b0, v0)) (hc : ¬ (x = y)) (hp : pc + 3 = pc') (k : px_to m pc' L (st) (h) P) : px_to m pc L (.int y :: .int x :: st) h P := to_of (fun _ k => ev_br hf rfl rfl rfl (by subst hp; show px_icm .eq tg (pc + 3) (.int y :: .int x :: st) = _; unfold px_icm; dsimp only; rw [show px_cmp .eq x y = false from decide_eq_false hc]; rfl) k) k
theorem e_icmp_eq {x y : Int32} {off : Int} {tg : Nat} (hf : px_at m pc = some (.if_icmp .eq off, ln, tg, b0, v0)) (hp : pc + 3 = pc') (kt : x = y → px_to m tg L st h P) (kf : ¬ (x = y) → px_to m pc' L st h P) : px_to m pc L (.int y :: .int x :: st) h P := by
  by_cases hc : x = y
  · exact e_icmp_eq_t hf hc (kt hc)
  · exact e_icmp_eq_f hf hc hp (kf hc)
theorem e_if_ne_t {x : Int32} {off : Int} (hf : px_at m pc = some (.ifCond .ne off, ln, pc', b0, v0)) (hc : ¬ x = 0) (k : px_to m pc' L (st) (h) P) : px_to m pc L (.int x :: st) h P := to_of (fun _ k => ev_br hf rfl rfl rfl (by show px_ifc .ne pc' (pc + 3) (.int x :: st) = _; unfold px_ifc; dsimp only; rw [show px_cmp .ne x 0 = true from decide_eq_true hc]; rfl) k) k
theorem e_if_ne_f {x : Int32} {off : Int} {tg : Nat} (hf : px_at m pc = some (.ifCond .ne off, ln, tg, b0, v0)) (hc : ¬ (¬ x = 0)) (hp : pc + 3 = pc') (k : px_to m pc' L (st) (h) P) : px_to m pc L (.int x :: st) h P := to_of (fun _ k => ev_br hf rfl rfl rfl (by subst hp; show px_ifc .ne tg (pc + 3) (.int x :: st) = _; unfold px_ifc; dsimp only; rw [show px_cmp .ne x 0 = false from decide_eq_false hc]; rfl) k) k
theorem e_if_ne {x : Int32} {off : Int} {tg : Nat} (hf : px_at m pc = some (.ifCond .ne off, ln, tg, b0, v0)) (hp : pc + 3 = pc') (kt : ¬ x = 0 → px_to m tg L st h P) (kf : ¬ (¬ x = 0) → px_to m pc' L st h P) : px_to m pc L (.int x :: st) h P := by
  by_cases hc : ¬ x = 0
  · exact e_if_ne_t hf hc (kt hc)
  · exact e_if_ne_f hf hc hp (kf hc)
theorem e_icmp_ne_t {x y : Int32} {off : Int} (hf : px_at m pc = some (.if_icmp .ne off, ln, pc', b0, v0)) (hc : ¬ x = y) (k : px_to m pc' L (st) (h) P) : px_to m pc L (.int y :: .int x :: st) h P := to_of (fun _ k => ev_br hf rfl rfl rfl (by show px_icm .ne pc' (pc + 3) (.int y :: .int x :: st) = _; unfold px_icm; dsimp only; rw [show px_cmp .ne x y = true from decide_eq_true hc]; rfl) k) k
theorem e_icmp_ne_f {x y : Int32} {off : Int} {tg : Nat} (hf : px_at m pc = some (.if_icmp .ne off, ln, tg, b0, v0)) (hc : ¬ (¬ x = y)) (hp : pc + 3 = pc') (k : px_to m pc' L (st) (h) P) : px_to m pc L (.int y :: .int x :: st) h P := to_of (fun _ k => ev_br hf rfl rfl rfl (by subst hp; show px_icm .ne tg (pc + 3) (.int y :: .int x :: st) = _; unfold px_icm; dsimp only; rw [show px_cmp .ne x y = false from decide_eq_false hc]; rfl) k) k
theorem e_icmp_ne {x y : Int32} {off : Int} {tg : Nat} (hf : px_at m pc = some (.if_icmp .ne off, ln, tg, b0, v0)) (hp : pc + 3 = pc') (kt : ¬ x = y → px_to m tg L st h P) (kf : ¬ (¬ x = y) → px_to m pc' L st h P) : px_to m pc L (.int y :: .int x :: st) h P := by
  by_cases hc : ¬ x = y
  · exact e_icmp_ne_t hf hc (kt hc)
  · exact e_icmp_ne_f hf hc hp (kf hc)
theorem e_if_lt_t {x : Int32} {off : Int} (hf : px_at m pc = some (.ifCond .lt off, ln, pc', b0, v0)) (hc : x < 0) (k : px_to m pc' L (st) (h) P) : px_to m pc L (.int x :: st) h P := to_of (fun _ k => ev_br hf rfl rfl rfl (by show px_ifc .lt pc' (pc + 3) (.int x :: st) = _; unfold px_ifc; dsimp only; rw [show px_cmp .lt x 0 = true from decide_eq_true hc]; rfl) k) k
theorem e_if_lt_f {x : Int32} {off : Int} {tg : Nat} (hf : px_at m pc = some (.ifCond .lt off, ln, tg, b0, v0)) (hc : ¬ (x < 0)) (hp : pc + 3 = pc') (k : px_to m pc' L (st) (h) P) : px_to m pc L (.int x :: st) h P := to_of (fun _ k => ev_br hf rfl rfl rfl (by subst hp; show px_ifc .lt tg (pc + 3) (.int x :: st) = _; unfold px_ifc; dsimp only; rw [show px_cmp .lt x 0 = false from decide_eq_false hc]; rfl) k) k
theorem e_if_lt {x : Int32} {off : Int} {tg : Nat} (hf : px_at m pc = some (.ifCond .lt off, ln, tg, b0, v0)) (hp : pc + 3 = pc') (kt : x < 0 → px_to m tg L st h P) (kf : ¬ (x < 0) → px_to m pc' L st h P) : px_to m pc L (.int x :: st) h P := by
  by_cases hc : x < 0
  · exact e_if_lt_t hf hc (kt hc)
  · exact e_if_lt_f hf hc hp (kf hc)
theorem e_icmp_lt_t {x y : Int32} {off : Int} (hf : px_at m pc = some (.if_icmp .lt off, ln, pc', b0, v0)) (hc : x < y) (k : px_to m pc' L (st) (h) P) : px_to m pc L (.int y :: .int x :: st) h P := to_of (fun _ k => ev_br hf rfl rfl rfl (by show px_icm .lt pc' (pc + 3) (.int y :: .int x :: st) = _; unfold px_icm; dsimp only; rw [show px_cmp .lt x y = true from decide_eq_true hc]; rfl) k) k
theorem e_icmp_lt_f {x y : Int32} {off : Int} {tg : Nat} (hf : px_at m pc = some (.if_icmp .lt off, ln, tg, b0, v0)) (hc : ¬ (x < y)) (hp : pc + 3 = pc') (k : px_to m pc' L (st) (h) P) : px_to m pc L (.int y :: .int x :: st) h P := to_of (fun _ k => ev_br hf rfl rfl rfl (by subst hp; show px_icm .lt tg (pc + 3) (.int y :: .int x :: st) = _; unfold px_icm; dsimp only; rw [show px_cmp .lt x y = false from decide_eq_false hc]; rfl) k) k
theorem e_icmp_lt {x y : Int32} {off : Int} {tg : Nat} (hf : px_at m pc = some (.if_icmp .lt off, ln, tg, b0, v0)) (hp : pc + 3 = pc') (kt : x < y → px_to m tg L st h P) (kf : ¬ (x < y) → px_to m pc' L st h P) : px_to m pc L (.int y :: .int x :: st) h P := by
  by_cases hc : x < y
  · exact e_icmp_lt_t hf hc (kt hc)
  · exact e_icmp_lt_f hf hc hp (kf hc)
theorem e_if_ge_t {x : Int32} {off : Int} (hf : px_at m pc = some (.ifCond .ge off, ln, pc', b0, v0)) (hc : 0 ≤ x) (k : px_to m pc' L (st) (h) P) : px_to m pc L (.int x :: st) h P := to_of (fun _ k => ev_br hf rfl rfl rfl (by show px_ifc .ge pc' (pc + 3) (.int x :: st) = _; unfold px_ifc; dsimp only; rw [show px_cmp .ge x 0 = true from decide_eq_true hc]; rfl) k) k
theorem e_if_ge_f {x : Int32} {off : Int} {tg : Nat} (hf : px_at m pc = some (.ifCond .ge off, ln, tg, b0, v0)) (hc : ¬ (0 ≤ x)) (hp : pc + 3 = pc') (k : px_to m pc' L (st) (h) P) : px_to m pc L (.int x :: st) h P := to_of (fun _ k => ev_br hf rfl rfl rfl (by subst hp; show px_ifc .ge tg (pc + 3) (.int x :: st) = _; unfold px_ifc; dsimp only; rw [show px_cmp .ge x 0 = false from decide_eq_false hc]; rfl) k) k
theorem e_if_ge {x : Int32} {off : Int} {tg : Nat} (hf : px_at m pc = some (.ifCond .ge off, ln, tg, b0, v0)) (hp : pc + 3 = pc') (kt : 0 ≤ x → px_to m tg L st h P) (kf : ¬ (0 ≤ x) → px_to m pc' L st h P) : px_to m pc L (.int x :: st) h P := by
  by_cases hc : 0 ≤ x
  · exact e_if_ge_t hf hc (kt hc)
  · exact e_if_ge_f hf hc hp (kf hc)
theorem e_icmp_ge_t {x y : Int32} {off : Int} (hf : px_at m pc = some (.if_icmp .ge off, ln, pc', b0, v0)) (hc : y ≤ x) (k : px_to m pc' L (st) (h) P) : px_to m pc L (.int y :: .int x :: st) h P := to_of (fun _ k => ev_br hf rfl rfl rfl (by show px_icm .ge pc' (pc + 3) (.int y :: .int x :: st) = _; unfold px_icm; dsimp only; rw [show px_cmp .ge x y = true from decide_eq_true hc]; rfl) k) k
theorem e_icmp_ge_f {x y : Int32} {off : Int} {tg : Nat} (hf : px_at m pc = some (.if_icmp .ge off, ln, tg, b0, v0)) (hc : ¬ (y ≤ x)) (hp : pc + 3 = pc') (k : px_to m pc' L (st) (h) P) : px_to m pc L (.int y :: .int x :: st) h P := to_of (fun _ k => ev_br hf rfl rfl rfl (by subst hp; show px_icm .ge tg (pc + 3) (.int y :: .int x :: st) = _; unfold px_icm; dsimp only; rw [show px_cmp .ge x y = false from decide_eq_false hc]; rfl) k) k
theorem e_icmp_ge {x y : Int32} {off : Int} {tg : Nat} (hf : px_at m pc = some (.if_icmp .ge off, ln, tg, b0, v0)) (hp : pc + 3 = pc') (kt : y ≤ x → px_to m tg L st h P) (kf : ¬ (y ≤ x) → px_to m pc' L st h P) : px_to m pc L (.int y :: .int x :: st) h P := by
  by_cases hc : y ≤ x
  · exact e_icmp_ge_t hf hc (kt hc)
  · exact e_icmp_ge_f hf hc hp (kf hc)
theorem e_if_gt_t {x : Int32} {off : Int} (hf : px_at m pc = some (.ifCond .gt off, ln, pc', b0, v0)) (hc : 0 < x) (k : px_to m pc' L (st) (h) P) : px_to m pc L (.int x :: st) h P := to_of (fun _ k => ev_br hf rfl rfl rfl (by show px_ifc .gt pc' (pc + 3) (.int x :: st) = _; unfold px_ifc; dsimp only; rw [show px_cmp .gt x 0 = true from decide_eq_true hc]; rfl) k) k
theorem e_if_gt_f {x : Int32} {off : Int} {tg : Nat} (hf : px_at m pc = some (.ifCond .gt off, ln, tg, b0, v0)) (hc : ¬ (0 < x)) (hp : pc + 3 = pc') (k : px_to m pc' L (st) (h) P) : px_to m pc L (.int x :: st) h P := to_of (fun _ k => ev_br hf rfl rfl rfl (by subst hp; show px_ifc .gt tg (pc + 3) (.int x :: st) = _; unfold px_ifc; dsimp only; rw [show px_cmp .gt x 0 = false from decide_eq_false hc]; rfl) k) k
theorem e_if_gt {x : Int32} {off : Int} {tg : Nat} (hf : px_at m pc = some (.ifCond .gt off, ln, tg, b0, v0)) (hp : pc + 3 = pc') (kt : 0 < x → px_to m tg L st h P) (kf : ¬ (0 < x) → px_to m pc' L st h P) : px_to m pc L (.int x :: st) h P := by
  by_cases hc : 0 < x
  · exact e_if_gt_t hf hc (kt hc)
  · exact e_if_gt_f hf hc hp (kf hc)
theorem e_icmp_gt_t {x y : Int32} {off : Int} (hf : px_at m pc = some (.if_icmp .gt off, ln, pc', b0, v0)) (hc : y < x) (k : px_to m pc' L (st) (h) P) : px_to m pc L (.int y :: .int x :: st) h P := to_of (fun _ k => ev_br hf rfl rfl rfl (by show px_icm .gt pc' (pc + 3) (.int y :: .int x :: st) = _; unfold px_icm; dsimp only; rw [show px_cmp .gt x y = true from decide_eq_true hc]; rfl) k) k
theorem e_icmp_gt_f {x y : Int32} {off : Int} {tg : Nat} (hf : px_at m pc = some (.if_icmp .gt off, ln, tg, b0, v0)) (hc : ¬ (y < x)) (hp : pc + 3 = pc') (k : px_to m pc' L (st) (h) P) : px_to m pc L (.int y :: .int x :: st) h P := to_of (fun _ k => ev_br hf rfl rfl rfl (by subst hp; show px_icm .gt tg (pc + 3) (.int y :: .int x :: st) = _; unfold px_icm; dsimp only; rw [show px_cmp .gt x y = false from decide_eq_false hc]; rfl) k) k
theorem e_icmp_gt {x y : Int32} {off : Int} {tg : Nat} (hf : px_at m pc = some (.if_icmp .gt off, ln, tg, b0, v0)) (hp : pc + 3 = pc') (kt : y < x → px_to m tg L st h P) (kf : ¬ (y < x) → px_to m pc' L st h P) : px_to m pc L (.int y :: .int x :: st) h P := by
  by_cases hc : y < x
  · exact e_icmp_gt_t hf hc (kt hc)
  · exact e_icmp_gt_f hf hc hp (kf hc)
theorem e_if_le_t {x : Int32} {off : Int} (hf : px_at m pc = some (.ifCond .le off, ln, pc', b0, v0)) (hc : x ≤ 0) (k : px_to m pc' L (st) (h) P) : px_to m pc L (.int x :: st) h P := to_of (fun _ k => ev_br hf rfl rfl rfl (by show px_ifc .le pc' (pc + 3) (.int x :: st) = _; unfold px_ifc; dsimp only; rw [show px_cmp .le x 0 = true from decide_eq_true hc]; rfl) k) k
theorem e_if_le_f {x : Int32} {off : Int} {tg : Nat} (hf : px_at m pc = some (.ifCond .le off, ln, tg, b0, v0)) (hc : ¬ (x ≤ 0)) (hp : pc + 3 = pc') (k : px_to m pc' L (st) (h) P) : px_to m pc L (.int x :: st) h P := to_of (fun _ k => ev_br hf rfl rfl rfl (by subst hp; show px_ifc .le tg (pc + 3) (.int x :: st) = _; unfold px_ifc; dsimp only; rw [show px_cmp .le x 0 = false from decide_eq_false hc]; rfl) k) k
theorem e_if_le {x : Int32} {off : Int} {tg : Nat} (hf : px_at m pc = some (.ifCond .le off, ln, tg, b0, v0)) (hp : pc + 3 = pc') (kt : x ≤ 0 → px_to m tg L st h P) (kf : ¬ (x ≤ 0) → px_to m pc' L st h P) : px_to m pc L (.int x :: st) h P := by
  by_cases hc : x ≤ 0
  · exact e_if_le_t hf hc (kt hc)
  · exact e_if_le_f hf hc hp (kf hc)
theorem e_icmp_le_t {x y : Int32} {off : Int} (hf : px_at m pc = some (.if_icmp .le off, ln, pc', b0, v0)) (hc : x ≤ y) (k : px_to m pc' L (st) (h) P) : px_to m pc L (.int y :: .int x :: st) h P := to_of (fun _ k => ev_br hf rfl rfl rfl (by show px_icm .le pc' (pc + 3) (.int y :: .int x :: st) = _; unfold px_icm; dsimp only; rw [show px_cmp .le x y = true from decide_eq_true hc]; rfl) k) k
theorem e_icmp_le_f {x y : Int32} {off : Int} {tg : Nat} (hf : px_at m pc = some (.if_icmp .le off, ln, tg, b0, v0)) (hc : ¬ (x ≤ y)) (hp : pc + 3 = pc') (k : px_to m pc' L (st) (h) P) : px_to m pc L (.int y :: .int x :: st) h P := to_of (fun _ k => ev_br hf rfl rfl rfl (by subst hp; show px_icm .le tg (pc + 3) (.int y :: .int x :: st) = _; unfold px_icm; dsimp only; rw [show px_cmp .le x y = false from decide_eq_false hc]; rfl) k) k
theorem e_icmp_le {x y : Int32} {off : Int} {tg : Nat} (hf : px_at m pc = some (.if_icmp .le off, ln, tg, b0, v0)) (hp : pc + 3 = pc') (kt : x ≤ y → px_to m tg L st h P) (kf : ¬ (x ≤ y) → px_to m pc' L st h P) : px_to m pc L (.int y :: .int x :: st) h P := by
  by_cases hc : x ≤ y
  · exact e_icmp_le_t hf hc (kt hc)
  · exact e_icmp_le_f hf hc hp (kf hc)
theorem e_getf {idx ci fk a : Nat} {vs : List Value} {v : Value} (hf : px_at m pc = some (.getfield idx, ln, ci, fk, v0)) (ha : h.2.2 a = some (ci, vs)) (hv : vs[fk]? = some v) (hp : pc + 3 = pc') (k : px_to m pc' L (v :: st) (h) P) : px_to m pc L (.ref a :: st) h P := to_of (fun _ k => ev_hop hf rfl rfl rfl rfl (by show px_getf ci fk h (.ref a :: st) = _; unfold px_getf; dsimp only; rw [ha]; dsimp only; rw [if_pos rfl, hv]; rfl) hp k) k
theorem e_putf {idx ci fk a : Nat} {vs vs' : List Value} {v : Value} (hf : px_at m pc = some (.putfield idx, ln, ci, fk, v0)) (ha : h.2.2 a = some (ci, vs)) (hk : fk < vs.length) (hn : narrow (px_ty ci fk) v = v) (hft : fits (px_ty ci fk) v = true) (hvs : vs.set fk v = vs') (hp : pc + 3 = pc') (k : ∀ h' : px_H, h' = px_set h a (ci, vs') → px_to m pc' L (st) h' P) : px_to m pc L (v :: .ref a :: st) h P := to_of (fun _ k => ev_hop hf rfl rfl rfl rfl (by show px_putf ci fk h (v :: .ref a :: st) = _; unfold px_putf; dsimp only; rw [ha]; dsimp only; rw [if_pos ⟨rfl, hk, hn, hft⟩, hvs]) hp k) (k _ rfl)
theorem e_iaload {a : Nat} {i : Int32} {vs : List Value} {v : Value} (hf : px_at m pc = some (.iaload, ln, a0, b0, v0)) (ha : h.2.2 a = some (50, vs)) (h0 : ¬ i < 0) (hv : vs[i.toNatClampNeg]? = some v) (hp : pc + 1 = pc') (k : px_to m pc' L (v :: st) (h) P) : px_to m pc L (.int i :: .ref a :: st) h P := to_of (fun _ k => ev_hop hf rfl rfl rfl rfl (by show px_ald 50 h (.int i :: .ref a :: st) = _; unfold px_ald; dsimp only; rw [ha]; dsimp only; rw [if_pos ⟨rfl, h0⟩, hv]; rfl) hp k) k
theorem e_laload {a : Nat} {i : Int32} {vs : List Value} {v : Value} (hf : px_at m pc = some (.laload, ln, a0, b0, v0)) (ha : h.2.2 a = some (51, vs)) (h0 : ¬ i < 0) (hv : vs[i.toNatClampNeg]? = some v) (hp : pc + 1 = pc') (k : px_to m pc' L (v :: st) (h) P) : px_to m pc L (.int i :: .ref a :: st) h P := to_of (fun _ k => ev_hop hf rfl rfl rfl rfl (by show px_ald 51 h (.int i :: .ref a :: st) = _; unfold px_ald; dsimp only; rw [ha]; dsimp only; rw [if_pos ⟨rfl, h0⟩, hv]; rfl) hp k) k
theorem e_caload {a : Nat} {i : Int32} {vs : List Value} {v : Value} (hf : px_at m pc = some (.caload, ln, a0, b0, v0)) (ha : h.2.2 a = some (52, vs)) (h0 : ¬ i < 0) (hv : vs[i.toNatClampNeg]? = some v) (hp : pc + 1 = pc') (k : px_to m pc' L (v :: st) (h) P) : px_to m pc L (.int i :: .ref a :: st) h P := to_of (fun _ k => ev_hop hf rfl rfl rfl rfl (by show px_ald 52 h (.int i :: .ref a :: st) = _; unfold px_ald; dsimp only; rw [ha]; dsimp only; rw [if_pos ⟨rfl, h0⟩, hv]; rfl) hp k) k
theorem e_saload {a : Nat} {i : Int32} {vs : List Value} {v : Value} (hf : px_at m pc = some (.saload, ln, a0, b0, v0)) (ha : h.2.2 a = some (53, vs)) (h0 : ¬ i < 0) (hv : vs[i.toNatClampNeg]? = some v) (hp : pc + 1 = pc') (k : px_to m pc' L (v :: st) (h) P) : px_to m pc L (.int i :: .ref a :: st) h P := to_of (fun _ k => ev_hop hf rfl rfl rfl rfl (by show px_ald 53 h (.int i :: .ref a :: st) = _; unfold px_ald; dsimp only; rw [ha]; dsimp only; rw [if_pos ⟨rfl, h0⟩, hv]; rfl) hp k) k
theorem e_baload {a : Nat} {i : Int32} {vs : List Value} {v : Value} (hf : px_at m pc = some (.baload, ln, a0, b0, v0)) (ha : h.2.2 a = some (54, vs)) (h0 : ¬ i < 0) (hv : vs[i.toNatClampNeg]? = some v) (hp : pc + 1 = pc') (k : px_to m pc' L (v :: st) (h) P) : px_to m pc L (.int i :: .ref a :: st) h P := to_of (fun _ k => ev_hop hf rfl rfl rfl rfl (by show px_ald 54 h (.int i :: .ref a :: st) = _; unfold px_ald; dsimp only; rw [ha]; dsimp only; rw [if_pos ⟨rfl, h0⟩, hv]; rfl) hp k) k
theorem e_aaload {a kd : Nat} {i : Int32} {vs : List Value} {v : Value} (hf : px_at m pc = some (.aaload, ln, a0, b0, v0)) (ha : h.2.2 a = some (kd, vs)) (hkd : kd = 55 ∨ kd = 56) (h0 : ¬ i < 0) (hv : vs[i.toNatClampNeg]? = some v) (hp : pc + 1 = pc') (k : px_to m pc' L (v :: st) (h) P) : px_to m pc L (.int i :: .ref a :: st) h P := to_of (fun _ k => ev_hop hf rfl rfl rfl rfl (by show px_aald h (.int i :: .ref a :: st) = _; unfold px_aald; dsimp only; rw [ha]; dsimp only; rw [if_pos ⟨hkd, h0⟩, hv]; rfl) hp k) k
theorem e_iastore {a : Nat} {i x : Int32} {vs vs' : List Value} (hf : px_at m pc = some (.iastore, ln, a0, b0, v0)) (ha : h.2.2 a = some (50, vs)) (h9 : 17 ≤ a) (h0 : ¬ i < 0) (hl : i.toNatClampNeg < vs.length) (hvs : vs.set i.toNatClampNeg (narrow .int (.int x)) = vs') (hp : pc + 1 = pc') (k : ∀ h' : px_H, h' = px_set h a (50, vs') → px_to m pc' L (st) h' P) : px_to m pc L (.int x :: .int i :: .ref a :: st) h P := to_of (fun _ k => ev_hop hf rfl rfl rfl rfl (by show px_ast 50 .int h (.int x :: .int i :: .ref a :: st) = _; unfold px_ast; dsimp only; rw [ha]; dsimp only; rw [if_pos ⟨rfl, h9, h0, hl⟩, hvs]) hp k) (k _ rfl)
theorem e_castore {a : Nat} {i x : Int32} {vs vs' : List Value} (hf : px_at m pc = some (.castore, ln, a0, b0, v0)) (ha : h.2.2 a = some (52, vs)) (h9 : 17 ≤ a) (h0 : ¬ i < 0) (hl : i.toNatClampNeg < vs.length) (hvs : vs.set i.toNatClampNeg (narrow .char (.int x)) = vs') (hp : pc + 1 = pc') (k : ∀ h' : px_H, h' = px_set h a (52, vs') → px_to m pc' L (st) h' P) : px_to m pc L (.int x :: .int i :: .ref a :: st) h P := to_of (fun _ k => ev_hop hf rfl rfl rfl rfl (by show px_ast 52 .char h (.int x :: .int i :: .ref a :: st) = _; unfold px_ast; dsimp only; rw [ha]; dsimp only; rw [if_pos ⟨rfl, h9, h0, hl⟩, hvs]) hp k) (k _ rfl)
theorem e_sastore {a : Nat} {i x : Int32} {vs vs' : List Value} (hf : px_at m pc = some (.sastore, ln, a0, b0, v0)) (ha : h.2.2 a = some (53, vs)) (h9 : 17 ≤ a) (h0 : ¬ i < 0) (hl : i.toNatClampNeg < vs.length) (hvs : vs.set i.toNatClampNeg (narrow .short (.int x)) = vs') (hp : pc + 1 = pc') (k : ∀ h' : px_H, h' = px_set h a (53, vs') → px_to m pc' L (st) h' P) : px_to m pc L (.int x :: .int i :: .ref a :: st) h P := to_of (fun _ k => ev_hop hf rfl rfl rfl rfl (by show px_ast 53 .short h (.int x :: .int i :: .ref a :: st) = _; unfold px_ast; dsimp only; rw [ha]; dsimp only; rw [if_pos ⟨rfl, h9, h0, hl⟩, hvs]) hp k) (k _ rfl)
theorem e_bastore {a : Nat} {i x : Int32} {vs vs' : List Value} (hf : px_at m pc = some (.bastore, ln, a0, b0, v0)) (ha : h.2.2 a = some (54, vs)) (h9 : 17 ≤ a) (h0 : ¬ i < 0) (hl : i.toNatClampNeg < vs.length) (hvs : vs.set i.toNatClampNeg (narrow .byte (.int x)) = vs') (hp : pc + 1 = pc') (k : ∀ h' : px_H, h' = px_set h a (54, vs') → px_to m pc' L (st) h' P) : px_to m pc L (.int x :: .int i :: .ref a :: st) h P := to_of (fun _ k => ev_hop hf rfl rfl rfl rfl (by show px_ast 54 .byte h (.int x :: .int i :: .ref a :: st) = _; unfold px_ast; dsimp only; rw [ha]; dsimp only; rw [if_pos ⟨rfl, h9, h0, hl⟩, hvs]) hp k) (k _ rfl)
theorem e_lastore {a : Nat} {i : Int32} {x : Int64} {vs vs' : List Value} (hf : px_at m pc = some (.lastore, ln, a0, b0, v0)) (ha : h.2.2 a = some (51, vs)) (h9 : 17 ≤ a) (h0 : ¬ i < 0) (hl : i.toNatClampNeg < vs.length) (hvs : vs.set i.toNatClampNeg (.long x) = vs') (hp : pc + 1 = pc') (k : ∀ h' : px_H, h' = px_set h a (51, vs') → px_to m pc' L (st) h' P) : px_to m pc L (.long x :: .int i :: .ref a :: st) h P := to_of (fun _ k => ev_hop hf rfl rfl rfl rfl (by show px_last h (.long x :: .int i :: .ref a :: st) = _; unfold px_last; dsimp only; rw [ha]; dsimp only; rw [if_pos ⟨rfl, h9, h0, hl⟩, hvs]) hp k) (k _ rfl)
theorem e_alen {a kd : Nat} {vs : List Value} {n : Int32} (hf : px_at m pc = some (.arraylength, ln, a0, b0, v0)) (ha : h.2.2 a = some (kd, vs)) (hk : 50 ≤ kd) (hn : Int32.ofNat vs.length = n) (hp : pc + 1 = pc') (k : px_to m pc' L (.int n :: st) (h) P) : px_to m pc L (.ref a :: st) h P := to_of (fun _ k => ev_hop hf rfl rfl rfl rfl (by show px_alen h (.ref a :: st) = _; unfold px_alen; dsimp only; rw [ha]; dsimp only; rw [if_pos hk, hn]) hp k) k
theorem e_max {idx : Nat} {x y : Int32} (hf : px_at m pc = some (.invokestatic idx, ln, a0, 11, v0)) (hs : px_sum st ≤ 8) (hp : pc + 3 = pc') (k : px_to m pc' L (.int (if x < y then y else x) :: st) (h) P) : px_to m pc L (.int y :: .int x :: st) h P := to_of (fun _ k => ev_hop hf rfl rfl rfl rfl (by show px_max h (.int y :: .int x :: st) = _; unfold px_max; dsimp only; rw [if_pos hs]) hp k) k
theorem e_min {idx : Nat} {x y : Int32} (hf : px_at m pc = some (.invokestatic idx, ln, a0, 12, v0)) (hs : px_sum st ≤ 8) (hp : pc + 3 = pc') (k : px_to m pc' L (.int (if y < x then y else x) :: st) (h) P) : px_to m pc L (.int y :: .int x :: st) h P := to_of (fun _ k => ev_hop hf rfl rfl rfl rfl (by show px_min h (.int y :: .int x :: st) = _; unfold px_min; dsimp only; rw [if_pos hs]) hp k) k
theorem e_ldc {idx : Nat} (hf : px_at m pc = some (.ldc idx, ln, a0, b0, v0)) (hp : pc + 2 = pc') (k : px_to m pc' L (v0 :: st) (h) P) : px_to m pc L (st) h P := to_of (fun _ k => ev_hop hf rfl rfl rfl rfl rfl hp k) k
theorem e_ldcw {idx : Nat} (hf : px_at m pc = some (.ldc_w idx, ln, a0, b0, v0)) (hp : pc + 3 = pc') (k : px_to m pc' L (v0 :: st) (h) P) : px_to m pc L (st) h P := to_of (fun _ k => ev_hop hf rfl rfl rfl rfl rfl hp k) k
theorem e_ldc2 {idx : Nat} (hf : px_at m pc = some (.ldc2_w idx, ln, a0, b0, v0)) (hp : pc + 3 = pc') (k : px_to m pc' L (v0 :: st) (h) P) : px_to m pc L (st) h P := to_of (fun _ k => ev_hop hf rfl rfl rfl rfl rfl hp k) k
theorem e_gets {idx : Nat} (hf : px_at m pc = some (.getstatic idx, ln, a0, b0, v0)) (hx : a0 < 2) (hp : pc + 3 = pc') (k : px_to m pc' L (v0 :: st) (h) P) : px_to m pc L (st) h P := to_of (fun _ k => ev_hop hf rfl rfl rfl rfl (by show (if a0 < 2 then some (v0 :: st, h) else none) = _; rw [if_pos hx]) hp k) k
theorem e_minN {idx a b : Nat} (hf : px_at m pc = some (.invokestatic idx, ln, a0, 12, v0)) (ha : a < 2 ^ 31) (hb : b < 2 ^ 31) (hs : px_sum st ≤ 8) (hp : pc + 3 = pc') (k : px_to m pc' L (.int (nI (min a b)) :: st) h P) : px_to m pc L (.int (nI b) :: .int (nI a) :: st) h P := by
  refine e_min hf hs hp ?_
  have e : (if nI b < nI a then nI b else nI a) = nI (min a b) := by
    by_cases h1 : b < a
    · rw [if_pos ((nI_ltI hb ha).mpr h1), Nat.min_eq_right (by omega)]
    · rw [if_neg (fun z => h1 ((nI_ltI hb ha).mp z)), Nat.min_eq_left (by omega)]
  rw [e]
  exact k
theorem e_maxN {idx a b : Nat} (hf : px_at m pc = some (.invokestatic idx, ln, a0, 11, v0)) (ha : a < 2 ^ 31) (hb : b < 2 ^ 31) (hs : px_sum st ≤ 8) (hp : pc + 3 = pc') (k : px_to m pc' L (.int (nI (max a b)) :: st) h P) : px_to m pc L (.int (nI b) :: .int (nI a) :: st) h P := by
  refine e_max hf hs hp ?_
  have e : (if nI a < nI b then nI b else nI a) = nI (max a b) := by
    by_cases h1 : a < b
    · rw [if_pos ((nI_ltI ha hb).mpr h1), Nat.max_eq_right (by omega)]
    · rw [if_neg (fun z => h1 ((nI_ltI ha hb).mp z)), Nat.max_eq_left (by omega)]
  rw [e]
  exact k
theorem e_iret {v : Int32} {ty : FieldType} (hf : px_at m pc = some (.ireturn, ln, a0, b0, v0)) (ht : px_rts.getD m none = some ty) (hn : narrow ty (.int v) = .int v) (hP : P h (some (.int v))) : px_to m pc L [.int v] h P := ⟨h, some (.int v), ev_ret hf rfl (by show px_ret m .ireturn [.int v] = _; unfold px_ret; rw [ht]; dsimp only; rw [if_pos hn]), hP⟩
theorem e_vret (hf : px_at m pc = some (.return_, ln, a0, b0, v0)) (ht : px_rts.getD m none = none) (hP : P h none) : px_to m pc L [] h P := ⟨h, none, ev_ret hf rfl (by show px_ret m .return_ [] = _; unfold px_ret; rw [ht]), hP⟩
theorem e_callV {idx mi b np : Nat} {As rest stk : List Value} {ci : Nat} {vs : List Value} {Pc : px_H → Option Value → Prop} (hf : px_at m pc = some (.invokevirtual idx, ln, mi, 1, v0)) (hnp : px_nps.getD mi 0 = np) (hst : stk = As.reverse ++ .ref b :: rest) (hlen : As.length = np) (hsum : px_sum rest ≤ 8) (hsl : (px_sl (.ref b :: As)).length ≤ px_mls.getD mi 0) (hb : h.2.2 b = some (ci, vs)) (hci : px_owns.getD mi 60 = ci) (hc50 : ci < 50) (hm : px_wp mi (.ref b :: As) h Pc) (hp : pc + 3 = pc') (k : ∀ h1 v, Pc h1 v → px_to m pc' L (v.toList ++ rest) h1 P) : px_to m pc L stk h P := by
  subst hp
  refine to_call hf rfl (as := .ref b :: As) (rest := rest) ?_ hm k
  have e0 : stk = (As.reverse ++ [.ref b]) ++ rest := by rw [hst]; simp
  have el : (As.reverse ++ [Value.ref b]).length = np + 1 := by simp [hlen]
  have e1 : stk.take (np + 1) = As.reverse ++ [.ref b] := by
    rw [e0, ← el]
    exact List.take_left
  have e2 : stk.drop (np + 1) = rest := by
    rw [e0, ← el]
    exact List.drop_left
  unfold px_cut
  dsimp only
  rw [if_neg (show ¬ (1 : Nat) = 2 by decide), hnp, e1, e2]
  have e3 : (As.reverse ++ [Value.ref b]).reverse = .ref b :: As := by simp
  rw [e3, if_pos]
  refine ⟨el, hsum, hsl, ?_⟩
  unfold px_rcv
  dsimp only
  rw [hb]
  dsimp only
  rw [hci, decide_eq_true rfl, decide_eq_true hc50]
  rfl
theorem e_callS {idx mi np : Nat} {As rest stk : List Value} {Pc : px_H → Option Value → Prop} (hf : px_at m pc = some (.invokestatic idx, ln, mi, 2, v0)) (hnp : px_nps.getD mi 0 = np) (hst : stk = As.reverse ++ rest) (hlen : As.length = np) (hsum : px_sum rest ≤ 8) (hsl : (px_sl As).length ≤ px_mls.getD mi 0) (hm : px_wp mi As h Pc) (hp : pc + 3 = pc') (k : ∀ h1 v, Pc h1 v → px_to m pc' L (v.toList ++ rest) h1 P) : px_to m pc L stk h P := by
  subst hp
  refine to_call hf rfl (as := As) (rest := rest) ?_ hm k
  have el : As.reverse.length = np + 0 := by simp [hlen]
  have e1 : stk.take (np + 0) = As.reverse := by
    rw [hst, ← el]
    exact List.take_left
  have e2 : stk.drop (np + 0) = rest := by
    rw [hst, ← el]
    exact List.drop_left
  unfold px_cut
  dsimp only
  rw [if_pos (show (2 : Nat) = 2 from rfl), hnp, e1, e2, List.reverse_reverse, if_pos]
  refine ⟨el, hsum, hsl, ?_⟩
  unfold px_rcv
  split <;> rfl
end RL
theorem px_lenM {α : Type} (f : α → Value) (xs : List α) : Int32.ofNat (xs.map f).length = nI xs.length := by rw [List.length_map]; rfl
theorem px_ixM {α : Type} (f : α → Value) {xs : List α} {k : Nat} (hk : k < xs.length) (hb : k < 2 ^ 31) : (nI k).toNatClampNeg < (xs.map f).length := by rw [nI_clamp hb, List.length_map]; exact hk
theorem px_setM {α : Type} (f : α → Value) (xs : List α) {k : Nat} (hb : k < 2 ^ 31) (x : α) : (xs.map f).set (nI k).toNatClampNeg (f x) = (xs.set k x).map f := by rw [nI_clamp hb, List.map_set]
theorem px_ldM {α : Type} (f : α → Value) {xs : List α} {k : Nat} (d : α) (hk : k < xs.length) (hb : k < 2 ^ 31) : (xs.map f)[(nI k).toNatClampNeg]? = some (f (xs.getD k d)) := by rw [nI_clamp hb, List.getElem?_map, List.getD_eq_getElem?_getD, List.getElem?_eq_getElem hk]; rfl
theorem cv_lt {a b : Nat} (ha : a < 2 ^ 31) (hb : b < 2 ^ 31) (h : nI a < nI b) : a < b := (nI_ltI ha hb).mp h
theorem cv_le {a b : Nat} (ha : a < 2 ^ 31) (hb : b < 2 ^ 31) (h : nI a ≤ nI b) : a ≤ b := (nI_leI ha hb).mp h
theorem cv_eq {a b : Nat} (ha : a < 2 ^ 31) (hb : b < 2 ^ 31) (h : nI a = nI b) : a = b := (nI_eq ha hb).mp h
theorem cv_nlt {a b : Nat} (ha : a < 2 ^ 31) (hb : b < 2 ^ 31) (h : ¬ nI a < nI b) : b ≤ a := Nat.not_lt.mp fun z => h ((nI_ltI ha hb).mpr z)
theorem cv_nle {a b : Nat} (ha : a < 2 ^ 31) (hb : b < 2 ^ 31) (h : ¬ nI a ≤ nI b) : b < a := Nat.not_le.mp fun z => h ((nI_leI ha hb).mpr z)
theorem cv_ne {a b : Nat} (h : ¬ nI a = nI b) : a ≠ b := fun z => h (by rw [z])
theorem cv_nne {a b : Nat} (ha : a < 2 ^ 31) (hb : b < 2 ^ 31) (h : ¬ ¬ nI a = nI b) : a = b := (nI_eq ha hb).mp (Classical.not_not.mp h)
theorem px_nin1 {q a : Nat} (h1 : q ≠ a) : q ∉ [a] := by simp [h1]
theorem px_nin2 {q a b : Nat} (h1 : q ≠ a) (h2 : q ≠ b) : q ∉ [a, b] := by simp [h1, h2]
theorem px_nin3 {q a b c : Nat} (h1 : q ≠ a) (h2 : q ≠ b) (h3 : q ≠ c) : q ∉ [a, b, c] := by simp [h1, h2, h3]
theorem px_nin4 {q a b c d : Nat} (h1 : q ≠ a) (h2 : q ≠ b) (h3 : q ≠ c) (h4 : q ≠ d) : q ∉ [a, b, c, d] := by simp [h1, h2, h3, h4]
