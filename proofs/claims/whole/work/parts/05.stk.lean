abbrev px_F : Type := (Nat → Nat) × Option Nat
def px_tv (f : px_F) : Value → Value
  | .ref a => .ref (f.1 a)
  | .int x => .int x
  | .long x => .long x
  | .float x => .float x
  | .double x => .double x
  | .null => .null
  | .retAddr _ => va_rf f.2
theorem px_tv_cat (f : px_F) (v : Value) : (px_tv f v).category = v.category := by
  obtain ⟨f1, o⟩ := f
  cases v <;> first | rfl | (cases o <;> rfl)
theorem px_tv_sum (f : px_F) (st : List Value) : ((st.map (px_tv f)).map fun v => v.category).sum = px_sum st := by
  unfold px_sum
  rw [List.map_map]
  congr 1
  exact List.map_congr_left (fun v _ => px_tv_cat f v)
def px_lr (f : px_F) (L : px_L) (ls : Array Slot) : Prop := ls.size = L.length ∧ lv_wf ls ∧ ∀ (i : Nat) (v : Value), L[i]? = some (some v) → ls[i]? = some (.val (px_tv f v))
def px_al (f : px_F) (L : px_L) : List (Nat × Value) := (List.range L.length).filterMap (fun i => match L[i]? with
  | some (some v) => some (i, px_tv f v)
  | _ => none)
theorem px_al_mem {f : px_F} {L : px_L} {i : Nat} {v : Value} (h : L[i]? = some (some v)) : (i, px_tv f v) ∈ px_al f L := by
  refine List.mem_filterMap.mpr ⟨i, List.mem_range.mpr (List.getElem?_eq_some_iff.mp h).1, ?_⟩
  simp [h]
theorem px_al_has {f : px_F} {L : px_L} {ls : Array Slot} (h : px_lr f L ls) : lv_has ls L.length (px_al f L) := by
  refine ⟨h.1, h.2.1, fun q hq => ?_⟩
  obtain ⟨i, -, hi⟩ := List.mem_filterMap.mp hq
  split at hi
  · next v hv =>
    cases hi
    exact h.2.2 i v hv
  · cases hi
theorem px_clr_len (L : px_L) (i : Nat) : (px_clr L i).length = L.length := by
  unfold px_clr
  split
  · rfl
  · split
    · exact List.length_set
    · rfl
theorem px_st1_len (L : px_L) (i : Nat) (v : Value) : (px_st1 L i v).length = L.length := by
  unfold px_st1
  rw [List.length_set, px_clr_len]
theorem px_st2_len (L : px_L) (i : Nat) (v : Value) : (px_st2 L i v).length = L.length := by
  unfold px_st2
  rw [List.length_set, List.length_set, px_clr_len]
theorem px_clr_at {L : px_L} {i j : Nat} {v : Value} (h : (px_clr L i)[j]? = some (some v)) : L[j]? = some (some v) ∧ ¬ (j + 1 = i ∧ v.category = 2) := by
  cases i with
  | zero => exact ⟨h, fun q => by omega⟩
  | succ k =>
    have h : (if px_isL L[k]? then L.set k none else L)[j]? = some (some v) := h
    by_cases hc : px_isL L[k]? = true
    · rw [if_pos hc, List.getElem?_set] at h
      by_cases hj : k = j
      · rw [if_pos hj] at h
        split at h <;> cases h
      · rw [if_neg hj] at h
        exact ⟨h, fun q => hj (by omega)⟩
    · rw [if_neg hc] at h
      refine ⟨h, fun q => hc ?_⟩
      have hk : k = j := by omega
      subst hk
      rw [h]
      simp [px_isL, q.2]
theorem px_lr_of1 {f : px_F} {L : px_L} {i : Nat} {v : Value} {ls' : Array Slot} (h : lv_has ls' L.length ((i, px_tv f v) :: (px_al f L).filter (fun q => !(q.1 == i) && !(q.1 + 1 == i && q.2.category == 2)))) : px_lr f (px_st1 L i v) ls' := by
  refine ⟨by rw [px_st1_len]; exact h.1, h.2.1, fun j w hj => ?_⟩
  unfold px_st1 at hj
  rw [List.getElem?_set] at hj
  by_cases hij : i = j
  · rw [if_pos hij] at hj
    split at hj
    · cases hj
      subst hij
      exact h.2.2 _ List.mem_cons_self
    · cases hj
  · rw [if_neg hij] at hj
    obtain ⟨h1, h2⟩ := px_clr_at hj
    refine h.2.2 (j, px_tv f w) (List.mem_cons_of_mem _ (List.mem_filter.mpr ⟨px_al_mem h1, ?_⟩))
    simp only [Bool.and_eq_true, Bool.not_eq_true', beq_eq_false_iff_ne, ne_eq, Bool.and_eq_false_iff, px_tv_cat]
    refine ⟨fun q => hij q.symm, ?_⟩
    by_cases hj1 : j + 1 = i
    · exact Or.inr (fun q => h2 ⟨hj1, q⟩)
    · exact Or.inl hj1
theorem px_lr_of2 {f : px_F} {L : px_L} {i : Nat} {v : Value} {ls' : Array Slot} (h : lv_has ls' L.length ((i, px_tv f v) :: (px_al f L).filter (fun q => !(q.1 == i) && (!(q.1 == i + 1) && !(q.1 + 1 == i && q.2.category == 2))))) : px_lr f (px_st2 L i v) ls' := by
  refine ⟨by rw [px_st2_len]; exact h.1, h.2.1, fun j w hj => ?_⟩
  unfold px_st2 at hj
  rw [List.getElem?_set] at hj
  by_cases hij1 : i + 1 = j
  · rw [if_pos hij1] at hj
    split at hj <;> cases hj
  · rw [if_neg hij1, List.getElem?_set] at hj
    by_cases hij : i = j
    · rw [if_pos hij] at hj
      split at hj
      · cases hj
        subst hij
        exact h.2.2 _ List.mem_cons_self
      · cases hj
    · rw [if_neg hij] at hj
      obtain ⟨h1, h2⟩ := px_clr_at hj
      refine h.2.2 (j, px_tv f w) (List.mem_cons_of_mem _ (List.mem_filter.mpr ⟨px_al_mem h1, ?_⟩))
      simp only [Bool.and_eq_true, Bool.not_eq_true', beq_eq_false_iff_ne, ne_eq, Bool.and_eq_false_iff, px_tv_cat]
      refine ⟨fun q => hij q.symm, fun q => hij1 q.symm, ?_⟩
      by_cases hj1 : j + 1 = i
      · exact Or.inr (fun q => h2 ⟨hj1, q⟩)
      · exact Or.inl hj1
section PXS
variable {p : Program} {l : Launch} {e : Env} {R : Room} {s : State} {m : MethodId} {args : Array Value} {below : List Frame} {meth : Method} {c : Code} {H : Heap} {locs : List Loc} {cells slots : Nat} {Q : State → Prop} {cc : ByteArray} {pc pc' : Nat} {ls : Array Slot} {f : px_F} {L : px_L} {st st' : List Value}
theorem px_ldi_ok {n : Nat} (row : ∀ x : Int32, ls[n]? = some (.val (.int x)) → ∀ rest : List Value, W p l e R s m args below meth c H locs cells slots Q (F0 m pc' ls (.int x :: rest)) → W p l e R s m args below meth c H locs cells slots Q (F0 m pc ls rest)) (hl : px_lr f L ls) (h : px_ldi L n st = some st') (k : W p l e R s m args below meth c H locs cells slots Q (F0 m pc' ls (st'.map (px_tv f)))) : W p l e R s m args below meth c H locs cells slots Q (F0 m pc ls (st.map (px_tv f))) := by
  unfold px_ldi at h
  split at h
  · next x hx =>
    obtain rfl := Option.some.inj h
    exact row x (hl.2.2 _ _ hx) _ k
  · cases h
theorem px_ldl_ok {n : Nat} (row : ∀ x : Int64, ls[n]? = some (.val (.long x)) → ∀ rest : List Value, W p l e R s m args below meth c H locs cells slots Q (F0 m pc' ls (.long x :: rest)) → W p l e R s m args below meth c H locs cells slots Q (F0 m pc ls rest)) (hl : px_lr f L ls) (h : px_ldl L n st = some st') (k : W p l e R s m args below meth c H locs cells slots Q (F0 m pc' ls (st'.map (px_tv f)))) : W p l e R s m args below meth c H locs cells slots Q (F0 m pc ls (st.map (px_tv f))) := by
  unfold px_ldl at h
  split at h
  · next x hx =>
    obtain rfl := Option.some.inj h
    exact row x (hl.2.2 _ _ hx) _ k
  · cases h
theorem px_lda_ok {n : Nat} (row : ∀ x : Nat, ls[n]? = some (.val (.ref x)) → ∀ rest : List Value, W p l e R s m args below meth c H locs cells slots Q (F0 m pc' ls (.ref x :: rest)) → W p l e R s m args below meth c H locs cells slots Q (F0 m pc ls rest)) (hl : px_lr f L ls) (h : px_lda L n st = some st') (k : W p l e R s m args below meth c H locs cells slots Q (F0 m pc' ls (st'.map (px_tv f)))) : W p l e R s m args below meth c H locs cells slots Q (F0 m pc ls (st.map (px_tv f))) := by
  unfold px_lda at h
  split at h
  · next x hx =>
    obtain rfl := Option.some.inj h
    exact row (f.1 x) (hl.2.2 _ _ hx) _ k
  · cases h
theorem px_i1_ok {g : Int32 → Int32} (row : ∀ (x : Int32) (rest : List Value), W p l e R s m args below meth c H locs cells slots Q (F0 m pc' ls (.int (g x) :: rest)) → W p l e R s m args below meth c H locs cells slots Q (F0 m pc ls (.int x :: rest))) (h : px_i1 g st = some st') (k : W p l e R s m args below meth c H locs cells slots Q (F0 m pc' ls (st'.map (px_tv f)))) : W p l e R s m args below meth c H locs cells slots Q (F0 m pc ls (st.map (px_tv f))) := by
  unfold px_i1 at h
  split at h
  · obtain rfl := Option.some.inj h
    exact row _ _ k
  · cases h
theorem px_i2_ok {g : Int32 → Int32 → Int32} (row : ∀ (x y : Int32) (rest : List Value), W p l e R s m args below meth c H locs cells slots Q (F0 m pc' ls (.int (g x y) :: rest)) → W p l e R s m args below meth c H locs cells slots Q (F0 m pc ls (.int y :: .int x :: rest))) (h : px_i2 g st = some st') (k : W p l e R s m args below meth c H locs cells slots Q (F0 m pc' ls (st'.map (px_tv f)))) : W p l e R s m args below meth c H locs cells slots Q (F0 m pc ls (st.map (px_tv f))) := by
  unfold px_i2 at h
  split at h
  · obtain rfl := Option.some.inj h
    exact row _ _ _ k
  · cases h
theorem px_l2_ok {g : Int64 → Int64 → Int64} (row : ∀ (x y : Int64) (rest : List Value), W p l e R s m args below meth c H locs cells slots Q (F0 m pc' ls (.long (g x y) :: rest)) → W p l e R s m args below meth c H locs cells slots Q (F0 m pc ls (.long y :: .long x :: rest))) (h : px_l2 g st = some st') (k : W p l e R s m args below meth c H locs cells slots Q (F0 m pc' ls (st'.map (px_tv f)))) : W p l e R s m args below meth c H locs cells slots Q (F0 m pc ls (st.map (px_tv f))) := by
  unfold px_l2 at h
  split at h
  · obtain rfl := Option.some.inj h
    exact row _ _ _ k
  · cases h
theorem px_lsh_ok {g : Int64 → Int32 → Int64} (row : ∀ (x : Int64) (y : Int32) (rest : List Value), W p l e R s m args below meth c H locs cells slots Q (F0 m pc' ls (.long (g x y) :: rest)) → W p l e R s m args below meth c H locs cells slots Q (F0 m pc ls (.int y :: .long x :: rest))) (h : px_lsh g st = some st') (k : W p l e R s m args below meth c H locs cells slots Q (F0 m pc' ls (st'.map (px_tv f)))) : W p l e R s m args below meth c H locs cells slots Q (F0 m pc ls (st.map (px_tv f))) := by
  unfold px_lsh at h
  split at h
  · obtain rfl := Option.some.inj h
    exact row _ _ _ k
  · cases h
theorem px_stk_ok (hx : p.tables.exec = Jvm.exec) (hb : c.code = cc) {i : Instr} (hdg : decode cc pc = .ok (i, px_len i)) (hl : px_lr f L ls) (h : px_stk i L st = some st') (k : W p l e R s m args below meth c H locs cells slots Q (F0 m (pc + px_len i) ls (st'.map (px_tv f)))) : W p l e R s m args below meth c H locs cells slots Q (F0 m pc ls (st.map (px_tv f))) := by
  cases i with
  | iconst n => obtain rfl := Option.some.inj h; exact lv_iconst hx hb hdg rfl k
  | bipush n => obtain rfl := Option.some.inj h; exact lv_bipush hx hb hdg rfl k
  | sipush n => obtain rfl := Option.some.inj h; exact lv_sipush hx hb hdg rfl k
  | iload_n n => exact px_ldi_ok (fun x hl _ k => lv_iload_n hx hb hdg rfl hl k) hl h k
  | iload n => exact px_ldi_ok (fun x hl _ k => lv_iload hx hb hdg hl k) hl h k
  | lload_n n => exact px_ldl_ok (fun x hl _ k => lv_lload_n hx hb hdg rfl hl k) hl h k
  | lload n => exact px_ldl_ok (fun x hl _ k => lv_lload hx hb hdg hl k) hl h k
  | aload_n n => exact px_lda_ok (fun x hl _ k => lv_aload_n hx hb hdg rfl hl k) hl h k
  | aload n => exact px_lda_ok (fun x hl _ k => lv_aload hx hb hdg hl k) hl h k
  | iadd => exact px_i2_ok (fun _ _ _ k => lv_iadd hx hb hdg k) h k
  | isub => exact px_i2_ok (fun _ _ _ k => lv_isub hx hb hdg k) h k
  | imul => exact px_i2_ok (fun _ _ _ k => lv_imul hx hb hdg k) h k
  | iand => exact px_i2_ok (fun _ _ _ k => lv_iand hx hb hdg k) h k
  | ior => exact px_i2_ok (fun _ _ _ k => lv_ior hx hb hdg k) h k
  | ixor => exact px_i2_ok (fun _ _ _ k => lv_ixor hx hb hdg k) h k
  | ishl => exact px_i2_ok (fun _ _ _ k => lv_ishl hx hb hdg k) h k
  | ishr => exact px_i2_ok (fun _ _ _ k => lv_ishr hx hb hdg k) h k
  | iushr => exact px_i2_ok (fun _ _ _ k => lv_iushr hx hb hdg rfl k) h k
  | ineg => exact px_i1_ok (fun _ _ k => lv_ineg hx hb hdg k) h k
  | i2b => exact px_i1_ok (fun _ _ k => lv_i2b hx hb hdg rfl k) h k
  | i2s => exact px_i1_ok (fun _ _ k => lv_i2s hx hb hdg rfl k) h k
  | i2c => exact px_i1_ok (fun _ _ k => lv_i2c hx hb hdg rfl k) h k
  | ladd => exact px_l2_ok (fun _ _ _ k => lv_ladd hx hb hdg k) h k
  | lsub => exact px_l2_ok (fun _ _ _ k => lv_lsub hx hb hdg k) h k
  | lmul => exact px_l2_ok (fun _ _ _ k => lv_lmul hx hb hdg k) h k
  | land => exact px_l2_ok (fun _ _ _ k => lv_land hx hb hdg k) h k
  | lor => exact px_l2_ok (fun _ _ _ k => lv_lor hx hb hdg k) h k
  | lshl => exact px_lsh_ok (fun _ _ _ k => lv_lshl hx hb hdg rfl k) h k
  | lshr => exact px_lsh_ok (fun _ _ _ k => lv_lshr hx hb hdg rfl k) h k
  | lushr => exact px_lsh_ok (fun _ _ _ k => lv_lushr hx hb hdg rfl k) h k
  | idiv =>
    have h : px_idiv st = some st' := h
    unfold px_idiv at h
    split at h
    · split at h
      · cases h
      · next hne => obtain rfl := Option.some.inj h; exact lv_idiv hx hb hdg hne k
    · cases h
  | ldiv =>
    have h : px_ldiv st = some st' := h
    unfold px_ldiv at h
    split at h
    · split at h
      · cases h
      · next hne => obtain rfl := Option.some.inj h; exact lv_ldiv hx hb hdg hne k
    · cases h
  | lrem =>
    have h : px_lrem st = some st' := h
    unfold px_lrem at h
    split at h
    · split at h
      · cases h
      · next hne => obtain rfl := Option.some.inj h; exact lv_lrem hx hb hdg hne k
    · cases h
  | i2l =>
    have h : px_i2l st = some st' := h
    unfold px_i2l at h
    split at h
    · obtain rfl := Option.some.inj h; exact lv_i2l hx hb hdg rfl k
    · cases h
  | l2i =>
    have h : px_l2i st = some st' := h
    unfold px_l2i at h
    split at h
    · obtain rfl := Option.some.inj h; exact lv_l2i hx hb hdg rfl k
    · cases h
  | lcmp =>
    have h : px_lcmp st = some st' := h
    unfold px_lcmp at h
    split at h
    · obtain rfl := Option.some.inj h; exact W.lcmp hx hb hdg k
    · cases h
  | dup =>
    have h : px_dup st = some st' := h
    unfold px_dup at h
    split at h
    · split at h
      · next hc => obtain rfl := Option.some.inj h; exact lv_dup hx hb hdg (by rw [px_tv_cat]; exact hc) k
      · cases h
    · cases h
  | dup2 =>
    have h : px_dup2 st = some st' := h
    unfold px_dup2 at h
    split at h
    · split at h
      · next hc => obtain rfl := Option.some.inj h; exact lv_dup2_11 hx hb hdg (by rw [px_tv_cat]; exact hc.1) (by rw [px_tv_cat]; exact hc.2) k
      · cases h
    · cases h
  | pop =>
    have h : px_pop st = some st' := h
    unfold px_pop at h
    split at h
    · split at h
      · next hc => obtain rfl := Option.some.inj h; exact lv_pop hx hb hdg (by rw [px_tv_cat]; exact hc) k
      · cases h
    · cases h
  | _ => exact absurd h (by simp [px_stk])
theorem px_lop_ok (hx : p.tables.exec = Jvm.exec) (hb : c.code = cc) {i : Instr} (hdg : decode cc pc = .ok (i, px_len i)) (hl : px_lr f L ls) {q : px_L × List Value} (h : px_lop i L st = some q) (k : ∀ ls' : Array Slot, px_lr f q.1 ls' → W p l e R s m args below meth c H locs cells slots Q (F0 m (pc + px_len i) ls' (q.2.map (px_tv f)))) : W p l e R s m args below meth c H locs cells slots Q (F0 m pc ls (st.map (px_tv f))) := by
  cases i with
  | istore_n n =>
    have h : px_sti L n.val st = some q := h
    unfold px_sti at h
    split at h
    · split at h
      · next hn => obtain rfl := Option.some.inj h; exact lv_istore_n hx hb hdg rfl (px_al_has hl) hn rfl (fun ls' h' => k ls' (px_lr_of1 (v := .int _) h'))
      · cases h
    · cases h
  | istore n =>
    have h : px_sti L n st = some q := h
    unfold px_sti at h
    split at h
    · split at h
      · next hn => obtain rfl := Option.some.inj h; exact lv_istore hx hb hdg (px_al_has hl) hn rfl (fun ls' h' => k ls' (px_lr_of1 (v := .int _) h'))
      · cases h
    · cases h
  | astore_n n =>
    have h : px_sta L n.val st = some q := h
    unfold px_sta at h
    split at h
    · split at h
      · next hn => obtain rfl := Option.some.inj h; exact lv_astore_n hx hb hdg rfl (px_al_has hl) hn rfl (fun ls' h' => k ls' (px_lr_of1 (v := .ref _) h'))
      · cases h
    · cases h
  | astore n =>
    have h : px_sta L n st = some q := h
    unfold px_sta at h
    split at h
    · split at h
      · next hn => obtain rfl := Option.some.inj h; exact lv_astore hx hb hdg (px_al_has hl) hn rfl (fun ls' h' => k ls' (px_lr_of1 (v := .ref _) h'))
      · cases h
    · cases h
  | lstore_n n =>
    have h : px_stl L n.val st = some q := h
    unfold px_stl at h
    split at h
    · split at h
      · next hn => obtain rfl := Option.some.inj h; exact lv_lstore_n hx hb hdg rfl (px_al_has hl) hn rfl (fun ls' h' => k ls' (px_lr_of2 (v := .long _) h'))
      · cases h
    · cases h
  | lstore n =>
    have h : px_stl L n st = some q := h
    unfold px_stl at h
    split at h
    · split at h
      · next hn => obtain rfl := Option.some.inj h; exact lv_lstore hx hb hdg (px_al_has hl) hn rfl (fun ls' h' => k ls' (px_lr_of2 (v := .long _) h'))
      · cases h
    · cases h
  | iinc n d =>
    have h : px_iic L n d st = some q := h
    unfold px_iic at h
    split at h
    · next x hv =>
      obtain rfl := Option.some.inj h
      obtain ⟨j, hj⟩ := List.getElem?_of_mem (px_al_mem (f := f) hv)
      exact lv_iinc hx hb hdg (px_al_has hl) (k := j) hj rfl (List.getElem?_eq_some_iff.mp hv).1 rfl (fun ls' h' => k ls' (px_lr_of1 (v := .int _) h'))
    · cases h
  | _ => exact absurd h (by simp [px_lop])
theorem px_tgt_ok {o : Option Int} {r : List Value} {q : Nat × List Value} (h : px_tgt pc o r = some q) : ∃ off : Int, o = some off ∧ (pc : Int) + off = (q.1 : Int) ∧ q.2 = r := by
  unfold px_tgt at h
  split at h
  · next off =>
    split at h
    · next h0 =>
      obtain rfl := Option.some.inj h
      exact ⟨off, rfl, by simp only [Int.toNat_of_nonneg h0], rfl⟩
    · cases h
  · cases h
theorem px_br_ok (hx : p.tables.exec = Jvm.exec) (hb : c.code = cc) {en : px_E} {len : Nat} (hdg : decode cc pc = .ok (en.1, len)) (hlen : (match en.1 with | .goto _ => len = 3 | .ifCond _ _ => len = 3 | .if_icmp _ _ => len = 3 | _ => True)) (hok : px_okb pc en = true) {q : Nat × List Value} (h : px_br en pc st = some q) (k : W p l e R s m args below meth c H locs cells slots Q (F0 m q.1 ls (q.2.map (px_tv f)))) : W p l e R s m args below meth c H locs cells slots Q (F0 m pc ls (st.map (px_tv f))) := by
  obtain ⟨i, x0, tg, y0, v0⟩ := en
  cases i with
  | goto off =>
    obtain rfl := Option.some.inj h
    have hlen : len = 3 := hlen
    subst hlen
    exact lv_goto hx hb hdg (of_decide_eq_true hok) k
  | ifCond cd off =>
    have hlen : len = 3 := hlen
    subst hlen
    have hok2 : (pc : Int) + off = (tg : Int) := of_decide_eq_true hok
    clear hok
    have h : px_ifc cd tg (pc + 3) st = some q := h
    unfold px_ifc at h
    split at h
    · obtain rfl := Option.some.inj h
      cases cd
      · exact lv_if_eq hx hb hdg hok2 (fun hc => by simpa [px_cmp, hc] using k) (fun hc => by simpa [px_cmp, hc] using k)
      · exact lv_if_ne hx hb hdg hok2 (fun hc => by simpa [px_cmp, hc] using k) (fun hc => by simpa [px_cmp, hc] using k)
      · exact lv_if_lt hx hb hdg hok2 (fun hc => by simpa [px_cmp, hc] using k) (fun hc => by simpa [px_cmp, hc] using k)
      · exact lv_if_ge hx hb hdg hok2 (fun hc => by simpa [px_cmp, hc] using k) (fun hc => by simpa [px_cmp, hc] using k)
      · exact lv_if_gt hx hb hdg hok2 (fun hc => by simpa [px_cmp, hc] using k) (fun hc => by simpa [px_cmp, hc] using k)
      · exact lv_if_le hx hb hdg hok2 (fun hc => by simpa [px_cmp, hc] using k) (fun hc => by simpa [px_cmp, hc] using k)
    · cases h
  | if_icmp cd off =>
    have hlen : len = 3 := hlen
    subst hlen
    have hok2 : (pc : Int) + off = (tg : Int) := of_decide_eq_true hok
    clear hok
    have h : px_icm cd tg (pc + 3) st = some q := h
    unfold px_icm at h
    split at h
    · obtain rfl := Option.some.inj h
      cases cd
      · exact lv_icmp_eq hx hb hdg hok2 (fun hc => by simpa [px_cmp, hc] using k) (fun hc => by simpa [px_cmp, hc] using k)
      · exact lv_icmp_ne hx hb hdg hok2 (fun hc => by simpa [px_cmp, hc] using k) (fun hc => by simpa [px_cmp, hc] using k)
      · exact lv_icmp_lt hx hb hdg hok2 (fun hc => by simpa [px_cmp, hc] using k) (fun hc => by simpa [px_cmp, hc] using k)
      · exact lv_icmp_ge hx hb hdg hok2 (fun hc => by simpa [px_cmp, hc] using k) (fun hc => by simpa [px_cmp, hc] using k)
      · exact lv_icmp_gt hx hb hdg hok2 (fun hc => by simpa [px_cmp, hc] using k) (fun hc => by simpa [px_cmp, hc] using k)
      · exact lv_icmp_le hx hb hdg hok2 (fun hc => by simpa [px_cmp, hc] using k) (fun hc => by simpa [px_cmp, hc] using k)
    · cases h
  | tableswitch d lo hi offs =>
    have h : px_tsw pc d lo hi offs st = some q := h
    obtain ⟨x, r, rfl, h9⟩ : ∃ (x : Int32) (r : List Value), st = .int x :: r ∧ px_tgt pc (if x.toInt < lo ∨ hi < x.toInt then some d else offs[(x.toInt - lo).toNat]?) r = some q := by
      unfold px_tsw at h
      split at h
      · exact ⟨_, _, rfl, h⟩
      · cases h
    obtain ⟨off, h1, h2, h3⟩ := px_tgt_ok h9
    rw [h3] at k
    by_cases hc : x.toInt < lo ∨ hi < x.toInt
    · rw [if_pos hc] at h1
      obtain rfl := Option.some.inj h1
      exact lv_tableOut hx hb hdg hc h2 k
    · rw [if_neg hc] at h1
      exact lv_tableIn hx hb hdg (fun q => hc (Or.inl q)) (fun q => hc (Or.inr q)) h1 h2 k
  | lookupswitch d ps =>
    have h : px_lsw pc d ps st = some q := h
    obtain ⟨x, r, rfl, h9⟩ : ∃ (x : Int32) (r : List Value), st = .int x :: r ∧ px_tgt pc (some (Op.lookupswitch.offset ps.toList d x.toInt)) r = some q := by
      unfold px_lsw at h
      split at h
      · exact ⟨_, _, rfl, h⟩
      · cases h
    obtain ⟨off, h1, h2, h3⟩ := px_tgt_ok h9
    rw [h3] at k
    exact lv_lookup hx hb hdg hok (Option.some.inj h1) h2 k
  | _ => exact absurd h (by simp [px_br])
end PXS
