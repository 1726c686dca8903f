/-- from every heap that the pure heap h pictures -/
def px_Wc (p : Program) (l : Launch) (e : Env) (R : Room) (s : State) (m : MethodId) (args : Array Value) (below : List Frame) (meth : Method) (c : Code) (Q : State → Prop) (n0 k0 : Nat) (G : px_G) (h : px_H) (g : JFrame) : Prop :=
  ∀ (H : Heap) (locs : List Loc), px_rel G s h H → va_S (px_A G) s.heap H locs → W p l e R s m args below meth c H locs (h.1 - n0) (h.2.1 - k0) Q g
theorem px_cell_obj {G : px_G} {s : State} {H : Heap} {a ci : Nat} {vs : List Value} {r : vw_C} (hc : vwCl[ci]? = some r) (h : px_cell G s H a (ci, vs)) : 17 ≤ a ∧ vs.length = r.2.2 ∧ t_OB (px_f G a) (G.2.2.1 ci) r.2.2 (G.2.2.2.1 ci) H (vp_V (vs.map (px_tv (px_g G)))) := by
  rcases h with ⟨h1, h2, r', h3, h4, h5⟩ | ⟨h1, -⟩ | ⟨h1, -⟩
  · have e : r' = r := Option.some.inj (h3.symm.trans hc)
    subst e
    exact ⟨h2, h4, h5⟩
  · have h1 : 50 ≤ ci := h1
    have := px_cl_lt hc
    omega
  · have h1 : ci = 40 := h1
    have := px_cl_lt hc
    omega
theorem px_cell_arr {G : px_G} {s : State} {H : Heap} {a k : Nat} {vs : List Value} (hk : 50 ≤ k) (h : px_cell G s H a (k, vs)) : ∃ cell : Cell, H[px_f G a]? = some cell ∧ s.isArrayOf cell (px_aty k) ∧ cell.vm ≠ .unknown ∧ px_has G cell.slots vs ∧ (17 ≤ a → cell = px_acell G k vs) := by
  rcases h with ⟨h1, -⟩ | ⟨-, h⟩ | ⟨h1, -⟩
  · have h1 : k < 50 := h1
    omega
  · exact h
  · have h1 : k = 40 := h1
    omega
theorem px_cell_str {G : px_G} {s : State} {H : Heap} {a : Nat} {vs : List Value} (h : px_cell G s H a (40, vs)) : va_O "java/lang/String" (px_f G a) (px_A G) s H ∧ (∀ v, vs[0]? = some v → va_OF "java/lang/String" "value" "[B" (px_tv (px_g G) v) (px_f G a) (px_A G) s H) ∧ (∀ v, vs[1]? = some v → va_OF "java/lang/String" "coder" "B" (px_tv (px_g G) v) (px_f G a) (px_A G) s H) := by
  rcases h with ⟨-, -, r, h3, -⟩ | ⟨h1, -⟩ | ⟨-, h⟩
  · have h3 : vwCl[40]? = some r := h3
    cases h3
  · have h1 : 50 ≤ 40 := h1
    omega
  · exact h
section PXH
variable {p : Program} {l : Launch} {e : Env} {R : Room} {s : State} {m : MethodId} {args : Array Value} {below : List Frame} {meth : Method} {c : Code} {Q : State → Prop} {cc : ByteArray} {pc : Nat} {ls : Array Slot} {G : px_G} {n0 k0 : Nat} {own mn : String} {h : px_H} {st : List Value} {q : List Value × px_H}
theorem px_getf_ok (hx : p.tables.exec = Jvm.exec) (hb : c.code = cc) (hown : s.vm.findClass own = some m.cls) (hts : px_T args s) (hK : px_K G s) {idx ci k : Nat} (hok : px_okf own idx ci k = true) (hdg : decode cc pc = .ok (.getfield idx, 3)) (hq : px_getf ci k h st = some q)
    (kk : px_Wc p l e R s m args below meth c Q n0 k0 G q.2 (F0 m (pc + 3) ls (q.1.map (px_tv (px_g G))))) : px_Wc p l e R s m args below meth c Q n0 k0 G h (F0 m pc ls (st.map (px_tv (px_g G)))) := by
  intro H locs hr hS
  obtain ⟨a, rr, vs, v, rfl, ha, hv, rfl⟩ : ∃ (a : Nat) (rr vs : List Value) (v : Value), st = .ref a :: rr ∧ h.2.2 a = some (ci, vs) ∧ vs[k]? = some v ∧ q = (v :: rr, h) := by
    unfold px_getf at hq
    split at hq
    · next a rr =>
      split at hq
      · next c0 vs hv =>
        split at hq
        · next hci =>
          subst hci
          obtain ⟨v, h1, h2⟩ := Option.map_eq_some_iff.mp hq
          exact ⟨a, rr, vs, v, rfl, hv, h1, h2.symm⟩
        · cases hq
      · cases hq
    · cases hq
  unfold px_okf at hok
  cases hc : vwCl[ci]? with
  | none =>
    rw [hc] at hok
    obtain ⟨h40, hok⟩ := (Bool.and_eq_true _ _).mp hok
    obtain rfl := of_decide_eq_true h40
    obtain ⟨-, s1, s2⟩ := px_cell_str (hr.2.2.2.2 a _ ha)
    rcases (Bool.or_eq_true _ _).mp hok with hok | hok
    · obtain ⟨hk, hl⟩ := (Bool.and_eq_true _ _).mp hok
      obtain rfl := of_decide_eq_true hk
      obtain ⟨cf, kf, fi, fd, cell, g1, g2, g3, g4, g5, -⟩ := s1 v hv
      exact W.getf hx hb hown (px_w_use hts hl) g1 g2 g3 g4 (v := px_tv (px_g G) v) g5 rfl rfl hdg (kk H locs hr hS)
    · obtain ⟨hk, hl⟩ := (Bool.and_eq_true _ _).mp hok
      obtain rfl := of_decide_eq_true hk
      obtain ⟨cf, kf, fi, fd, cell, g1, g2, g3, g4, g5, -⟩ := s2 v hv
      exact W.getf hx hb hown (px_w_use hts hl) g1 g2 g3 g4 (v := px_tv (px_g G) v) g5 rfl rfl hdg (kk H locs hr hS)
  | some r =>
    rw [hc] at hok
    obtain ⟨hk, hl⟩ := (Bool.and_eq_true _ _).mp hok
    have hk := of_decide_eq_true hk
    obtain ⟨h9, hlen, cell, q1, q2, q3, q4⟩ := px_cell_obj hc (hr.2.2.2.2 a _ ha)
    obtain ⟨hSl, hfc, kC, hkC, hkind⟩ := hK.1 ci _ hc
    obtain ⟨cf, kf, fi, fd, hi, hsl⟩ := hSl k hk
    refine W.getf hx hb hown (px_w_use hts hl) hi (u_facts hfc hkC (u_lays (px_lays hts hc) (fun _ z => z) hk) hi).1 q1 (by rw [q3]; exact fun z => by cases z) (v := px_tv (px_g G) v) ?_ rfl rfl hdg (kk H locs hr hS)
    rw [hsl, q4 k hk]
    simp [vp_V, hv]
theorem px_putf_ok (hx : p.tables.exec = Jvm.exec) (hb : c.code = cc) (hown : s.vm.findClass own = some m.cls) (hts : px_T args s) (hK : px_K G s) (hmn : mn = "<init>" → meth.name = "<init>") {idx ci k : Nat} (hok : px_okf own idx ci k = true) (hok2 : px_okp own mn ci k = true) (hdg : decode cc pc = .ok (.putfield idx, 3)) (hq : px_putf ci k h st = some q)
    (kk : px_Wc p l e R s m args below meth c Q n0 k0 G q.2 (F0 m (pc + 3) ls (q.1.map (px_tv (px_g G))))) : px_Wc p l e R s m args below meth c Q n0 k0 G h (F0 m pc ls (st.map (px_tv (px_g G)))) := by
  intro H locs hr hS
  unfold px_okf at hok
  unfold px_okp at hok2
  cases hc : vwCl[ci]? with
  | none => rw [hc] at hok2; cases hok2
  | some r =>
    rw [hc] at hok hok2
    obtain ⟨hk, hl⟩ := (Bool.and_eq_true _ _).mp hok
    have hk := of_decide_eq_true hk
    obtain ⟨a, rr, vs, v, rfl, ha, ⟨hkl, hn, hft⟩, rfl⟩ : ∃ (a : Nat) (rr vs : List Value) (v : Value), st = v :: .ref a :: rr ∧ h.2.2 a = some (ci, vs) ∧ (k < vs.length ∧ narrow (px_ty ci k) v = v ∧ fits (px_ty ci k) v = true) ∧ q = (rr, px_set h a (ci, vs.set k v)) := by
      unfold px_putf at hq
      split at hq
      · next v a rr =>
        split at hq
        · next c0 vs hv =>
          split at hq
          · next hci =>
            obtain ⟨rfl, hci⟩ := hci
            exact ⟨a, rr, vs, v, rfl, hv, hci, (Option.some.inj hq).symm⟩
          · cases hq
        · cases hq
      · cases hq
    obtain ⟨h9, hlen, cell, q1, q2, q3, q4⟩ := px_cell_obj hc (hr.2.2.2.2 a _ ha)
    have hlay0 := px_lays hts hc
    have hap := va_apart (D := (G.2.2.1, G.2.2.2.1)) (cl := vwCl) (tys := []) (own := own) hlay0 (fun _ z => z) (px_ty ci) (px_types hc) (px_names hc) ⟨hK.1, fun k q z => by simp at z⟩ hc
    obtain ⟨hSl, hfc, kC, hkC, hkind⟩ := hK.1 ci _ hc
    obtain ⟨cf, kf, fi, fd, hi, hsl⟩ := hSl k hk
    have hlay := hlay0 _ (u_in_lay hk)
    have hst := (u_facts hfc hkC (u_lays hlay0 (fun _ z => z) hk) hi).1
    have hA : px_A G (px_f G a) := by
      show G.2.1 ≤ px_f G a
      rw [px_f_hi h9]
      omega
    have fin : ∀ H' : Heap, H'[px_f G a]? = some (cell.setSlot fd.slot (px_tv (px_g G) v)) → H'.size = H.size → (∀ q, q ≠ px_f G a → H'[q]? = H[q]?) → W p l e R s m args below meth c H' (locs ++ [⟨px_f G a, fd.slot⟩]) (h.1 - n0) (h.2.1 - k0) Q (F0 m (pc + 3) ls (rr.map (px_tv (px_g G)))) := by
      intro H' e1 e2 e3
      rw [hsl] at e1 ⊢
      refine kk H' _ (px_rel_set hr h9 e2 e3 (Or.inl ⟨by have := px_cl_lt hc; show ci < 50; omega, h9, r, hc, by rw [List.length_set]; exact hlen, ?_⟩)) (hS.put e2 e3 hA)
      refine t_OB.to (V := updV (vp_V (vs.map (px_tv (px_g G)))) k (px_tv (px_g G) v)) ⟨_, e1, q2, q3, t_set q4 hap hk _⟩ (fun j _ => ?_)
      rw [vp_updV_set (by rw [List.length_map]; exact hkl)]
      show vp_V ((vs.map (px_tv (px_g G))).set k (px_tv (px_g G) v)) j = vp_V ((vs.set k v).map (px_tv (px_g G))) j
      rw [List.map_set]
    unfold u_lay at hlay
    by_cases hfin : (r.2.1 k).2.2.2 = true
    · have hok2 : (!(r.2.1 k).2.2.2 || (decide (mn = "<init>") && decide ((r.2.1 k).1 = own))) = true := hok2
      rw [hfin] at hok2
      obtain ⟨hm1, hm2⟩ := (Bool.and_eq_true _ _).mp (show (decide (mn = "<init>") && decide ((r.2.1 k).1 = own)) = true by simpa using hok2)
      rw [if_pos hfin] at hlay
      have hcf : m.cls = cf := by
        obtain ⟨_, _, c', _, _, _, -, -, hf', -, -, -, hown2, -⟩ := Cond.laysFinal_spec hlay
        have e1 : c' = cf := by have := hi.symm.trans hf'; simp at this; exact this.1.symm
        rw [of_decide_eq_true hm2] at hown2
        rw [← e1]; exact Option.some.inj (hown.symm.trans hown2)
      have h6 := u_fits hfc hkC hkind (Or.inr hlay) hi (px_types hc k hk) (px_tv_narrow (f := px_g G) hn) (px_tv_fits (f := px_g G) hft)
      exact W.putFinK hx hb hown (px_w_use hts hl) hi hst hcf (hmn (of_decide_eq_true hm1)) (by rw [q2]; exact h6) q1 q3 (by rw [hsl]; exact k2_hasslot (q4 k hk)) rfl rfl hdg fin
    · rw [if_neg hfin] at hlay
      have h6 := u_store hfc hkC hkind hlay hi (px_types hc k hk) (px_tv_narrow (f := px_g G) hn) (px_tv_fits (f := px_g G) hft)
      exact W.putK hx hb (f := fd) ⟨hown, px_w_use hts hl, ⟨_, _, _, hi⟩, hst⟩ (by rw [q2]; exact h6) q1 q3 (by rw [hsl]; exact k2_hasslot (q4 k hk)) rfl rfl hdg fin
theorem px_ald_inv {kd : Nat} (hq : px_ald kd h st = some q) : ∃ (i : Int32) (a : Nat) (rr vs : List Value) (v : Value), st = .int i :: .ref a :: rr ∧ h.2.2 a = some (kd, vs) ∧ ¬ i < 0 ∧ vs[i.toNatClampNeg]? = some v ∧ q = (v :: rr, h) := by
  unfold px_ald at hq
  split at hq
  · next i a rr =>
    split at hq
    · next c0 vs hv =>
      split at hq
      · next hci =>
        obtain ⟨rfl, hci⟩ := hci
        obtain ⟨v, h1, h2⟩ := Option.map_eq_some_iff.mp hq
        exact ⟨i, a, rr, vs, v, rfl, hv, hci, h1, h2.symm⟩
      · cases hq
    · cases hq
  · cases hq
theorem px_aald_inv (hq : px_aald h st = some q) : ∃ (kd : Nat) (i : Int32) (a : Nat) (rr vs : List Value) (v : Value), (kd = 55 ∨ kd = 56) ∧ st = .int i :: .ref a :: rr ∧ h.2.2 a = some (kd, vs) ∧ ¬ i < 0 ∧ vs[i.toNatClampNeg]? = some v ∧ q = (v :: rr, h) := by
  unfold px_aald at hq
  split at hq
  · next i a rr =>
    split at hq
    · next c0 vs hv =>
      split at hq
      · next hci =>
        obtain ⟨v, h1, h2⟩ := Option.map_eq_some_iff.mp hq
        exact ⟨c0, i, a, rr, vs, v, hci.1, rfl, hv, hci.2, h1, h2.symm⟩
      · cases hq
    · cases hq
  · cases hq
theorem px_rd {cell : Cell} {vs : List Value} {i : Int32} {v : Value} (hsl : px_has G cell.slots vs) (h0 : ¬ i < 0) (hv : vs[i.toNatClampNeg]? = some v) : ¬ (i < 0 ∨ cell.slots.size ≤ i.toNatClampNeg) ∧ cell.slots[i.toNatClampNeg]? = some (px_tv (px_g G) v) := by
  have hlt := px_has_lt hsl (List.getElem?_eq_some_iff.mp hv).1
  refine ⟨fun z => ?_, hsl.1 _ _ hv⟩
  rcases z with z | z
  · exact h0 z
  · omega
theorem px_ald_ok (hx : p.tables.exec = Jvm.exec) (hb : c.code = cc) {i : Instr} {kd : Nat} (hi : (i = .iaload ∧ kd = 50) ∨ (i = .laload ∧ kd = 51) ∨ (i = .caload ∧ kd = 52) ∨ (i = .saload ∧ kd = 53) ∨ (i = .baload ∧ kd = 54)) (hdg : decode cc pc = .ok (i, 1)) (hq : px_ald kd h st = some q)
    (kk : px_Wc p l e R s m args below meth c Q n0 k0 G q.2 (F0 m (pc + 1) ls (q.1.map (px_tv (px_g G))))) : px_Wc p l e R s m args below meth c Q n0 k0 G h (F0 m pc ls (st.map (px_tv (px_g G)))) := by
  intro H locs hr hS
  obtain ⟨j, a, rr, vs, v, rfl, ha, h0, hv, rfl⟩ := px_ald_inv hq
  rcases hi with ⟨rfl, rfl⟩ | ⟨rfl, rfl⟩ | ⟨rfl, rfl⟩ | ⟨rfl, rfl⟩ | ⟨rfl, rfl⟩ <;>
  · obtain ⟨cell, g1, g2, g3, g4, -⟩ := px_cell_arr (by decide) (hr.2.2.2.2 a _ ha)
    obtain ⟨r1, r2⟩ := px_rd g4 h0 hv
    first
      | exact W.iald hx hb g1 g2 g3 r1 r2 rfl rfl hdg (kk H locs hr hS)
      | exact W.lald hx hb g1 g2 g3 r1 r2 rfl rfl hdg (kk H locs hr hS)
      | exact W.cald hx hb g1 g2 g3 r1 r2 rfl rfl hdg (kk H locs hr hS)
      | exact W.sald hx hb g1 g2 g3 r1 r2 rfl rfl hdg (kk H locs hr hS)
      | exact W.bald hx hb g1 g2 g3 r1 r2 rfl rfl hdg (kk H locs hr hS)
theorem px_aald_ok (hx : p.tables.exec = Jvm.exec) (hb : c.code = cc) (hdg : decode cc pc = .ok (.aaload, 1)) (hq : px_aald h st = some q)
    (kk : px_Wc p l e R s m args below meth c Q n0 k0 G q.2 (F0 m (pc + 1) ls (q.1.map (px_tv (px_g G))))) : px_Wc p l e R s m args below meth c Q n0 k0 G h (F0 m pc ls (st.map (px_tv (px_g G)))) := by
  intro H locs hr hS
  obtain ⟨kd, j, a, rr, vs, v, hkd, rfl, ha, h0, hv, rfl⟩ := px_aald_inv hq
  rcases hkd with rfl | rfl <;>
  · obtain ⟨cell, g1, g2, g3, g4, -⟩ := px_cell_arr (by decide) (hr.2.2.2.2 a _ ha)
    obtain ⟨r1, r2⟩ := px_rd g4 h0 hv
    exact W.aald hx hb g1 g2 rfl g3 r1 r2 rfl rfl hdg (kk H locs hr hS)
theorem px_wr {kd a i : Nat} {vs : List Value} {v : Value} {H H1 : Heap} {locs : List Loc} (hkd : 50 ≤ kd) (hr : px_rel G s h H) (hS : va_S (px_A G) s.heap H locs) (h9 : 17 ≤ a) {cell : Cell} (g2 : s.isArrayOf cell (px_aty kd)) (g3 : cell.vm ≠ .unknown) (g5 : cell = px_acell G kd vs) (e1 : H1[px_f G a]? = some (cell.setSlot i (px_tv (px_g G) v))) (e2 : H1.size = H.size) (e3 : ∀ q, q ≠ px_f G a → H1[q]? = H[q]?) :
    px_rel G s (px_set h a (kd, vs.set i v)) H1 ∧ va_S (px_A G) s.heap H1 (locs ++ [⟨px_f G a, i⟩]) := by
  have hA : px_A G (px_f G a) := by
    show G.2.1 ≤ px_f G a
    rw [px_f_hi h9]
    omega
  refine ⟨px_rel_set hr h9 e2 e3 (Or.inr (Or.inl ⟨hkd, _, e1, g2, g3, ?_, fun _ => ?_⟩)), hS.put e2 e3 hA⟩
  · rw [g5, px_acell_set]
    exact px_has_arr G _
  · rw [g5, px_acell_set]
theorem px_ast_ok (hx : p.tables.exec = Jvm.exec) (hb : c.code = cc) {i : Instr} {kd : Nat} {ty : FieldType} (hi : (i = .iastore ∧ kd = 50 ∧ ty = .int) ∨ (i = .castore ∧ kd = 52 ∧ ty = .char) ∨ (i = .sastore ∧ kd = 53 ∧ ty = .short) ∨ (i = .bastore ∧ kd = 54 ∧ ty = .byte)) (hdg : decode cc pc = .ok (i, 1)) (hq : px_ast kd ty h st = some q)
    (kk : px_Wc p l e R s m args below meth c Q n0 k0 G q.2 (F0 m (pc + 1) ls (q.1.map (px_tv (px_g G))))) : px_Wc p l e R s m args below meth c Q n0 k0 G h (F0 m pc ls (st.map (px_tv (px_g G)))) := by
  intro H locs hr hS
  obtain ⟨x, j, a, rr, vs, rfl, ha, ⟨h9, h0, hlt⟩, rfl⟩ : ∃ (x j : Int32) (a : Nat) (rr vs : List Value), st = .int x :: .int j :: .ref a :: rr ∧ h.2.2 a = some (kd, vs) ∧ (17 ≤ a ∧ ¬ j < 0 ∧ j.toNatClampNeg < vs.length) ∧ q = (rr, px_set h a (kd, vs.set j.toNatClampNeg (narrow ty (.int x)))) := by
    unfold px_ast at hq
    split at hq
    · next x j a rr =>
      split at hq
      · next c0 vs hv =>
        split at hq
        · next hci =>
          obtain ⟨rfl, hci⟩ := hci
          exact ⟨x, j, a, rr, vs, rfl, hv, hci, (Option.some.inj hq).symm⟩
        · cases hq
      · cases hq
    · cases hq
  have hin : ∀ {cell : Cell}, px_has G cell.slots vs → ¬ (j < 0 ∨ cell.slots.size ≤ j.toNatClampNeg) := by
    intro cell hsl z
    have := px_has_lt hsl hlt
    rcases z with z | z
    · exact h0 z
    · omega
  rcases hi with ⟨rfl, rfl, rfl⟩ | ⟨rfl, rfl, rfl⟩ | ⟨rfl, rfl, rfl⟩ | ⟨rfl, rfl, rfl⟩
  · obtain ⟨cell, g1, g2, g3, g4, g5⟩ := px_cell_arr (by decide) (hr.2.2.2.2 a _ ha)
    exact W.iast hx hb g1 g2 g3 (hin g4) rfl rfl hdg (fun H1 e1 e2 e3 => by
      obtain ⟨w1, w2⟩ := px_wr (v := narrow .int (.int x)) (by decide) hr hS h9 g2 g3 (g5 h9) (by rw [px_tv_nar]; exact e1) e2 e3
      exact kk H1 _ w1 w2)
  · obtain ⟨cell, g1, g2, g3, g4, g5⟩ := px_cell_arr (by decide) (hr.2.2.2.2 a _ ha)
    exact W.cast hx hb g1 g2 g3 (hin g4) rfl rfl hdg (fun H1 e1 e2 e3 => by
      obtain ⟨w1, w2⟩ := px_wr (v := narrow .char (.int x)) (by decide) hr hS h9 g2 g3 (g5 h9) (by rw [px_tv_nar]; exact e1) e2 e3
      exact kk H1 _ w1 w2)
  · obtain ⟨cell, g1, g2, g3, g4, g5⟩ := px_cell_arr (by decide) (hr.2.2.2.2 a _ ha)
    exact W.sast hx hb g1 g2 g3 (hin g4) rfl rfl hdg (fun H1 e1 e2 e3 => by
      obtain ⟨w1, w2⟩ := px_wr (v := narrow .short (.int x)) (by decide) hr hS h9 g2 g3 (g5 h9) (by rw [px_tv_nar]; exact e1) e2 e3
      exact kk H1 _ w1 w2)
  · obtain ⟨cell, g1, g2, g3, g4, g5⟩ := px_cell_arr (by decide) (hr.2.2.2.2 a _ ha)
    exact W.bast hx hb g1 g2 g3 (hin g4) rfl rfl hdg (fun H1 e1 e2 e3 => by
      obtain ⟨w1, w2⟩ := px_wr (v := narrow .byte (.int x)) (by decide) hr hS h9 g2 g3 (g5 h9) (by rw [px_tv_nar]; exact e1) e2 e3
      exact kk H1 _ w1 w2)
theorem px_last_ok (hx : p.tables.exec = Jvm.exec) (hb : c.code = cc) (hdg : decode cc pc = .ok (.lastore, 1)) (hq : px_last h st = some q)
    (kk : px_Wc p l e R s m args below meth c Q n0 k0 G q.2 (F0 m (pc + 1) ls (q.1.map (px_tv (px_g G))))) : px_Wc p l e R s m args below meth c Q n0 k0 G h (F0 m pc ls (st.map (px_tv (px_g G)))) := by
  intro H locs hr hS
  obtain ⟨x, j, a, rr, vs, rfl, ha, ⟨h9, h0, hlt⟩, rfl⟩ : ∃ (x : Int64) (j : Int32) (a : Nat) (rr vs : List Value), st = .long x :: .int j :: .ref a :: rr ∧ h.2.2 a = some (51, vs) ∧ (17 ≤ a ∧ ¬ j < 0 ∧ j.toNatClampNeg < vs.length) ∧ q = (rr, px_set h a (51, vs.set j.toNatClampNeg (.long x))) := by
    unfold px_last at hq
    split at hq
    · next x j a rr =>
      split at hq
      · next c0 vs hv =>
        split at hq
        · next hci =>
          obtain ⟨rfl, hci⟩ := hci
          exact ⟨x, j, a, rr, vs, rfl, hv, hci, (Option.some.inj hq).symm⟩
        · cases hq
      · cases hq
    · cases hq
  obtain ⟨cell, g1, g2, g3, g4, g5⟩ := px_cell_arr (by decide) (hr.2.2.2.2 a _ ha)
  exact W.last hx hb g1 g2 g3 (fun z => by
    have := px_has_lt g4 hlt
    rcases z with z | z
    · exact h0 z
    · omega) rfl rfl hdg (fun H1 e1 e2 e3 => by
      obtain ⟨w1, w2⟩ := px_wr (v := .long x) (by decide) hr hS h9 g2 g3 (g5 h9) e1 e2 e3
      exact kk H1 _ w1 w2)
theorem px_alen_ok (hx : p.tables.exec = Jvm.exec) (hb : c.code = cc) (hdg : decode cc pc = .ok (.arraylength, 1)) (hq : px_alen h st = some q)
    (kk : px_Wc p l e R s m args below meth c Q n0 k0 G q.2 (F0 m (pc + 1) ls (q.1.map (px_tv (px_g G))))) : px_Wc p l e R s m args below meth c Q n0 k0 G h (F0 m pc ls (st.map (px_tv (px_g G)))) := by
  intro H locs hr hS
  obtain ⟨a, rr, kd, vs, rfl, ha, hk, rfl⟩ : ∃ (a : Nat) (rr : List Value) (kd : Nat) (vs : List Value), st = .ref a :: rr ∧ h.2.2 a = some (kd, vs) ∧ 50 ≤ kd ∧ q = (.int (Int32.ofNat vs.length) :: rr, h) := by
    unfold px_alen at hq
    split at hq
    · next a rr =>
      split at hq
      · next c0 vs hv =>
        split at hq
        · next hci => exact ⟨a, rr, c0, vs, rfl, hv, hci, (Option.some.inj hq).symm⟩
        · cases hq
      · cases hq
    · cases hq
  obtain ⟨cell, g1, g2, g3, g4, g5⟩ := px_cell_arr hk (hr.2.2.2.2 a _ ha)
  exact W.alen hx hb g1 g2 g4.2 rfl rfl hdg (kk H locs hr hS)
end PXH
