theorem px_ints_eq : ∀ {vs : List Value} {xs : List Int32}, px_ints vs = some xs → vs = xs.map Value.int := by
  intro vs
  induction vs with
  | nil => intro xs h; cases h; rfl
  | cons v r ih =>
    intro xs h
    unfold px_ints at h
    cases v with
    | int x =>
      obtain ⟨l, h1, h2⟩ := Option.map_eq_some_iff.mp h
      subst h2
      rw [ih h1]
      rfl
    | _ => cases h
theorem px_map_int (f : px_F) (xs : List Int32) : (xs.map Value.int).map (px_tv f) = xs.map Value.int := by
  rw [List.map_map]
  rfl
theorem px_acell_ints (G : px_G) (xs : List Int32) : px_acell G 50 (xs.map Value.int) = arrV (G.2.2.2.2.1 0) xs.length (fun j => .int (xs.getD j 0)) := by
  unfold px_acell arrV
  rw [px_map_int]
  congr 1
  apply Array.ext
  · simp
  · intro j h1 h2
    simp at h1
    simp [h1]
theorem px_arrV_congr (cA : ClassId) (N : Nat) (f g : Nat → Value) (h : ∀ j, j < N → f j = g j) : arrV cA N f = arrV cA N g := by
  have e : (fun j : Fin N => f j.val) = (fun j : Fin N => g j.val) := funext fun j => h j.val j.isLt
  unfold arrV
  rw [e]
theorem px_newa_rep (G : px_G) (tag N : Nat) (ty : FieldType) : px_acell G (50 + tag) (List.replicate N (defaultValue ty)) = ({ cls := G.2.2.2.2.1 tag, slots := Array.replicate N (defaultValue ty), vm := .none } : Cell) := by
  unfold px_acell
  rw [List.map_replicate, px_tv_def, List.toArray_replicate, show 50 + tag - 50 = tag by omega]
theorem px_cb (ty : FieldType) : componentBytes ty ≤ 8 := by cases ty <;> first | decide | exact (show 4 ≤ 8 by decide)
section PXN
variable {p : Program} {l : Launch} {e : Env} {R : Room} {s : State} {m : MethodId} {args : Array Value} {below : List Frame} {meth : Method} {c : Code} {Q : State → Prop} {cc : ByteArray} {pc : Nat} {ls : Array Slot} {G : px_G} {n0 k0 : Nat} {own mn : String} {h : px_H} {st : List Value} {q : List Value × px_H}
theorem px_newa_inv {tag : Nat} (hq : px_newa tag h st = some q) : ∃ (n : Int32) (rr : List Value) (ty : FieldType), st = .int n :: rr ∧ px_atys[tag]? = some ty ∧ (¬ n < 0 ∧ n.toNatClampNeg ≤ 67108864) ∧ q = (.ref h.1 :: rr, px_new h n.toNatClampNeg (50 + tag, List.replicate n.toNatClampNeg (defaultValue ty))) := by
  unfold px_newa at hq
  split at hq
  · next n rr =>
    split at hq
    · next ty ht =>
      split at hq
      · next hci => exact ⟨n, rr, ty, rfl, ht, hci, (Option.some.inj hq).symm⟩
      · cases hq
    · cases hq
  · cases hq
theorem px_newcell {tag N : Nat} {ty : FieldType} {H H1 : Heap} {locs : List Loc} (hK : px_K G s) (ht : px_atys[tag]? = some ty) (hr : px_rel G s h H) (hS : va_S (px_A G) s.heap H locs) (e1 : H1[H.size]? = some ({ cls := G.2.2.2.2.1 tag, slots := Array.replicate N (defaultValue ty), vm := .none } : Cell)) (z : H1.size = H.size + 1) (o1 : ∀ q, q < H.size → H1[q]? = H[q]?) :
    px_rel G s (px_new h N (50 + tag, List.replicate N (defaultValue ty))) H1 ∧ va_S (px_A G) s.heap H1 locs := by
  have e0 := px_newa_rep G tag N ty
  have hty : px_aty (50 + tag) = ty := by
    unfold px_aty
    rw [show 50 + tag - 50 = tag by omega, List.getD_eq_getElem?_getD, ht]
    rfl
  refine ⟨px_rel_new hr z o1 (Or.inr (Or.inl ⟨by show 50 ≤ 50 + tag; omega, px_acell G (50 + tag) (List.replicate N (defaultValue ty)), ?_, ?_, (fun z => by cases z), px_has_arr G _, fun _ => rfl⟩)), Nat.le_trans hS.1 (by omega), fun x h1 h2 => (o1 x (Nat.lt_of_lt_of_le h1 hS.1)).trans (hS.2.1 x h1 h2), hS.2.2⟩
  · rw [px_top hr, e0]
    exact e1
  · rw [show px_aty (50 + tag, List.replicate N (defaultValue ty)).1 = ty from hty, e0]
    exact (hK.2.1 tag ty ht).1 0 (fun _ => .null)
theorem px_newp_ok (hx : p.tables.exec = Jvm.exec) (hb : c.code = cc) (hts : px_T args s) (hK : px_K G s) {at_ : ArrayType} {tag : Nat} (hok : (decide (px_atys[tag]? = some (newarray.typeOf at_)) && px_w (.arrayClass (newarray.typeOf at_))) = true) (hdg : decode cc pc = .ok (.newarray at_, 2)) (hq : px_newa tag h st = some q)
    (hn0 : n0 ≤ h.1) (hk0 : k0 ≤ h.2.1) (hc : q.2.1 - n0 ≤ R.cells) (hs : q.2.2.1 - k0 ≤ R.slots)
    (kk : px_Wc p l e R s m args below meth c Q n0 k0 G q.2 (F0 m (pc + 2) ls (q.1.map (px_tv (px_g G))))) : px_Wc p l e R s m args below meth c Q n0 k0 G h (F0 m pc ls (st.map (px_tv (px_g G)))) := by
  intro H locs hr hS
  obtain ⟨n, rr, ty, rfl, ht, ⟨h0, hle⟩, rfl⟩ := px_newa_inv hq
  obtain ⟨hk1, hk2⟩ := (Bool.and_eq_true _ _).mp hok
  have hty : ty = newarray.typeOf at_ := Option.some.inj (ht.symm.trans (of_decide_eq_true hk1))
  have hcb := px_cb (newarray.typeOf at_)
  have hc : h.1 + 1 - n0 ≤ R.cells := hc
  have hs : h.2.1 + n.toNatClampNeg - k0 ≤ R.slots := hs
  refine W.newa hx hb (px_w_use hts hk2) rfl hdg rfl h0 (Nat.le_trans (Nat.mul_le_mul hle hcb) (by decide)) (by omega) (by omega) fun cA kA comp f1 f2 f3 => ?_
  have hcA : cA = G.2.2.2.2.1 tag := by
    have h2 := (hK.2.1 tag ty ht).2
    rw [hty] at h2
    have h3 : s.vm.findClass ("[" ++ (newarray.typeOf at_).toString) = some (G.2.2.2.2.1 tag) := by
      cases at_ <;> exact h2
    exact Option.some.inj (f1.symm.trans h3)
  subst hcA
  subst hty
  obtain ⟨w1, w2⟩ := px_newcell (N := n.toNatClampNeg) (H1 := H.push { cls := G.2.2.2.2.1 tag, slots := Array.replicate n.toNatClampNeg (defaultValue (newarray.typeOf at_)), vm := .none }) hK ht hr hS (by simp) (by simp) (fun q hq => by rw [Array.getElem?_push, if_neg (Nat.ne_of_lt hq)])
  have k1 := kk _ _ w1 w2
  have e1 : h.1 - n0 + 1 = (px_new h n.toNatClampNeg (50 + tag, List.replicate n.toNatClampNeg (defaultValue (newarray.typeOf at_)))).1 - n0 := by
    show _ = h.1 + 1 - n0
    omega
  have e2 : h.2.1 - k0 + n.toNatClampNeg = (px_new h n.toNatClampNeg (50 + tag, List.replicate n.toNatClampNeg (defaultValue (newarray.typeOf at_)))).2.1 - k0 := by
    show _ = h.2.1 + n.toNatClampNeg - k0
    omega
  rw [e1, e2, ← px_top hr]
  exact k1
theorem px_newr_ok (hx : p.tables.exec = Jvm.exec) (hb : c.code = cc) (hown : s.vm.findClass own = some m.cls) (hts : px_T args s) (hK : px_K G s) {C : String} {idx tag : Nat} (hty : px_atys[tag]? = some (.object C)) (hao : va_AO C s) (hok : px_w (.classLink own idx C) = true) (hdg : decode cc pc = .ok (.anewarray idx, 3)) (hq : px_newa tag h st = some q)
    (hn0 : n0 ≤ h.1) (hk0 : k0 ≤ h.2.1) (hc : q.2.1 - n0 ≤ R.cells) (hs : q.2.2.1 - k0 ≤ R.slots)
    (kk : px_Wc p l e R s m args below meth c Q n0 k0 G q.2 (F0 m (pc + 3) ls (q.1.map (px_tv (px_g G))))) : px_Wc p l e R s m args below meth c Q n0 k0 G h (F0 m pc ls (st.map (px_tv (px_g G)))) := by
  intro H locs hr hS
  obtain ⟨n, rr, ty, rfl, ht, ⟨h0, hle⟩, rfl⟩ := px_newa_inv hq
  have hc : h.1 + 1 - n0 ≤ R.cells := hc
  have hs : h.2.1 + n.toNatClampNeg - k0 ≤ R.slots := hs
  obtain rfl : FieldType.object C = ty := Option.some.inj (hty.symm.trans ht)
  refine W.anew hx hb hown (px_w_use hts hok) (va_AO.use hao) rfl hdg rfl h0 (by omega) (by omega) (by omega) fun cA kA comp f1 f2 f3 f4 => ?_
  have hcA : cA = G.2.2.2.2.1 tag := by
    obtain ⟨_, _, -, -, -, h2⟩ := (hK.2.1 tag _ ht).2
    exact Option.some.inj (f1.symm.trans h2)
  subst hcA
  obtain ⟨w1, w2⟩ := px_newcell (N := n.toNatClampNeg) (H1 := H.push { cls := G.2.2.2.2.1 tag, slots := Array.replicate n.toNatClampNeg (defaultValue (.object C)), vm := .none }) hK ht hr hS (by simp) (by simp) (fun q hq => by rw [Array.getElem?_push, if_neg (Nat.ne_of_lt hq)])
  have k1 := kk _ _ w1 w2
  have e1 : h.1 - n0 + 1 = (px_new h n.toNatClampNeg (50 + tag, List.replicate n.toNatClampNeg (defaultValue (.object C)))).1 - n0 := by
    show _ = h.1 + 1 - n0
    omega
  have e2 : h.2.1 - k0 + n.toNatClampNeg = (px_new h n.toNatClampNeg (50 + tag, List.replicate n.toNatClampNeg (defaultValue (.object C)))).2.1 - k0 := by
    show _ = h.2.1 + n.toNatClampNeg - k0
    omega
  rw [e1, e2, ← px_top hr]
  exact k1
theorem px_newo_ok (hx : p.tables.exec = Jvm.exec) (hb : c.code = cc) (hown : s.vm.findClass own = some m.cls) (hts : px_T args s) (hK : px_K G s) {idx ci : Nat} (hok : px_oko own idx ci = true) (hdg : decode cc pc = .ok (.new idx, 3)) (hq : px_newo ci h st = some q)
    (hn0 : n0 ≤ h.1) (hk0 : k0 ≤ h.2.1) (hc : q.2.1 - n0 ≤ R.cells) (hs : q.2.2.1 - k0 ≤ R.slots)
    (kk : px_Wc p l e R s m args below meth c Q n0 k0 G q.2 (F0 m (pc + 3) ls (q.1.map (px_tv (px_g G))))) : px_Wc p l e R s m args below meth c Q n0 k0 G h (F0 m pc ls (st.map (px_tv (px_g G)))) := by
  intro H locs hr hS
  unfold px_oko at hok
  unfold px_newo at hq
  cases hcl : vwCl[ci]? with
  | none => rw [hcl] at hok; cases hok
  | some r =>
    rw [hcl] at hok hq
    obtain ⟨o1, o2⟩ := (Bool.and_eq_true _ _).mp hok
    obtain ⟨o2, o3⟩ := (Bool.and_eq_true _ _).mp o2
    obtain rfl := Option.some.inj hq
    have hc : h.1 + 1 - n0 ≤ R.cells := hc
    have hs : h.2.1 + r.2.2 - k0 ≤ R.slots := hs
    have hKn := hK.1 ci _ hcl
    refine W.newcK hx hb hown (px_w_use hts o1) (px_w_use hts o2) (px_w_use hts o3) rfl hdg (by omega) (by omega) hKn.2.1 rfl fun H1 kC hkC e1 z1 ok1 => ?_
    have hob := u_born (px_ty ci) (px_lays hts hcl) (fun _ z => z) hKn hkC e1 (px_types hcl)
    have hrel : px_rel G s (px_new h r.2.2 (ci, (List.range r.2.2).map (fun k => defaultValue (px_ty ci k)))) H1 := by
      refine px_rel_new hr z1 ok1 (Or.inl ⟨by have := px_cl_lt hcl; show ci < 50; omega, hr.2.1, r, hcl, by simp, ?_⟩)
      rw [px_top hr]
      refine hob.to (fun k hk => ?_)
      show defaultValue (px_ty ci k) = vp_V (((List.range r.2.2).map (fun k => defaultValue (px_ty ci k))).map (px_tv (px_g G))) k
      unfold vp_V
      rw [List.getD_eq_getElem?_getD, List.getElem?_map, List.getElem?_map, List.getElem?_range hk]
      show _ = px_tv (px_g G) (defaultValue (px_ty ci k))
      rw [px_tv_def]
    have k1 := kk H1 locs hrel ⟨Nat.le_trans hS.1 (by omega), fun x h1 h2 => (ok1 x (Nat.lt_of_lt_of_le h1 hS.1)).trans (hS.2.1 x h1 h2), hS.2.2⟩
    have e1 : h.1 - n0 + 1 = (px_new h r.2.2 (ci, (List.range r.2.2).map (fun k => defaultValue (px_ty ci k)))).1 - n0 := by
      show _ = h.1 + 1 - n0
      omega
    have e2 : h.2.1 - k0 + r.2.2 = (px_new h r.2.2 (ci, (List.range r.2.2).map (fun k => defaultValue (px_ty ci k)))).2.1 - k0 := by
      show _ = h.2.1 + r.2.2 - k0
      omega
    rw [e1, e2]
    show W p l e R s m args below meth c H1 locs _ _ Q (F0 m (pc + 3) ls (.ref H.size :: st.map (px_tv (px_g G))))
    rw [← px_top hr]
    exact k1
theorem px_aast_ok (hx : p.tables.exec = Jvm.exec) (hb : c.code = cc) (hK : px_K G s) (hdg : decode cc pc = .ok (.aastore, 1)) (hq : px_aast h st = some q)
    (kk : px_Wc p l e R s m args below meth c Q n0 k0 G q.2 (F0 m (pc + 1) ls (q.1.map (px_tv (px_g G))))) : px_Wc p l e R s m args below meth c Q n0 k0 G h (F0 m pc ls (st.map (px_tv (px_g G)))) := by
  intro H locs hr hS
  obtain ⟨b, j, a, rr, kd, vs, d, us, rfl, ha, hbb, hcd, h9, h0, hlt, rfl⟩ : ∃ (b : Nat) (j : Int32) (a : Nat) (rr : List Value) (kd : Nat) (vs : List Value) (d : Nat) (us : List Value), st = .ref b :: .int j :: .ref a :: rr ∧ h.2.2 a = some (kd, vs) ∧ h.2.2 b = some (d, us) ∧ ((kd = 55 ∧ d = 9) ∨ (kd = 56 ∧ d = 10)) ∧ 17 ≤ a ∧ ¬ j < 0 ∧ j.toNatClampNeg < vs.length ∧ q = (rr, px_set h a (kd, vs.set j.toNatClampNeg (.ref b))) := by
    unfold px_aast at hq
    split at hq
    · next b j a rr =>
      split at hq
      · next c0 vs d us hv hw =>
        split at hq
        · next hci => exact ⟨b, j, a, rr, c0, vs, d, us, rfl, hv, hw, hci.1, hci.2.1, hci.2.2.1, hci.2.2.2, (Option.some.inj hq).symm⟩
        · cases hq
      · cases hq
    · cases hq
  have main : ∀ (C : String) (t : Nat) (r : vw_C), kd = 50 + t → px_atys[t]? = some (.object C) → vwCl[d]? = some r → r.1 = C → W p l e R s m args below meth c H locs (h.1 - n0) (h.2.1 - k0) Q (F0 m pc ls ((.ref b :: .int j :: .ref a :: rr).map (px_tv (px_g G)))) := by
    intro C t r hkd ht hcl hC
    subst hkd
    obtain ⟨cell, g1, g2, g3, g4, g5⟩ := px_cell_arr (by omega) (hr.2.2.2.2 a _ ha)
    obtain ⟨b9, -, cellV, v1, v2, v3, -⟩ := px_cell_obj hcl (hr.2.2.2.2 b _ hbb)
    have hcls := (hK.1 d r hcl).2
    obtain ⟨kA, comp, k1, k2, k3, -⟩ := (hK.2.1 t _ ht).2
    have hcomp : comp = G.2.2.1 d := Option.some.inj (k3.symm.trans (by rw [← hC]; exact hcls.1))
    subst hcomp
    obtain ⟨kC, hkC, -⟩ := hcls.2
    have hcl0 : cell.cls = G.2.2.2.2.1 t := by
      rw [g5 h9]
      show G.2.2.2.2.1 (50 + t - 50) = _
      rw [show 50 + t - 50 = t by omega]
    have hvm0 : cell.vm = .none := by rw [g5 h9]; rfl
    refine W.aast hx hb g1 (fun q z => by rw [hvm0] at z; cases z) g3 (by rw [hcl0]; exact k1) k2 rfl hkC ⟨h0, px_has_lt g4 hlt⟩ v1 (fun q z => by rw [v3] at z; cases z) (by rw [v2]; exact hkC) (by rw [v2]; exact va_assign hcls) rfl rfl hdg fun H1 e1 e2 e3 => ?_
    obtain ⟨w1, w2⟩ := px_wr (v := .ref b) (by omega) hr hS h9 g2 g3 (g5 h9) e1 e2 e3
    exact kk H1 _ w1 w2
  rcases hcd with ⟨h1, rfl⟩ | ⟨h1, rfl⟩
  · exact main "JobTests$StepMemory" 5 _ h1 rfl rfl rfl
  · exact main "JobTests$TestCase" 6 _ h1 rfl rfl rfl
theorem px_oin_ok (hx : p.tables.exec = Jvm.exec) (hb : c.code = cc) (hown : s.vm.findClass own = some m.cls) (hts : px_T args s) (hsz : ls.size = c.maxLocals) {idx : Nat} (o1 : px_w (.methodLink own idx Lib.objectInit) = true) (o2 : px_w (.instanceMethod Lib.objectInit) = true) (o3 : px_w (.code Lib.objectInit ⟨#[0xb1]⟩ 1 none) = true) (hfr : 1 ≤ R.frames) (hlo : 20 ≤ R.locals) (hdg : decode cc pc = .ok (.invokespecial idx, 3)) (hq : px_oin h st = some q)
    (kk : px_Wc p l e R s m args below meth c Q n0 k0 G q.2 (F0 m (pc + 3) ls (q.1.map (px_tv (px_g G))))) : px_Wc p l e R s m args below meth c Q n0 k0 G h (F0 m pc ls (st.map (px_tv (px_g G)))) := by
  intro H locs hr hS
  obtain ⟨a, rr, rfl, hsum, rfl⟩ : ∃ (a : Nat) (rr : List Value), st = .ref a :: rr ∧ px_sum rr ≤ 8 ∧ q = (rr, h) := by
    unfold px_oin at hq
    split at hq
    · next a rr =>
      split at hq
      · next hci => exact ⟨a, rr, rfl, hci, (Option.some.inj hq).symm⟩
      · cases hq
    · cases hq
  refine W.objInit hx hb hown (px_w_use hts o1) (px_w_use hts o2) (px_w_use hts o3) rfl hsz rfl hdg hfr ?_ (kk H locs hr hS)
  show 2 * 0 + ((rr.map (px_tv (px_g G))).map fun v => v.category).sum + 12 ≤ _
  rw [px_tv_sum]
  omega
theorem px_max_ok (hx : p.tables.exec = Jvm.exec) (hb : c.code = cc) (hown : s.vm.findClass own = some m.cls) (hts : px_T args s) (hsz : ls.size = c.maxLocals) {idx : Nat} (o1 : px_w (.methodLink own idx Lib.Math.max.name) = true) (o2 : px_w (.static Lib.Math.max.name) = true) (o3 : px_w (.initialized "java/lang/Math") = true) (o4 : px_w (.code Lib.Math.max.name Lib.Math.max.code 2 (some .int)) = true) (hfr : 1 ≤ R.frames) (hlo : 21 ≤ R.locals) (hc : h.1 - n0 ≤ R.cells) (hs : h.2.1 - k0 ≤ R.slots) (hdg : decode cc pc = .ok (.invokestatic idx, 3)) (hq : px_max h st = some q)
    (kk : px_Wc p l e R s m args below meth c Q n0 k0 G q.2 (F0 m (pc + 3) ls (q.1.map (px_tv (px_g G))))) : px_Wc p l e R s m args below meth c Q n0 k0 G h (F0 m pc ls (st.map (px_tv (px_g G)))) := by
  intro H locs hr hS
  obtain ⟨x, y, rr, rfl, hsum, rfl⟩ : ∃ (x y : Int32) (rr : List Value), st = .int y :: .int x :: rr ∧ px_sum rr ≤ 8 ∧ q = (.int (if x < y then y else x) :: rr, h) := by
    unfold px_max at hq
    split at hq
    · next y x rr =>
      split at hq
      · next hci => exact ⟨x, y, rr, rfl, hci, (Option.some.inj hq).symm⟩
      · cases hq
    · cases hq
  exact va_mmax hx hb hsz.symm hown (px_w_use hts o1) (px_w_use hts o2) (px_w_use hts o3) (px_w_use hts o4) hfr (by rw [px_tv_sum]; omega) hc hs hdg (kk H locs hr hS)
theorem px_min_ok (hx : p.tables.exec = Jvm.exec) (hb : c.code = cc) (hown : s.vm.findClass own = some m.cls) (hts : px_T args s) (hsz : ls.size = c.maxLocals) {idx : Nat} (o1 : px_w (.methodLink own idx Lib.Math.min.name) = true) (o2 : px_w (.static Lib.Math.min.name) = true) (o3 : px_w (.initialized "java/lang/Math") = true) (o4 : px_w (.code Lib.Math.min.name Lib.Math.min.code 2 (some .int)) = true) (hfr : 1 ≤ R.frames) (hlo : 21 ≤ R.locals) (hc : h.1 - n0 ≤ R.cells) (hs : h.2.1 - k0 ≤ R.slots) (hdg : decode cc pc = .ok (.invokestatic idx, 3)) (hq : px_min h st = some q)
    (kk : px_Wc p l e R s m args below meth c Q n0 k0 G q.2 (F0 m (pc + 3) ls (q.1.map (px_tv (px_g G))))) : px_Wc p l e R s m args below meth c Q n0 k0 G h (F0 m pc ls (st.map (px_tv (px_g G)))) := by
  intro H locs hr hS
  obtain ⟨x, y, rr, rfl, hsum, rfl⟩ : ∃ (x y : Int32) (rr : List Value), st = .int y :: .int x :: rr ∧ px_sum rr ≤ 8 ∧ q = (.int (if y < x then y else x) :: rr, h) := by
    unfold px_min at hq
    split at hq
    · next y x rr =>
      split at hq
      · next hci => exact ⟨x, y, rr, rfl, hci, (Option.some.inj hq).symm⟩
      · cases hq
    · cases hq
  exact va_mmin hx hb hsz.symm hown (px_w_use hts o1) (px_w_use hts o2) (px_w_use hts o3) (px_w_use hts o4) hfr (by rw [px_tv_sum]; omega) hc hs hdg (kk H locs hr hS)
theorem px_acp_ok (hx : p.tables.exec = Jvm.exec) (hb : c.code = cc) (hown : s.vm.findClass own = some m.cls) (hts : px_T args s) (hK : px_K G s) (hsz : ls.size = c.maxLocals) {idx : Nat} (o1 : px_w (.methodLink own idx arraycopyName) = true) (o2 : px_w (.native arraycopyName) = true) (o3 : px_w (.static arraycopyName) = true) (o4 : px_w (.initialized "java/lang/System") = true) (hfr : 1 ≤ R.frames) (hlo : 8 + (nativeFrameWords "java/lang/System" "arraycopy" 5 + 11) ≤ R.locals) (hdg : decode cc pc = .ok (.invokestatic idx, 3)) (hq : px_acp h st = some q)
    (kk : px_Wc p l e R s m args below meth c Q n0 k0 G q.2 (F0 m (pc + 3) ls (q.1.map (px_tv (px_g G))))) : px_Wc p l e R s m args below meth c Q n0 k0 G h (F0 m pc ls (st.map (px_tv (px_g G)))) := by
  intro H locs hr hS
  obtain ⟨n, dp, b, sp, a, rr, xs, ys, rfl, ha, hbb, a9, b9, hne, n0', s0, d0, hl1, hl2, hsum, rfl⟩ : ∃ (n dp : Int32) (b : Nat) (sp : Int32) (a : Nat) (rr : List Value) (xs ys : List Int32), st = .int n :: .int dp :: .ref b :: .int sp :: .ref a :: rr ∧ h.2.2 a = some (50, xs.map Value.int) ∧ h.2.2 b = some (50, ys.map Value.int) ∧ 17 ≤ a ∧ 17 ≤ b ∧ a ≠ b ∧ ¬ n < 0 ∧ ¬ sp < 0 ∧ ¬ dp < 0 ∧ sp.toNatClampNeg + n.toNatClampNeg ≤ xs.length ∧ dp.toNatClampNeg + n.toNatClampNeg ≤ ys.length ∧ px_sum rr ≤ 8 ∧ q = (rr, px_set h b (50, (px_cpy xs ys sp.toNatClampNeg dp.toNatClampNeg n.toNatClampNeg).map Value.int)) := by
    unfold px_acp at hq
    split at hq
    · next n dp b sp a rr =>
      split at hq
      · next c0 vs d0 us hv hw =>
        split at hq
        · next xs ys h1 h2 =>
          split at hq
          · next hci =>
            obtain ⟨rfl, rfl, c1, c2, c3, c4, c5, c6, c7, c8, c9⟩ := hci
            exact ⟨n, dp, b, sp, a, rr, xs, ys, rfl, by rw [hv, px_ints_eq h1], by rw [hw, px_ints_eq h2], c1, c2, c3, c4, c5, c6, c7, c8, c9, (Option.some.inj hq).symm⟩
          · cases hq
        · cases hq
      · cases hq
    · cases hq
  obtain ⟨ca, u1, -, -, -, u5⟩ := px_cell_arr (by decide) (hr.2.2.2.2 a _ ha)
  obtain ⟨cb, v1, v2, v3, -, v5⟩ := px_cell_arr (by decide) (hr.2.2.2.2 b _ hbb)
  rw [u5 a9, px_acell_ints] at u1
  rw [v5 b9, px_acell_ints] at v1
  have hty := hK.2.1 0 .int rfl
  have hAb : px_A G (px_f G b) := by
    show G.2.1 ≤ px_f G b
    rw [px_f_hi b9]
    omega
  have nn : ∀ z : Int32, ¬ z < 0 → z.toInt = (z.toNatClampNeg : Int) := by
    intro z hz
    have hz0 : (0 : Int) ≤ z.toInt := by
      have := Int32.not_lt.mp hz
      simpa using Int32.le_iff_toInt_le.mp this
    show z.toInt = ((z.toInt.toNat : Nat) : Int)
    omega
  intro T hT X
  obtain ⟨-, kA, hkA, cmA, hkk⟩ := hty.1 0 (fun _ => .null)
  obtain ⟨vm', X', step⟩ := X.arraycopy hx hown (px_w_use hts o1) (px_w_use hts o2) (px_w_use hts o3) (px_w_use hts o4) (src := px_f G a) (dst := px_f G b) (cs := arrV (G.2.2.2.2.1 0) xs.length (fun j => .int (xs.getD j 0))) (cd := arrV (G.2.2.2.2.1 0) ys.length (fun j => .int (ys.getD j 0))) (srcPos := sp) (destPos := dp) (n := n) (by rw [hT]; exact u1) (by rw [hT]; exact v1)
    (fun _ h => by cases h) (fun _ h => by cases h) (fun h => by cases h) (fun h => by cases h) hkA hkA hkk hkk (by simp [refKind]) s0 d0 n0'
    (by rw [nn sp s0, nn n n0', arrV_size]; omega)
    (by rw [nn dp d0, nn n n0', arrV_size]; omega)
    (fun vm₁ _ i hi => by
      have e : (arrV (G.2.2.2.2.1 0) xs.length (fun j => .int (xs.getD j 0))).slots.getD (sp.toNatClampNeg + i) .null = .int (xs.getD (sp.toNatClampNeg + i) 0) := by
        rw [Array.getD_eq_getD_getElem?, arrV_read _ _ (by omega)]
        rfl
      refine ⟨?_, ?_⟩
      · rw [e]
        rfl
      · rw [e]
        exact trivial)
    (g := F0 m pc ls (.int n :: .int dp :: .ref (px_f G b) :: .int sp :: .ref (px_f G a) :: rr.map (px_tv (px_g G)))) rfl hsz (rest := rr.map (px_tv (px_g G))) rfl (by rw [hb]; exact hdg) hfr (by show 2 * 0 + _ + _ ≤ _; rw [px_tv_sum]; omega)
  have e1 : copied (arrV (G.2.2.2.2.1 0) xs.length (fun j => .int (xs.getD j 0))) (arrV (G.2.2.2.2.1 0) ys.length (fun j => .int (ys.getD j 0))) sp dp n = arrV (G.2.2.2.2.1 0) ys.length (fun j => .int (va_cpy (fun j => xs.getD j 0) (fun j => ys.getD j 0) sp.toNatClampNeg dp.toNatClampNeg n.toNatClampNeg j)) := va_copied (fun z => .int z) (G.2.2.2.2.1 0) (G.2.2.2.2.1 0) (fun j => xs.getD j 0) (fun j => ys.getD j 0) hl1
  have e2 : arrV (G.2.2.2.2.1 0) ys.length (fun j => .int (va_cpy (fun j => xs.getD j 0) (fun j => ys.getD j 0) sp.toNatClampNeg dp.toNatClampNeg n.toNatClampNeg j)) = px_acell G 50 ((px_cpy xs ys sp.toNatClampNeg dp.toNatClampNeg n.toNatClampNeg).map Value.int) := by
    rw [px_acell_ints]
    have hlen : (px_cpy xs ys sp.toNatClampNeg dp.toNatClampNeg n.toNatClampNeg).length = ys.length := by simp [px_cpy]
    rw [hlen]
    refine px_arrV_congr _ _ _ _ (fun j hj => ?_)
    simp only [px_cpy, va_cpy, List.getD_eq_getElem?_getD, List.getElem?_map, List.getElem?_range hj, Option.map_some, Option.getD_some]
  rw [e1, e2] at X' step
  have hlt : px_f G b < H.size := (Array.getElem?_eq_some_iff.mp v1).1
  have hheap : ((T.setVm vm').setCell (px_f G b) (px_acell G 50 ((px_cpy xs ys sp.toNatClampNeg dp.toNatClampNeg n.toNatClampNeg).map Value.int))).heap = H.setIfInBounds (px_f G b) (px_acell G 50 ((px_cpy xs ys sp.toNatClampNeg dp.toNatClampNeg n.toNatClampNeg).map Value.int)) := by rw [← hT]; rfl
  have oq : ∀ q : Nat, q ≠ px_f G b → (H.setIfInBounds (px_f G b) (px_acell G 50 ((px_cpy xs ys sp.toNatClampNeg dp.toNatClampNeg n.toNatClampNeg).map Value.int)))[q]? = H[q]? := fun q hq => by simp [Array.getElem?_setIfInBounds, Ne.symm hq]
  have w1 : px_rel G s (px_set h b (50, (px_cpy xs ys sp.toNatClampNeg dp.toNatClampNeg n.toNatClampNeg).map Value.int)) (H.setIfInBounds (px_f G b) (px_acell G 50 ((px_cpy xs ys sp.toNatClampNeg dp.toNatClampNeg n.toNatClampNeg).map Value.int))) :=
    px_rel_set hr b9 (by simp) oq (Or.inr (Or.inl ⟨Nat.le_refl 50, px_acell G 50 ((px_cpy xs ys sp.toNatClampNeg dp.toNatClampNeg n.toNatClampNeg).map Value.int), (by simp [Array.getElem?_setIfInBounds, hlt]), hty.1 0 (fun _ => .null), (fun z => by cases z), px_has_arr G _, fun _ => rfl⟩))
  obtain ⟨t, a1, b1⟩ := kk _ _ w1 ⟨by simp; exact hS.1, fun q g1 g2 => by
      rw [oq q (fun e => g2 (by rw [e]; exact hAb))]
      exact hS.2.1 q g1 g2, fun q hq => by
      rcases List.mem_append.mp hq with h | h
      · exact hS.2.2 q h
      · obtain ⟨z, -, hz⟩ := List.mem_map.mp h
        rw [← hz]
        exact hAb⟩ _ hheap X'
  exact ⟨t, step t a1, b1⟩
theorem px_gets_ok (hx : p.tables.exec = Jvm.exec) (hb : c.code = cc) (hown : s.vm.findClass own = some m.cls) (hts : px_T args s) {C n d : String} {v : Value} {idx : Nat} (hZ : va_Z C n d (px_tv (px_g G) v) (px_A G) s G.2.2.2.2.2.1) (o1 : px_w (.fieldLink own idx C n d) = true) (hdg : decode cc pc = .ok (.getstatic idx, 3))
    (kk : px_Wc p l e R s m args below meth c Q n0 k0 G h (F0 m (pc + 3) ls ((v :: st).map (px_tv (px_g G))))) : px_Wc p l e R s m args below meth c Q n0 k0 G h (F0 m pc ls (st.map (px_tv (px_g G)))) := by
  intro H locs hr hS
  obtain ⟨cf, kf, fi, f, a, cell, h1, h2, h3, h4, h5, h6, h7, h8⟩ := hZ
  have hlt : a < G.2.1 := Nat.not_le.mp h8
  exact W.gets hx hb hown (px_w_use hts o1) h1 h2 h3 h4 (by rw [hr.2.2.2.1 a hlt]; exact h5) (fun z => by rw [z] at h6; cases h6) h7 rfl hdg (kk H locs hr hS)
theorem px_ldi_ok2 (hx : p.tables.exec = Jvm.exec) (hb : c.code = cc) (hown : s.vm.findClass own = some m.cls) (hts : px_T args s) {v : Int32} {idx : Nat} (o1 : px_w (.constant own idx v) = true) (hdg : decode cc pc = .ok (.ldc idx, 2))
    (kk : px_Wc p l e R s m args below meth c Q n0 k0 G h (F0 m (pc + 2) ls ((.int v :: st).map (px_tv (px_g G))))) : px_Wc p l e R s m args below meth c Q n0 k0 G h (F0 m pc ls (st.map (px_tv (px_g G)))) := fun H locs hr hS =>
  lv_ldc hx hb hown (px_w_use hts o1) hdg (kk H locs hr hS)
theorem px_ldiw_ok (hx : p.tables.exec = Jvm.exec) (hb : c.code = cc) (hown : s.vm.findClass own = some m.cls) (hts : px_T args s) {v : Int32} {idx : Nat} (o1 : px_w (.constant own idx v) = true) (hdg : decode cc pc = .ok (.ldc_w idx, 3))
    (kk : px_Wc p l e R s m args below meth c Q n0 k0 G h (F0 m (pc + 3) ls ((.int v :: st).map (px_tv (px_g G))))) : px_Wc p l e R s m args below meth c Q n0 k0 G h (F0 m pc ls (st.map (px_tv (px_g G)))) := fun H locs hr hS =>
  lv_ldcw hx hb hown (px_w_use hts o1) hdg (kk H locs hr hS)
theorem px_ldl_ok2 (hx : p.tables.exec = Jvm.exec) (hb : c.code = cc) (hown : s.vm.findClass own = some m.cls) (hts : px_T args s) {v : Int64} {idx : Nat} (o1 : px_w (.constantLong own idx v) = true) (hdg : decode cc pc = .ok (.ldc2_w idx, 3))
    (kk : px_Wc p l e R s m args below meth c Q n0 k0 G h (F0 m (pc + 3) ls ((.long v :: st).map (px_tv (px_g G))))) : px_Wc p l e R s m args below meth c Q n0 k0 G h (F0 m pc ls (st.map (px_tv (px_g G)))) := fun H locs hr hS =>
  lv_ldc2 hx hb hown (px_w_use hts o1) hdg (kk H locs hr hS)
theorem px_lds_ok (hx : p.tables.exec = Jvm.exec) (hb : c.code = cc) (hown : s.vm.findClass own = some m.cls) (hK : px_K G s) {z : String × Nat × String × Nat} (hz : z ∈ px_strs) {idx : Nat} (h1 : z.1 = own) (h2 : z.2.1 = idx) (h3 : z.2.2.2 < 17) (hdg : decode cc pc = .ok (.ldc idx, 2))
    (kk : px_Wc p l e R s m args below meth c Q n0 k0 G h (F0 m (pc + 2) ls ((.ref z.2.2.2 :: st).map (px_tv (px_g G))))) : px_Wc p l e R s m args below meth c Q n0 k0 G h (F0 m pc ls (st.map (px_tv (px_g G)))) := fun H locs hr hS => by
  have hR := hK.2.2.2.2.1 z hz
  rw [h1, h2] at hR
  refine va_ldcS hx hb hown hR hdg ?_
  have k1 := kk H locs hr hS
  have e : px_f G z.2.2.2 = G.1 z.2.2.2 := by unfold px_f; rw [if_pos h3]
  rw [← e]
  exact k1
end PXN
