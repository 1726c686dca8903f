def px_gw : List Cond := lw_tbl.filter goodWord
def px_wm (m : Nat) : List Cond := .code (px_y m) (px_by m) (px_ml m) (px_rt m) :: px_gw
def px_Pc (G : px_G) (as : List Value) (h : px_H) : Array Value → State → Prop := fun a U => a = (as.map (px_tv (px_g G))).toArray ∧ px_rel G U h U.heap ∧ px_K G U
def px_Qc (G : px_G) (h1 : px_H) (v : Option Value) : Array Value → State → Outcome → State → Prop := fun _ st o t => o = .returned (v.map (px_tv (px_g G))) ∧ px_rel G t h1 t.heap ∧ va_F (px_A G) st t
def px_rm (m mc ms : Nat) : Room := { frames := px_de m, cells := mc, slots := ms, locals := px_lc m }
def px_Met (l : Launch) (G : px_G) (m : Nat) (as : List Value) (h h1 : px_H) (v : Option Value) : Prop := Met l (px_y m) (px_wm m) (px_rm m (h1.1 - h.1) (h1.2.1 - h.2.1)) (px_Pc G as h) (px_Qc G h1 v) (h1.1 - h.1) (h1.2.1 - h.2.1) (px_A G)
theorem px_blind (G : px_G) (as : List Value) (h : px_H) : FrameBlind (px_Pc G as h) := by
  intro a U g mk hq
  obtain ⟨q0, q1, q2⟩ := hq
  exact ⟨q0, px_rel_moved (U := U.calling g mk a) (Vm.Alike.refl U.vm) q1, px_K_same (u := U) (U := U.calling g mk a) rfl q2⟩
theorem px_cut_inv {en : px_E} {st : List Value} {h : px_H} {as rest : List Value} (hq : px_cut en st h = some (as, rest)) : st = as.reverse ++ rest ∧ as.length = px_nps.getD en.2.2.1 0 + (if en.2.2.2.1 = 2 then 0 else 1) ∧ px_sum rest ≤ 8 ∧ (px_sl as).length ≤ px_ml en.2.2.1 ∧ px_rcv en.2.2.2.1 en.2.2.1 h as = true := by
  unfold px_cut at hq
  generalize px_nps.getD en.2.2.1 0 + (if en.2.2.2.1 = 2 then 0 else 1) = k at hq ⊢
  split at hq
  · next hc =>
    obtain ⟨h1, h2⟩ := Prod.mk.inj (Option.some.inj hq)
    subst h1
    subst h2
    obtain ⟨c1, c2, c3, c4⟩ := hc
    exact ⟨by rw [List.reverse_reverse, List.take_append_drop], by rw [List.length_reverse]; exact c1, c2, c3, c4⟩
  · cases hq
theorem px_words {args : Array Value} {s : State} (hts : px_T args s) {m : Nat} (hcw : px_cwP m) : ∀ w ∈ px_wm m, ∀ (a' : Array Value) (U : State), s.WarmedH U.vm → w.before a' U = true := by
  intro w hw a' U hW
  rcases List.mem_cons.mp hw with rfl | hw
  · exact word_at hW (good_of_word rfl) (hts _ hcw rfl)
  · obtain ⟨h1, h2⟩ := List.mem_filter.mp hw
    exact word_at hW (good_of_word h2) (hts w h1 h2)
section PXC
variable {p : Program} {l : Launch} {e : Env} {R : Room} {s : State} {m : MethodId} {args : Array Value} {below : List Frame} {meth : Method} {c : Code} {Q : State → Prop} {cc : ByteArray} {pc : Nat} {ls : Array Slot} {G : px_G} {n0 k0 fr lo : Nat} {own : String} {h h1 : px_H} {st : List Value} {v : Option Value}
theorem px_after {rest : List Value} {a : Array Value} {H : Heap} {locs : List Loc} (hS : va_S (px_A G) s.heap H locs) (hmono : h.1 ≤ h1.1 ∧ h.2.1 ≤ h1.2.1) (hn0 : n0 ≤ h.1) (hk0 : k0 ≤ h.2.1) (kk : px_Wc p l e R s m args below meth c Q n0 k0 G h1 (F0 m (pc + 3) ls ((v.toList ++ rest).map (px_tv (px_g G)))))
    (hrun : va_Run p l e R s m args below meth c H locs (h.1 - n0) (h.2.1 - k0) (h1.1 - h.1) (h1.2.1 - h.2.1) (F0 m pc ls (st.map (px_tv (px_g G)))) (rest.map (px_tv (px_g G))) (px_Qc G h1 v a) (px_A G)) : W p l e R s m args below meth c H locs (h.1 - n0) (h.2.1 - k0) Q (F0 m pc ls (st.map (px_tv (px_g G)))) := by
  intro T hT X
  obtain ⟨v', st₀, t, T', L, e0, X', hL, e1, e2, ⟨q1, q2, q3⟩, go⟩ := hrun T hT X
  have hv : v' = v.map (px_tv (px_g G)) := by
    cases q1
    rfl
  subst hv
  have hal : s.vm.Alike t.vm := by rw [← e2]; exact X'.warmed.alike
  have hrel : px_rel G s h1 T'.heap := by rw [e1]; exact px_rel_moved hal.symm q2
  have hz := q3.1
  have hk := q3.2
  rw [e0] at hz hk
  have hS' : va_S (px_A G) s.heap T'.heap (locs ++ L) := ⟨Nat.le_trans hS.1 (by rw [e1]; exact hz), fun q g1 g2 => by
      rw [e1, hk q (Nat.lt_of_lt_of_le g1 hS.1) g2]
      exact hS.2.1 q g1 g2, fun q hq => by
      rcases List.mem_append.mp hq with g | g
      · exact hS.2.2 q g
      · exact hL q g⟩
  have c1 : h.1 - n0 + (h1.1 - h.1) = h1.1 - n0 := by omega
  have c2 : h.2.1 - k0 + (h1.2.1 - h.2.1) = h1.2.1 - k0 := by omega
  rw [c1, c2] at X'
  obtain ⟨t2, a1, b1⟩ := kk T'.heap (locs ++ L) hrel hS' T' rfl X'
  refine ⟨t2, go t2 ?_, b1⟩
  have es : (v.map (px_tv (px_g G))).toList ++ rest.map (px_tv (px_g G)) = (v.toList ++ rest).map (px_tv (px_g G)) := by
    rw [List.map_append]
    cases v <;> rfl
  show Steps p.tables e below (T'.setTop (F0 m (pc + 3) ls ((v.map (px_tv (px_g G))).toList ++ rest.map (px_tv (px_g G))))) t2
  rw [es]
  exact a1
theorem px_call_ok (hx : p.tables.exec = Jvm.exec) (hb : c.code = cc) (hown : s.vm.findClass own = some m.cls) (hts : px_T args s) (hK : px_K G s) (hsz : ls.size = c.maxLocals) (hfr : fr ≤ R.frames) (hlo : lo ≤ R.locals) {en : px_E} (hokc : px_okc own fr lo en = true) (hdg : decode cc pc = .ok (en.1, 3)) {as rest : List Value} (hcut : px_cut en st h = some (as, rest)) (hM : px_Met l G en.2.2.1 as h h1 v)
    (hmono : h.1 ≤ h1.1 ∧ h.2.1 ≤ h1.2.1) (hn0 : n0 ≤ h.1) (hk0 : k0 ≤ h.2.1) (hc : h1.1 - n0 ≤ R.cells) (hs : h1.2.1 - k0 ≤ R.slots) (kk : px_Wc p l e R s m args below meth c Q n0 k0 G h1 (F0 m (pc + 3) ls ((v.toList ++ rest).map (px_tv (px_g G))))) :
    px_Wc p l e R s m args below meth c Q n0 k0 G h (F0 m pc ls (st.map (px_tv (px_g G)))) := by
  intro H locs hr hS
  obtain ⟨hst, hlen, hsum, -, hrcv⟩ := px_cut_inv hcut
  obtain ⟨hroom, hokc⟩ := px_and hokc
  have hroom := of_decide_eq_true hroom
  obtain ⟨hokm, hokc⟩ := px_and hokc
  have hcw : px_cwP en.2.2.1 := px_cw _ (of_decide_eq_true hokm)
  have hokm : px_okn en.2.2.1 = true := px_okn_ok _ (of_decide_eq_true hokm)
  have hcode : (Cond.code (px_y en.2.2.1) (px_by en.2.2.1) (px_ml en.2.2.1) (px_rt en.2.2.1)).before args s = true := hts _ hcw rfl
  have hini := (px_and hokm).1
  have hd := of_decide_eq_true (px_and (px_and hokm).2).2
  have hn : ∀ sig, parseMethodDescriptor (px_y en.2.2.1).desc = some sig → px_nps.getD en.2.2.1 0 = sig.parameters.length := by
    intro sig hsig
    have h2 := hd.2.2
    rw [hsig] at h2
    exact (Option.some.inj h2).symm
  have hcs : h.1 - n0 + (h1.1 - h.1) ≤ R.cells ∧ h.2.1 - k0 + (h1.2.1 - h.2.1) ≤ R.slots := ⟨by omega, by omega⟩
  have hpre : ∀ U : State, U.heap = H → s.WarmedH U.vm → px_Pc G as h (as.map (px_tv (px_g G))).toArray U := fun U hU hW => ⟨rfl, by rw [hU]; exact px_rel_moved hW.alike hr, px_K_warm hW hK⟩
  have hcb : ∀ idx : Nat, px_w (.methodLink own idx (px_y en.2.2.1)) = true → CallB R s args own idx (px_y en.2.2.1) (px_by en.2.2.1) (px_ml en.2.2.1) (px_rt en.2.2.1) (px_wm en.2.2.1) (px_rm en.2.2.1 (h1.1 - h.1) (h1.2.1 - h.2.1)) (h1.1 - h.1) (h1.2.1 - h.2.1) (px_nps.getD en.2.2.1 0) := fun idx hl =>
    ⟨rfl, rfl, Nat.le_trans hroom.1 hfr, Nat.le_trans hroom.2 hlo, px_words hts hcw, List.mem_cons_self, hcode, px_w_use hts hini, ⟨hd.1, hd.2.1⟩, hn, px_w_use hts hl⟩
  have hroom8 : 2 * (F0 m pc ls (st.map (px_tv (px_g G)))).monitorRoom + ((rest.map (px_tv (px_g G))).map fun v => v.category).sum ≤ 8 := lv_room (by rw [px_tv_sum]; exact hsum)
  obtain ⟨i, len, x, y, vv⟩ := en
  cases i with
  | invokevirtual idx =>
    obtain ⟨hy, hokc⟩ := px_and hokc
    have hy : y = 1 := of_decide_eq_true hy
    subst hy
    obtain ⟨hw, hokc⟩ := px_and hokc
    obtain ⟨w1, hokc⟩ := px_and hokc
    obtain ⟨w2, w3⟩ := px_and hokc
    obtain ⟨b, As, rfl⟩ : ∃ (b : Nat) (As : List Value), as = .ref b :: As := by
      match as, hrcv with
      | [], z => cases z
      | .ref b :: As, _ => exact ⟨b, As, rfl⟩
      | .int _ :: _, z => cases z
      | .long _ :: _, z => cases z
      | .float _ :: _, z => cases z
      | .double _ :: _, z => cases z
      | .null :: _, z => cases z
      | .retAddr _ :: _, z => cases z
    have hrcv : (match h.2.2 b with
      | some (c, _) => decide (c = px_owns.getD x 60) && decide (c < 50)
      | none => false) = true := hrcv
    have hcell : ∃ cellB : Cell, H[px_f G b]? = some cellB ∧ cellB.vm.isStatics = false ∧ s.vm.findClass (px_y x).cls = some cellB.cls := by
      split at hrcv
      · next ci vs hv =>
        obtain ⟨z1, z2⟩ := px_and hrcv
        have z1 := of_decide_eq_true z1
        have hpc := hr.2.2.2.2 b _ hv
        rcases (Bool.or_eq_true _ _).mp hw with hw | hw
        · have hw := of_decide_eq_true hw
          have e40 : ci = 40 := z1.trans hw.1
          subst e40
          obtain ⟨⟨cell, g1, g2, g3, -⟩, -, -⟩ := px_cell_str hpc
          exact ⟨cell, g1, g2, by rw [hw.2]; exact g3⟩
        · subst z1
          split at hw
          · next r hc0 =>
            have hw := of_decide_eq_true hw
            obtain ⟨-, -, cell, g1, g2, g3, -⟩ := px_cell_obj hc0 hpc
            refine ⟨cell, g1, by rw [g3]; rfl, ?_⟩
            rw [← hw, g2]
            exact (hK.1 _ r hc0).2.1
          · cases hw
      · cases hrcv
    refine px_after hS hmono hn0 hk0 kk (va_runV (b := px_f G b) (As := As.map (px_tv (px_g G))) (Ts := []) ⟨hx, hb, rfl, hown, fun w z => by cases z⟩ hM ⟨hcb idx w1, px_w_use hts w2, px_w_use hts w3⟩ ⟨px_blind G _ h, hcell, hpre⟩ rfl ?_ hsz ?_ hroom8 hdg hcs)
    · rw [List.length_map]
      have hlen : (Value.ref b :: As).length = px_nps.getD x 0 + 1 := hlen
      rw [List.length_cons] at hlen
      show As.length = px_nps.getD x 0
      omega
    · show st.map (px_tv (px_g G)) = _
      rw [hst, List.map_append, List.map_reverse, List.map_cons, List.reverse_cons, List.append_assoc]
      rfl
  | invokestatic idx =>
    obtain ⟨hy, hokc⟩ := px_and hokc
    have hy : y = 2 := of_decide_eq_true hy
    subst hy
    obtain ⟨w1, w2⟩ := px_and hokc
    refine px_after hS hmono hn0 hk0 kk (va_runS (As := as.map (px_tv (px_g G))) (Ts := []) ⟨hx, hb, rfl, hown, fun w z => by cases z⟩ hM ⟨hcb idx w1, px_w_use hts w2⟩ ⟨px_blind G _ h, hpre⟩ rfl ?_ hsz ?_ hroom8 hdg hcs)
    · rw [List.length_map]
      exact hlen
    · show st.map (px_tv (px_g G)) = _
      rw [hst, List.map_append, List.map_reverse]
  | invokespecial idx =>
    obtain ⟨hy, hokc⟩ := px_and hokc
    have hy := of_decide_eq_true hy
    obtain ⟨w2, hokc⟩ := px_and hokc
    have hy1 : (px_y x).name = "<init>" := hy.1
    have hy2 : px_rt x = none := hy.2
    have hne : y ≠ 2 := by
      intro z
      subst z
      rcases (Bool.or_eq_true _ _).mp hokc with g | g
      · exact absurd (of_decide_eq_true (px_and g).1) (show ¬ (2 : Nat) = 3 by decide)
      · exact absurd (of_decide_eq_true (px_and g).1) (show ¬ (2 : Nat) = 4 by decide)
    obtain ⟨b, As, rfl⟩ : ∃ (b : Nat) (As : List Value), as = .ref b :: As := by
      match as, hrcv with
      | .ref b :: As, _ => exact ⟨b, As, rfl⟩
      | [], z => exact absurd (eq_of_beq z) hne
      | .int _ :: _, z => exact absurd (eq_of_beq z) hne
      | .long _ :: _, z => exact absurd (eq_of_beq z) hne
      | .float _ :: _, z => exact absurd (eq_of_beq z) hne
      | .double _ :: _, z => exact absurd (eq_of_beq z) hne
      | .null :: _, z => exact absurd (eq_of_beq z) hne
      | .retAddr _ :: _, z => exact absurd (eq_of_beq z) hne
    have hlen2 : (As.map (px_tv (px_g G))).length = px_nps.getD x 0 := by
      rw [List.length_map]
      have hlen : (Value.ref b :: As).length = px_nps.getD x 0 + (if y = 2 then 0 else 1) := hlen
      rw [if_neg hne, List.length_cons] at hlen
      omega
    have hstk : st.map (px_tv (px_g G)) = (As.map (px_tv (px_g G))).reverse ++ .ref (px_f G b) :: rest.map (px_tv (px_g G)) := by
      rw [hst, List.map_append, List.map_reverse, List.map_cons, List.reverse_cons, List.append_assoc]
      rfl
    rcases (Bool.or_eq_true _ _).mp hokc with g | g
    · have hcb2 := hcb idx (px_and g).2
      rw [show px_rt (Instr.invokespecial idx, len, x, y, vv).2.2.1 = none from hy2] at hcb2
      exact px_after hS hmono hn0 hk0 kk (va_runI (b := px_f G b) (As := As.map (px_tv (px_g G))) (Ts := []) ⟨hx, hb, rfl, hown, fun w z => by cases z⟩ hM ⟨hcb2, hy1, px_w_use hts w2⟩ ⟨px_blind G _ h, hpre⟩ rfl hlen2 hsz hstk hroom8 hdg hcs)
    · obtain ⟨z, hz, hz2⟩ := List.any_eq_true.mp (px_and g).2
      have hz2 := of_decide_eq_true hz2
      have hnw := hK.2.2.1 z hz
      rw [hz2.1, hz2.2.1, hz2.2.2] at hnw
      have hcode2 : (Cond.code (px_y x) (px_by x) (px_ml x) none).before args s = true := by
        have := hcode
        rw [show px_rt (Instr.invokespecial idx, len, x, y, vv).2.2.1 = none from hy2] at this
        exact this
      have hmem : Cond.code (px_y x) (px_by x) (px_ml x) none ∈ px_wm x := by
        unfold px_wm
        rw [hy2]
        exact List.mem_cons_self
      exact px_after hS hmono hn0 hk0 kk (va_runIN (b := px_f G b) (As := As.map (px_tv (px_g G))) (Ts := []) (host := z.2.2.2) ⟨hx, hb, rfl, hown, fun w z => by cases z⟩ hM ⟨⟨⟨rfl, rfl, Nat.le_trans hroom.1 hfr, Nat.le_trans hroom.2 hlo, px_words hts hcw, hmem⟩, hcode2, px_w_use hts hini, ⟨hd.1, hd.2.1⟩, hn, va_Nw.use rfl hnw⟩, hy1, px_w_use hts w2⟩ ⟨px_blind G _ h, hpre⟩ rfl hlen2 hsz hstk hroom8 hdg hcs)
  | _ => cases hokc
end PXC
