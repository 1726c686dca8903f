def px_slot (f : px_F) : Option Value → Slot
  | some v => .val (px_tv f v)
  | none => .second
theorem px_sl_map (f : px_F) (as : List Value) : lg_sl (as.map (px_tv f)) = (px_sl as).map (px_slot f) := by
  induction as with
  | nil => rfl
  | cons v r ih =>
    have e1 : lg_sl ((v :: r).map (px_tv f)) = (if (px_tv f v).category = 2 then [Slot.val (px_tv f v), .second] else [.val (px_tv f v)]) ++ lg_sl (r.map (px_tv f)) := rfl
    have e2 : px_sl (v :: r) = (if v.category = 2 then [some v, none] else [some v]) ++ px_sl r := rfl
    rw [e1, e2, ih, List.map_append, px_tv_cat]
    by_cases h : v.category = 2
    · rw [if_pos h, if_pos h]
      rfl
    · rw [if_neg h, if_neg h]
      rfl
theorem px_ent_ok (f : px_F) (mi : Nat) (as : List Value) (h : (px_sl as).length ≤ px_ml mi) : (px_ent mi as).length = px_ml mi ∧ px_lr f (px_ent mi as) ((lg_sl (as.map (px_tv f)) ++ List.replicate (px_ml mi - (lg_sl (as.map (px_tv f))).length) Slot.unset).toArray) := by
  have hlen : (lg_sl (as.map (px_tv f))).length = (px_sl as).length := by rw [px_sl_map, List.length_map]
  have hl : (px_ent mi as).length = px_ml mi := by
    unfold px_ent
    rw [List.length_append, List.length_replicate]
    show (px_sl as).length + (px_ml mi - (px_sl as).length) = px_ml mi
    omega
  obtain ⟨h1, h2, -⟩ := lv_entry (as.map (px_tv f)) (n := px_ml mi) (by rw [hlen]; exact h)
  refine ⟨hl, h1.trans hl.symm, h2, fun i v hi => ?_⟩
  have hi : (px_sl as ++ List.replicate (px_ml mi - (px_sl as).length) none)[i]? = some (some v) := hi
  rw [List.getElem?_toArray]
  by_cases hlt : i < (px_sl as).length
  · rw [List.getElem?_append_left hlt] at hi
    rw [List.getElem?_append_left (by rw [hlen]; exact hlt), px_sl_map, List.getElem?_map, hi]
    rfl
  · rw [List.getElem?_append_right (by omega), List.getElem?_replicate] at hi
    split at hi <;> cases hi
theorem px_ret_inv {mi : Nat} {i : Instr} {st : List Value} {v : Option Value} (h : px_ret mi i st = some v) : st = v.toList ∧ ((i = .return_ ∧ px_rt mi = none ∧ v = none) ∨ ∃ (ty : FieldType) (x : Int32), i = .ireturn ∧ px_rt mi = some ty ∧ v = some (.int x) ∧ narrow ty (.int x) = .int x) := by
  unfold px_ret at h
  split at h
  · next hr =>
    split at h
    · obtain rfl := Option.some.inj h
      exact ⟨rfl, Or.inl ⟨rfl, hr, rfl⟩⟩
    · cases h
  · next t9 hr =>
    split at h
    · next x9 =>
      split at h
      · next hn =>
        obtain rfl := Option.some.inj h
        exact ⟨rfl, Or.inr ⟨_, _, rfl, hr, rfl, hn⟩⟩
      · cases h
    · cases h
  · cases h
/-- what a run of the pure machine says of the machine -/
def px_Sd (l : Launch) (G : px_G) (n : Nat) : Prop := ∀ (mi pc : Nat) (L : px_L) (st : List Value) (h h1 : px_H) (v : Option Value), px_run n mi pc L st h = some (h1, v) →
  ∀ (p : Program) (e : Env) (R : Room) (s : State) (m : MethodId) (args : Array Value) (below : List Frame) (meth : Method) (c : Code) (Q : State → Prop) (n0 k0 : Nat) (ls : Array Slot), p.tables.exec = Jvm.exec → c.code = px_by mi → s.vm.findClass (px_y mi).cls = some m.cls → px_T args s → px_K G s → ((px_y mi).name = "<init>" → meth.name = "<init>") → px_de mi ≤ R.frames → px_lc mi ≤ R.locals → px_lr (px_g G) L ls → L.length = c.maxLocals → n0 ≤ h.1 → k0 ≤ h.2.1 → h1.1 - n0 ≤ R.cells → h1.2.1 - k0 ≤ R.slots →
  (∀ (pcr : Nat) (lsr : Array Slot) (i : Instr), decode (px_by mi) pcr = .ok (i, 1) → px_ret mi i v.toList = some v → px_Wc p l e R s m args below meth c Q n0 k0 G h1 (F0 m pcr lsr (v.toList.map (px_tv (px_g G))))) →
  px_Wc p l e R s m args below meth c Q n0 k0 G h (F0 m pc ls (st.map (px_tv (px_g G))))
theorem px_met {l : Launch} {G : px_G} {n : Nat} (ih : px_Sd l G n) {mi : Nat} {as : List Value} {h h1 : px_H} {v : Option Value} (hrun : px_run n mi 0 (px_ent mi as) [] h = some (h1, v)) (hok : px_okn mi = true) (hlen : (px_sl as).length ≤ px_ml mi) : px_Met l G mi as h h1 v := by
  have hpl : plainName (px_y mi).cls = true := (px_and (px_and hok).2).1
  refine Met.ofW (cc := px_by mi) (maxL := px_ml mi) (ret := px_rt mi) hpl rfl ?_
  intro p e s m args below meth c s₁ B hml hv
  obtain ⟨rfl, hrel, hK⟩ := hv
  have hts := atoms_spec (ws := px_wm mi) B.pre
  have hT' : px_T (as.map (px_tv (px_g G))).toArray s := fun w hw hg => hts w (List.mem_cons_of_mem _ (List.mem_filter.mpr ⟨hw, hg⟩))
  obtain ⟨hl1, hl2⟩ := px_ent_ok (px_g G) mi as hlen
  rw [lg_entry_eq]
  have hW := ih mi 0 (px_ent mi as) [] h h1 v hrun p e (headSpec (px_wm mi) (px_rm mi (h1.1 - h.1) (h1.2.1 - h.2.1))).room s m (as.map (px_tv (px_g G))).toArray below meth c (MQ below (px_Qc G h1 v) (as.map (px_tv (px_g G))).toArray s (h1.1 - h.1) (h1.2.1 - h.2.1) (px_A G)) h.1 h.2.1 _ B.exec B.bytes (findClass_of_methodNamed B.named) hT' hK (fun z => (name_of_methodNamed B.named B.method).1.trans z) (Nat.le_refl _) (Nat.le_refl _) hl2 (hl1.trans hml.symm) (Nat.le_refl _) (Nat.le_refl _) (Nat.le_refl _) (Nat.le_refl _) (by
    intro pcr lsr i hd hret H locs hr hS
    obtain ⟨-, ⟨rfl, hrt, rfl⟩ | ⟨ty, x, rfl, hrt, rfl, hn⟩⟩ := px_ret_inv hret
    · exact W.vret B.exec B.bytes (B.returns.trans hrt) (fun t ht hW => ⟨rfl, by rw [ht]; exact px_rel_moved hW.alike hr, hS.F ht⟩) hS.2.2 hd (hlocks := B.notSynchronized)
    · exact W.zret B.exec B.bytes (B.returns.trans hrt) hn (fun t ht hW => ⟨rfl, by rw [ht]; exact px_rel_moved hW.alike hr, hS.F ht⟩) hS.2.2 hd (hlocks := B.notSynchronized)) s.heap [] hrel va_S.rf
  rw [Nat.sub_self, Nat.sub_self] at hW
  exact hW
theorem px_sound (hT : px_OK) (l : Launch) (G : px_G) : ∀ n : Nat, px_Sd l G n := by
  intro n
  induction n with
  | zero =>
    intro mi pc L st h h1 v hq
    cases hq
  | succ n ih =>
    intro mi pc L st h h1 v hq p e R s m args below meth c Q n0 k0 ls hx hb hown hts hK hmn hfr hlo hl hml hn0 hk0 hc hs fin
    unfold px_run at hq
    split at hq
    · cases hq
    · next en he =>
      have hok := hT mi pc en he
      obtain ⟨hdg, hok⟩ := px_and hok
      have hdg := of_decide_eq_true hdg
      obtain ⟨hlok, hok⟩ := px_and hok
      obtain ⟨hokb, hok⟩ := px_and hok
      split at hq
      · next hkd =>
        rw [if_neg (by rw [hkd]; decide)] at hok
        split at hq
        · next w hw =>
          have hm1 := px_m_op hw
          have hm2 := px_m_run _ _ _ _ _ _ _ hq
          exact px_op_ok hx hb hown hts hK hmn hfr hlo hok hokb hlok hkd hdg hl hml hw hn0 hk0 (Nat.le_trans (Nat.sub_le_sub_right hm2.1 n0) hc) (Nat.le_trans (Nat.sub_le_sub_right hm2.2 k0) hs)
            (fun ls' hl' hml' => ih mi w.1 w.2.1 w.2.2.1 w.2.2.2 h1 v hq p e R s m args below meth c Q n0 k0 ls' hx hb hown hts hK hmn hfr hlo hl' hml' (Nat.le_trans hn0 hm1.1) (Nat.le_trans hk0 hm1.2) hc hs fin)
        · cases hq
      · next hkd =>
        rw [if_pos hkd] at hok
        have hdg3 : decode (px_by mi) pc = .ok (en.1, 3) := by
          rw [hdg]
          obtain ⟨i, len, x, y, vv⟩ := en
          cases i <;> first
            | (rw [show len = 3 from of_decide_eq_true hlok]; done)
            | (exact absurd hkd (by simp [px_kd]))
        split at hq
        · next w hw =>
          obtain ⟨as, rest⟩ := w
          split at hq
          · next r hr =>
            obtain ⟨hA, vA⟩ := r
            obtain ⟨-, -, -, hsl, -⟩ := px_cut_inv hw
            have hm1 := px_m_run _ _ _ _ _ _ _ hr
            have hm2 := px_m_run _ _ _ _ _ _ _ hq
            have hM : px_Met l G en.2.2.1 as h hA vA := px_met ih hr (px_okn_ok _ (of_decide_eq_true (px_and (px_and hok).2).1)) hsl
            exact px_call_ok hx hb hown hts hK (hl.1.trans hml) hfr hlo hok hdg3 hw hM hm1 hn0 hk0 (Nat.le_trans (Nat.sub_le_sub_right hm2.1 n0) hc) (Nat.le_trans (Nat.sub_le_sub_right hm2.2 k0) hs)
              (ih mi (pc + 3) L (vA.toList ++ rest) hA h1 v hq p e R s m args below meth c Q n0 k0 ls hx hb hown hts hK hmn hfr hlo hl hml (Nat.le_trans hn0 hm1.1) (Nat.le_trans hk0 hm1.2) hc hs fin)
          · cases hq
        · cases hq
      · obtain ⟨v', h2, h3⟩ := Option.map_eq_some_iff.mp hq
        obtain ⟨e1, e2⟩ := Prod.mk.inj h3
        subst e1
        subst e2
        have hinv := px_ret_inv h2
        have hstv := hinv.1
        rw [hstv] at h2 ⊢
        refine fin pc ls en.1 ?_ h2
        rw [hdg]
        obtain ⟨-, ⟨hi, -⟩ | ⟨ty, x, hi, -⟩⟩ := hinv
        · obtain ⟨i, len, x, y, vv⟩ := en
          have hi : i = .return_ := hi
          subst hi
          rw [show len = 1 from of_decide_eq_true hlok]
        · obtain ⟨i, len, x, y, vv⟩ := en
          have hi : i = .ireturn := hi
          subst hi
          rw [show len = 1 from of_decide_eq_true hlok]
