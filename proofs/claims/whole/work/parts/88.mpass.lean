def okZ (j : List St) : Prop := okJ j ∧ (∀ s ∈ j, s.1 = 109 → s.2.1 = 43 ∨ s.2.1 = 45 ∨ s.2.1 = 42 ∨ s.2.1 = 47) ∧ tN j ≤ 2
def psB (s : St) (m : SM) (key : Nat) (v : Int32) (t : Nat) : Bool := !isZ s v && (stepDo s m key v t).1.isSome
def psR (sl sl' : List Int32) (j : List St) (sms : List SM) (k : Nat) (m : SM) (late : Bool) : Prop := sl'.length = 3070 ∧ (∀ i, i < 3 → sl'.getD i 0 = sl.getD i 0) ∧ sl'.getD 3 0 = (if late = true then sl.getD 3 0 + nI 1 else sl.getD 3 0) ∧ MSt sl' j (sms.set k m)
theorem psR_same {sl : List Int32} {j : List St} {sms : List SM} {k : Nat} (h : MSt sl j sms) (hk : k < sms.length) (hl : sl.length = 3070) : psR sl sl j sms k (sms.getD k sm0) false := ⟨hl, fun _ _ => rfl, by rw [if_neg (by decide)], by rw [set_self hk]; exact h⟩
theorem psR_set {sl sl' : List Int32} {j : List St} {sms : List SM} {k : Nat} {m : SM} (h : MSt sl j sms) (hk : k < j.length) (hs : sms.length = j.length) (hl : sl.length = 3070) (ha : ags sl sl' (4 + 511 * k)) (hm : stR sl' (4 + 511 * k) (j.getD k (0, 0, 0)) m) : psR sl sl' j sms k m false := ⟨by rw [ha.1]; exact hl, fun i hi => ha.2 i (by omega), by rw [if_neg (by decide)]; exact ha.2 3 (by omega), MSt_set h hk hs ha hm⟩
theorem psB_z {s : St} {m : SM} {key t : Nat} {v : Int32} (h : isZ s v = true) : psB s m key v t = false := by unfold psB; rw [h]; rfl
theorem psB_n {s : St} {m m' : SM} {key t : Nat} {v : Int32} {late : Bool} (h2 : stepDo s m key v t = (none, m', late)) : psB s m key v t = false := by unfold psB; rw [h2]; exact Bool.and_false _
theorem psB_s {s : St} {m m' : SM} {key t : Nat} {v w : Int32} {late : Bool} (h : isZ s v = false) (h2 : stepDo s m key v t = (some w, m', late)) : psB s m key v t = true := by unfold psB; rw [h, h2]; rfl
theorem isZ_no {s : St} {v : Int32} (h1 : s.1 ≠ 113) (h2 : s.1 ≠ 109) : isZ s v = false := by
  unfold isZ
  rw [if_neg h1]
  exact decide_eq_false (fun z => h2 z.1)
theorem mk_mem {ps : List (Nat × Int32)} {key : Nat} {v : Int32} (hk : key < 4) (hp : ∀ i, i < ps.length → (ps.getD i (0, 0)).1 < 4) : mkM key v ∈ ps.map (fun p => mkM p.1 p.2) ↔ (key, v) ∈ ps := by
  constructor
  · intro h
    obtain ⟨p, hp1, hp2⟩ := List.mem_map.mp h
    obtain ⟨i, hi, e⟩ := List.mem_iff_getElem.mp hp1
    have h4 := hp i hi
    rw [getD_lt (0, 0) hi, e] at h4
    have := mkM_inj h4 hk hp2
    rw [show (key, v) = p from Prod.ext this.1.symm this.2.symm]
    exact hp1
  · intro h
    exact List.mem_map.mpr ⟨(key, v), h, rfl⟩
theorem ps_dIn {s : St} {m : SM} {key t : Nat} {v : Int32} {ps : List (Nat × Int32)} (c : s.1 = 100) (hm : m.2.2.2.1 = ps.map (fun p => mkM p.1 p.2)) (hk : key < 4) (hp : ∀ i, i < ps.length → (ps.getD i (0, 0)).1 < 4) (hin : (key, v) ∈ ps) : stepDo s m key v t = (none, m, false) := by
  have h1 : mkM key v ∈ m.2.2.2.1 := by rw [hm]; exact (mk_mem hk hp).mpr hin
  rw [sd_d c, if_pos h1]
  unfold dAdd
  rw [if_pos (Or.inl h1)]
theorem ps_dNo {s : St} {m : SM} {key t : Nat} {v : Int32} {ps : List (Nat × Int32)} (c : s.1 = 100) (hm : m.2.2.2.1 = ps.map (fun p => mkM p.1 p.2)) (hk : key < 4) (hp : ∀ i, i < ps.length → (ps.getD i (0, 0)).1 < 4) (hn : (key, v) ∉ ps) (hl : ps.length < 96) : stepDo s m key v t = (some v, (m.1, m.2.1, m.2.2.1, (ps ++ [(key, v)]).map (fun p => mkM p.1 p.2), m.2.2.2.2), false) := by
  have h1 : mkM key v ∉ m.2.2.2.1 := by rw [hm]; exact fun z => hn ((mk_mem hk hp).mp z)
  rw [sd_d c, if_neg h1]
  unfold dAdd
  rw [if_neg (fun z => z.elim h1 (fun y => by rw [hm, List.length_map] at y; omega)), hm, List.map_append]
  rfl
theorem stR_d {sl : List Int32} {k key : Nat} {v : Int32} {s : St} {m : SM} {ps : List (Nat × Int32)} (c : s.1 = 100) (h : stR sl (4 + 511 * k) s m) (hd : dR sl (4 + 511 * k) ps) (hk6 : k < 6) (hl : sl.length = 3070) (hn : ps.length < 96) (hk : key < 4) : stR (dSet sl (4 + 511 * k) ps.length key v) (4 + 511 * k) s (m.1, m.2.1, m.2.2.1, (ps ++ [(key, v)]).map (fun p => mkM p.1 p.2), m.2.2.2.2) := by
  refine ⟨?_, fun _ => ⟨_, dR_add hd (by omega) (by omega) hk, rfl⟩, fun z => by omega, fun z => by omega, fun z => by omega⟩
  unfold dSet
  rw [getD_set_ne (by omega), getD_set_ne (by omega), getD_set_ne (by omega)]
  exact h.1
theorem stR_s {sl : List Int32} {k key : Nat} {v : Int32} {s : St} {m : SM} (c : s.1 = 115) (h : stR sl (4 + 511 * k) s m) (hk6 : k < 6) (hl : sl.length = 3070) (hk : key < 4) (h4 : m.2.1.length = 4) : stR (sl.set (4 + 511 * k + 201 + key) v) (4 + 511 * k) s (m.1, m.2.1.set key v, m.2.2.1, m.2.2.2.1, m.2.2.2.2) := by
  refine ⟨by rw [getD_set_ne (by omega)]; exact h.1, fun z => by omega, fun z q hq => ?_, fun z => by omega, fun z => by omega⟩
  by_cases e : key = q
  · subst e
    rw [getD_set_same (by omega)]
    exact (getD_set_same (show key < m.2.1.length by omega)).symm
  · rw [getD_set_ne (by omega)]
    exact (h.2.2.1 z q hq).trans (getD_set_ne e).symm
theorem stR_t {sl : List Int32} {k key : Nat} {v : Int32} {s : St} {m : SM} (c : s.1 = 116) (h : stR sl (4 + 511 * k) s m) (hk6 : k < 6) (hl : sl.length = 3070) (hk : key < 4) (h4 : m.2.2.1.length = 4) (hv : v ≠ -1) : stR (sl.set (4 + 511 * k + 507 + key) v) (4 + 511 * k) s (m.1, m.2.1, m.2.2.1.set key v, m.2.2.2.1, m.2.2.2.2) := by
  refine ⟨by rw [getD_set_ne (by omega)]; exact h.1, fun z => by omega, fun z => by omega, fun z => by omega, fun z q hq => ?_⟩
  by_cases e : key = q
  · subst e
    rw [getD_set_same (by omega)]
    have e2 : (m.2.2.1.set key v).getD key 0 = v := getD_set_same (show key < m.2.2.1.length by omega)
    show v = tmV ((m.2.2.1.set key v).getD key 0)
    rw [e2]
    unfold tmV
    rw [if_neg hv]
  · rw [getD_set_ne (by omega)]
    exact (h.2.2.2.2 z q hq).trans (congrArg tmV (getD_set_ne e).symm)
theorem ps_late {s : St} {m : SM} {key t n e : Nat} {v : Int32} (c : s.1 = 119) (hn : s.2.2 = nI n) (hb : n ≤ 1000) (he : (t / n + 1) * n = e) (hl : nI e ≤ m.1) : stepDo s m key v t = (none, m, true) := by
  have h1 : nN s.2.2 = n := by rw [hn]; exact nN_nI (by omega)
  rw [sd_w c h1, he, if_pos hl, if_pos hl, decide_eq_true hl]
theorem ps_span {s : St} {m : SM} {key t n e : Nat} {v : Int32} (c : s.1 = 119) (hn : s.2.2 = nI n) (hb : n ≤ 1000) (he : (t / n + 1) * n = e) (hl : ¬ nI e ≤ m.1) : stepDo s m key v t = (none, (m.1, m.2.1, m.2.2.1, (spAdd (mkM key (nI e)) m.2.2.2.1 m.2.2.2.2).1, (spAdd (mkM key (nI e)) m.2.2.2.1 m.2.2.2.2).2), false) := by
  have h1 : nN s.2.2 = n := by rw [hn]; exact nN_nI (by omega)
  rw [sd_w c h1, he, if_neg hl, if_neg hl, decide_eq_false hl]
theorem spnS_told {sl : List Int32} {b key e : Nat} {ts : List TS} (hn : ts.length < 100) : (spnS sl b ts key e).getD (b + 205) 0 = sl.getD (b + 205) 0 := by
  unfold spnS
  split
  · rw [getD_set_ne (by omega)]
  · unfold tNew
    rw [getD_set_ne (by omega), getD_set_ne (by omega), getD_set_ne (by omega), getD_set_ne (by omega), getD_set_ne (by omega)]
theorem spnS_ags {sl : List Int32} {b key e : Nat} {ts : List TS} (hn : ts.length < 100) : ags sl (spnS sl b ts key e) b := by
  unfold spnS
  split
  · rename_i i hi
    have := (fndT_some hi).1
    exact ags_set ags_rf (by omega)
  · exact tNew_ags hn
theorem stR_w {sl : List Int32} {k key e : Nat} {s : St} {m : SM} {ts : List TS} (c : s.1 = 119) (h : stR sl (4 + 511 * k) s m) (ht : tR sl (4 + 511 * k) ts) (hs : spR ts m.2.2.2.1 m.2.2.2.2) (hk6 : k < 6) (hl : sl.length = 3070) (hn : ts.length < 96) (hk : key < 4) (he : 1 ≤ e ∧ e ≤ 6000) : stR (spnS sl (4 + 511 * k) ts key e) (4 + 511 * k) s (m.1, m.2.1, m.2.2.1, (spAdd (mkM key (nI e)) m.2.2.2.1 m.2.2.2.2).1, (spAdd (mkM key (nI e)) m.2.2.2.1 m.2.2.2.2).2) := by
  refine ⟨by rw [spnS_told (by omega)]; exact h.1, fun z => by omega, fun z => by omega, fun _ => ?_, fun z => by omega⟩
  unfold spnS
  split
  · rename_i i hi
    obtain ⟨h1, h2⟩ := fndT_some hi
    exact ⟨_, tR_inc ht (by omega) h1, spR_hit hs h1 (by rw [h2.1, h2.2])⟩
  · rename_i hno
    have hlen := spR_len hs
    exact ⟨_, tR_new ht (by omega) (by omega), spR_new hs hk he (spR_no hs hk he.2 (fndT_none hno)) (by omega)⟩
theorem psR_late {sl : List Int32} {j : List St} {sms : List SM} {k : Nat} (h : MSt sl j sms) (hk : k < sms.length) (hl : sl.length = 3070) : psR sl (sl.set 3 (sl.getD 3 0 + nI 1)) j sms k (sms.getD k sm0) true := ⟨by rw [List.length_set]; exact hl, fun i hi => getD_set_ne (by omega), by rw [if_pos rfl, getD_set_same (by omega)], by rw [set_self hk]; exact MSt_eq h (fun i h1 h2 => getD_set_ne (by omega))⟩
theorem tm_ne {t n : Nat} (h : t ≤ 5000) (hn : n ≤ 1000) : nI t + nI n ≠ -1 := by
  rw [nI_add]
  intro z
  have := congrArg Int32.toInt z
  rw [nI_toInt (by omega), show (-1 : Int32).toInt = -1 by decide] at this
  omega
theorem cvR {cb : Bool} {cv tl : List Int32} {i i' : Nat} (h : cb = true → cv = tl) (e : i = i') : cb = true → tI cb cv i = tinc tl i' := fun z => by
  unfold tI
  rw [if_pos z, h z, e]

def psP (h : px_H) (ga : gA) (gp : gP) (gq : gQ) (gh : gH) (gw : gW) (gu : gU) (gv : gV) (j : List St) (k key : Nat) (v : Int32) (t : Nat) (sl : List Int32) (sms : List SM) (cb : Bool) (cv : List Int32) : Prop := (psB (j.getD k (0, 0, 0)) (sms.getD k sm0) key v t = false ∧ isZ (j.getD k (0, 0, 0)) v = true ∧ h.2.2 269 = some (12, mB ga gp (gq.1, true, nI k, gq.2.2.2.1, gq.2.2.2.2.1, gq.2.2.2.2.2.1, cb) gh (nI key, v, nI t) gu gv) ∧ px_pa h 287 50 3070 Value.int sl ∧ px_pa h 295 50 30 Value.int (tI cb cv (5 * k + 4))) ∨ (∃ m late sl2, psB (j.getD k (0, 0, 0)) (sms.getD k sm0) key v t = false ∧ isZ (j.getD k (0, 0, 0)) v = false ∧ stepDo (j.getD k (0, 0, 0)) (sms.getD k sm0) key v t = (none, m, late) ∧ psR sl sl2 j sms k m late ∧ h.2.2 269 = some (12, mB ga gp (gq.1, gq.2.1, gq.2.2.1, gq.2.2.2.1, gq.2.2.2.2.1, gq.2.2.2.2.2.1, cb) gh (nI key, v, nI t) gu gv) ∧ px_pa h 287 50 3070 Value.int sl2 ∧ px_pa h 295 50 30 Value.int (if late = true then tI cb cv (5 * k + 3) else cv)) ∨ (∃ w m late sl2, psB (j.getD k (0, 0, 0)) (sms.getD k sm0) key v t = true ∧ isZ (j.getD k (0, 0, 0)) v = false ∧ stepDo (j.getD k (0, 0, 0)) (sms.getD k sm0) key v t = (some w, m, late) ∧ psR sl sl2 j sms k m false ∧ h.2.2 269 = some (12, mB ga gp (gq.1, gq.2.1, gq.2.2.1, gq.2.2.2.1, gq.2.2.2.2.1, gq.2.2.2.2.2.1, cb) gh (nI key, w, nI t) gu gv) ∧ px_pa h 287 50 3070 Value.int sl2 ∧ px_pa h 295 50 30 Value.int cv)

set_option maxRecDepth 20000 in
set_option maxHeartbeats 4000000 in
theorem cc_Md_pas {h : px_H} {j : List St} {k key : Nat} {v : Int32} {t : Nat} {sl : List Int32} {sms : List SM} {cb : Bool} {cv : List Int32} {ga : gA} {gp : gP} {gq : gQ} {gh : gH} {gw : gW} {gu : gU} {gv : gV} (H0 : h.2.2 269 = some (12, mB ga gp (gq.1, gq.2.1, gq.2.2.1, gq.2.2.2.1, gq.2.2.2.2.1, gq.2.2.2.2.2.1, cb) gh (nI key, v, nI t) gu gv)) (H1 : px_pa h 284 52 6 stS j) (H2 : px_pa h 285 52 6 stA j) (H3 : px_pa h 286 50 6 stN j) (H4 : px_pa h 287 50 3070 Value.int sl) (H5 : px_pa h 295 50 30 Value.int cv) (p0 : okZ j) (p1 : k < j.length) (p2 : sl.length = 3070) (p3 : cv.length = 30) (p4 : MSt sl j sms) (p5 : okM j sms) (p6 : key < 4) (p7 : t ≤ 5000) (p8 : sizM (j.getD k (0, 0, 0)) (sms.getD k sm0) < 96) : px_wp 145 [.ref (269), .int (nI k)] h (fun h1 r => r = some (.int (bI (psB (j.getD k (0, 0, 0)) (sms.getD k sm0) key v t))) ∧ psP h1 ga gp gq gh gw gu gv j k key v t sl sms cb cv ∧ px_fl [(269, 1), (287, 1), (295, 1)] h h1) := by
  have fr0 : px_fl [(269, 1), (287, 1), (295, 1)] h h := fl_rf _ _
  have hsm := getD_mem (0, 0, 0) p1
  have hsk := p0.1.2 _ hsm
  have hs1 := hsk.1
  have hst := p4 k p1
  have hokk := p5.2 k p1
  have h6 := p0.1.1
  have hsa := hsk.2.1
  show px_to 145 0 [some (.ref (269)), some (.int (nI k)), none, none] [] h _
  refine e_aload_n f_145_0 rfl rfl ?_
  refine e_getf f_145_1 H0 rfl rfl ?_
  refine e_iload_n f_145_4 rfl rfl ?_
  refine e_iaload_p (xs := j) f_145_5 H3 (d := (0, 0, 0)) (by first | omega | (simp only [List.length_set]; omega)) rfl ?_
  show px_to 145 6 [some (.ref (269)), some (.int (nI k)), none, none] [.int ((j.getD k (0, 0, 0)).2.2)] h _
  refine e_istore_n (L' := [some (.ref (269)), some (.int (nI k)), some (.int ((j.getD k (0, 0, 0)).2.2)), none]) f_145_6 (Nat.le_of_ble_eq_true rfl) rfl rfl ?_
  refine e_iconst (v := nI 4) f_145_7 (by decide) rfl ?_
  refine e_sipush (v := nI 511) f_145_8 (by decide) rfl ?_
  refine e_iload_n f_145_11 rfl rfl ?_
  refine e_imul (z := nI (511 * k)) f_145_12 (pk_mul _ _) rfl ?_
  refine e_iadd (z := nI (4 + 511 * k)) f_145_13 (nI_add _ _) rfl ?_
  refine e_istore_n (L' := [some (.ref (269)), some (.int (nI k)), some (.int ((j.getD k (0, 0, 0)).2.2)), some (.int (nI (4 + 511 * k)))]) f_145_14 (Nat.le_of_ble_eq_true rfl) rfl rfl ?_
  refine e_aload_n f_145_15 rfl rfl ?_
  refine e_getf f_145_16 H0 rfl rfl ?_
  refine e_iload_n f_145_19 rfl rfl ?_
  refine e_caload_p (xs := j) f_145_20 H1 (d := (0, 0, 0)) (by first | omega | (simp only [List.length_set]; omega)) rfl ?_
  show px_to 145 21 [some (.ref (269)), some (.int (nI k)), some (.int ((j.getD k (0, 0, 0)).2.2)), some (.int (nI (4 + 511 * k)))] [.int (nI ((j.getD k (0, 0, 0)).1))] h _
  by_cases c_21_100 : (j.getD k (0, 0, 0)).1 = 100
  · skip
    refine e_sw_t f_145_21 (t := 304) (by rw [c_21_100]; rfl) ?_
    obtain ⟨ps, hps, hpm⟩ := hst.2.1 c_21_100
    have hp4 : ∀ i, i < ps.length → (ps.getD i (0, 0)).1 < 4 := fun i hi => (hps.2.2 i hi).1
    have hp9 : ps.length < 96 := by have z := p8; unfold sizM at z; rw [if_pos (Or.inl c_21_100), hpm, List.length_map] at z; exact z
    refine e_aload_n f_145_304 rfl rfl ?_
    refine e_iload_n f_145_305 rfl rfl ?_
    refine e_callV (As := [.int (nI k)]) (rest := []) f_145_306 rfl rfl rfl (Nat.le_of_ble_eq_true rfl) (Nat.le_of_ble_eq_true rfl) H0 rfl (Nat.le_of_ble_eq_true rfl) (cc_Md_isNew (k := k) (key := key) (v := v) (sl := sl) (ps := ps) (ga := ga) (gp := gp) (gq := (gq.1, gq.2.1, gq.2.2.1, gq.2.2.2.1, gq.2.2.2.2.1, gq.2.2.2.2.2.1, cb)) (gh := gh) (gw := (nI key, v, nI t)) (gu := gu) (gv := gv) H0 H4 (hps) (by omega) (by omega) (by omega) (by omega)) rfl (fun h1 r2 q3 => ?_)
    obtain ⟨rfl, g4, fx5⟩ := q3
    have fr6 : px_fl [(269, 1), (287, 1), (295, 1)] h h1 := fl_tr fr0 fx5 (by first | exact ⟨_, List.mem_cons_self, by omega, by omega⟩ | exact ⟨_, List.mem_cons_of_mem _ (List.mem_cons_self), by omega, by omega⟩ | exact ⟨_, List.mem_cons_of_mem _ (List.mem_cons_of_mem _ (List.mem_cons_self)), by omega, by omega⟩)
    show px_to 145 309 [some (.ref (269)), some (.int (nI k)), some (.int ((j.getD k (0, 0, 0)).2.2)), some (.int (nI (4 + 511 * k)))] [.int (bI (!decide ((key, v) ∈ ps)))] h1 _
    refine e_iret f_145_309 rfl (nw_bI _) ?_
    have hz : isZ (j.getD k (0, 0, 0)) v = false := isZ_no (by omega) (by omega)
    by_cases hin : (key, v) ∈ ps
    · skip
      have hs := ps_dIn (t := t) c_21_100 hpm p6 hp4 hin
      have g7 : px_pa h1 287 50 3070 Value.int sl := pa_eq g4 (by unfold isNS; rw [if_pos hin])
      have g8 : h1.2.2 269 = some (12, mB ga gp (gq.1, gq.2.1, gq.2.2.1, gq.2.2.2.1, gq.2.2.2.2.1, gq.2.2.2.2.2.1, cb) gh (nI key, v, nI t) gu gv) := fi_at H0 fx5 (by omega)
      have g9 : px_pa h1 295 50 30 Value.int cv := pa_fi H5 fx5 (by omega)
      exact ⟨congrArg (fun z => some (Value.int (bI z))) (by rw [psB_n hs, decide_eq_true hin]; rfl), Or.inr (Or.inl ⟨_, _, _, psB_n hs, hz, hs, psR_same p4 (by have := p5.1; omega) p2, g8, g7, g9⟩), fr6⟩
    · skip
      have hs := ps_dNo (t := t) c_21_100 hpm p6 hp4 hin hp9
      have g10 : px_pa h1 287 50 3070 Value.int (dSet sl (4 + 511 * k) ps.length key v) := pa_eq g4 (by unfold isNS; rw [if_neg hin])
      have g11 : h1.2.2 269 = some (12, mB ga gp (gq.1, gq.2.1, gq.2.2.1, gq.2.2.2.1, gq.2.2.2.2.1, gq.2.2.2.2.2.1, cb) gh (nI key, v, nI t) gu gv) := fi_at H0 fx5 (by omega)
      have g12 : px_pa h1 295 50 30 Value.int cv := pa_fi H5 fx5 (by omega)
      exact ⟨congrArg (fun z => some (Value.int (bI z))) (by rw [psB_s hz hs, decide_eq_false hin]; rfl), Or.inr (Or.inr ⟨_, _, _, _, psB_s hz hs, hz, hs, psR_set p4 p1 p5.1 p2 (dSet_ags (by omega)) (stR_d c_21_100 hst hps (by omega) p2 hp9 p6), g11, g10, g12⟩), fr6⟩
  · skip
    by_cases c_21_102 : (j.getD k (0, 0, 0)).1 = 102
    · skip
      refine e_sw_t f_145_21 (t := 116) (by rw [c_21_102]; rfl) ?_
      refine e_aload_n f_145_116 rfl rfl ?_
      refine e_getf f_145_117 H0 rfl rfl ?_
      refine e_iload_n f_145_120 rfl rfl ?_
      refine e_caload_p (xs := j) f_145_121 H2 (d := (0, 0, 0)) (by first | omega | (simp only [List.length_set]; omega)) rfl ?_
      show px_to 145 122 [some (.ref (269)), some (.int (nI k)), some (.int ((j.getD k (0, 0, 0)).2.2)), some (.int (nI (4 + 511 * k)))] [.int (nI ((j.getD k (0, 0, 0)).2.1))] h _
      refine e_bipush (v := nI 60) f_145_122 (by decide) rfl ?_
      refine e_icmp_ne f_145_124 rfl (fun c_124 => ?_) (fun c_124 => ?_)
      · skip
        have c_124 : (j.getD k (0, 0, 0)).2.1 ≠ 60 := cv_ne c_124
        refine e_aload_n f_145_143 rfl rfl ?_
        refine e_getf f_145_144 H0 rfl rfl ?_
        refine e_iload_n f_145_147 rfl rfl ?_
        refine e_caload_p (xs := j) f_145_148 H2 (d := (0, 0, 0)) (by first | omega | (simp only [List.length_set]; omega)) rfl ?_
        show px_to 145 149 [some (.ref (269)), some (.int (nI k)), some (.int ((j.getD k (0, 0, 0)).2.2)), some (.int (nI (4 + 511 * k)))] [.int (nI ((j.getD k (0, 0, 0)).2.1))] h _
        refine e_bipush (v := nI 61) f_145_149 (by decide) rfl ?_
        refine e_icmp_ne f_145_151 rfl (fun c_151 => ?_) (fun c_151 => ?_)
        · skip
          have c_151 : (j.getD k (0, 0, 0)).2.1 ≠ 61 := cv_ne c_151
          refine e_aload_n f_145_170 rfl rfl ?_
          refine e_getf f_145_171 H0 rfl rfl ?_
          show px_to 145 174 [some (.ref (269)), some (.int (nI k)), some (.int ((j.getD k (0, 0, 0)).2.2)), some (.int (nI (4 + 511 * k)))] [.int (v)] h _
          refine e_iload_n f_145_174 rfl rfl ?_
          refine e_icmp_le f_145_175 rfl (fun c_175 => ?_) (fun c_175 => ?_)
          · skip
            refine e_iconst (v := nI 0) f_145_182 (by decide) rfl ?_
            refine e_iret f_145_183 rfl (rfl) ?_
            have hl : lets (j.getD k (0, 0, 0)).2.1 v (j.getD k (0, 0, 0)).2.2 = false := by unfold lets; rw [if_neg c_124, if_neg c_151]; exact decide_eq_false (Int32.not_lt.mpr c_175)
            have hz : isZ (j.getD k (0, 0, 0)) v = false := isZ_no (by omega) (by omega)
            have hs : stepDo (j.getD k (0, 0, 0)) (sms.getD k sm0) key v t = (none, (sms.getD k sm0), false) := by rw [sd_f c_21_102, hl]; rfl
            exact ⟨congrArg (fun z => some (Value.int z)) (b0 (psB_n hs)), Or.inr (Or.inl ⟨_, _, _, psB_n hs, hz, hs, psR_same p4 (by have := p5.1; omega) p2, H0, H4, H5⟩), fr0⟩
          · skip
            refine e_iconst (v := nI 1) f_145_178 (by decide) rfl ?_
            refine e_goto f_145_179 ?_
            refine e_iret f_145_183 rfl (rfl) ?_
            have hl : lets (j.getD k (0, 0, 0)).2.1 v (j.getD k (0, 0, 0)).2.2 = true := by unfold lets; rw [if_neg c_124, if_neg c_151]; exact decide_eq_true (Int32.not_le.mp c_175)
            have hz : isZ (j.getD k (0, 0, 0)) v = false := isZ_no (by omega) (by omega)
            have hs : stepDo (j.getD k (0, 0, 0)) (sms.getD k sm0) key v t = (some v, (sms.getD k sm0), false) := by rw [sd_f c_21_102, hl]; rfl
            exact ⟨congrArg (fun z => some (Value.int z)) (b1 (psB_s hz hs)), Or.inr (Or.inr ⟨_, _, _, _, psB_s hz hs, hz, hs, psR_same p4 (by have := p5.1; omega) p2, H0, H4, H5⟩), fr0⟩
        · skip
          have c_151 : (j.getD k (0, 0, 0)).2.1 = 61 := cv_nne (by omega) (by omega) c_151
          refine e_aload_n f_145_154 rfl rfl ?_
          refine e_getf f_145_155 H0 rfl rfl ?_
          show px_to 145 158 [some (.ref (269)), some (.int (nI k)), some (.int ((j.getD k (0, 0, 0)).2.2)), some (.int (nI (4 + 511 * k)))] [.int (v)] h _
          refine e_iload_n f_145_158 rfl rfl ?_
          refine e_icmp_ne f_145_159 rfl (fun c_159 => ?_) (fun c_159 => ?_)
          · skip
            refine e_iconst (v := nI 0) f_145_166 (by decide) rfl ?_
            refine e_goto f_145_167 ?_
            refine e_iret f_145_183 rfl (rfl) ?_
            have hl : lets (j.getD k (0, 0, 0)).2.1 v (j.getD k (0, 0, 0)).2.2 = false := by unfold lets; rw [if_neg c_124, if_pos c_151]; exact decide_eq_false c_159
            have hz : isZ (j.getD k (0, 0, 0)) v = false := isZ_no (by omega) (by omega)
            have hs : stepDo (j.getD k (0, 0, 0)) (sms.getD k sm0) key v t = (none, (sms.getD k sm0), false) := by rw [sd_f c_21_102, hl]; rfl
            exact ⟨congrArg (fun z => some (Value.int z)) (b0 (psB_n hs)), Or.inr (Or.inl ⟨_, _, _, psB_n hs, hz, hs, psR_same p4 (by have := p5.1; omega) p2, H0, H4, H5⟩), fr0⟩
          · skip
            refine e_iconst (v := nI 1) f_145_162 (by decide) rfl ?_
            refine e_goto f_145_163 ?_
            refine e_iret f_145_183 rfl (rfl) ?_
            have hl : lets (j.getD k (0, 0, 0)).2.1 v (j.getD k (0, 0, 0)).2.2 = true := by unfold lets; rw [if_neg c_124, if_pos c_151]; exact decide_eq_true (Classical.not_not.mp c_159)
            have hz : isZ (j.getD k (0, 0, 0)) v = false := isZ_no (by omega) (by omega)
            have hs : stepDo (j.getD k (0, 0, 0)) (sms.getD k sm0) key v t = (some v, (sms.getD k sm0), false) := by rw [sd_f c_21_102, hl]; rfl
            exact ⟨congrArg (fun z => some (Value.int z)) (b1 (psB_s hz hs)), Or.inr (Or.inr ⟨_, _, _, _, psB_s hz hs, hz, hs, psR_same p4 (by have := p5.1; omega) p2, H0, H4, H5⟩), fr0⟩
      · skip
        have c_124 : (j.getD k (0, 0, 0)).2.1 = 60 := cv_nne (by omega) (by omega) c_124
        refine e_aload_n f_145_127 rfl rfl ?_
        refine e_getf f_145_128 H0 rfl rfl ?_
        show px_to 145 131 [some (.ref (269)), some (.int (nI k)), some (.int ((j.getD k (0, 0, 0)).2.2)), some (.int (nI (4 + 511 * k)))] [.int (v)] h _
        refine e_iload_n f_145_131 rfl rfl ?_
        refine e_icmp_ge f_145_132 rfl (fun c_132 => ?_) (fun c_132 => ?_)
        · skip
          refine e_iconst (v := nI 0) f_145_139 (by decide) rfl ?_
          refine e_goto f_145_140 ?_
          refine e_iret f_145_183 rfl (rfl) ?_
          have hl : lets (j.getD k (0, 0, 0)).2.1 v (j.getD k (0, 0, 0)).2.2 = false := by unfold lets; rw [if_pos c_124]; exact decide_eq_false (Int32.not_lt.mpr c_132)
          have hz : isZ (j.getD k (0, 0, 0)) v = false := isZ_no (by omega) (by omega)
          have hs : stepDo (j.getD k (0, 0, 0)) (sms.getD k sm0) key v t = (none, (sms.getD k sm0), false) := by rw [sd_f c_21_102, hl]; rfl
          exact ⟨congrArg (fun z => some (Value.int z)) (b0 (psB_n hs)), Or.inr (Or.inl ⟨_, _, _, psB_n hs, hz, hs, psR_same p4 (by have := p5.1; omega) p2, H0, H4, H5⟩), fr0⟩
        · skip
          refine e_iconst (v := nI 1) f_145_135 (by decide) rfl ?_
          refine e_goto f_145_136 ?_
          refine e_iret f_145_183 rfl (rfl) ?_
          have hl : lets (j.getD k (0, 0, 0)).2.1 v (j.getD k (0, 0, 0)).2.2 = true := by unfold lets; rw [if_pos c_124]; exact decide_eq_true (Int32.not_le.mp c_132)
          have hz : isZ (j.getD k (0, 0, 0)) v = false := isZ_no (by omega) (by omega)
          have hs : stepDo (j.getD k (0, 0, 0)) (sms.getD k sm0) key v t = (some v, (sms.getD k sm0), false) := by rw [sd_f c_21_102, hl]; rfl
          exact ⟨congrArg (fun z => some (Value.int z)) (b1 (psB_s hz hs)), Or.inr (Or.inr ⟨_, _, _, _, psB_s hz hs, hz, hs, psR_same p4 (by have := p5.1; omega) p2, H0, H4, H5⟩), fr0⟩
    · skip
      by_cases c_21_109 : (j.getD k (0, 0, 0)).1 = 109
      · skip
        refine e_sw_t f_145_21 (t := 184) (by rw [c_21_109]; rfl) ?_
        refine e_aload_n f_145_184 rfl rfl ?_
        refine e_getf f_145_185 H0 rfl rfl ?_
        refine e_iload_n f_145_188 rfl rfl ?_
        refine e_caload_p (xs := j) f_145_189 H2 (d := (0, 0, 0)) (by first | omega | (simp only [List.length_set]; omega)) rfl ?_
        show px_to 145 190 [some (.ref (269)), some (.int (nI k)), some (.int ((j.getD k (0, 0, 0)).2.2)), some (.int (nI (4 + 511 * k)))] [.int (nI ((j.getD k (0, 0, 0)).2.1))] h _
        refine e_bipush (v := nI 47) f_145_190 (by decide) rfl ?_
        refine e_icmp_ne f_145_192 rfl (fun c_192 => ?_) (fun c_192 => ?_)
        · skip
          have c_192 : (j.getD k (0, 0, 0)).2.1 ≠ 47 := cv_ne c_192
          refine e_aload_n f_145_206 rfl rfl ?_
          refine e_aload_n f_145_207 rfl rfl ?_
          refine e_getf f_145_208 H0 rfl rfl ?_
          refine e_iload_n f_145_211 rfl rfl ?_
          refine e_caload_p (xs := j) f_145_212 H2 (d := (0, 0, 0)) (by first | omega | (simp only [List.length_set]; omega)) rfl ?_
          show px_to 145 213 [some (.ref (269)), some (.int (nI k)), some (.int ((j.getD k (0, 0, 0)).2.2)), some (.int (nI (4 + 511 * k)))] [.int (nI ((j.getD k (0, 0, 0)).2.1)), .ref (269)] h _
          refine e_bipush (v := nI 43) f_145_213 (by decide) rfl ?_
          refine e_icmp_ne f_145_215 rfl (fun c_215 => ?_) (fun c_215 => ?_)
          · skip
            have c_215 : (j.getD k (0, 0, 0)).2.1 ≠ 43 := cv_ne c_215
            refine e_aload_n f_145_227 rfl rfl ?_
            refine e_getf f_145_228 H0 rfl rfl ?_
            refine e_iload_n f_145_231 rfl rfl ?_
            refine e_caload_p (xs := j) f_145_232 H2 (d := (0, 0, 0)) (by first | omega | (simp only [List.length_set]; omega)) rfl ?_
            show px_to 145 233 [some (.ref (269)), some (.int (nI k)), some (.int ((j.getD k (0, 0, 0)).2.2)), some (.int (nI (4 + 511 * k)))] [.int (nI ((j.getD k (0, 0, 0)).2.1)), .ref (269)] h _
            refine e_bipush (v := nI 45) f_145_233 (by decide) rfl ?_
            refine e_icmp_ne f_145_235 rfl (fun c_235 => ?_) (fun c_235 => ?_)
            · skip
              have c_235 : (j.getD k (0, 0, 0)).2.1 ≠ 45 := cv_ne c_235
              refine e_aload_n f_145_247 rfl rfl ?_
              refine e_getf f_145_248 H0 rfl rfl ?_
              refine e_iload_n f_145_251 rfl rfl ?_
              refine e_caload_p (xs := j) f_145_252 H2 (d := (0, 0, 0)) (by first | omega | (simp only [List.length_set]; omega)) rfl ?_
              show px_to 145 253 [some (.ref (269)), some (.int (nI k)), some (.int ((j.getD k (0, 0, 0)).2.2)), some (.int (nI (4 + 511 * k)))] [.int (nI ((j.getD k (0, 0, 0)).2.1)), .ref (269)] h _
              refine e_bipush (v := nI 42) f_145_253 (by decide) rfl ?_
              refine e_icmp_ne f_145_255 rfl (fun c_255 => ?_) (fun c_255 => ?_)
              · skip
                have c_255 : (j.getD k (0, 0, 0)).2.1 ≠ 42 := cv_ne c_255
                refine e_aload_n f_145_267 rfl rfl ?_
                refine e_getf f_145_268 H0 rfl rfl ?_
                show px_to 145 271 [some (.ref (269)), some (.int (nI k)), some (.int ((j.getD k (0, 0, 0)).2.2)), some (.int (nI (4 + 511 * k)))] [.int (v), .ref (269)] h _
                refine e_iload_n f_145_271 rfl rfl ?_
                have hnz : ¬ (j.getD k (0, 0, 0)).2.2 = 0 := fun z => absurd (p0.2.1 _ hsm c_21_109) (by omega)
                refine e_idiv (z := v / ((j.getD k (0, 0, 0)).2.2)) f_145_272 (hnz) rfl rfl ?_
                refine e_putp (vs' := mB ga gp (gq.1, gq.2.1, gq.2.2.1, gq.2.2.2.1, gq.2.2.2.2.1, gq.2.2.2.2.2.1, cb) gh (nI key, v / ((j.getD k (0, 0, 0)).2.2), nI t) gu gv) f_145_273 H0 (Nat.le_of_ble_eq_true rfl) (rfl) (rfl) rfl rfl (fun h13 g14 fx15 => ?_)
                have fr16 : px_fl [(269, 1), (287, 1), (295, 1)] h h13 := fl_tr fr0 fx15 (by first | exact ⟨_, List.mem_cons_self, by omega, by omega⟩ | exact ⟨_, List.mem_cons_of_mem _ (List.mem_cons_self), by omega, by omega⟩ | exact ⟨_, List.mem_cons_of_mem _ (List.mem_cons_of_mem _ (List.mem_cons_self)), by omega, by omega⟩)
                refine e_iconst (v := nI 1) f_145_276 (by decide) rfl ?_
                refine e_iret f_145_277 rfl (rfl) ?_
                have hz : isZ (j.getD k (0, 0, 0)) v = false := by unfold isZ; rw [if_neg (by omega)]; exact decide_eq_false (fun z => c_192 z.2.1)
                have hs : stepDo (j.getD k (0, 0, 0)) (sms.getD k sm0) key v t = (some (v / (j.getD k (0, 0, 0)).2.2), (sms.getD k sm0), false) := by rw [sd_m c_21_109]; unfold acted; rw [if_neg c_215, if_neg c_235, if_neg c_255, if_neg hnz]
                have g17 : px_pa h13 287 50 3070 Value.int sl := pa_fi H4 fx15 (by omega)
                have g18 : px_pa h13 295 50 30 Value.int cv := pa_fi H5 fx15 (by omega)
                exact ⟨congrArg (fun z => some (Value.int z)) (b1 (psB_s hz hs)), Or.inr (Or.inr ⟨_, _, _, _, psB_s hz hs, hz, hs, psR_same p4 (by have := p5.1; omega) p2, g14, g17, g18⟩), fr16⟩
              · skip
                have c_255 : (j.getD k (0, 0, 0)).2.1 = 42 := cv_nne (by omega) (by omega) c_255
                refine e_aload_n f_145_258 rfl rfl ?_
                refine e_getf f_145_259 H0 rfl rfl ?_
                show px_to 145 262 [some (.ref (269)), some (.int (nI k)), some (.int ((j.getD k (0, 0, 0)).2.2)), some (.int (nI (4 + 511 * k)))] [.int (v), .ref (269)] h _
                refine e_iload_n f_145_262 rfl rfl ?_
                refine e_imul (z := v * ((j.getD k (0, 0, 0)).2.2)) f_145_263 rfl rfl ?_
                refine e_goto f_145_264 ?_
                refine e_putp (vs' := mB ga gp (gq.1, gq.2.1, gq.2.2.1, gq.2.2.2.1, gq.2.2.2.2.1, gq.2.2.2.2.2.1, cb) gh (nI key, v * ((j.getD k (0, 0, 0)).2.2), nI t) gu gv) f_145_273 H0 (Nat.le_of_ble_eq_true rfl) (rfl) (rfl) rfl rfl (fun h19 g20 fx21 => ?_)
                have fr22 : px_fl [(269, 1), (287, 1), (295, 1)] h h19 := fl_tr fr0 fx21 (by first | exact ⟨_, List.mem_cons_self, by omega, by omega⟩ | exact ⟨_, List.mem_cons_of_mem _ (List.mem_cons_self), by omega, by omega⟩ | exact ⟨_, List.mem_cons_of_mem _ (List.mem_cons_of_mem _ (List.mem_cons_self)), by omega, by omega⟩)
                refine e_iconst (v := nI 1) f_145_276 (by decide) rfl ?_
                refine e_iret f_145_277 rfl (rfl) ?_
                have hz : isZ (j.getD k (0, 0, 0)) v = false := by unfold isZ; rw [if_neg (by omega)]; exact decide_eq_false (fun z => c_192 z.2.1)
                have hs : stepDo (j.getD k (0, 0, 0)) (sms.getD k sm0) key v t = (some (v * (j.getD k (0, 0, 0)).2.2), (sms.getD k sm0), false) := by rw [sd_m c_21_109]; unfold acted; rw [if_neg c_215, if_neg c_235, if_pos c_255]
                have g23 : px_pa h19 287 50 3070 Value.int sl := pa_fi H4 fx21 (by omega)
                have g24 : px_pa h19 295 50 30 Value.int cv := pa_fi H5 fx21 (by omega)
                exact ⟨congrArg (fun z => some (Value.int z)) (b1 (psB_s hz hs)), Or.inr (Or.inr ⟨_, _, _, _, psB_s hz hs, hz, hs, psR_same p4 (by have := p5.1; omega) p2, g20, g23, g24⟩), fr22⟩
            · skip
              have c_235 : (j.getD k (0, 0, 0)).2.1 = 45 := cv_nne (by omega) (by omega) c_235
              refine e_aload_n f_145_238 rfl rfl ?_
              refine e_getf f_145_239 H0 rfl rfl ?_
              show px_to 145 242 [some (.ref (269)), some (.int (nI k)), some (.int ((j.getD k (0, 0, 0)).2.2)), some (.int (nI (4 + 511 * k)))] [.int (v), .ref (269)] h _
              refine e_iload_n f_145_242 rfl rfl ?_
              refine e_isub (z := v - ((j.getD k (0, 0, 0)).2.2)) f_145_243 rfl rfl ?_
              refine e_goto f_145_244 ?_
              refine e_putp (vs' := mB ga gp (gq.1, gq.2.1, gq.2.2.1, gq.2.2.2.1, gq.2.2.2.2.1, gq.2.2.2.2.2.1, cb) gh (nI key, v - ((j.getD k (0, 0, 0)).2.2), nI t) gu gv) f_145_273 H0 (Nat.le_of_ble_eq_true rfl) (rfl) (rfl) rfl rfl (fun h25 g26 fx27 => ?_)
              have fr28 : px_fl [(269, 1), (287, 1), (295, 1)] h h25 := fl_tr fr0 fx27 (by first | exact ⟨_, List.mem_cons_self, by omega, by omega⟩ | exact ⟨_, List.mem_cons_of_mem _ (List.mem_cons_self), by omega, by omega⟩ | exact ⟨_, List.mem_cons_of_mem _ (List.mem_cons_of_mem _ (List.mem_cons_self)), by omega, by omega⟩)
              refine e_iconst (v := nI 1) f_145_276 (by decide) rfl ?_
              refine e_iret f_145_277 rfl (rfl) ?_
              have hz : isZ (j.getD k (0, 0, 0)) v = false := by unfold isZ; rw [if_neg (by omega)]; exact decide_eq_false (fun z => c_192 z.2.1)
              have hs : stepDo (j.getD k (0, 0, 0)) (sms.getD k sm0) key v t = (some (v - (j.getD k (0, 0, 0)).2.2), (sms.getD k sm0), false) := by rw [sd_m c_21_109]; unfold acted; rw [if_neg c_215, if_pos c_235]
              have g29 : px_pa h25 287 50 3070 Value.int sl := pa_fi H4 fx27 (by omega)
              have g30 : px_pa h25 295 50 30 Value.int cv := pa_fi H5 fx27 (by omega)
              exact ⟨congrArg (fun z => some (Value.int z)) (b1 (psB_s hz hs)), Or.inr (Or.inr ⟨_, _, _, _, psB_s hz hs, hz, hs, psR_same p4 (by have := p5.1; omega) p2, g26, g29, g30⟩), fr28⟩
          · skip
            have c_215 : (j.getD k (0, 0, 0)).2.1 = 43 := cv_nne (by omega) (by omega) c_215
            refine e_aload_n f_145_218 rfl rfl ?_
            refine e_getf f_145_219 H0 rfl rfl ?_
            show px_to 145 222 [some (.ref (269)), some (.int (nI k)), some (.int ((j.getD k (0, 0, 0)).2.2)), some (.int (nI (4 + 511 * k)))] [.int (v), .ref (269)] h _
            refine e_iload_n f_145_222 rfl rfl ?_
            refine e_iadd (z := v + ((j.getD k (0, 0, 0)).2.2)) f_145_223 rfl rfl ?_
            refine e_goto f_145_224 ?_
            refine e_putp (vs' := mB ga gp (gq.1, gq.2.1, gq.2.2.1, gq.2.2.2.1, gq.2.2.2.2.1, gq.2.2.2.2.2.1, cb) gh (nI key, v + ((j.getD k (0, 0, 0)).2.2), nI t) gu gv) f_145_273 H0 (Nat.le_of_ble_eq_true rfl) (rfl) (rfl) rfl rfl (fun h31 g32 fx33 => ?_)
            have fr34 : px_fl [(269, 1), (287, 1), (295, 1)] h h31 := fl_tr fr0 fx33 (by first | exact ⟨_, List.mem_cons_self, by omega, by omega⟩ | exact ⟨_, List.mem_cons_of_mem _ (List.mem_cons_self), by omega, by omega⟩ | exact ⟨_, List.mem_cons_of_mem _ (List.mem_cons_of_mem _ (List.mem_cons_self)), by omega, by omega⟩)
            refine e_iconst (v := nI 1) f_145_276 (by decide) rfl ?_
            refine e_iret f_145_277 rfl (rfl) ?_
            have hz : isZ (j.getD k (0, 0, 0)) v = false := by unfold isZ; rw [if_neg (by omega)]; exact decide_eq_false (fun z => c_192 z.2.1)
            have hs : stepDo (j.getD k (0, 0, 0)) (sms.getD k sm0) key v t = (some (v + (j.getD k (0, 0, 0)).2.2), (sms.getD k sm0), false) := by rw [sd_m c_21_109]; unfold acted; rw [if_pos c_215]
            have g35 : px_pa h31 287 50 3070 Value.int sl := pa_fi H4 fx33 (by omega)
            have g36 : px_pa h31 295 50 30 Value.int cv := pa_fi H5 fx33 (by omega)
            exact ⟨congrArg (fun z => some (Value.int z)) (b1 (psB_s hz hs)), Or.inr (Or.inr ⟨_, _, _, _, psB_s hz hs, hz, hs, psR_same p4 (by have := p5.1; omega) p2, g32, g35, g36⟩), fr34⟩
        · skip
          have c_192 : (j.getD k (0, 0, 0)).2.1 = 47 := cv_nne (by omega) (by omega) c_192
          refine e_iload_n f_145_195 rfl rfl ?_
          refine e_if_ne f_145_196 rfl (fun c_196 => ?_) (fun c_196 => ?_)
          · skip
            refine e_aload_n f_145_206 rfl rfl ?_
            refine e_aload_n f_145_207 rfl rfl ?_
            refine e_getf f_145_208 H0 rfl rfl ?_
            refine e_iload_n f_145_211 rfl rfl ?_
            refine e_caload_p (xs := j) f_145_212 H2 (d := (0, 0, 0)) (by first | omega | (simp only [List.length_set]; omega)) rfl ?_
            show px_to 145 213 [some (.ref (269)), some (.int (nI k)), some (.int ((j.getD k (0, 0, 0)).2.2)), some (.int (nI (4 + 511 * k)))] [.int (nI ((j.getD k (0, 0, 0)).2.1)), .ref (269)] h _
            refine e_bipush (v := nI 43) f_145_213 (by decide) rfl ?_
            refine e_icmp_ne f_145_215 rfl (fun c_215 => ?_) (fun c_215 => ?_)
            · skip
              have c_215 : (j.getD k (0, 0, 0)).2.1 ≠ 43 := cv_ne c_215
              refine e_aload_n f_145_227 rfl rfl ?_
              refine e_getf f_145_228 H0 rfl rfl ?_
              refine e_iload_n f_145_231 rfl rfl ?_
              refine e_caload_p (xs := j) f_145_232 H2 (d := (0, 0, 0)) (by first | omega | (simp only [List.length_set]; omega)) rfl ?_
              show px_to 145 233 [some (.ref (269)), some (.int (nI k)), some (.int ((j.getD k (0, 0, 0)).2.2)), some (.int (nI (4 + 511 * k)))] [.int (nI ((j.getD k (0, 0, 0)).2.1)), .ref (269)] h _
              refine e_bipush (v := nI 45) f_145_233 (by decide) rfl ?_
              refine e_icmp_ne f_145_235 rfl (fun c_235 => ?_) (fun c_235 => ?_)
              · skip
                have c_235 : (j.getD k (0, 0, 0)).2.1 ≠ 45 := cv_ne c_235
                refine e_aload_n f_145_247 rfl rfl ?_
                refine e_getf f_145_248 H0 rfl rfl ?_
                refine e_iload_n f_145_251 rfl rfl ?_
                refine e_caload_p (xs := j) f_145_252 H2 (d := (0, 0, 0)) (by first | omega | (simp only [List.length_set]; omega)) rfl ?_
                show px_to 145 253 [some (.ref (269)), some (.int (nI k)), some (.int ((j.getD k (0, 0, 0)).2.2)), some (.int (nI (4 + 511 * k)))] [.int (nI ((j.getD k (0, 0, 0)).2.1)), .ref (269)] h _
                refine e_bipush (v := nI 42) f_145_253 (by decide) rfl ?_
                refine e_icmp_ne f_145_255 rfl (fun c_255 => ?_) (fun c_255 => ?_)
                · skip
                  have c_255 : (j.getD k (0, 0, 0)).2.1 ≠ 42 := cv_ne c_255
                  refine e_aload_n f_145_267 rfl rfl ?_
                  refine e_getf f_145_268 H0 rfl rfl ?_
                  show px_to 145 271 [some (.ref (269)), some (.int (nI k)), some (.int ((j.getD k (0, 0, 0)).2.2)), some (.int (nI (4 + 511 * k)))] [.int (v), .ref (269)] h _
                  refine e_iload_n f_145_271 rfl rfl ?_
                  have hnz : ¬ (j.getD k (0, 0, 0)).2.2 = 0 := c_196
                  refine e_idiv (z := v / ((j.getD k (0, 0, 0)).2.2)) f_145_272 (hnz) rfl rfl ?_
                  refine e_putp (vs' := mB ga gp (gq.1, gq.2.1, gq.2.2.1, gq.2.2.2.1, gq.2.2.2.2.1, gq.2.2.2.2.2.1, cb) gh (nI key, v / ((j.getD k (0, 0, 0)).2.2), nI t) gu gv) f_145_273 H0 (Nat.le_of_ble_eq_true rfl) (rfl) (rfl) rfl rfl (fun h37 g38 fx39 => ?_)
                  have fr40 : px_fl [(269, 1), (287, 1), (295, 1)] h h37 := fl_tr fr0 fx39 (by first | exact ⟨_, List.mem_cons_self, by omega, by omega⟩ | exact ⟨_, List.mem_cons_of_mem _ (List.mem_cons_self), by omega, by omega⟩ | exact ⟨_, List.mem_cons_of_mem _ (List.mem_cons_of_mem _ (List.mem_cons_self)), by omega, by omega⟩)
                  refine e_iconst (v := nI 1) f_145_276 (by decide) rfl ?_
                  refine e_iret f_145_277 rfl (rfl) ?_
                  have hz : isZ (j.getD k (0, 0, 0)) v = false := by unfold isZ; rw [if_neg (by omega)]; exact decide_eq_false (fun z => c_196 z.2.2)
                  have hs : stepDo (j.getD k (0, 0, 0)) (sms.getD k sm0) key v t = (some (v / (j.getD k (0, 0, 0)).2.2), (sms.getD k sm0), false) := by rw [sd_m c_21_109]; unfold acted; rw [if_neg c_215, if_neg c_235, if_neg c_255, if_neg hnz]
                  have g41 : px_pa h37 287 50 3070 Value.int sl := pa_fi H4 fx39 (by omega)
                  have g42 : px_pa h37 295 50 30 Value.int cv := pa_fi H5 fx39 (by omega)
                  exact ⟨congrArg (fun z => some (Value.int z)) (b1 (psB_s hz hs)), Or.inr (Or.inr ⟨_, _, _, _, psB_s hz hs, hz, hs, psR_same p4 (by have := p5.1; omega) p2, g38, g41, g42⟩), fr40⟩
                · skip
                  have c_255 : (j.getD k (0, 0, 0)).2.1 = 42 := cv_nne (by omega) (by omega) c_255
                  refine e_aload_n f_145_258 rfl rfl ?_
                  refine e_getf f_145_259 H0 rfl rfl ?_
                  show px_to 145 262 [some (.ref (269)), some (.int (nI k)), some (.int ((j.getD k (0, 0, 0)).2.2)), some (.int (nI (4 + 511 * k)))] [.int (v), .ref (269)] h _
                  refine e_iload_n f_145_262 rfl rfl ?_
                  refine e_imul (z := v * ((j.getD k (0, 0, 0)).2.2)) f_145_263 rfl rfl ?_
                  refine e_goto f_145_264 ?_
                  refine e_putp (vs' := mB ga gp (gq.1, gq.2.1, gq.2.2.1, gq.2.2.2.1, gq.2.2.2.2.1, gq.2.2.2.2.2.1, cb) gh (nI key, v * ((j.getD k (0, 0, 0)).2.2), nI t) gu gv) f_145_273 H0 (Nat.le_of_ble_eq_true rfl) (rfl) (rfl) rfl rfl (fun h43 g44 fx45 => ?_)
                  have fr46 : px_fl [(269, 1), (287, 1), (295, 1)] h h43 := fl_tr fr0 fx45 (by first | exact ⟨_, List.mem_cons_self, by omega, by omega⟩ | exact ⟨_, List.mem_cons_of_mem _ (List.mem_cons_self), by omega, by omega⟩ | exact ⟨_, List.mem_cons_of_mem _ (List.mem_cons_of_mem _ (List.mem_cons_self)), by omega, by omega⟩)
                  refine e_iconst (v := nI 1) f_145_276 (by decide) rfl ?_
                  refine e_iret f_145_277 rfl (rfl) ?_
                  have hz : isZ (j.getD k (0, 0, 0)) v = false := by unfold isZ; rw [if_neg (by omega)]; exact decide_eq_false (fun z => c_196 z.2.2)
                  have hs : stepDo (j.getD k (0, 0, 0)) (sms.getD k sm0) key v t = (some (v * (j.getD k (0, 0, 0)).2.2), (sms.getD k sm0), false) := by rw [sd_m c_21_109]; unfold acted; rw [if_neg c_215, if_neg c_235, if_pos c_255]
                  have g47 : px_pa h43 287 50 3070 Value.int sl := pa_fi H4 fx45 (by omega)
                  have g48 : px_pa h43 295 50 30 Value.int cv := pa_fi H5 fx45 (by omega)
                  exact ⟨congrArg (fun z => some (Value.int z)) (b1 (psB_s hz hs)), Or.inr (Or.inr ⟨_, _, _, _, psB_s hz hs, hz, hs, psR_same p4 (by have := p5.1; omega) p2, g44, g47, g48⟩), fr46⟩
              · skip
                have c_235 : (j.getD k (0, 0, 0)).2.1 = 45 := cv_nne (by omega) (by omega) c_235
                refine e_aload_n f_145_238 rfl rfl ?_
                refine e_getf f_145_239 H0 rfl rfl ?_
                show px_to 145 242 [some (.ref (269)), some (.int (nI k)), some (.int ((j.getD k (0, 0, 0)).2.2)), some (.int (nI (4 + 511 * k)))] [.int (v), .ref (269)] h _
                refine e_iload_n f_145_242 rfl rfl ?_
                refine e_isub (z := v - ((j.getD k (0, 0, 0)).2.2)) f_145_243 rfl rfl ?_
                refine e_goto f_145_244 ?_
                refine e_putp (vs' := mB ga gp (gq.1, gq.2.1, gq.2.2.1, gq.2.2.2.1, gq.2.2.2.2.1, gq.2.2.2.2.2.1, cb) gh (nI key, v - ((j.getD k (0, 0, 0)).2.2), nI t) gu gv) f_145_273 H0 (Nat.le_of_ble_eq_true rfl) (rfl) (rfl) rfl rfl (fun h49 g50 fx51 => ?_)
                have fr52 : px_fl [(269, 1), (287, 1), (295, 1)] h h49 := fl_tr fr0 fx51 (by first | exact ⟨_, List.mem_cons_self, by omega, by omega⟩ | exact ⟨_, List.mem_cons_of_mem _ (List.mem_cons_self), by omega, by omega⟩ | exact ⟨_, List.mem_cons_of_mem _ (List.mem_cons_of_mem _ (List.mem_cons_self)), by omega, by omega⟩)
                refine e_iconst (v := nI 1) f_145_276 (by decide) rfl ?_
                refine e_iret f_145_277 rfl (rfl) ?_
                have hz : isZ (j.getD k (0, 0, 0)) v = false := by unfold isZ; rw [if_neg (by omega)]; exact decide_eq_false (fun z => c_196 z.2.2)
                have hs : stepDo (j.getD k (0, 0, 0)) (sms.getD k sm0) key v t = (some (v - (j.getD k (0, 0, 0)).2.2), (sms.getD k sm0), false) := by rw [sd_m c_21_109]; unfold acted; rw [if_neg c_215, if_pos c_235]
                have g53 : px_pa h49 287 50 3070 Value.int sl := pa_fi H4 fx51 (by omega)
                have g54 : px_pa h49 295 50 30 Value.int cv := pa_fi H5 fx51 (by omega)
                exact ⟨congrArg (fun z => some (Value.int z)) (b1 (psB_s hz hs)), Or.inr (Or.inr ⟨_, _, _, _, psB_s hz hs, hz, hs, psR_same p4 (by have := p5.1; omega) p2, g50, g53, g54⟩), fr52⟩
            · skip
              have c_215 : (j.getD k (0, 0, 0)).2.1 = 43 := cv_nne (by omega) (by omega) c_215
              refine e_aload_n f_145_218 rfl rfl ?_
              refine e_getf f_145_219 H0 rfl rfl ?_
              show px_to 145 222 [some (.ref (269)), some (.int (nI k)), some (.int ((j.getD k (0, 0, 0)).2.2)), some (.int (nI (4 + 511 * k)))] [.int (v), .ref (269)] h _
              refine e_iload_n f_145_222 rfl rfl ?_
              refine e_iadd (z := v + ((j.getD k (0, 0, 0)).2.2)) f_145_223 rfl rfl ?_
              refine e_goto f_145_224 ?_
              refine e_putp (vs' := mB ga gp (gq.1, gq.2.1, gq.2.2.1, gq.2.2.2.1, gq.2.2.2.2.1, gq.2.2.2.2.2.1, cb) gh (nI key, v + ((j.getD k (0, 0, 0)).2.2), nI t) gu gv) f_145_273 H0 (Nat.le_of_ble_eq_true rfl) (rfl) (rfl) rfl rfl (fun h55 g56 fx57 => ?_)
              have fr58 : px_fl [(269, 1), (287, 1), (295, 1)] h h55 := fl_tr fr0 fx57 (by first | exact ⟨_, List.mem_cons_self, by omega, by omega⟩ | exact ⟨_, List.mem_cons_of_mem _ (List.mem_cons_self), by omega, by omega⟩ | exact ⟨_, List.mem_cons_of_mem _ (List.mem_cons_of_mem _ (List.mem_cons_self)), by omega, by omega⟩)
              refine e_iconst (v := nI 1) f_145_276 (by decide) rfl ?_
              refine e_iret f_145_277 rfl (rfl) ?_
              have hz : isZ (j.getD k (0, 0, 0)) v = false := by unfold isZ; rw [if_neg (by omega)]; exact decide_eq_false (fun z => c_196 z.2.2)
              have hs : stepDo (j.getD k (0, 0, 0)) (sms.getD k sm0) key v t = (some (v + (j.getD k (0, 0, 0)).2.2), (sms.getD k sm0), false) := by rw [sd_m c_21_109]; unfold acted; rw [if_pos c_215]
              have g59 : px_pa h55 287 50 3070 Value.int sl := pa_fi H4 fx57 (by omega)
              have g60 : px_pa h55 295 50 30 Value.int cv := pa_fi H5 fx57 (by omega)
              exact ⟨congrArg (fun z => some (Value.int z)) (b1 (psB_s hz hs)), Or.inr (Or.inr ⟨_, _, _, _, psB_s hz hs, hz, hs, psR_same p4 (by have := p5.1; omega) p2, g56, g59, g60⟩), fr58⟩
          · skip
            refine e_aload_n f_145_199 rfl rfl ?_
            refine e_iload_n f_145_200 rfl rfl ?_
            refine e_callV (As := [.int (nI k)]) (rest := []) f_145_201 rfl rfl rfl (Nat.le_of_ble_eq_true rfl) (Nat.le_of_ble_eq_true rfl) H0 rfl (Nat.le_of_ble_eq_true rfl) (cc_Md_fz (k := k) (cb := cb) (cv := cv) (ga := ga) (gp := gp) (gq := (gq.1, gq.2.1, gq.2.2.1, gq.2.2.2.1, gq.2.2.2.2.1, gq.2.2.2.2.2.1, cb)) (gh := gh) (gw := (nI key, v, nI t)) (gu := gu) (gv := gv) H0 H5 (by omega) (by omega)) rfl (fun h61 r62 q63 => ?_)
            obtain ⟨rfl, g64, g65, fx66⟩ := q63
            obtain ⟨hm67, fa68, fb69⟩ := fj_mid fx66
            have fr70 : px_fl [(269, 1), (287, 1), (295, 1)] h hm67 := fl_tr fr0 fa68 (by first | exact ⟨_, List.mem_cons_self, by omega, by omega⟩ | exact ⟨_, List.mem_cons_of_mem _ (List.mem_cons_self), by omega, by omega⟩ | exact ⟨_, List.mem_cons_of_mem _ (List.mem_cons_of_mem _ (List.mem_cons_self)), by omega, by omega⟩)
            have fr71 : px_fl [(269, 1), (287, 1), (295, 1)] h h61 := fl_tr fr70 fb69 (by first | exact ⟨_, List.mem_cons_self, by omega, by omega⟩ | exact ⟨_, List.mem_cons_of_mem _ (List.mem_cons_self), by omega, by omega⟩ | exact ⟨_, List.mem_cons_of_mem _ (List.mem_cons_of_mem _ (List.mem_cons_self)), by omega, by omega⟩)
            show px_to 145 204 [some (.ref (269)), some (.int (nI k)), some (.int ((j.getD k (0, 0, 0)).2.2)), some (.int (nI (4 + 511 * k)))] [] h61 _
            refine e_iconst (v := nI 0) f_145_204 (by decide) rfl ?_
            refine e_iret f_145_205 rfl (rfl) ?_
            have hz : isZ (j.getD k (0, 0, 0)) v = true := by unfold isZ; rw [if_neg (by omega)]; exact decide_eq_true ⟨c_21_109, c_192, Classical.not_not.mp c_196⟩
            have g72 : px_pa hm67 287 50 3070 Value.int sl := pa_fi H4 fa68 (by omega)
            have g73 : px_pa h61 287 50 3070 Value.int sl := pa_fi g72 fb69 (by omega)
            exact ⟨congrArg (fun z => some (Value.int z)) (b0 (psB_z hz)), Or.inl ⟨psB_z hz, hz, g64, g73, g65⟩, fr71⟩
      · skip
        by_cases c_21_113 : (j.getD k (0, 0, 0)).1 = 113
        · skip
          refine e_sw_t f_145_21 (t := 278) (by rw [c_21_113]; rfl) ?_
          refine e_aload_n f_145_278 rfl rfl ?_
          refine e_getf f_145_279 H0 rfl rfl ?_
          show px_to 145 282 [some (.ref (269)), some (.int (nI k)), some (.int ((j.getD k (0, 0, 0)).2.2)), some (.int (nI (4 + 511 * k)))] [.int (v)] h _
          refine e_if_ne f_145_282 rfl (fun c_282 => ?_) (fun c_282 => ?_)
          · skip
            refine e_aload_n f_145_292 rfl rfl ?_
            refine e_iload_n f_145_293 rfl rfl ?_
            refine e_aload_n f_145_294 rfl rfl ?_
            refine e_getf f_145_295 H0 rfl rfl ?_
            show px_to 145 298 [some (.ref (269)), some (.int (nI k)), some (.int ((j.getD k (0, 0, 0)).2.2)), some (.int (nI (4 + 511 * k)))] [.int (v), .int ((j.getD k (0, 0, 0)).2.2), .ref (269)] h _
            refine e_idiv (z := ((j.getD k (0, 0, 0)).2.2) / v) f_145_298 (c_282) rfl rfl ?_
            refine e_putp (vs' := mB ga gp (gq.1, gq.2.1, gq.2.2.1, gq.2.2.2.1, gq.2.2.2.2.1, gq.2.2.2.2.2.1, cb) gh (nI key, ((j.getD k (0, 0, 0)).2.2) / v, nI t) gu gv) f_145_299 H0 (Nat.le_of_ble_eq_true rfl) (rfl) (rfl) rfl rfl (fun h74 g75 fx76 => ?_)
            have fr77 : px_fl [(269, 1), (287, 1), (295, 1)] h h74 := fl_tr fr0 fx76 (by first | exact ⟨_, List.mem_cons_self, by omega, by omega⟩ | exact ⟨_, List.mem_cons_of_mem _ (List.mem_cons_self), by omega, by omega⟩ | exact ⟨_, List.mem_cons_of_mem _ (List.mem_cons_of_mem _ (List.mem_cons_self)), by omega, by omega⟩)
            refine e_iconst (v := nI 1) f_145_302 (by decide) rfl ?_
            refine e_iret f_145_303 rfl (rfl) ?_
            have hz : isZ (j.getD k (0, 0, 0)) v = false := by unfold isZ; rw [if_pos c_21_113]; exact decide_eq_false c_282
            have hs : stepDo (j.getD k (0, 0, 0)) (sms.getD k sm0) key v t = (some ((j.getD k (0, 0, 0)).2.2 / v), (sms.getD k sm0), false) := by rw [sd_q c_21_113]; unfold acted; rw [if_neg (by decide), if_neg (by decide), if_neg (by decide), if_neg c_282]
            have g78 : px_pa h74 287 50 3070 Value.int sl := pa_fi H4 fx76 (by omega)
            have g79 : px_pa h74 295 50 30 Value.int cv := pa_fi H5 fx76 (by omega)
            exact ⟨congrArg (fun z => some (Value.int z)) (b1 (psB_s hz hs)), Or.inr (Or.inr ⟨_, _, _, _, psB_s hz hs, hz, hs, psR_same p4 (by have := p5.1; omega) p2, g75, g78, g79⟩), fr77⟩
          · skip
            refine e_aload_n f_145_285 rfl rfl ?_
            refine e_iload_n f_145_286 rfl rfl ?_
            refine e_callV (As := [.int (nI k)]) (rest := []) f_145_287 rfl rfl rfl (Nat.le_of_ble_eq_true rfl) (Nat.le_of_ble_eq_true rfl) H0 rfl (Nat.le_of_ble_eq_true rfl) (cc_Md_fz (k := k) (cb := cb) (cv := cv) (ga := ga) (gp := gp) (gq := (gq.1, gq.2.1, gq.2.2.1, gq.2.2.2.1, gq.2.2.2.2.1, gq.2.2.2.2.2.1, cb)) (gh := gh) (gw := (nI key, v, nI t)) (gu := gu) (gv := gv) H0 H5 (by omega) (by omega)) rfl (fun h80 r81 q82 => ?_)
            obtain ⟨rfl, g83, g84, fx85⟩ := q82
            obtain ⟨hm86, fa87, fb88⟩ := fj_mid fx85
            have fr89 : px_fl [(269, 1), (287, 1), (295, 1)] h hm86 := fl_tr fr0 fa87 (by first | exact ⟨_, List.mem_cons_self, by omega, by omega⟩ | exact ⟨_, List.mem_cons_of_mem _ (List.mem_cons_self), by omega, by omega⟩ | exact ⟨_, List.mem_cons_of_mem _ (List.mem_cons_of_mem _ (List.mem_cons_self)), by omega, by omega⟩)
            have fr90 : px_fl [(269, 1), (287, 1), (295, 1)] h h80 := fl_tr fr89 fb88 (by first | exact ⟨_, List.mem_cons_self, by omega, by omega⟩ | exact ⟨_, List.mem_cons_of_mem _ (List.mem_cons_self), by omega, by omega⟩ | exact ⟨_, List.mem_cons_of_mem _ (List.mem_cons_of_mem _ (List.mem_cons_self)), by omega, by omega⟩)
            show px_to 145 290 [some (.ref (269)), some (.int (nI k)), some (.int ((j.getD k (0, 0, 0)).2.2)), some (.int (nI (4 + 511 * k)))] [] h80 _
            refine e_iconst (v := nI 0) f_145_290 (by decide) rfl ?_
            refine e_iret f_145_291 rfl (rfl) ?_
            have hz : isZ (j.getD k (0, 0, 0)) v = true := by unfold isZ; rw [if_pos c_21_113]; exact decide_eq_true (Classical.not_not.mp c_282)
            have g91 : px_pa hm86 287 50 3070 Value.int sl := pa_fi H4 fa87 (by omega)
            have g92 : px_pa h80 287 50 3070 Value.int sl := pa_fi g91 fb88 (by omega)
            exact ⟨congrArg (fun z => some (Value.int z)) (b0 (psB_z hz)), Or.inl ⟨psB_z hz, hz, g83, g92, g84⟩, fr90⟩
        · skip
          by_cases c_21_115 : (j.getD k (0, 0, 0)).1 = 115
          · skip
            refine e_sw_t f_145_21 (t := 310) (by rw [c_21_115]; rfl) ?_
            refine e_aload_n f_145_310 rfl rfl ?_
            refine e_getf f_145_311 H0 rfl rfl ?_
            refine e_iload_n f_145_314 rfl rfl ?_
            refine e_sipush (v := nI 201) f_145_315 (by decide) rfl ?_
            refine e_iadd (z := nI (4 + 511 * k + 201)) f_145_318 (nI_add _ _) rfl ?_
            refine e_aload_n f_145_319 rfl rfl ?_
            refine e_getf f_145_320 H0 rfl rfl ?_
            show px_to 145 323 [some (.ref (269)), some (.int (nI k)), some (.int ((j.getD k (0, 0, 0)).2.2)), some (.int (nI (4 + 511 * k)))] [.int (nI key), .int (nI (4 + 511 * k + 201)), .ref (287)] h _
            refine e_iadd (z := nI (4 + 511 * k + 201 + key)) f_145_323 (nI_add _ _) rfl ?_
            refine e_dup2 f_145_324 rfl rfl rfl ?_
            refine e_iaload_p (xs := sl) f_145_325 H4 (d := 0) (by first | omega | (simp only [List.length_set]; omega)) rfl ?_
            show px_to 145 326 [some (.ref (269)), some (.int (nI k)), some (.int ((j.getD k (0, 0, 0)).2.2)), some (.int (nI (4 + 511 * k)))] [.int (sl.getD (4 + 511 * k + 201 + key) 0), .int (nI (4 + 511 * k + 201 + key)), .ref (287)] h _
            rw [hst.2.2.1 c_21_115 key p6]
            refine e_aload_n f_145_326 rfl rfl ?_
            refine e_getf f_145_327 H0 rfl rfl ?_
            show px_to 145 330 [some (.ref (269)), some (.int (nI k)), some (.int ((j.getD k (0, 0, 0)).2.2)), some (.int (nI (4 + 511 * k)))] [.int (v), .int ((sms.getD k sm0).2.1.getD key 0), .int (nI (4 + 511 * k + 201 + key)), .ref (287)] h _
            refine e_iadd (z := ((sms.getD k sm0).2.1.getD key 0) + v) f_145_330 rfl rfl ?_
            refine e_iastore_p (xs := sl) (x := ((sms.getD k sm0).2.1.getD key 0) + v) f_145_331 H4 (by omega) (by first | omega | (simp only [List.length_set]; omega)) (rfl) rfl (fun h93 g94 fx95 => ?_)
            have fr96 : px_fl [(269, 1), (287, 1), (295, 1)] h h93 := fl_tr fr0 fx95 (by first | exact ⟨_, List.mem_cons_self, by omega, by omega⟩ | exact ⟨_, List.mem_cons_of_mem _ (List.mem_cons_self), by omega, by omega⟩ | exact ⟨_, List.mem_cons_of_mem _ (List.mem_cons_of_mem _ (List.mem_cons_self)), by omega, by omega⟩)
            refine e_aload_n f_145_332 rfl rfl ?_
            refine e_aload_n f_145_333 rfl rfl ?_
            have g97 : h93.2.2 269 = some (12, mB ga gp (gq.1, gq.2.1, gq.2.2.1, gq.2.2.2.1, gq.2.2.2.2.1, gq.2.2.2.2.2.1, cb) gh (nI key, v, nI t) gu gv) := fi_at H0 fx95 (by omega)
            refine e_getf f_145_334 g97 rfl rfl ?_
            refine e_iload_n f_145_337 rfl rfl ?_
            refine e_sipush (v := nI 201) f_145_338 (by decide) rfl ?_
            refine e_iadd (z := nI (4 + 511 * k + 201)) f_145_341 (nI_add _ _) rfl ?_
            refine e_aload_n f_145_342 rfl rfl ?_
            refine e_getf f_145_343 g97 rfl rfl ?_
            show px_to 145 346 [some (.ref (269)), some (.int (nI k)), some (.int ((j.getD k (0, 0, 0)).2.2)), some (.int (nI (4 + 511 * k)))] [.int (nI key), .int (nI (4 + 511 * k + 201)), .ref (287), .ref (269)] h93 _
            refine e_iadd (z := nI (4 + 511 * k + 201 + key)) f_145_346 (nI_add _ _) rfl ?_
            refine e_iaload_p (xs := sl.set (4 + 511 * k + 201 + key) (((sms.getD k sm0).2.1.getD key 0) + v)) f_145_347 g94 (d := 0) (by first | omega | (simp only [List.length_set]; omega)) rfl ?_
            show px_to 145 348 [some (.ref (269)), some (.int (nI k)), some (.int ((j.getD k (0, 0, 0)).2.2)), some (.int (nI (4 + 511 * k)))] [.int ((sl.set (4 + 511 * k + 201 + key) (((sms.getD k sm0).2.1.getD key 0) + v)).getD (4 + 511 * k + 201 + key) 0), .ref (269)] h93 _
            rw [getD_set_same (by omega)]
            refine e_putp (vs' := mB ga gp (gq.1, gq.2.1, gq.2.2.1, gq.2.2.2.1, gq.2.2.2.2.1, gq.2.2.2.2.2.1, cb) gh (nI key, (sms.getD k sm0).2.1.getD key 0 + v, nI t) gu gv) f_145_348 g97 (Nat.le_of_ble_eq_true rfl) (rfl) (rfl) rfl rfl (fun h98 g99 fx100 => ?_)
            have fr101 : px_fl [(269, 1), (287, 1), (295, 1)] h h98 := fl_tr fr96 fx100 (by first | exact ⟨_, List.mem_cons_self, by omega, by omega⟩ | exact ⟨_, List.mem_cons_of_mem _ (List.mem_cons_self), by omega, by omega⟩ | exact ⟨_, List.mem_cons_of_mem _ (List.mem_cons_of_mem _ (List.mem_cons_self)), by omega, by omega⟩)
            refine e_iconst (v := nI 1) f_145_351 (by decide) rfl ?_
            refine e_iret f_145_352 rfl (rfl) ?_
            have hz : isZ (j.getD k (0, 0, 0)) v = false := isZ_no (by omega) (by omega)
            have hq := hst.2.2.1 c_21_115 key p6
            have hs : stepDo (j.getD k (0, 0, 0)) (sms.getD k sm0) key v t = (some ((sms.getD k sm0).2.1.getD key 0 + v), ((sms.getD k sm0).1, (sms.getD k sm0).2.1.set key ((sms.getD k sm0).2.1.getD key 0 + v), (sms.getD k sm0).2.2.1, (sms.getD k sm0).2.2.2.1, (sms.getD k sm0).2.2.2.2), false) := sd_s c_21_115
            have g102 : px_pa h98 287 50 3070 Value.int (sl.set (4 + 511 * k + 201 + key) (((sms.getD k sm0).2.1.getD key 0) + v)) := pa_fi g94 fx100 (by omega)
            have g103 : px_pa h93 295 50 30 Value.int cv := pa_fi H5 fx95 (by omega)
            have g104 : px_pa h98 295 50 30 Value.int cv := pa_fi g103 fx100 (by omega)
            exact ⟨congrArg (fun z => some (Value.int z)) (b1 (psB_s hz hs)), Or.inr (Or.inr ⟨_, _, _, _, psB_s hz hs, hz, hs, psR_set p4 p1 p5.1 p2 (ags_set ags_rf (by omega)) (stR_s c_21_115 hst (by omega) p2 p6 hokk.1), g99, g102, g104⟩), fr101⟩
          · skip
            by_cases c_21_119 : (j.getD k (0, 0, 0)).1 = 119
            · skip
              refine e_sw_t f_145_21 (t := 353) (by rw [c_21_119]; rfl) ?_
              obtain ⟨ts, hts, hsp⟩ := hst.2.2.2.1 c_21_119
              obtain ⟨n, hn0, hn9, hn2⟩ := hsk.2.2 (Or.inl c_21_119)
              have hn1 : 0 < n ∧ n ≤ 1000 := ⟨hn0, hn9⟩
              have ht9 : ts.length < 96 := by have z := p8; unfold sizM at z; rw [if_pos (Or.inr c_21_119), ← spR_len hsp] at z; exact z
              have hen : 1 ≤ (t / n + 1) * n ∧ (t / n + 1) * n ≤ 6000 := by
                have := Nat.div_mul_le_self t n
                rw [Nat.add_mul, Nat.one_mul]
                omega
              refine e_aload_n f_145_353 rfl rfl ?_
              refine e_iload_n f_145_354 rfl rfl ?_
              refine e_callV (As := [.int (nI k)]) (rest := []) f_145_355 rfl rfl rfl (Nat.le_of_ble_eq_true rfl) (Nat.le_of_ble_eq_true rfl) H0 rfl (Nat.le_of_ble_eq_true rfl) (cc_Md_spn (k := k) (key := key) (t := t) (n := n) (e := (t / n + 1) * n) (cb := cb) (sl := sl) (ts := ts) (cv := cv) (j := j) (ga := ga) (gp := gp) (gq := (gq.1, gq.2.1, gq.2.2.1, gq.2.2.2.1, gq.2.2.2.2.1, gq.2.2.2.2.2.1, cb)) (gh := gh) (gw := (nI key, v, nI t)) (gu := gu) (gv := gv) H0 H3 H4 H5 (by omega) (by omega) (hn2) (hn1) (by omega) (by omega) (by omega) (by omega) (hts) (by omega) (hsp.2.2.2) (rfl)) rfl (fun h105 r106 q107 => ?_)
              obtain ⟨rfl, g108, g109, fx110⟩ := q107
              obtain ⟨hm111, fa112, fb113⟩ := fj_mid fx110
              have fr114 : px_fl [(269, 1), (287, 1), (295, 1)] h hm111 := fl_tr fr0 fa112 (by first | exact ⟨_, List.mem_cons_self, by omega, by omega⟩ | exact ⟨_, List.mem_cons_of_mem _ (List.mem_cons_self), by omega, by omega⟩ | exact ⟨_, List.mem_cons_of_mem _ (List.mem_cons_of_mem _ (List.mem_cons_self)), by omega, by omega⟩)
              have fr115 : px_fl [(269, 1), (287, 1), (295, 1)] h h105 := fl_tr fr114 fb113 (by first | exact ⟨_, List.mem_cons_self, by omega, by omega⟩ | exact ⟨_, List.mem_cons_of_mem _ (List.mem_cons_self), by omega, by omega⟩ | exact ⟨_, List.mem_cons_of_mem _ (List.mem_cons_of_mem _ (List.mem_cons_self)), by omega, by omega⟩)
              show px_to 145 358 [some (.ref (269)), some (.int (nI k)), some (.int ((j.getD k (0, 0, 0)).2.2)), some (.int (nI (4 + 511 * k)))] [] h105 _
              refine e_iconst (v := nI 0) f_145_358 (by decide) rfl ?_
              refine e_iret f_145_359 rfl (rfl) ?_
              have hz : isZ (j.getD k (0, 0, 0)) v = false := isZ_no (by omega) (by omega)
              by_cases hlt : nI ((t / n + 1) * n) ≤ (sms.getD k sm0).1
              · skip
                have hs := ps_late (key := key) (v := v) c_21_119 hn2 hn1.2 rfl hlt
                have hlt2 := hlt
                rw [← hst.1] at hlt2
                have g116 : px_pa h105 287 50 3070 Value.int (sl.set 3 (sl.getD 3 0 + nI 1)) := pa_eq g108 (by unfold spnX; rw [if_pos hlt2])
                have g117 : px_pa h105 295 50 30 Value.int (if true = true then tI cb cv (5 * k + 3) else cv) := pa_eq g109 (by rw [if_pos hlt2, if_pos rfl])
                have g118 : hm111.2.2 269 = some (12, mB ga gp (gq.1, gq.2.1, gq.2.2.1, gq.2.2.2.1, gq.2.2.2.2.1, gq.2.2.2.2.2.1, cb) gh (nI key, v, nI t) gu gv) := fi_at H0 fa112 (by omega)
                have g119 : h105.2.2 269 = some (12, mB ga gp (gq.1, gq.2.1, gq.2.2.1, gq.2.2.2.1, gq.2.2.2.2.1, gq.2.2.2.2.2.1, cb) gh (nI key, v, nI t) gu gv) := fi_at g118 fb113 (by omega)
                exact ⟨congrArg (fun z => some (Value.int z)) (b0 (psB_n hs)), Or.inr (Or.inl ⟨_, _, _, psB_n hs, hz, hs, psR_late p4 (by have := p5.1; omega) p2, g119, g116, g117⟩), fr115⟩
              · skip
                have hs := ps_span (key := key) (v := v) c_21_119 hn2 hn1.2 rfl hlt
                have hlt2 := hlt
                rw [← hst.1] at hlt2
                have g120 : px_pa h105 287 50 3070 Value.int (spnS sl (4 + 511 * k) ts key ((t / n + 1) * n)) := pa_eq g108 (by unfold spnX; rw [if_neg hlt2])
                have g121 : px_pa h105 295 50 30 Value.int (if false = true then tI cb cv (5 * k + 3) else cv) := pa_eq g109 (by rw [if_neg hlt2, if_neg (by decide)])
                have g122 : hm111.2.2 269 = some (12, mB ga gp (gq.1, gq.2.1, gq.2.2.1, gq.2.2.2.1, gq.2.2.2.2.1, gq.2.2.2.2.2.1, cb) gh (nI key, v, nI t) gu gv) := fi_at H0 fa112 (by omega)
                have g123 : h105.2.2 269 = some (12, mB ga gp (gq.1, gq.2.1, gq.2.2.1, gq.2.2.2.1, gq.2.2.2.2.1, gq.2.2.2.2.2.1, cb) gh (nI key, v, nI t) gu gv) := fi_at g122 fb113 (by omega)
                exact ⟨congrArg (fun z => some (Value.int z)) (b0 (psB_n hs)), Or.inr (Or.inl ⟨_, _, _, psB_n hs, hz, hs, psR_set p4 p1 p5.1 p2 (spnS_ags (by omega)) (stR_w c_21_119 hst hts hsp (by omega) p2 ht9 p6 hen), g123, g120, g121⟩), fr115⟩
            · skip
              refine e_sw_t f_145_21 (t := 360) (by rw [show (j.getD k (0, 0, 0)).1 = 116 by omega]; rfl) ?_
              have c116 : (j.getD k (0, 0, 0)).1 = 116 := by omega
              obtain ⟨n, hn0, hn9, hn2⟩ := hsk.2.2 (Or.inr c116)
              have hn1 : 0 < n ∧ n ≤ 1000 := ⟨hn0, hn9⟩
              refine e_aload_n f_145_360 rfl rfl ?_
              refine e_getf f_145_361 H0 rfl rfl ?_
              refine e_iload_n f_145_364 rfl rfl ?_
              refine e_sipush (v := nI 507) f_145_365 (by decide) rfl ?_
              refine e_iadd (z := nI (4 + 511 * k + 507)) f_145_368 (nI_add _ _) rfl ?_
              refine e_aload_n f_145_369 rfl rfl ?_
              refine e_getf f_145_370 H0 rfl rfl ?_
              show px_to 145 373 [some (.ref (269)), some (.int (nI k)), some (.int ((j.getD k (0, 0, 0)).2.2)), some (.int (nI (4 + 511 * k)))] [.int (nI key), .int (nI (4 + 511 * k + 507)), .ref (287)] h _
              refine e_iadd (z := nI (4 + 511 * k + 507 + key)) f_145_373 (nI_add _ _) rfl ?_
              refine e_aload_n f_145_374 rfl rfl ?_
              refine e_getf f_145_375 H0 rfl rfl ?_
              show px_to 145 378 [some (.ref (269)), some (.int (nI k)), some (.int ((j.getD k (0, 0, 0)).2.2)), some (.int (nI (4 + 511 * k)))] [.int (nI t), .int (nI (4 + 511 * k + 507 + key)), .ref (287)] h _
              refine e_iload_n f_145_378 rfl rfl ?_
              refine e_iadd (z := (nI t) + ((j.getD k (0, 0, 0)).2.2)) f_145_379 rfl rfl ?_
              refine e_iastore_p (xs := sl) (x := (nI t) + ((j.getD k (0, 0, 0)).2.2)) f_145_380 H4 (by omega) (by first | omega | (simp only [List.length_set]; omega)) (rfl) rfl (fun h124 g125 fx126 => ?_)
              have fr127 : px_fl [(269, 1), (287, 1), (295, 1)] h h124 := fl_tr fr0 fx126 (by first | exact ⟨_, List.mem_cons_self, by omega, by omega⟩ | exact ⟨_, List.mem_cons_of_mem _ (List.mem_cons_self), by omega, by omega⟩ | exact ⟨_, List.mem_cons_of_mem _ (List.mem_cons_of_mem _ (List.mem_cons_self)), by omega, by omega⟩)
              refine e_iconst (v := nI 1) f_145_381 (by decide) rfl ?_
              refine e_iret f_145_382 rfl (rfl) ?_
              have hz : isZ (j.getD k (0, 0, 0)) v = false := isZ_no (by omega) (by omega)
              have hs : stepDo (j.getD k (0, 0, 0)) (sms.getD k sm0) key v t = (some v, ((sms.getD k sm0).1, (sms.getD k sm0).2.1, (sms.getD k sm0).2.2.1.set key (nI t + (j.getD k (0, 0, 0)).2.2), (sms.getD k sm0).2.2.2.1, (sms.getD k sm0).2.2.2.2), false) := sd_t c116
              have g128 : h124.2.2 269 = some (12, mB ga gp (gq.1, gq.2.1, gq.2.2.1, gq.2.2.2.1, gq.2.2.2.2.1, gq.2.2.2.2.2.1, cb) gh (nI key, v, nI t) gu gv) := fi_at H0 fx126 (by omega)
              have g129 : px_pa h124 295 50 30 Value.int cv := pa_fi H5 fx126 (by omega)
              exact ⟨congrArg (fun z => some (Value.int z)) (b1 (psB_s hz hs)), Or.inr (Or.inr ⟨_, _, _, _, psB_s hz hs, hz, hs, psR_set p4 p1 p5.1 p2 (ags_set ags_rf (by omega)) (stR_t c116 hst (by omega) p2 p6 hokk.2.1 (by rw [hn2]; exact tm_ne p7 hn1.2)), g128, g125, g129⟩), fr127⟩
