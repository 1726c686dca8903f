theorem i64_lt {x y : Int64} : x < y ↔ x.toInt < y.toInt := Int64.lt_iff_toInt_lt
theorem pw_pos : ∀ {ms : List Int64} {p : Nat}, ms.Pairwise (· < ·) → p < ms.length → spPos (ms.getD p 0) ms = p
  | [], _, _, h => absurd h (by simp)
  | x :: r, 0, _, _ => by
    show (if x < x then _ else 0) = 0
    rw [if_neg (by rw [i64_lt]; omega)]
  | x :: r, p + 1, hp, h => by
    have h1 := List.pairwise_cons.mp hp
    have hl : p < r.length := by rw [List.length_cons] at h; omega
    show (if x < r.getD p 0 then spPos (r.getD p 0) r + 1 else 0) = p + 1
    rw [if_pos (h1.1 _ (getD_mem 0 hl)), pw_pos h1.2 hl]
theorem pw_ins {m : Int64} : ∀ {ms : List Int64}, ms.Pairwise (· < ·) → m ∉ ms → (ms.take (spPos m ms) ++ m :: ms.drop (spPos m ms)).Pairwise (· < ·)
  | [], _, _ => by
    show [m].Pairwise _
    exact List.pairwise_singleton _ _
  | x :: r, hp, hm => by
    have h1 := List.pairwise_cons.mp hp
    have hx : m ≠ x := fun e => hm (by rw [e]; exact List.mem_cons_self)
    by_cases h : x < m
    · have e : spPos m (x :: r) = spPos m r + 1 := by show (if x < m then _ else 0) = _; rw [if_pos h]
      rw [e, List.take_succ_cons, List.drop_succ_cons, List.cons_append]
      refine List.pairwise_cons.mpr ⟨fun y hy => ?_, pw_ins h1.2 (fun z => hm (List.mem_cons_of_mem _ z))⟩
      rw [List.mem_append, List.mem_cons] at hy
      rcases hy with z | z | z
      · exact h1.1 y (List.mem_of_mem_take z)
      · rw [z]; exact h
      · exact h1.1 y (List.mem_of_mem_drop z)
    · have e : spPos m (x :: r) = 0 := by show (if x < m then _ else 0) = _; rw [if_neg h]
      rw [e, List.take_zero, List.drop_zero, List.nil_append]
      have hlt : m < x := by
        have h3 : m.toInt ≠ x.toInt := fun z => hx (Int64.toInt_inj.mp z)
        rw [i64_lt] at h ⊢
        omega
      refine List.pairwise_cons.mpr ⟨fun y hy => ?_, hp⟩
      rcases List.mem_cons.mp hy with z | z
      · rw [z]; exact hlt
      · have := h1.1 y z
        rw [i64_lt] at this hlt ⊢
        omega
theorem zip_ix {ms : List Int64} {cs : List Int32} (hl : cs.length = ms.length) {m : Int64} {c : Int32} (h : (m, c) ∈ ms.zip cs) : ∃ p, p < ms.length ∧ ms.getD p 0 = m ∧ cs.getD p 0 = c := by
  obtain ⟨p, hp, e⟩ := List.mem_iff_getElem.mp h
  rw [List.length_zip] at hp
  rw [List.getElem_zip] at e
  injection e with e1 e2
  exact ⟨p, by omega, by rw [getD_lt 0 (by omega)]; exact e1, by rw [getD_lt 0 (by omega)]; exact e2⟩
theorem zip_at {ms : List Int64} {cs : List Int32} (hl : cs.length = ms.length) {p : Nat} (hp : p < ms.length) : ms.zip cs = (ms.take p).zip (cs.take p) ++ (ms.getD p 0, cs.getD p 0) :: (ms.drop (p + 1)).zip (cs.drop (p + 1)) := by
  have e1 : ms = ms.take p ++ (ms.getD p 0 :: ms.drop (p + 1)) := by rw [← drop_step 0 hp, List.take_append_drop]
  have e2 : cs = cs.take p ++ (cs.getD p 0 :: cs.drop (p + 1)) := by rw [← drop_step 0 (show p < cs.length by omega), List.take_append_drop]
  calc ms.zip cs = (ms.take p ++ (ms.getD p 0 :: ms.drop (p + 1))).zip (cs.take p ++ (cs.getD p 0 :: cs.drop (p + 1))) := by rw [← e1, ← e2]
    _ = _ := by rw [List.zip_append (by rw [List.length_take, List.length_take, hl]), List.zip_cons_cons]
theorem spR_mem {ts : List TS} {ms : List Int64} {cs : List Int32} (h : spR ts ms cs) {i : Nat} (hi : i < ts.length) : ∃ p, p < ms.length ∧ ms.getD p 0 = mkM (ts.getD i (0, 0, 0)).1 (nI (ts.getD i (0, 0, 0)).2.1) ∧ cs.getD p 0 = (ts.getD i (0, 0, 0)).2.2 :=
  zip_ix h.2.1 (h.1.mem_iff.mp (List.mem_map_of_mem (getD_mem (0, 0, 0) hi)))
theorem spR_len {ts : List TS} {ms : List Int64} {cs : List Int32} (h : spR ts ms cs) : ts.length = ms.length := by
  have h1 := h.1.length_eq
  have h2 := h.2.1
  rw [List.length_map, List.length_zip] at h1
  omega
theorem spR_inv {ts : List TS} {ms : List Int64} {cs : List Int32} (h : spR ts ms cs) {p : Nat} (hp : p < ms.length) : ∃ i, i < ts.length ∧ mkM (ts.getD i (0, 0, 0)).1 (nI (ts.getD i (0, 0, 0)).2.1) = ms.getD p 0 := by
  have hm : (ms.getD p 0, cs.getD p 0) ∈ ms.zip cs := by rw [zip_at h.2.1 hp]; exact List.mem_append_right _ List.mem_cons_self
  obtain ⟨t, ht, e⟩ := List.mem_map.mp (h.1.mem_iff.mpr hm)
  obtain ⟨i, hi, e2⟩ := List.mem_iff_getElem.mp ht
  refine ⟨i, hi, ?_⟩
  rw [getD_lt (0, 0, 0) hi, e2]
  exact congrArg Prod.fst e
theorem ts_split {ts : List TS} {i : Nat} (hi : i < ts.length) : ts = ts.take i ++ ts.getD i (0, 0, 0) :: ts.drop (i + 1) := by rw [← drop_step (0, 0, 0) hi, List.take_append_drop]
theorem ts_set {ts : List TS} {i : Nat} {t : TS} (hi : i < ts.length) : ts.set i t = ts.take i ++ t :: ts.drop (i + 1) := by
  rw [List.set_eq_take_append_cons_drop, if_pos hi]
theorem cs_set {cs : List Int32} {i : Nat} {c : Int32} (hi : i < cs.length) : cs.set i c = cs.take i ++ c :: cs.drop (i + 1) := by
  rw [List.set_eq_take_append_cons_drop, if_pos hi]
theorem spR_hit {ts : List TS} {ms : List Int64} {cs : List Int32} (h : spR ts ms cs) {i : Nat} (hi : i < ts.length) {m : Int64} (hm : m = mkM (ts.getD i (0, 0, 0)).1 (nI (ts.getD i (0, 0, 0)).2.1)) : spR (tInc ts i) (spAdd m ms cs).1 (spAdd m ms cs).2 := by
  obtain ⟨p, hp, e1, e2⟩ := spR_mem h hi
  have h2 := h.2.1
  have ep : spPos m ms = p := by rw [hm, ← e1]; exact pw_pos h.2.2.1 hp
  have ea : spAdd m ms cs = (ms, cs.set p (cs.getD p 0 + nI 1)) := by
    unfold spAdd
    rw [ep, if_pos ⟨by rw [hm]; exact e1, hp⟩]
  rw [ea]
  show spR (tInc ts i) ms (cs.set p (cs.getD p 0 + nI 1))
  refine ⟨?_, by rw [List.length_set]; exact h2, h.2.2.1, fun t ht => ?_⟩
  · have q1 : ((ts.take i ++ ts.getD i (0, 0, 0) :: ts.drop (i + 1)).map fT).Perm (ms.zip cs) := by rw [← ts_split hi]; exact h.1
    rw [zip_at h2 hp, List.map_append, List.map_cons] at q1
    have ef : fT (ts.getD i (0, 0, 0)) = (ms.getD p 0, cs.getD p 0) := by rw [e1, e2]; rfl
    rw [ef] at q1
    have q2 := (List.perm_cons _).mp ((List.perm_middle.symm.trans q1).trans List.perm_middle)
    unfold tInc
    rw [ts_set hi, List.map_append, List.map_cons, zip_at (by rw [List.length_set]; exact h2) hp, getD_set_same (by omega)]
    have ef2 : fT ((ts.getD i (0, 0, 0)).1, (ts.getD i (0, 0, 0)).2.1, (ts.getD i (0, 0, 0)).2.2 + nI 1) = (ms.getD p 0, cs.getD p 0 + nI 1) := by rw [e1, e2]; rfl
    rw [ef2, List.take_set_of_le (Nat.le_refl _), List.drop_set_of_lt (Nat.lt_succ_self _)]
    exact (List.perm_middle.trans ((List.perm_cons _).mpr q2)).trans List.perm_middle.symm
  · unfold tInc at ht
    rcases List.mem_or_eq_of_mem_set ht with z | z
    · exact h.2.2.2 t z
    · rw [z]
      have y := h.2.2.2 _ (getD_mem (0, 0, 0) hi)
      exact y
theorem spR_no {ts : List TS} {ms : List Int64} {cs : List Int32} (h : spR ts ms cs) {key e : Nat} (hk : key < 4) (he : e ≤ 6000) (hn : ∀ i, i < ts.length → ¬ ((ts.getD i (0, 0, 0)).1 = key ∧ (ts.getD i (0, 0, 0)).2.1 = e)) : mkM key (nI e) ∉ ms := fun z => by
  obtain ⟨p, hp, e1⟩ := List.mem_iff_getElem.mp z
  obtain ⟨i, hi, e2⟩ := spR_inv h hp
  rw [getD_lt 0 hp, e1] at e2
  have hb := h.2.2.2 _ (getD_mem (0, 0, 0) hi)
  have h3 := mkM_inj hb.1 hk e2
  have h4 : (ts.getD i (0, 0, 0)).2.1 = e := by
    have h5 := congrArg Int32.toInt h3.2
    rw [nI_toInt (by omega), nI_toInt (by omega)] at h5
    omega
  exact hn i hi ⟨h3.1, h4⟩
theorem spR_new {ts : List TS} {ms : List Int64} {cs : List Int32} (h : spR ts ms cs) {key e : Nat} (hk : key < 4) (he : 1 ≤ e ∧ e ≤ 6000) (hm : mkM key (nI e) ∉ ms) (hc : ms.length < 96) : spR (ts ++ [(key, e, nI 1)]) (spAdd (mkM key (nI e)) ms cs).1 (spAdd (mkM key (nI e)) ms cs).2 := by
  have h2 := h.2.1
  have hle := spPos_le (mkM key (nI e)) ms
  have ea : spAdd (mkM key (nI e)) ms cs = (ms.take (spPos (mkM key (nI e)) ms) ++ mkM key (nI e) :: ms.drop (spPos (mkM key (nI e)) ms), cs.take (spPos (mkM key (nI e)) ms) ++ nI 1 :: cs.drop (spPos (mkM key (nI e)) ms)) := by
    unfold spAdd
    rw [if_neg (fun z => hm (by rw [← z.1]; exact getD_mem 0 z.2)), if_neg (by omega)]
  rw [ea]
  show spR _ (ms.take _ ++ mkM key (nI e) :: ms.drop _) (cs.take _ ++ nI 1 :: cs.drop _)
  generalize hp : spPos (mkM key (nI e)) ms = p at hle
  refine ⟨?_, ?_, by rw [← hp]; exact pw_ins h.2.2.1 hm, fun t ht => ?_⟩
  · rw [List.map_append, List.zip_append (by rw [List.length_take, List.length_take, h2]), List.zip_cons_cons]
    have ez : ms.zip cs = (ms.take p).zip (cs.take p) ++ (ms.drop p).zip (cs.drop p) := by
      rw [← List.zip_append (by rw [List.length_take, List.length_take, h2]), List.take_append_drop, List.take_append_drop]
    have q1 := h.1
    rw [ez] at q1
    have q2 : (ts.map fT ++ [fT (key, e, nI 1)]).Perm (fT (key, e, nI 1) :: ts.map fT) := List.perm_append_comm
    exact (q2.trans ((List.perm_cons _).mpr q1)).trans List.perm_middle.symm
  · rw [List.length_append, List.length_append, List.length_cons, List.length_cons, List.length_take, List.length_take, List.length_drop, List.length_drop]
    omega
  · rw [List.mem_append, List.mem_singleton] at ht
    rcases ht with z | z
    · exact h.2.2.2 t z
    · rw [z]; exact ⟨hk, he⟩
theorem tDel_perm {ts : List TS} {i : Nat} (hi : i < ts.length) : (ts.getD i (0, 0, 0) :: tDel ts i).Perm ts := by
  have hn : ts.length - 1 < ts.length := by omega
  have hts : ts = ts.take (ts.length - 1) ++ [ts.getD (ts.length - 1) (0, 0, 0)] := by
    rw [← take_s (0, 0, 0) hn, List.take_of_length_le (by omega)]
  by_cases e : i = ts.length - 1
  · unfold tDel
    have e2 : ts.set i (ts.getD (ts.length - 1) (0, 0, 0)) = ts := by
      rw [← e, getD_lt (0, 0, 0) hi, List.set_getElem_self]
    rw [e2]
    have e3 : (ts.getD i (0, 0, 0) :: ts.take (ts.length - 1)).Perm (ts.take (ts.length - 1) ++ [ts.getD (ts.length - 1) (0, 0, 0)]) := by
      rw [e]; exact List.perm_append_comm (l₁ := [ts.getD (ts.length - 1) (0, 0, 0)])
    rw [← hts] at e3
    exact e3
  · unfold tDel
    have hi2 : i < (ts.take (ts.length - 1)).length := by rw [List.length_take]; omega
    have e4 : (ts.set i (ts.getD (ts.length - 1) (0, 0, 0))).take (ts.length - 1) = (ts.take (ts.length - 1)).set i (ts.getD (ts.length - 1) (0, 0, 0)) := List.take_set
    rw [e4, ts_set hi2]
    have e5 : (ts.take (ts.length - 1)).getD i (0, 0, 0) = ts.getD i (0, 0, 0) := getD_tk (by omega)
    have e6 := ts_split hi2
    rw [e5] at e6
    have e7 : ts.Perm ((ts.take (ts.length - 1)).take i ++ ts.getD i (0, 0, 0) :: (ts.take (ts.length - 1)).drop (i + 1) ++ [ts.getD (ts.length - 1) (0, 0, 0)]) := by
      rw [← e6, ← hts]
    refine List.Perm.trans ?_ e7.symm
    refine List.Perm.trans ?_ List.perm_append_comm
    rw [List.singleton_append]
    refine List.Perm.trans ((List.perm_cons _).mpr List.perm_middle) ?_
    refine List.Perm.trans (List.Perm.swap _ _ _) ?_
    exact (List.perm_cons _).mpr List.perm_middle.symm
theorem spR_pop {ts : List TS} {ms : List Int64} {cs : List Int32} (h : spR ts ms cs) {i : Nat} (hi : i < ts.length) (hm : mkM (ts.getD i (0, 0, 0)).1 (nI (ts.getD i (0, 0, 0)).2.1) = ms.getD 0 0) : spR (tDel ts i) (ms.drop 1) (cs.drop 1) ∧ (ts.getD i (0, 0, 0)).2.2 = cs.getD 0 0 := by
  have h2 := h.2.1
  have hl := spR_len h
  obtain ⟨p, hp, e1, e2⟩ := spR_mem h hi
  have ep : p = 0 := by
    have a := pw_pos h.2.2.1 hp
    have b := pw_pos h.2.2.1 (show 0 < ms.length by omega)
    rw [e1, hm] at a
    omega
  subst ep
  refine ⟨⟨?_, by rw [List.length_drop, List.length_drop, h2], List.Pairwise.sublist (List.drop_sublist _ _) h.2.2.1, fun t ht => ?_⟩, e2.symm⟩
  · have q1 := ((tDel_perm hi).map fT).trans h.1
    rw [zip_at h2 (show 0 < ms.length by omega), List.map_cons, List.take_zero, List.take_zero] at q1
    have ef : fT (ts.getD i (0, 0, 0)) = (ms.getD 0 0, cs.getD 0 0) := by rw [e1, e2]; rfl
    rw [ef] at q1
    exact (List.perm_cons _).mp q1
  · exact h.2.2.2 t ((tDel_perm hi).mem_iff.mp (List.mem_cons_of_mem _ ht))
def tKy (t : TS) : Nat := 4 * t.2.1 + t.1
theorem spR_min {ts : List TS} {ms : List Int64} {cs : List Int32} (h : spR ts ms cs) {q w : Nat} (hw : w ≤ 5000) (hq : q < ts.length) (hqw : (ts.getD q (0, 0, 0)).2.1 ≤ w) (hmin : ∀ r, r < ts.length → (ts.getD r (0, 0, 0)).2.1 ≤ w → tKy (ts.getD q (0, 0, 0)) ≤ tKy (ts.getD r (0, 0, 0))) : mkM (ts.getD q (0, 0, 0)).1 (nI (ts.getD q (0, 0, 0)).2.1) = ms.getD 0 0 ∧ 0 < spUp (nI w) ms := by
  have hl := spR_len h
  have h0 : 0 < ms.length := by omega
  obtain ⟨p, hp, e1, e2⟩ := spR_mem h hq
  obtain ⟨r, hr, e3⟩ := spR_inv h h0
  have bq := h.2.2.2 _ (getD_mem (0, 0, 0) hq)
  have br := h.2.2.2 _ (getD_mem (0, 0, 0) hr)
  have iq := mkM_int bq.1 bq.2.2
  have ir := mkM_int br.1 br.2.2
  have hpz : p = 0 := by
    apply Classical.byContradiction
    intro hne
    have hlt : ms.getD 0 0 < ms.getD p 0 := by
      rw [getD_lt 0 h0, getD_lt 0 hp]
      exact List.pairwise_iff_getElem.mp h.2.2.1 0 p h0 hp (by omega)
    rw [e1, ← e3, i64_lt, iq, ir] at hlt
    have := hmin r hr (by omega)
    unfold tKy at this
    omega
  subst hpz
  refine ⟨e1.symm, ?_⟩
  cases ms with
  | nil => exact absurd h0 (by simp)
  | cons m0 mr =>
    have e4 : m0 = mkM (ts.getD q (0, 0, 0)).1 (nI (ts.getD q (0, 0, 0)).2.1) := e1
    show 0 < (if (m0 / 4).toInt32 ≤ nI w then spUp (nI w) mr + 1 else 0)
    rw [e4, mkM_end bq.1 bq.2.2, if_pos ((nI_leI (by omega) (by omega)).mpr hqw)]
    omega
theorem spR_none {ts : List TS} {ms : List Int64} {cs : List Int32} (h : spR ts ms cs) {w : Nat} (hw : w ≤ 5000) (hn : ∀ r, r < ts.length → w < (ts.getD r (0, 0, 0)).2.1) : spUp (nI w) ms = 0 := by
  cases ms with
  | nil => rfl
  | cons m0 mr =>
    obtain ⟨r, hr, e3⟩ := spR_inv h (show 0 < (m0 :: mr).length by simp)
    have br := h.2.2.2 _ (getD_mem (0, 0, 0) hr)
    have e4 : m0 = mkM (ts.getD r (0, 0, 0)).1 (nI (ts.getD r (0, 0, 0)).2.1) := e3.symm
    show (if (m0 / 4).toInt32 ≤ nI w then spUp (nI w) mr + 1 else 0) = 0
    have := hn r hr
    rw [e4, mkM_end br.1 br.2.2, if_neg (fun z => by have := (nI_leI (by omega) (by omega)).mp z; omega)]
