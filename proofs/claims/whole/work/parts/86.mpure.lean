def tN : List St → Nat
  | [] => 0
  | s :: r => (if s.1 = 116 then 1 else 0) + tN r
theorem tN_drop : ∀ (j : List St) (i : Nat), tN (j.drop i) ≤ tN j
  | [], i => by rw [List.drop_nil]; exact Nat.le_refl _
  | s :: r, 0 => Nat.le_refl _
  | s :: r, i + 1 => by
    have := tN_drop r i
    rw [List.drop_succ_cons]
    show tN (r.drop i) ≤ (if s.1 = 116 then 1 else 0) + tN r
    omega
theorem mulF_le (j : List St) : ∀ (n i : Nat), mulF j i n ≤ 2 ^ tN (j.drop i)
  | 0, i => Nat.one_le_two_pow
  | n + 1, i => by
    rw [mulF_e]
    have ih := mulF_le j n (i + 1)
    by_cases h : i < j.length
    · rw [drop_step (0, 0, 0) h]
      show _ ≤ 2 ^ ((if (j.getD i (0, 0, 0)).1 = 116 then 1 else 0) + tN (j.drop (i + 1)))
      unfold isT
      split
      · rw [Nat.pow_add]; omega
      · rw [Nat.zero_add]; omega
    · have e : isT (j.getD i (0, 0, 0)) = 1 := by
        rw [List.getD_eq_getElem?_getD, List.getElem?_eq_none (by omega)]; rfl
      rw [e, Nat.one_mul]
      rw [List.drop_eq_nil_of_le (by omega)] at ih ⊢
      exact ih
theorem Mz_le {j : List St} (h : tN j ≤ 2) (i k : Nat) : Mz j i k ≤ 4 := by
  unfold Mz
  split
  · refine Nat.le_trans (mulF_le j _ _) ?_
    exact Nat.pow_le_pow_right (by decide) (Nat.le_trans (tN_drop j i) h) (n := 2)
  · omega
def PB (j : List St) (x : RX) (n : Nat) : Prop := ∀ k, k ≤ j.length → Phi j x.2.1 x.2.2.1.length k ≤ n
def bd (j : List St) (x : RX) (i : Nat) : Prop := ∀ k, k ≤ j.length → Phi j x.2.1 x.2.2.1.length k + Mz j i k ≤ 96
theorem bd_of {j : List St} {x : RX} {n i : Nat} (h : tN j ≤ 2) (p : PB j x n) (hn : n + 4 ≤ 96) : bd j x i := fun k hk => by
  have := p k hk
  have := Mz_le h i k
  omega
theorem bd_siz {j : List St} {x : RX} {i : Nat} (h : bd j x i) (hi : i < j.length) : sizM (j.getD i (0, 0, 0)) (x.2.1.getD i sm0) < 96 := by
  have := h i (by omega)
  rw [Mz_self] at this
  unfold Phi at this
  rw [if_pos hi] at this
  omega
theorem bd_out {j : List St} {x : RX} (h : bd j x j.length) : x.2.2.1.length < 96 := by
  have := h j.length (Nat.le_refl _)
  rw [Mz_self] at this
  unfold Phi at this
  rw [if_neg (Nat.lt_irrefl _), if_pos rfl] at this
  omega
theorem pass_len {j : List St} {key t : Nat} : ∀ (d k : Nat) (v : Int32) (x : RX), (pass j d k key v t x).2.1.length = x.2.1.length
  | 0, k, v, x => rfl
  | d + 1, k, v, x => by
    by_cases h : k < j.length
    · cases hz : isZ (j.getD k (0, 0, 0)) v with
      | true => rw [pass_z h hz]
      | false =>
        rcases hs : stepDo (j.getD k (0, 0, 0)) (x.2.1.getD k sm0) key v t with ⟨o, m, late⟩
        cases o with
        | none => rw [pass_no h hz hs]; exact List.length_set
        | some w => rw [pass_on h hz hs, pass_len d]; exact List.length_set
    · rw [pass_out h]
theorem bd_step {j : List St} {key t k : Nat} {v w : Int32} {x : RX} {m : SM} {late : Bool} {tl : List Int32} (hj : okJ j) (hl : x.2.1.length = j.length) (h : k < j.length) (hs : stepDo (j.getD k (0, 0, 0)) (x.2.1.getD k sm0) key v t = (some w, m, late)) (hb : bd j x k) : bd j (x.1, x.2.1.set k m, x.2.2.1, tl, x.2.2.2.2) (k + 1) := fun q hq => by
  have h1 := stepDo_pend (m := x.2.1.getD k sm0) (key := key) (t := t) (v := v) (hj.2 _ (getD_mem (0, 0, 0) h))
  rw [hs] at h1
  have h2 : pend (j.getD k (0, 0, 0)) m + 1 ≤ pend (j.getD k (0, 0, 0)) (x.2.1.getD k sm0) + isT (j.getD k (0, 0, 0)) := h1.1
  have h3 := Phi_go (n := x.2.2.1.length) h (by omega) h2 h1.2 q
  have h4 := hb q hq
  show Phi j (x.2.1.set k m) x.2.2.1.length q + Mz j (k + 1) q ≤ 96
  omega
theorem pass_Phi {j : List St} {key t : Nat} (hj : okJ j) : ∀ (d k : Nat) (v : Int32) (x : RX), x.2.1.length = j.length → k ≤ j.length → ∀ q, Phi j (pass j d k key v t x).2.1 (pass j d k key v t x).2.2.1.length q ≤ Phi j x.2.1 x.2.2.1.length q + Mz j k q
  | 0, k, v, x, _, _, q => Nat.le_add_right _ _
  | d + 1, k, v, x, hl, hk, q => by
    by_cases h : k < j.length
    · cases hz : isZ (j.getD k (0, 0, 0)) v with
      | true => rw [pass_z h hz]; exact Nat.le_add_right _ _
      | false =>
        have h1 := stepDo_pend (m := x.2.1.getD k sm0) (key := key) (t := t) (v := v) (hj.2 _ (getD_mem (0, 0, 0) h))
        rcases hs : stepDo (j.getD k (0, 0, 0)) (x.2.1.getD k sm0) key v t with ⟨o, m, late⟩
        rw [hs] at h1
        cases o with
        | none =>
          rw [pass_no h hz hs]
          have h2 : pend (j.getD k (0, 0, 0)) m ≤ pend (j.getD k (0, 0, 0)) (x.2.1.getD k sm0) + isT (j.getD k (0, 0, 0)) := h1.1
          exact Phi_stop (n := x.2.2.1.length) h (by omega) h2 h1.2 q
        | some w =>
          rw [pass_on h hz hs]
          have h2 : pend (j.getD k (0, 0, 0)) m + 1 ≤ pend (j.getD k (0, 0, 0)) (x.2.1.getD k sm0) + isT (j.getD k (0, 0, 0)) := h1.1
          have h3 := Phi_go (n := x.2.2.1.length) h (by omega) h2 h1.2 q
          have ih := pass_Phi (key := key) (t := t) hj d (k + 1) w (x.1, x.2.1.set k m, x.2.2.1, tinc (tinc x.2.2.2.1 (k * 5)) (k * 5 + 1), x.2.2.2.2) (by rw [← hl]; exact List.length_set) h q
          exact Nat.le_trans ih h3
    · rw [pass_out h]
      have e : k = j.length := by omega
      subst e
      refine Phi_out (n := x.2.2.1.length) ?_
      show (radd 96 x.2.2.1 (key, v, t)).length ≤ _
      unfold radd
      split
      · rw [List.length_append, List.length_singleton]; omega
      · omega
theorem setS_setS {x : RX} {k : Nat} {a b : SM} : setS (setS x k a) k b = setS x k b := by
  unfold setS
  dsimp only
  rw [List.set_set]
theorem getS_setS {x : RX} {k : Nat} {a : SM} (h : k < x.2.1.length) : getS (setS x k a) k = a := getD_set_same h
theorem setS_self {x : RX} {k : Nat} (h : k < x.2.1.length) : setS x k (getS x k) = x := by
  unfold setS getS
  rw [set_self h]
theorem noted_setS {x : RX} {k : Nat} {a : SM} : noted k (setS x k a) = setS (noted k x) k a := rfl
theorem pass_setS {j : List St} {key t k : Nat} {m : SM} : ∀ (d i : Nat) (v : Int32) (x : RX), k < i → pass j d i key v t (setS x k m) = setS (pass j d i key v t x) k m
  | 0, i, v, x, _ => rfl
  | d + 1, i, v, x, hi => by
    by_cases h : i < j.length
    · cases hz : isZ (j.getD i (0, 0, 0)) v with
      | true => rw [pass_z h hz, pass_z h hz]; rfl
      | false =>
        have e : (setS x k m).2.1.getD i sm0 = x.2.1.getD i sm0 := getD_set_ne (by omega)
        rcases hs : stepDo (j.getD i (0, 0, 0)) (x.2.1.getD i sm0) key v t with ⟨o, m', late⟩
        have hs' : stepDo (j.getD i (0, 0, 0)) ((setS x k m).2.1.getD i sm0) key v t = (o, m', late) := by rw [e]; exact hs
        have ec : (x.2.1.set k m).set i m' = (x.2.1.set i m').set k m := List.set_comm _ _ (by omega)
        cases o with
        | none =>
          rw [pass_no h hz hs, pass_no h hz hs']
          unfold setS
          dsimp only
          rw [ec]
        | some w =>
          rw [pass_on h hz hs, pass_on h hz hs', ← pass_setS d (i + 1) w _ (by omega)]
          unfold setS
          dsimp only
          rw [ec]
    · rw [pass_out h, pass_out h]; rfl
def eqZ (x y : RX) : Prop := x.1 = y.1 ∧ x.2.2 = y.2.2 ∧ (x.2.2.2.2 = none → x.2.1 = y.2.1)
theorem eqZ_rf (x : RX) : eqZ x x := ⟨rfl, rfl, fun _ => rfl⟩
/-- spans are told one by one, each gone before its row goes on -/
def popS (j : List St) (k w : Nat) : Nat → RX → RX
  | 0, x => x
  | d + 1, x => if x.2.2.2.2 = none ∧ 0 < spUp (nI w) (getS x k).2.2.2.1 then popS j k w d (pass j 7 (k + 1) (mkK ((getS x k).2.2.2.1.getD 0 0)) ((getS x k).2.2.2.2.getD 0 0) (mkE ((getS x k).2.2.2.1.getD 0 0) - 1) (noted k (setS x k (smDrop 1 (getS x k))))) else x
theorem popS_no {j : List St} {k w d : Nat} {x : RX} (h : ¬ (x.2.2.2.2 = none ∧ 0 < spUp (nI w) (getS x k).2.2.2.1)) : popS j k w d x = x := by
  cases d with
  | zero => rfl
  | succ d => rw [popS, if_neg h]
theorem spUp_drop (w : Int32) : ∀ (ms : List Int64) (i : Nat), i ≤ spUp w ms → spUp w (ms.drop i) = spUp w ms - i
  | ms, 0, _ => rfl
  | [], i + 1, h => absurd h (by show ¬ (i + 1 ≤ 0); omega)
  | m :: r, i + 1, h => by
    rw [List.drop_succ_cons]
    have e : spUp w (m :: r) = if (m / 4).toInt32 ≤ w then spUp w r + 1 else 0 := rfl
    rw [e] at h ⊢
    by_cases c : (m / 4).toInt32 ≤ w
    · rw [if_pos c] at h ⊢
      rw [spUp_drop w r i (by omega)]
      omega
    · rw [if_neg c] at h; omega
theorem smDrop_smDrop {a b : Nat} {m : SM} : smDrop b (smDrop a m) = smDrop (a + b) m := by
  unfold smDrop
  dsimp only
  rw [List.drop_drop, List.drop_drop]
theorem getD_drop0 {α : Type} {l : List α} {i : Nat} {d : α} : (l.drop i).getD 0 d = l.getD i d := by
  rw [List.getD_eq_getElem?_getD, List.getD_eq_getElem?_getD, List.getElem?_drop, Nat.add_zero]
theorem popS_span {j : List St} {k w : Nat} {m : SM} : ∀ (d i d' : Nat) (x : RX), k < x.2.1.length → i + d = spUp (nI w) m.2.2.2.1 → d ≤ d' → getS x k = m → eqZ (popS j k w d' (setS x k (smDrop i m))) (setS (spanGo j k m.2.2.2.1 m.2.2.2.2 d i x) k (smDrop (i + d) m))
  | 0, i, d', x, hl, hi, _, hm => by
    rw [popS_no]
    · exact eqZ_rf _
    · intro z
      have z2 := z.2
      rw [getS_setS hl] at z2
      have e : spUp (nI w) (smDrop i m).2.2.2.1 = spUp (nI w) m.2.2.2.1 - i := spUp_drop _ _ _ (by omega)
      omega
  | d + 1, i, d', x, hl, hi, hd, hm => by
    by_cases hz : x.2.2.2.2 = none
    · obtain ⟨e', rfl⟩ : ∃ e', d' = e' + 1 := ⟨d' - 1, by omega⟩
      have e : spUp (nI w) (smDrop i m).2.2.2.1 = spUp (nI w) m.2.2.2.1 - i := spUp_drop _ _ _ (by omega)
      have hc : (setS x k (smDrop i m)).2.2.2.2 = none ∧ 0 < spUp (nI w) (getS (setS x k (smDrop i m)) k).2.2.2.1 := ⟨hz, by rw [getS_setS hl, e]; omega⟩
      rw [popS, if_pos hc, getS_setS hl, setS_setS, smDrop_smDrop, noted_setS, pass_setS _ _ _ _ (Nat.lt_succ_self k), spanGo, if_pos hz]
      have e1 : (smDrop i m).2.2.2.1.getD 0 0 = m.2.2.2.1.getD i 0 := getD_drop0
      have e2 : (smDrop i m).2.2.2.2.getD 0 0 = m.2.2.2.2.getD i 0 := getD_drop0
      rw [e1, e2, show i + (d + 1) = (i + 1) + d by omega]
      exact popS_span d (i + 1) e' _ (by rw [pass_len]; exact hl) (by omega) (by omega) (by unfold getS; rw [pass_keep _ _ _ _ (Nat.lt_succ_self k)]; exact hm)
    · rw [spanGo_z hz, popS_no (x := setS x k (smDrop i m)) (fun z => hz z.1)]
      exact ⟨rfl, rfl, fun z => absurd z hz⟩
theorem smDrop_0 {m : SM} : smDrop 0 m = m := rfl
theorem popS_end {j : List St} {k w d : Nat} {x : RX} (hl : k < x.2.1.length) (hd : spUp (nI w) (getS x k).2.2.2.1 ≤ d) : eqZ (popS j k w d x) (endS j k w x) := by
  have h := popS_span (j := j) (w := w) (m := getS x k) (spUp (nI w) (getS x k).2.2.2.1) 0 d x hl (Nat.zero_add _) hd rfl
  rw [smDrop_0, setS_self hl, Nat.zero_add] at h
  exact h
theorem spanGo_len {j : List St} {k : Nat} {ms : List Int64} {cs : List Int32} : ∀ (d i : Nat) (x : RX), (spanGo j k ms cs d i x).2.1.length = x.2.1.length
  | 0, i, x => rfl
  | d + 1, i, x => by
    rw [spanGo]
    split
    · rw [spanGo_len d, pass_len]; rfl
    · rfl
theorem spanGo_setS {j : List St} {k : Nat} {ms : List Int64} {cs : List Int32} {m : SM} : ∀ (d i : Nat) (x : RX), spanGo j k ms cs d i (setS x k m) = setS (spanGo j k ms cs d i x) k m
  | 0, i, x => rfl
  | d + 1, i, x => by
    rw [spanGo, spanGo]
    by_cases hz : x.2.2.2.2 = none
    · rw [if_pos hz, if_pos (show (setS x k m).2.2.2.2 = none from hz), noted_setS, pass_setS _ _ _ _ (Nat.lt_succ_self k), spanGo_setS d]
    · rw [if_neg hz, if_neg (show ¬ (setS x k m).2.2.2.2 = none from hz)]
theorem ringGo_told {j : List St} {k w u : Nat} : ∀ (d : Nat) (x : RX), k < x.2.1.length → ringGo j k w d (setS x k (smTold u (getS x k))) = setS (ringGo j k w d x) k (smTold u (getS (ringGo j k w d x) k))
  | 0, x, _ => rfl
  | d + 1, x, hl => by
    have e1 : getS (setS x k (smTold u (getS x k))) k = smTold u (getS x k) := getS_setS hl
    cases hq : tmNext (getS x k).2.2.1 (nI w) with
    | none => rw [ringGo_none hq, ringGo_none (by rw [e1]; exact hq)]
    | some q =>
      by_cases hz : x.2.2.2.2 = none
      · have hq' : tmNext (getS (setS x k (smTold u (getS x k))) k).2.2.1 (nI w) = some q := by rw [e1]; exact hq
        rw [ringGo, ringGo, hq, hq']
        dsimp only
        rw [if_pos hz, if_pos (show (setS x k (smTold u (getS x k))).2.2.2.2 = none from hz), e1, setS_setS]
        have e2 : smRung q (smTold u (getS x k)) = smTold u (smRung q (getS x k)) := rfl
        have e3 : ∀ y : RX, k < y.2.1.length → pass j 7 (k + 1) q (nI 0) (nN ((getS x k).2.2.1.getD q 0)) (setS y k (smTold u (getS y k))) = setS (pass j 7 (k + 1) q (nI 0) (nN ((getS x k).2.2.1.getD q 0)) y) k (smTold u (getS (pass j 7 (k + 1) q (nI 0) (nN ((getS x k).2.2.1.getD q 0)) y) k)) := fun y hy => by
          rw [pass_setS _ _ _ _ (Nat.lt_succ_self k)]
          have : getS (pass j 7 (k + 1) q (nI 0) (nN ((getS x k).2.2.1.getD q 0)) y) k = getS y k := pass_keep _ _ _ _ (Nat.lt_succ_self k)
          rw [this]
        have hy : k < (noted k (setS x k (smRung q (getS x k)))).2.1.length := by show k < (x.2.1.set k _).length; rw [List.length_set]; exact hl
        have e4 : noted k (setS x k (smTold u (smRung q (getS x k)))) = setS (noted k (setS x k (smRung q (getS x k)))) k (smTold u (getS (noted k (setS x k (smRung q (getS x k)))) k)) := by
          have : getS (noted k (setS x k (smRung q (getS x k)))) k = smRung q (getS x k) := getS_setS hl
          rw [this, noted_setS, noted_setS, setS_setS]
        rw [e2, show ((smTold u (getS x k)).2.2.1.getD q 0) = (getS x k).2.2.1.getD q 0 from rfl, e4, e3 _ hy]
        exact ringGo_told d _ (by rw [pass_len]; exact hy)
      · obtain ⟨z, hz'⟩ := Option.ne_none_iff_exists'.mp hz
        rw [ringGo_z hz', ringGo_z (show (setS x k (smTold u (getS x k))).2.2.2.2 = some z from hz')]
theorem ringGo_len {j : List St} {k w : Nat} : ∀ (d : Nat) (x : RX), (ringGo j k w d x).2.1.length = x.2.1.length
  | 0, x => rfl
  | d + 1, x => by
    rw [ringGo]
    split
    · rfl
    · split
      · rw [ringGo_len d, pass_len]; exact List.length_set
      · rfl
theorem tellOne_len {j : List St} {k w : Nat} {x : RX} : (tellOne j k w x).2.1.length = x.2.1.length := by
  unfold tellOne endS
  split
  · show (List.set _ _ _).length = _
    rw [List.length_set, spanGo_len]
  · split
    · exact ringGo_len _ _
    · rfl
def toldX (k w : Nat) (x : RX) : RX := setS x k (smTold w (getS x k))
theorem tellOne_told {j : List St} {k w : Nat} {x : RX} (hl : k < x.2.1.length) : setS (tellOne j k w x) k (smTold w (getS (tellOne j k w x) k)) = tellOne j k w (toldX k w x) := by
  unfold tellOne toldX
  by_cases h1 : (j.getD k (0, 0, 0)).1 = 119
  · rw [if_pos h1, if_pos h1]
    unfold endS
    rw [getS_setS (by rw [spanGo_len]; exact hl), setS_setS, getS_setS hl, spanGo_setS, setS_setS]
    rfl
  · rw [if_neg h1, if_neg h1]
    by_cases h2 : (j.getD k (0, 0, 0)).1 = 116
    · rw [if_pos h2, if_pos h2, ringGo_told _ _ hl]
    · rw [if_neg h2, if_neg h2]
theorem PB_eqZ {j : List St} {x y : RX} {n : Nat} (h : eqZ x y) (hz : x.2.2.2.2 = none) (p : PB j x n) : PB j y n := fun k hk => by
  have := p k hk
  rw [h.2.2 hz, h.2.1] at this
  exact this
theorem PB_pop {j : List St} {k w n : Nat} (hj : okJ j) (hk : k < j.length) (hs : (j.getD k (0, 0, 0)).1 = 119) : ∀ (d : Nat) (x : RX), x.2.1.length = j.length → PB j x n → PB j (popS j k w d x) n
  | 0, x, _, p => p
  | d + 1, x, hl, p => by
    rw [popS]
    split
    · rename_i hc
      refine PB_pop hj hk hs d _ (by rw [pass_len, ← hl]; exact List.length_set) (fun q hq => ?_)
      refine Nat.le_trans (pass_Phi hj _ _ _ _ (by rw [← hl]; exact List.length_set) hk q) ?_
      have hlen := spUp_le (nI w) (getS x k).2.2.2.1
      have h1 : pend (j.getD k (0, 0, 0)) (smDrop 1 (getS x k)) + 1 ≤ pend (j.getD k (0, 0, 0)) (getS x k) := by
        unfold pend smDrop
        rw [if_pos hs, if_pos hs]
        dsimp only
        rw [List.length_drop]
        omega
      have h2 : sizM (j.getD k (0, 0, 0)) (smDrop 1 (getS x k)) ≤ sizM (j.getD k (0, 0, 0)) (getS x k) := by
        unfold sizM smDrop
        rw [if_pos (Or.inr hs), if_pos (Or.inr hs)]
        dsimp only
        rw [List.length_drop]
        omega
      have h3 := Phi_pop (n := x.2.2.1.length) hk (show k < x.2.1.length by omega) h1 h2 q
      have h4 := p q hq
      exact Nat.le_trans h3 h4
    · exact p
theorem bd_pop {j : List St} {k n : Nat} {x : RX} {m : SM} {tl : List Int32} (hk : k < j.length) (hl : x.2.1.length = j.length) (h1 : pend (j.getD k (0, 0, 0)) m + 1 ≤ pend (j.getD k (0, 0, 0)) (getS x k)) (h2 : sizM (j.getD k (0, 0, 0)) m ≤ sizM (j.getD k (0, 0, 0)) (getS x k)) (hn : n ≤ 96) (p : PB j x n) : bd j (x.1, x.2.1.set k m, x.2.2.1, tl, x.2.2.2.2) (k + 1) := fun q hq => by
  have h3 := Phi_pop (n := x.2.2.1.length) hk (show k < x.2.1.length by omega) h1 h2 q
  have h4 := p q hq
  show Phi j (x.2.1.set k m) x.2.2.1.length q + Mz j (k + 1) q ≤ 96
  omega
theorem ring_pend {s : St} {m : SM} {q w : Nat} (hs : s.1 = 116) (hm : m.2.2.1.length = 4) (hq : tmNext m.2.2.1 (nI w) = some q) : pend s (smRung q m) + 1 ≤ pend s m ∧ sizM s (smRung q m) ≤ sizM s m := by
  have h4 := tmNext_lt hq
  have hd := tmGo_due 4 0 none (fun q hq => nomatch hq) q hq
  have := setN_down h4 hm hd.1
  unfold pend sizM smRung
  rw [hs]
  simp
  omega
theorem PB_ring {j : List St} {k w n : Nat} (hj : okJ j) (hk : k < j.length) (hs : (j.getD k (0, 0, 0)).1 = 116) (hw : w ≤ 5000) : ∀ (d : Nat) (x : RX), okX j x → PB j x n → PB j (ringGo j k w d x) n
  | 0, x, _, p => p
  | d + 1, x, hx, p => by
    cases hq : tmNext (getS x k).2.2.1 (nI w) with
    | none => rw [ringGo_none hq]; exact p
    | some q =>
      by_cases hz : x.2.2.2.2 = none
      · have hsx := hx.1.2 k hk
        obtain ⟨q4, t, ht, htq⟩ := ring_at (m := getS x k) hsx hs hw hq
        rw [ringGo_s hq hz htq (by omega)]
        have hl := hx.1.1
        refine PB_ring hj hk hs hw d _ (pass_ok hj q4 (by omega) _ _ _ _ (noted_ok (setS_ok hx (smRung_ok hsx q4)))) (fun r hr => ?_)
        refine Nat.le_trans (pass_Phi hj _ _ _ _ (by rw [← hl]; exact List.length_set) hk r) ?_
        have h1 := ring_pend hs hsx.2.1 hq
        have h3 := Phi_pop (n := x.2.2.1.length) hk (show k < x.2.1.length by omega) h1.1 h1.2 r
        have h4 := p r hr
        exact Nat.le_trans h3 h4
      · obtain ⟨z, hz'⟩ := Option.ne_none_iff_exists'.mp hz
        rw [ringGo_z hz']; exact p
theorem PB_told {j : List St} {k w n : Nat} {x : RX} (hk : k < j.length) (hl : x.2.1.length = j.length) (p : PB j x n) : PB j (toldX k w x) n := fun q hq => by
  have e := Phi_same (j := j) (sms := x.2.1) (n := x.2.2.1.length) (i := k) (m := smTold w (getS x k)) (by omega) rfl rfl hk q
  have := p q hq
  show Phi j (x.2.1.set k (smTold w (getS x k))) x.2.2.1.length q ≤ n
  rw [e]
  exact this
theorem toldX_ok {j : List St} {k w : Nat} {x : RX} (h : okX j x) (hk : k < j.length) : okX j (toldX k w x) := setS_ok h (smTold_ok (h.1.2 k hk))
theorem setN_le (ti : List Int32) : setN ti ≤ 4 := by
  unfold setN
  repeat' split
  all_goals omega
/-- one step is told, as the spans are told one by one -/
def tellM (j : List St) (k w : Nat) (x : RX) : RX := if (j.getD k (0, 0, 0)).1 = 119 then popS j k w 97 (toldX k w x) else if (j.getD k (0, 0, 0)).1 = 116 then ringGo j k w 4 (toldX k w x) else toldX k w x
theorem PB_tellM {j : List St} {k w n : Nat} {x : RX} (hj : okJ j) (hk : k < j.length) (hw : w ≤ 5000) (hx : okX j x) (p : PB j x n) : PB j (tellM j k w x) n := by
  have p1 := PB_told (w := w) hk hx.1.1 p
  unfold tellM
  split
  · rename_i c
    exact PB_pop hj hk c _ _ (by rw [← hx.1.1]; exact List.length_set) p1
  · split
    · rename_i c
      exact PB_ring hj hk c hw _ _ (toldX_ok hx hk) p1
    · exact p1
theorem tellM_eqZ {j : List St} {k w n : Nat} {x : RX} (hk : k < j.length) (hl : x.2.1.length = j.length) (hn : n ≤ 96) (p : PB j x n) : eqZ (tellM j k w x) (setS (tellOne j k w x) k (smTold w (getS (tellOne j k w x) k))) := by
  rw [tellOne_told (show k < x.2.1.length by omega)]
  unfold tellM tellOne
  by_cases c : (j.getD k (0, 0, 0)).1 = 119
  · rw [if_pos c, if_pos c]
    have hl2 : k < (toldX k w x).2.1.length := by show k < (x.2.1.set k _).length; rw [List.length_set]; omega
    refine popS_end hl2 ?_
    have e : getS (toldX k w x) k = smTold w (getS x k) := getS_setS (show k < x.2.1.length by omega)
    rw [e]
    have h1 := spUp_le (nI w) (getS x k).2.2.2.1
    have h2 := p k (by omega)
    unfold Phi at h2
    rw [if_pos hk] at h2
    unfold sizM at h2
    rw [if_pos (Or.inr c)] at h2
    have h3 : (getS x k).2.2.2.1.length ≤ 96 := by
      show (x.2.1.getD k sm0).2.2.2.1.length ≤ 96
      omega
    exact Nat.le_trans h1 (Nat.le_trans h3 (by decide))
  · rw [if_neg c, if_neg c]
    exact eqZ_rf _
theorem tellGo_s {j : List St} {w d k : Nat} {x : RX} (hk : k < j.length) (hz : x.2.2.2.2 = none) : tellGo j w (d + 1) k x = tellGo j w d (k + 1) (setS (tellOne j k w x) k (smTold w (getS (tellOne j k w x) k))) := by
  rw [tellGo, if_pos ⟨hk, hz⟩]
theorem tellGo_e {j : List St} {w d k : Nat} {x : RX} (h : ¬ (k < j.length ∧ x.2.2.2.2 = none)) : tellGo j w d k x = x := by
  cases d with
  | zero => rfl
  | succ d => rw [tellGo, if_neg h]
theorem PB_tellGo {j : List St} {w n : Nat} (hj : okJ j) (hw : w ≤ 5000) (hn : n ≤ 96) : ∀ (d k : Nat) (x : RX), okX j x → PB j x n → (tellGo j w d k x).2.2.2.2 = none → PB j (tellGo j w d k x) n
  | 0, k, x, _, p, _ => p
  | d + 1, k, x, hx, p, hz => by
    by_cases c : k < j.length ∧ x.2.2.2.2 = none
    · rw [tellGo_s c.1 c.2] at hz ⊢
      have hy : okX j (setS (tellOne j k w x) k (smTold w (getS (tellOne j k w x) k))) := setS_ok (tellOne_ok hj c.1 hw hx) (smTold_ok ((tellOne_ok hj c.1 hw hx).1.2 k c.1))
      refine PB_tellGo hj hw hn d (k + 1) _ hy ?_ hz
      have he := tellM_eqZ (w := w) c.1 hx.1.1 hn p
      have hz1 : (setS (tellOne j k w x) k (smTold w (getS (tellOne j k w x) k))).2.2.2.2 = none := by
        apply Classical.byContradiction
        intro hne
        rw [tellGo_e (fun z => hne z.2)] at hz
        exact hne hz
      exact PB_eqZ he (by rw [he.2.1]; exact hz1) (PB_tellM hj c.1 hw hx p)
    · rw [tellGo_e c]; exact p
