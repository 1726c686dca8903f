theorem i64_bmod {x : Int} (h : 0 ≤ x) (h2 : x < 2 ^ 62) : x.bmod (2 ^ 64) = x := by
  rw [Int.bmod_eq_of_le (by omega) (by omega)]
theorem mkM_int {k e : Nat} (hk : k < 4) (he : e ≤ 6000) : (mkM k (nI e)).toInt = (e * 4 + k : Nat) := by
  unfold mkM
  rw [Int64.toInt_add, Int64.toInt_mul, Int32.toInt_toInt64, Int32.toInt_toInt64, nI_toInt (by omega), nI_toInt (by omega), show (4 : Int64).toInt = 4 from rfl, i64_bmod (x := e * 4) (by omega) (by omega), i64_bmod (by omega) (by omega)]
  omega
theorem mkM_end {k e : Nat} (hk : k < 4) (he : e ≤ 6000) : (mkM k (nI e) / 4).toInt32 = nI e := by
  apply Int32.toInt_inj.mp
  rw [Int64.toInt_toInt32, Int64.toInt_div, mkM_int hk he, show (4 : Int64).toInt = 4 from rfl, nI_toInt (by omega)]
  rw [show (((e * 4 + k : Nat) : Int).tdiv 4) = e by rw [Int.tdiv_eq_ediv_of_nonneg (by omega)]; omega]
  rw [i64_bmod (by omega) (by omega), Int.bmod_eq_of_le (by omega) (by omega)]
theorem mkM_key {k e : Nat} (hk : k < 4) (he : e ≤ 6000) : (mkM k (nI e) - mkM k (nI e) / 4 * 4).toInt32 = nI k := by
  apply Int32.toInt_inj.mp
  rw [Int64.toInt_toInt32, Int64.toInt_sub, Int64.toInt_mul, Int64.toInt_div, mkM_int hk he, show (4 : Int64).toInt = 4 from rfl, nI_toInt (by omega)]
  rw [show (((e * 4 + k : Nat) : Int).tdiv 4) = e by rw [Int.tdiv_eq_ediv_of_nonneg (by omega)]; omega]
  rw [i64_bmod (x := e) (by omega) (by omega), i64_bmod (x := e * 4) (by omega) (by omega), show (((e * 4 + k : Nat) : Int) - e * 4) = k by omega, i64_bmod (by omega) (by omega), Int.bmod_eq_of_le (by omega) (by omega)]
/-- the key and the end of a mark -/
def mkK (x : Int64) : Nat := (x.toInt % 4).toNat
def mkE (x : Int64) : Nat := (x.toInt / 4).toNat
theorem mkK_mk {k e : Nat} (hk : k < 4) (he : e ≤ 6000) : mkK (mkM k (nI e)) = k := by
  unfold mkK
  rw [mkM_int hk he]
  omega
theorem mkE_mk {k e : Nat} (hk : k < 4) (he : e ≤ 6000) : mkE (mkM k (nI e)) = e := by
  unfold mkE
  rw [mkM_int hk he]
  omega
theorem oI_z {z : Option Nat} (h : oI z = -3) (hb : ∀ q, z = some q → q < 6) : z = none := by
  cases z with
  | none => rfl
  | some k =>
    exfalso
    have hk := hb k rfl
    have h1 : (nI k).toInt = (-3 : Int32).toInt := congrArg Int32.toInt h
    rw [nI_toInt (by omega)] at h1
    have h2 : (-3 : Int32).toInt = -3 := by decide
    omega
def okX (j : List St) (x : RX) : Prop := okM j x.2.1 ∧ x.2.2.2.1.length = 30 ∧ (∀ r ∈ x.2.2.1, rwOk r) ∧ (∀ q, x.2.2.2.2 = some q → q < 6) ∧ x.2.2.1.length ≤ 96
theorem tinc_len (tl : List Int32) (i : Nat) : (tinc tl i).length = tl.length := by unfold tinc; rw [List.length_set]
theorem radd_ok {cap : Nat} {rs : List Row} {r : Row} (h : ∀ x ∈ rs, rwOk x) (hr : rwOk r) : ∀ x ∈ radd cap rs r, rwOk x := by
  intro x hx
  unfold radd at hx
  split at hx
  · rw [List.mem_append, List.mem_singleton] at hx
    rcases hx with z | z
    · exact h x z
    · rw [z]; exact hr
  · exact h x hx
theorem radd_len {cap : Nat} {rs : List Row} {r : Row} (h : rs.length ≤ cap) : (radd cap rs r).length ≤ cap := by
  unfold radd
  split
  · rw [List.length_append, List.length_singleton]; omega
  · exact h
theorem pass_ok {j : List St} {key t : Nat} (hj : okJ j) (hk : key < 4) (ht : t ≤ 5000) : ∀ (d k : Nat) (v : Int32) (x : RX), okX j x → okX j (pass j d k key v t x)
  | 0, _, _, _, h => h
  | d + 1, k, v, x, h => by
    by_cases hl : k < j.length
    · cases hz : isZ (j.getD k (0, 0, 0)) v with
      | true =>
        rw [pass_z hl hz]
        exact ⟨h.1, by dsimp only; rw [tinc_len, tinc_len]; exact h.2.1, h.2.2.1, fun q hq => by have := hj.1; dsimp only at hq; injection hq with hq; omega, h.2.2.2.2⟩
      | false =>
        have hs := stepDo_ok (hj.2 _ (getD_mem (0, 0, 0) hl)) (h.1.2 k hl) hk ht (v := v)
        rcases hsd : stepDo (j.getD k (0, 0, 0)) (x.2.1.getD k sm0) key v t with ⟨o, m, late⟩
        rw [hsd] at hs
        cases o with
        | none =>
          rw [pass_no hl hz hsd]
          exact ⟨okM_set h.1 hs, by dsimp only; split <;> simp only [tinc_len] <;> exact h.2.1, h.2.2.1, h.2.2.2⟩
        | some w =>
          rw [pass_on hl hz hsd]
          exact pass_ok hj hk ht d (k + 1) w _ ⟨okM_set h.1 hs, by dsimp only; rw [tinc_len, tinc_len]; exact h.2.1, h.2.2.1, h.2.2.2⟩
    · rw [pass_out hl]
      exact ⟨h.1, h.2.1, radd_ok h.2.2.1 ⟨hk, by show t < 8192; omega⟩, h.2.2.2.1, radd_len h.2.2.2.2⟩
theorem pass_keep {j : List St} {key t q : Nat} : ∀ (d k : Nat) (v : Int32) (x : RX), q < k → (pass j d k key v t x).2.1.getD q sm0 = x.2.1.getD q sm0
  | 0, _, _, _, _ => rfl
  | d + 1, k, v, x, hq => by
    by_cases hl : k < j.length
    · cases hz : isZ (j.getD k (0, 0, 0)) v with
      | true => rw [pass_z hl hz]
      | false =>
        rcases hsd : stepDo (j.getD k (0, 0, 0)) (x.2.1.getD k sm0) key v t with ⟨o, m, late⟩
        cases o with
        | none => rw [pass_no hl hz hsd]; exact getD_set_ne (by omega)
        | some w =>
          rw [pass_on hl hz hsd, pass_keep d (k + 1) w _ (by omega)]
          exact getD_set_ne (by omega)
    · rw [pass_out hl]
def noted (k : Nat) (x : RX) : RX := (x.1, x.2.1, x.2.2.1, tinc (tinc x.2.2.2.1 (k * 5 + 1)) (k * 5 + 2), x.2.2.2.2)
theorem noted_ok {j : List St} {k : Nat} {x : RX} (h : okX j x) : okX j (noted k x) := ⟨h.1, by unfold noted; dsimp only; rw [tinc_len, tinc_len]; exact h.2.1, h.2.2.1, h.2.2.2⟩
/-- the spans from i on, d of them, are told on -/
def spanGo (j : List St) (k : Nat) (ms : List Int64) (cs : List Int32) : Nat → Nat → RX → RX
  | 0, _, x => x
  | d + 1, i, x => if x.2.2.2.2 = none then spanGo j k ms cs d (i + 1) (pass j 7 (k + 1) (mkK (ms.getD i 0)) (cs.getD i 0) (mkE (ms.getD i 0) - 1) (noted k x)) else x
def setS (x : RX) (k : Nat) (m : SM) : RX := (x.1, x.2.1.set k m, x.2.2.1, x.2.2.2.1, x.2.2.2.2)
def smDrop (n : Nat) (m : SM) : SM := (m.1, m.2.1, m.2.2.1, m.2.2.2.1.drop n, m.2.2.2.2.drop n)
def smTold (w : Nat) (m : SM) : SM := (nI w, m.2.1, m.2.2.1, m.2.2.2.1, m.2.2.2.2)
def smRung (q : Nat) (m : SM) : SM := (m.1, m.2.1, m.2.2.1.set q (-1), m.2.2.2.1, m.2.2.2.2)
def getS (x : RX) (k : Nat) : SM := x.2.1.getD k sm0
def endS (j : List St) (k w : Nat) (x : RX) : RX :=
  setS (spanGo j k (getS x k).2.2.2.1 (getS x k).2.2.2.2 (spUp (nI w) (getS x k).2.2.2.1) 0 x) k (smDrop (spUp (nI w) (getS x k).2.2.2.1) (getS x k))
def ringGo (j : List St) (k w : Nat) : Nat → RX → RX
  | 0, x => x
  | d + 1, x => match tmNext (getS x k).2.2.1 (nI w) with
    | none => x
    | some q => if x.2.2.2.2 = none then ringGo j k w d (pass j 7 (k + 1) q (nI 0) (nN ((getS x k).2.2.1.getD q 0)) (noted k (setS x k (smRung q (getS x k))))) else x
def tellOne (j : List St) (k w : Nat) (x : RX) : RX := if (j.getD k (0, 0, 0)).1 = 119 then endS j k w x else if (j.getD k (0, 0, 0)).1 = 116 then ringGo j k w 4 x else x
def tellGo (j : List St) (w : Nat) : Nat → Nat → RX → RX
  | 0, _, x => x
  | d + 1, k, x => if k < j.length ∧ x.2.2.2.2 = none then tellGo j w d (k + 1) (setS (tellOne j k w x) k (smTold w (getS (tellOne j k w x) k))) else x
theorem setS_ok {j : List St} {x : RX} {k : Nat} {m : SM} (h : okX j x) (hm : okS (j.getD k (0, 0, 0)) m) : okX j (setS x k m) := ⟨okM_set h.1 hm, h.2.1, h.2.2.1, h.2.2.2⟩
theorem smDrop_ok {s : St} {n : Nat} {m : SM} (h : okS s m) : okS s (smDrop n m) := by
  obtain ⟨h1, h2, h3, h4, h5⟩ := h
  refine ⟨h1, h2, fun z => ⟨?_, fun x hx => (h3 z).2 x (List.mem_of_mem_drop hx)⟩, fun z => ?_, h5⟩
  · show (m.2.2.2.2.drop n).length = (m.2.2.2.1.drop n).length
    rw [List.length_drop, List.length_drop, (h3 z).1]
  · show m.2.2.2.2.drop n = []
    rw [h4 z]; exact List.drop_nil
theorem smTold_ok {s : St} {w : Nat} {m : SM} (h : okS s m) : okS s (smTold w m) := h
theorem smRung_ok {s : St} {q : Nat} {m : SM} (h : okS s m) (hq : q < 4) : okS s (smRung q m) := by
  obtain ⟨h1, h2, h3, h4, h5⟩ := h
  refine ⟨h1, by show (m.2.2.1.set q (-1)).length = 4; rw [List.length_set]; exact h2, h3, h4, fun z i hi => ?_⟩
  show (m.2.2.1.set q (-1)).getD i 0 = -1 ∨ _
  by_cases e : q = i
  · subst e
    exact Or.inl (getD_set_same (by omega))
  · have e2 : (smRung q m).2.2.1.getD i 0 = m.2.2.1.getD i 0 := getD_set_ne e
    rw [getD_set_ne e]
    rcases h5 z i hi with a | ⟨t, a, b⟩
    · exact Or.inl a
    · exact Or.inr ⟨t, a, by rw [e2]; exact b⟩
theorem spUp_mem {w : Int32} : ∀ {ms : List Int64} {i : Nat}, i < spUp w ms → ((ms.getD i 0) / 4).toInt32 ≤ w
  | [], i, h => absurd h (Nat.not_lt_zero _)
  | x :: r, 0, h => by
    rw [spUp] at h
    split at h
    · assumption
    · exact absurd h (Nat.not_lt_zero _)
  | x :: r, i + 1, h => by
    rw [spUp] at h
    split at h
    · exact spUp_mem (ms := r) (by omega)
    · exact absurd h (Nat.not_lt_zero _)
/-- a span that ends by w: its key and end -/
theorem span_at {s : St} {m : SM} {w i : Nat} (h : okS s m) (hs : s.1 = 119) (hw : w ≤ 5000) (hi : i < spUp (nI w) m.2.2.2.1) : ∃ k e, k < 4 ∧ 1 ≤ e ∧ e ≤ w ∧ m.2.2.2.1.getD i 0 = mkM k (nI e) := by
  have hl := spUp_le (nI w) m.2.2.2.1
  obtain ⟨e, k, hk, h1, h2, h3⟩ := (h.2.2.1 hs).2 _ (getD_mem 0 (show i < m.2.2.2.1.length by omega))
  have := spUp_mem hi
  rw [h3, mkM_end hk h2] at this
  exact ⟨k, e, hk, h1, cv_le (by omega) (by omega) this, h3⟩
theorem spanGo_ok {j : List St} {k w : Nat} {m : SM} (hj : okJ j) (hm : okS (j.getD k (0, 0, 0)) m) (hs : (j.getD k (0, 0, 0)).1 = 119) (hw : w ≤ 5000) : ∀ (d i : Nat) (x : RX), i + d ≤ spUp (nI w) m.2.2.2.1 → okX j x → okX j (spanGo j k m.2.2.2.1 m.2.2.2.2 d i x)
  | 0, _, _, _, h => h
  | d + 1, i, x, hi, h => by
    rw [spanGo]
    split
    · obtain ⟨q, e, hq, h1, h2, h3⟩ := span_at hm hs hw (show i < spUp (nI w) m.2.2.2.1 by omega)
      exact spanGo_ok hj hm hs hw d (i + 1) _ (by omega) (pass_ok hj (by rw [h3, mkK_mk hq (by omega)]; exact hq) (by rw [h3, mkE_mk hq (by omega)]; omega) _ _ _ _ (noted_ok h))
    · exact h
theorem spanGo_keep {j : List St} {k : Nat} {ms : List Int64} {cs : List Int32} {q : Nat} (hq : q ≤ k) : ∀ (d i : Nat) (x : RX), getS (spanGo j k ms cs d i x) q = getS x q
  | 0, _, _ => rfl
  | d + 1, i, x => by
    rw [spanGo]
    split
    · rw [spanGo_keep hq d (i + 1)]
      exact pass_keep _ _ _ _ (by omega)
    · rfl
theorem spanGo_z {j : List St} {k : Nat} {ms : List Int64} {cs : List Int32} {d i : Nat} {x : RX} (h : x.2.2.2.2 ≠ none) : spanGo j k ms cs d i x = x := by
  cases d with
  | zero => rfl
  | succ d => rw [spanGo, if_neg h]
theorem endS_ok {j : List St} {k w : Nat} {x : RX} (hj : okJ j) (hl : k < j.length) (hs : (j.getD k (0, 0, 0)).1 = 119) (hw : w ≤ 5000) (h : okX j x) : okX j (endS j k w x) :=
  setS_ok (spanGo_ok hj (h.1.2 k hl) hs hw _ 0 x (by unfold getS; omega) h) (smDrop_ok (h.1.2 k hl))
theorem tmGo_due {ti : List Int32} {w : Int32} : ∀ (d k : Nat) (nx : Option Nat), (∀ q, nx = some q → ¬ ti.getD q 0 = -1 ∧ ti.getD q 0 ≤ w) → ∀ q, tmGo ti w d k nx = some q → ¬ ti.getD q 0 = -1 ∧ ti.getD q 0 ≤ w
  | 0, k, nx, h => h
  | d + 1, k, nx, h => by
    rw [tmGo]
    refine tmGo_due d (k + 1) _ (fun q hq => ?_)
    split at hq
    · cases hq
      rename_i hb
      unfold tmBet at hb
      rw [Bool.and_eq_true, Bool.and_eq_true] at hb
      exact ⟨of_decide_eq_true hb.1.1, of_decide_eq_true hb.1.2⟩
    · exact h q hq
theorem ring_at {s : St} {m : SM} {w q : Nat} (h : okS s m) (hs : s.1 = 116) (hw : w ≤ 5000) (hq : tmNext m.2.2.1 (nI w) = some q) : q < 4 ∧ ∃ t, t ≤ w ∧ m.2.2.1.getD q 0 = nI t := by
  have h4 := tmNext_lt hq
  obtain ⟨h1, h2⟩ := tmGo_due 4 0 none (fun q hq => nomatch hq) q hq
  refine ⟨h4, ?_⟩
  rcases h.2.2.2.2 hs q h4 with a | ⟨t, a, b⟩
  · exact absurd a h1
  · rw [b] at h2
    exact ⟨t, cv_le (by omega) (by omega) h2, b⟩
theorem ringGo_ok {j : List St} {k w : Nat} (hj : okJ j) (hl : k < j.length) (hs : (j.getD k (0, 0, 0)).1 = 116) (hw : w ≤ 5000) : ∀ (d : Nat) (x : RX), okX j x → okX j (ringGo j k w d x)
  | 0, _, h => h
  | d + 1, x, h => by
    rw [ringGo]
    split
    · exact h
    · rename_i q hq
      split
      · obtain ⟨h4, t, h5, h6⟩ := ring_at (h.1.2 k hl) hs hw hq
        exact ringGo_ok hj hl hs hw d _ (pass_ok hj h4 (by unfold getS; rw [h6, nN_nI (by omega)]; omega) _ _ _ _ (noted_ok (setS_ok h (smRung_ok (h.1.2 k hl) h4))))
      · exact h
theorem tellOne_ok {j : List St} {k w : Nat} {x : RX} (hj : okJ j) (hl : k < j.length) (hw : w ≤ 5000) (h : okX j x) : okX j (tellOne j k w x) := by
  unfold tellOne
  split
  · exact endS_ok hj hl (by assumption) hw h
  · split
    · exact ringGo_ok hj hl (by assumption) hw _ _ h
    · exact h
theorem tellGo_ok {j : List St} {w : Nat} (hj : okJ j) (hw : w ≤ 5000) : ∀ (d k : Nat) (x : RX), okX j x → okX j (tellGo j w d k x)
  | 0, _, _, h => h
  | d + 1, k, x, h => by
    rw [tellGo]
    split
    · rename_i hc
      have h2 := tellOne_ok hj hc.1 hw h
      exact tellGo_ok hj hw d (k + 1) _ (setS_ok h2 (smTold_ok (h2.1.2 k hc.1)))
    · exact h

theorem cc_Run_passX {h : px_H} {f key t : Nat} {v : Int32} {j : List St} {jb gv : Nat} {la lb : Bool} {dn wo : Int32} {A B W : Int32} {x : RX} {A3 B3 W3 S3 : Int32} {sm3 : List SM} (H0 : h.2.2 177 = some (6, [.ref (jb), .ref (182), .ref (214), .ref (246), .int (nI gv), .int (bI la), .int (bI lb), .int (oI x.2.2.2.2), .int (dn), .int (wo), .ref (248)])) (H1 : h.2.2 182 = some (2, [.int (A), .int (B), .int (W), .int (x.1), .ref (183)])) (H2 : px_rs h 183 55 6 (fun k => 182 + 5 * k + 2)) (H3 : pSt h 182 x.2.1) (H4 : pRows h 246 96 x.2.2.1) (H5 : px_pa h 248 50 30 Value.int x.2.2.2.1) (H6 : pMm h 214 A3 B3 W3 S3 sm3) (H7 : pJob h jb j) (p0 : okJ j) (p1 : okX j x) (p2 : jb + 4 ≤ 177 ∨ 249 ≤ jb) (p3 : key < 4) (p4 : t ≤ 5000) (p5 : f ≤ j.length) (p6 : x.2.2.2.2 = none) : px_wp 56 [.ref (177), .int (nI f), .int (nI key), .int (v), .int (nI t)] h (fun h1 r => r = none ∧ h1.2.2 177 = some (6, [.ref (jb), .ref (182), .ref (214), .ref (246), .int (nI gv), .int (bI la), .int (bI lb), .int (oI ((pass j 7 f key v t x).2.2.2.2)), .int (dn), .int (wo), .ref (248)]) ∧ h1.2.2 182 = some (2, [.int (A), .int (B), .int (W), .int ((pass j 7 f key v t x).1), .ref (183)]) ∧ px_rs h1 183 55 6 (fun k => 182 + 5 * k + 2) ∧ pSt h1 182 ((pass j 7 f key v t x).2.1) ∧ pRows h1 246 96 ((pass j 7 f key v t x).2.2.1) ∧ px_pa h1 248 50 30 Value.int ((pass j 7 f key v t x).2.2.2.1) ∧ pMm h1 214 A3 B3 W3 S3 sm3 ∧ px_fi 177 72 h h1) := by
  obtain ⟨S, sms, outs, tl, z⟩ := x
  dsimp only at p6
  subst p6
  exact cc_Run_pass H0 H1 H2 H3 H4 H5 H6 H7 p0 p1.1 p1.2.1 p2 p3 p4 p5

set_option maxRecDepth 20000 in
set_option maxHeartbeats 4000000 in
theorem ll_Run_endS {h0 : px_H} {k w : Nat} {j : List St} {jb gv : Nat} {la lb : Bool} {dn wo : Int32} {A B W : Int32} {A3 B3 W3 S3 : Int32} {sm3 : List SM} {m : SM} {y : RX} (HJ : pJob h0 jb j) (p0 : okJ j) (p2 : jb + 4 ≤ 177 ∨ 249 ≤ jb) (p3 : k < j.length) (p4 : w ≤ 5000) (p5 : (j.getD k (0, 0, 0)).1 = 119) (hm : okS (j.getD k (0, 0, 0)) m) : ∀ (d : Nat) (i : Nat) (x : RX) (g : px_H), (spUp (nI w) m.2.2.2.1 < i + d) → (spanGo j k m.2.2.2.1 m.2.2.2.2 (spUp (nI w) m.2.2.2.1 - i) i x = y) → (getS x k = m) → (okX j x) → (i ≤ spUp (nI w) m.2.2.2.1) → g.2.2 177 = some (6, [.ref (jb), .ref (182), .ref (214), .ref (246), .int (nI gv), .int (bI la), .int (bI lb), .int (oI x.2.2.2.2), .int (dn), .int (wo), .ref (248)]) → g.2.2 182 = some (2, [.int (A), .int (B), .int (W), .int (x.1), .ref (183)]) → px_rs g 183 55 6 (fun k => 182 + 5 * k + 2) → pSt g 182 x.2.1 → pRows g 246 96 x.2.2.1 → px_pa g 248 50 30 Value.int x.2.2.2.1 → pMm g 214 A3 B3 W3 S3 sm3 → px_fi 177 72 h0 g → px_to 53 20 [some (.ref (177)), some (.int (nI k)), some (.int (nI w)), some (.ref (182 + 5 * k + 2)), some (.int (nI (spUp (nI w) m.2.2.2.1))), some (.int (nI i))] [] g (fun h1 r => r = none ∧ h1.2.2 177 = some (6, [.ref (jb), .ref (182), .ref (214), .ref (246), .int (nI gv), .int (bI la), .int (bI lb), .int (oI ((setS y k (smDrop (spUp (nI w) m.2.2.2.1) m)).2.2.2.2)), .int (dn), .int (wo), .ref (248)]) ∧ h1.2.2 182 = some (2, [.int (A), .int (B), .int (W), .int ((setS y k (smDrop (spUp (nI w) m.2.2.2.1) m)).1), .ref (183)]) ∧ px_rs h1 183 55 6 (fun k => 182 + 5 * k + 2) ∧ pSt h1 182 ((setS y k (smDrop (spUp (nI w) m.2.2.2.1) m)).2.1) ∧ pRows h1 246 96 ((setS y k (smDrop (spUp (nI w) m.2.2.2.1) m)).2.2.1) ∧ px_pa h1 248 50 30 Value.int ((setS y k (smDrop (spUp (nI w) m.2.2.2.1) m)).2.2.2.1) ∧ pMm h1 214 A3 B3 W3 S3 sm3 ∧ px_fi 177 72 h0 h1) := by
  intro d
  induction d using Nat.strongRecOn with
  | ind d ih =>
    intro i x g q0 q1 q2 q3 q4 G0 G1 G2 G3 G4 G5 G6 frg
    have okx := q3
    have lj := p0.1
    have hl96 : m.2.2.2.1.length ≤ 96 := by have e : x.2.1.getD k sm0 = m := q2; have z := pa_len (pSt_get (k := k) G3 (by omega) (by have := q3.1.1; omega)).1.2.2.2.1; rw [e] at z; exact z
    have hsu := spUp_le (nI w) m.2.2.2.1
    refine e_iload f_53_20 rfl rfl ?_
    refine e_iload f_53_22 rfl rfl ?_
    refine e_icmp_ge f_53_24 rfl (fun c_24 => ?_) (fun c_24 => ?_)
    · skip
      have c_24 : spUp (nI w) m.2.2.2.1 ≤ i := cv_le (by omega) (by omega) c_24
      have ey : x = y := by
        rw [show spUp (nI w) m.2.2.2.1 - i = 0 by omega, spanGo] at q1
        exact q1
      subst ey
      have hlm := spUp_le (nI w) m.2.2.2.1
      have hlc := (hm.2.2.1 p5).1
      obtain ⟨g1, g2⟩ := pSt_get (k := k) G3 (by have := p0.1; omega) (by have := okx.1.1; omega)
      have g3 : pSM g (182 + 5 * k + 2) (m.1, m.2.1, m.2.2.1, m.2.2.2.1, m.2.2.2.2) := by have e : x.2.1.getD k sm0 = m := q2; rw [e] at g1; exact g1
      refine e_aload_n f_53_74 rfl rfl ?_
      refine e_iload f_53_75 rfl rfl ?_
      refine e_callV (As := [.int (nI (spUp (nI w) m.2.2.2.1))]) (rest := []) f_53_77 rfl rfl rfl (Nat.le_of_ble_eq_true rfl) (Nat.le_of_ble_eq_true rfl) g3.1 rfl (Nat.le_of_ble_eq_true rfl) (cc_SM_drop (gn := spUp (nI w) m.2.2.2.1) (a := 182 + 5 * k + 2) (to := m.1) (su := m.2.1) (ti := m.2.2.1) (ms := m.2.2.2.1) (cs := m.2.2.2.2) g3 (by omega) (by omega) (by omega)) rfl (fun h4 r5 q6 => ?_)
      obtain ⟨rfl, g7, fx8⟩ := q6
      have fr9 : px_fi 177 72 h0 h4 := fi_tr frg fx8 (by omega)
      show px_to 53 80 [some (.ref (177)), some (.int (nI k)), some (.int (nI w)), some (.ref (182 + 5 * k + 2)), some (.int (nI (spUp (nI w) m.2.2.2.1))), some (.int (nI i))] [] h4 _
      refine e_vret f_53_80 rfl ?_
      have g10 : pStx h4 182 x.2.1 k := pStx_fi g2 fx8 (by omega)
      have g11 : pSt h4 182 (x.2.1.set k (smDrop (spUp (nI w) m.2.2.2.1) m)) := pSt_in g10 g7
      have g12 : h4.2.2 177 = some (6, [.ref (jb), .ref (182), .ref (214), .ref (246), .int (nI gv), .int (bI la), .int (bI lb), .int (oI x.2.2.2.2), .int (dn), .int (wo), .ref (248)]) := fi_at G0 fx8 (by omega)
      have g13 : h4.2.2 182 = some (2, [.int (A), .int (B), .int (W), .int (x.1), .ref (183)]) := fi_at G1 fx8 (by omega)
      have g14 : px_rs h4 183 55 6 (fun k => 182 + 5 * k + 2) := rs_fi G2 fx8 (by omega)
      have g15 : pRows h4 246 96 x.2.2.1 := pRows_fi G4 fx8 (by omega)
      have g16 : px_pa h4 248 50 30 Value.int x.2.2.2.1 := pa_fi G5 fx8 (by omega)
      have g17 : pMm h4 214 A3 B3 W3 S3 sm3 := pMm_fi G6 fx8 (by omega)
      exact ⟨rfl, g12, g13, g14, g11, g15, g16, g17, fr9⟩
    · skip
      have c_24 : i < spUp (nI w) m.2.2.2.1 := cv_nle (by omega) (by omega) c_24
      refine e_aload_n f_53_27 rfl rfl ?_
      refine e_getf f_53_28 G0 rfl rfl ?_
      refine e_bipush (v := (-3)) f_53_31 (by decide) rfl ?_
      refine e_icmp_ne f_53_33 rfl (fun c_33 => ?_) (fun c_33 => ?_)
      · skip
        obtain ⟨zq, hz⟩ := oI_ne c_33
        have ey : x = y := by
          rw [spanGo_z (by rw [hz]; exact fun z => nomatch z)] at q1
          exact q1
        subst ey
        have hlm := spUp_le (nI w) m.2.2.2.1
        have hlc := (hm.2.2.1 p5).1
        obtain ⟨g18, g19⟩ := pSt_get (k := k) G3 (by have := p0.1; omega) (by have := okx.1.1; omega)
        have g20 : pSM g (182 + 5 * k + 2) (m.1, m.2.1, m.2.2.1, m.2.2.2.1, m.2.2.2.2) := by have e : x.2.1.getD k sm0 = m := q2; rw [e] at g18; exact g18
        refine e_aload_n f_53_74 rfl rfl ?_
        refine e_iload f_53_75 rfl rfl ?_
        refine e_callV (As := [.int (nI (spUp (nI w) m.2.2.2.1))]) (rest := []) f_53_77 rfl rfl rfl (Nat.le_of_ble_eq_true rfl) (Nat.le_of_ble_eq_true rfl) g20.1 rfl (Nat.le_of_ble_eq_true rfl) (cc_SM_drop (gn := spUp (nI w) m.2.2.2.1) (a := 182 + 5 * k + 2) (to := m.1) (su := m.2.1) (ti := m.2.2.1) (ms := m.2.2.2.1) (cs := m.2.2.2.2) g20 (by omega) (by omega) (by omega)) rfl (fun h21 r22 q23 => ?_)
        obtain ⟨rfl, g24, fx25⟩ := q23
        have fr26 : px_fi 177 72 h0 h21 := fi_tr frg fx25 (by omega)
        show px_to 53 80 [some (.ref (177)), some (.int (nI k)), some (.int (nI w)), some (.ref (182 + 5 * k + 2)), some (.int (nI (spUp (nI w) m.2.2.2.1))), some (.int (nI i))] [] h21 _
        refine e_vret f_53_80 rfl ?_
        have g27 : pStx h21 182 x.2.1 k := pStx_fi g19 fx25 (by omega)
        have g28 : pSt h21 182 (x.2.1.set k (smDrop (spUp (nI w) m.2.2.2.1) m)) := pSt_in g27 g24
        have g29 : h21.2.2 177 = some (6, [.ref (jb), .ref (182), .ref (214), .ref (246), .int (nI gv), .int (bI la), .int (bI lb), .int (oI x.2.2.2.2), .int (dn), .int (wo), .ref (248)]) := fi_at G0 fx25 (by omega)
        have g30 : h21.2.2 182 = some (2, [.int (A), .int (B), .int (W), .int (x.1), .ref (183)]) := fi_at G1 fx25 (by omega)
        have g31 : px_rs h21 183 55 6 (fun k => 182 + 5 * k + 2) := rs_fi G2 fx25 (by omega)
        have g32 : pRows h21 246 96 x.2.2.1 := pRows_fi G4 fx25 (by omega)
        have g33 : px_pa h21 248 50 30 Value.int x.2.2.2.1 := pa_fi G5 fx25 (by omega)
        have g34 : pMm h21 214 A3 B3 W3 S3 sm3 := pMm_fi G6 fx25 (by omega)
        exact ⟨rfl, g29, g30, g31, g28, g32, g33, g34, fr26⟩
      · skip
        have hz : x.2.2.2.2 = none := oI_z (Classical.not_not.mp c_33) okx.2.2.2.1
        refine e_aload_n f_53_36 rfl rfl ?_
        refine e_iload_n f_53_37 rfl rfl ?_
        refine e_callV (As := [.int (nI k)]) (rest := []) f_53_38 rfl rfl rfl (Nat.le_of_ble_eq_true rfl) (Nat.le_of_ble_eq_true rfl) G0 rfl (Nat.le_of_ble_eq_true rfl) (cc_Run_note (k := k) (tl := x.2.2.2.1) (jb := jb) (gv := gv) (la := la) (lb := lb) (z := x.2.2.2.2) (dn := dn) (wo := wo) G0 G5 (by omega) (okx.2.1)) rfl (fun h35 r36 q37 => ?_)
        obtain ⟨rfl, g38, fx39⟩ := q37
        have fr40 : px_fi 177 72 h0 h35 := fi_tr frg fx39 (by omega)
        show px_to 53 41 [some (.ref (177)), some (.int (nI k)), some (.int (nI w)), some (.ref (182 + 5 * k + 2)), some (.int (nI (spUp (nI w) m.2.2.2.1))), some (.int (nI i))] [] h35 _
        obtain ⟨qk, en, hqk, he1, he2, he3⟩ := span_at hm p5 p4 (show i < spUp (nI w) m.2.2.2.1 by omega)
        have hlm := spUp_le (nI w) m.2.2.2.1
        have hlc := (hm.2.2.1 p5).1
        have g41 : pSt h35 182 x.2.1 := pSt_fi G3 fx39 (by omega)
        obtain ⟨g42, g43⟩ := pSt_get (k := k) g41 (by have := p0.1; omega) (by have := okx.1.1; omega)
        have g44 : pSM h35 (182 + 5 * k + 2) (m.1, m.2.1, m.2.2.1, m.2.2.2.1, m.2.2.2.2) := by have e : x.2.1.getD k sm0 = m := q2; rw [e] at g42; exact g42
        refine e_aload_n f_53_41 rfl rfl ?_
        refine e_iload_n f_53_42 rfl rfl ?_
        refine e_iconst (v := nI 1) f_53_43 (by decide) rfl ?_
        refine e_iadd (z := nI (k + 1)) f_53_44 (nI_add _ _) rfl ?_
        refine e_aload_n f_53_45 rfl rfl ?_
        refine e_iload f_53_46 rfl rfl ?_
        refine e_callV (As := [.int (nI i)]) (rest := [.int (nI (k + 1)), .ref (177)]) f_53_48 rfl rfl rfl (Nat.le_of_ble_eq_true rfl) (Nat.le_of_ble_eq_true rfl) g44.1 rfl (Nat.le_of_ble_eq_true rfl) (cc_SM_keyAt (i := i) (a := 182 + 5 * k + 2) (to := m.1) (su := m.2.1) (ti := m.2.2.1) (ms := m.2.2.2.1) (cs := m.2.2.2.2) g44 (by omega)) rfl (fun h45 r46 q47 => ?_)
        obtain ⟨rfl, qe⟩ := q47
        have qe := qe.symm
        subst qe
        show px_to 53 51 [some (.ref (177)), some (.int (nI k)), some (.int (nI w)), some (.ref (182 + 5 * k + 2)), some (.int (nI (spUp (nI w) m.2.2.2.1))), some (.int (nI i))] [.int (((m.2.2.2.1.getD i 0) - (m.2.2.2.1.getD i 0) / 4 * 4).toInt32), .int (nI (k + 1)), .ref (177)] h35 _
        refine e_aload_n f_53_51 rfl rfl ?_
        refine e_iload f_53_52 rfl rfl ?_
        refine e_callV (As := [.int (nI i)]) (rest := [.int (((m.2.2.2.1.getD i 0) - (m.2.2.2.1.getD i 0) / 4 * 4).toInt32), .int (nI (k + 1)), .ref (177)]) f_53_54 rfl rfl rfl (Nat.le_of_ble_eq_true rfl) (Nat.le_of_ble_eq_true rfl) g44.1 rfl (Nat.le_of_ble_eq_true rfl) (cc_SM_countAt (i := i) (a := 182 + 5 * k + 2) (to := m.1) (su := m.2.1) (ti := m.2.2.1) (ms := m.2.2.2.1) (cs := m.2.2.2.2) g44 (by omega) (by omega)) rfl (fun h48 r49 q50 => ?_)
        obtain ⟨rfl, qe⟩ := q50
        have qe := qe.symm
        subst qe
        show px_to 53 57 [some (.ref (177)), some (.int (nI k)), some (.int (nI w)), some (.ref (182 + 5 * k + 2)), some (.int (nI (spUp (nI w) m.2.2.2.1))), some (.int (nI i))] [.int (m.2.2.2.2.getD i 0), .int (((m.2.2.2.1.getD i 0) - (m.2.2.2.1.getD i 0) / 4 * 4).toInt32), .int (nI (k + 1)), .ref (177)] h35 _
        refine e_aload_n f_53_57 rfl rfl ?_
        refine e_iload f_53_58 rfl rfl ?_
        refine e_callV (As := [.int (nI i)]) (rest := [.int (m.2.2.2.2.getD i 0), .int (((m.2.2.2.1.getD i 0) - (m.2.2.2.1.getD i 0) / 4 * 4).toInt32), .int (nI (k + 1)), .ref (177)]) f_53_60 rfl rfl rfl (Nat.le_of_ble_eq_true rfl) (Nat.le_of_ble_eq_true rfl) g44.1 rfl (Nat.le_of_ble_eq_true rfl) (cc_SM_endAt (i := i) (a := 182 + 5 * k + 2) (to := m.1) (su := m.2.1) (ti := m.2.2.1) (ms := m.2.2.2.1) (cs := m.2.2.2.2) g44 (by omega)) rfl (fun h51 r52 q53 => ?_)
        obtain ⟨rfl, qe⟩ := q53
        have qe := qe.symm
        subst qe
        show px_to 53 63 [some (.ref (177)), some (.int (nI k)), some (.int (nI w)), some (.ref (182 + 5 * k + 2)), some (.int (nI (spUp (nI w) m.2.2.2.1))), some (.int (nI i))] [.int (((m.2.2.2.1.getD i 0) / 4).toInt32), .int (m.2.2.2.2.getD i 0), .int (((m.2.2.2.1.getD i 0) - (m.2.2.2.1.getD i 0) / 4 * 4).toInt32), .int (nI (k + 1)), .ref (177)] h35 _
        rw [he3, mkM_end hqk (by omega), mkM_key hqk (by omega)]
        refine e_iconst (v := nI 1) f_53_63 (by decide) rfl ?_
        refine e_isub (z := nI (en - 1)) f_53_64 (pk_sub (by omega)) rfl ?_
        have g54 : pSt h35 182 (x.2.1.set k m) := pSt_in g43 g44
        have g55 : pSt h35 182 x.2.1 := pSt_eq g54 (by have e : x.2.1.getD k sm0 = m := q2; rw [← e]; exact set_self (by have := okx.1.1; omega))
        have g56 : h35.2.2 177 = some (6, [.ref (jb), .ref (182), .ref (214), .ref (246), .int (nI gv), .int (bI la), .int (bI lb), .int (oI x.2.2.2.2), .int (dn), .int (wo), .ref (248)]) := fi_at G0 fx39 (by omega)
        have g57 : h35.2.2 182 = some (2, [.int (A), .int (B), .int (W), .int (x.1), .ref (183)]) := fi_at G1 fx39 (by omega)
        have g58 : px_rs h35 183 55 6 (fun k => 182 + 5 * k + 2) := rs_fi G2 fx39 (by omega)
        have g59 : pRows h35 246 96 x.2.2.1 := pRows_fi G4 fx39 (by omega)
        have g60 : pMm h35 214 A3 B3 W3 S3 sm3 := pMm_fi G6 fx39 (by omega)
        have g61 : pJob h35 jb j := pJob_fi HJ fr40 (by omega)
        refine e_callV (As := [.int (nI (k + 1)), .int (nI qk), .int (m.2.2.2.2.getD i 0), .int (nI (en - 1))]) (rest := []) f_53_65 rfl rfl rfl (Nat.le_of_ble_eq_true rfl) (Nat.le_of_ble_eq_true rfl) g56 rfl (Nat.le_of_ble_eq_true rfl) (cc_Run_passX (f := k + 1) (key := qk) (v := m.2.2.2.2.getD i 0) (t := en - 1) (j := j) (jb := jb) (gv := gv) (la := la) (lb := lb) (dn := dn) (wo := wo) (A := A) (B := B) (W := W) (x := noted k x) (A3 := A3) (B3 := B3) (W3 := W3) (S3 := S3) (sm3 := sm3) g56 g57 g58 g55 g59 g38 g60 g61 (by omega) (noted_ok okx) (by omega) (by omega) (by omega) (by omega) (hz)) rfl (fun h62 r63 q64 => ?_)
        obtain ⟨rfl, g65, g66, g67, g68, g69, g70, g71, fx72⟩ := q64
        have fr73 : px_fi 177 72 h0 h62 := fi_tr fr40 fx72 (by omega)
        show px_to 53 68 [some (.ref (177)), some (.int (nI k)), some (.int (nI w)), some (.ref (182 + 5 * k + 2)), some (.int (nI (spUp (nI w) m.2.2.2.1))), some (.int (nI i))] [] h62 _
        refine e_iinc (y := nI (i + 1)) (L' := [some (.ref (177)), some (.int (nI k)), some (.int (nI w)), some (.ref (182 + 5 * k + 2)), some (.int (nI (spUp (nI w) m.2.2.2.1))), some (.int (nI (i + 1)))]) f_53_68 rfl (by rw [show Int32.ofInt 1 = nI 1 by decide]; exact (nI_add _ _)) rfl rfl ?_
        refine e_goto f_53_71 ?_
        obtain ⟨d, rfl⟩ : ∃ y, d = y + 1 := ⟨d - 1, by omega⟩
        first | (exfalso; omega) | exact ih (d) (by omega) (i + 1) (pass j 7 (k + 1) qk (m.2.2.2.2.getD i 0) (en - 1) (noted k x)) h62 (by omega) (by rw [show spUp (nI w) m.2.2.2.1 - i = (spUp (nI w) m.2.2.2.1 - (i + 1)) + 1 by omega, spanGo, if_pos hz, he3, mkK_mk hqk (by omega), mkE_mk hqk (by omega)] at q1; exact q1) ((pass_keep 7 (k + 1) _ _ (by omega)).trans q2) (pass_ok p0 hqk (by omega) 7 (k + 1) _ _ (noted_ok okx)) (by omega) g65 g66 g67 g68 g69 g70 g71 fr73

set_option maxRecDepth 20000 in
set_option maxHeartbeats 4000000 in
theorem cc_Run_endS {h : px_H} {k w : Nat} {j : List St} {jb gv : Nat} {la lb : Bool} {dn wo : Int32} {A B W : Int32} {x : RX} {A3 B3 W3 S3 : Int32} {sm3 : List SM} (H0 : h.2.2 177 = some (6, [.ref (jb), .ref (182), .ref (214), .ref (246), .int (nI gv), .int (bI la), .int (bI lb), .int (oI x.2.2.2.2), .int (dn), .int (wo), .ref (248)])) (H1 : h.2.2 182 = some (2, [.int (A), .int (B), .int (W), .int (x.1), .ref (183)])) (H2 : px_rs h 183 55 6 (fun k => 182 + 5 * k + 2)) (H3 : pSt h 182 x.2.1) (H4 : pRows h 246 96 x.2.2.1) (H5 : px_pa h 248 50 30 Value.int x.2.2.2.1) (H6 : pMm h 214 A3 B3 W3 S3 sm3) (H7 : pJob h jb j) (p0 : okJ j) (p1 : okX j x) (p2 : jb + 4 ≤ 177 ∨ 249 ≤ jb) (p3 : k < j.length) (p4 : w ≤ 5000) (p5 : (j.getD k (0, 0, 0)).1 = 119) : px_wp 53 [.ref (177), .int (nI k), .int (nI w)] h (fun h1 r => r = none ∧ h1.2.2 177 = some (6, [.ref (jb), .ref (182), .ref (214), .ref (246), .int (nI gv), .int (bI la), .int (bI lb), .int (oI ((endS j k w x).2.2.2.2)), .int (dn), .int (wo), .ref (248)]) ∧ h1.2.2 182 = some (2, [.int (A), .int (B), .int (W), .int ((endS j k w x).1), .ref (183)]) ∧ px_rs h1 183 55 6 (fun k => 182 + 5 * k + 2) ∧ pSt h1 182 ((endS j k w x).2.1) ∧ pRows h1 246 96 ((endS j k w x).2.2.1) ∧ px_pa h1 248 50 30 Value.int ((endS j k w x).2.2.2.1) ∧ pMm h1 214 A3 B3 W3 S3 sm3 ∧ px_fi 177 72 h h1) := by
  have fr0 : px_fi 177 72 h h := fi_rf _ _ _
  have okx := p1
  have lj := p0.1
  show px_to 53 0 [some (.ref (177)), some (.int (nI k)), some (.int (nI w)), none, none, none] [] h _
  refine e_aload_n f_53_0 rfl rfl ?_
  refine e_getf f_53_1 H0 rfl rfl ?_
  refine e_getf f_53_4 H1 rfl rfl ?_
  refine e_iload_n f_53_7 rfl rfl ?_
  refine e_aaload_r f_53_8 (by decide) H2 (by first | omega | (simp only [List.length_set]; omega)) (by decide) rfl ?_
  show px_to 53 9 [some (.ref (177)), some (.int (nI k)), some (.int (nI w)), none, none, none] [.ref (182 + 5 * k + 2)] h _
  refine e_astore_n (L' := [some (.ref (177)), some (.int (nI k)), some (.int (nI w)), some (.ref (182 + 5 * k + 2)), none, none]) f_53_9 (Nat.le_of_ble_eq_true rfl) rfl rfl ?_
  refine e_aload_n f_53_10 rfl rfl ?_
  refine e_iload_n f_53_11 rfl rfl ?_
  have g1 : pSM h (182 + 5 * k + 2) ((getS x k).1, (getS x k).2.1, (getS x k).2.2.1, (getS x k).2.2.2.1, (getS x k).2.2.2.2) := (pSt_get (k := k) H3 (by have := p0.1; omega) (by have := okx.1.1; omega)).1
  refine e_callV (As := [.int (nI w)]) (rest := []) f_53_12 rfl rfl rfl (Nat.le_of_ble_eq_true rfl) (Nat.le_of_ble_eq_true rfl) g1.1 rfl (Nat.le_of_ble_eq_true rfl) (cc_SM_spansUpTo (w := nI w) (a := 182 + 5 * k + 2) (to := (getS x k).1) (su := (getS x k).2.1) (ti := (getS x k).2.2.1) (ms := (getS x k).2.2.2.1) (cs := (getS x k).2.2.2.2) g1 ) rfl (fun h2 r3 q4 => ?_)
  obtain ⟨rfl, qe⟩ := q4
  have qe := qe.symm
  subst qe
  show px_to 53 15 [some (.ref (177)), some (.int (nI k)), some (.int (nI w)), some (.ref (182 + 5 * k + 2)), none, none] [.int (nI (spUp (nI w) ((getS x k).2.2.2.1)))] h _
  refine e_istore (L' := [some (.ref (177)), some (.int (nI k)), some (.int (nI w)), some (.ref (182 + 5 * k + 2)), some (.int (nI (spUp (nI w) ((getS x k).2.2.2.1)))), none]) f_53_15 (Nat.le_of_ble_eq_true rfl) rfl rfl ?_
  refine e_iconst (v := nI 0) f_53_17 (by decide) rfl ?_
  refine e_istore (L' := [some (.ref (177)), some (.int (nI k)), some (.int (nI w)), some (.ref (182 + 5 * k + 2)), some (.int (nI (spUp (nI w) ((getS x k).2.2.2.1)))), some (.int (nI 0))]) f_53_18 (Nat.le_of_ble_eq_true rfl) rfl rfl ?_
  exact ll_Run_endS (h0 := h) H7 p0 p2 p3 p4 p5 (p1.1.2 k p3) (spUp (nI w) (getS x k).2.2.2.1 + 1) 0 x h (by unfold getS; omega) rfl rfl p1 (Nat.zero_le _) H0 H1 H2 H3 H4 H5 H6 fr0
