def px_fj (a n b m : Nat) (h h1 : px_H) : Prop := px_fr (fun q => (a ≤ q ∧ q < a + n) ∨ (b ≤ q ∧ q < b + m)) h h1
theorem fj_rf (a n b m : Nat) (h : px_H) : px_fj a n b m h h := px_fr_rf _ _
theorem fj_tr {a n b m lo k : Nat} {h h1 h2 : px_H} (x : px_fj a n b m h h1) (y : px_fi lo k h1 h2) (z : (a ≤ lo ∧ lo + k ≤ a + n) ∨ (b ≤ lo ∧ lo + k ≤ b + m)) : px_fj a n b m h h2 := px_fr_tr x y (fun q w => by
  rcases z with z | z
  · exact Or.inl ⟨by have := w.1; omega, by have := w.2; omega⟩
  · exact Or.inr ⟨by have := w.1; omega, by have := w.2; omega⟩)
theorem fj_mid {a n b m : Nat} {h h1 : px_H} (x : px_fj a n b m h h1) : ∃ hm, px_fi a n h hm ∧ px_fi b m hm h1 := by
  refine ⟨(h.1, h.2.1, fun q => if a ≤ q ∧ q < a + n then h1.2.2 q else h.2.2 q), ⟨rfl, rfl, fun q hq => if_neg hq⟩, ⟨x.1, x.2.1, fun q hq => ?_⟩⟩
  show h1.2.2 q = if a ≤ q ∧ q < a + n then h1.2.2 q else h.2.2 q
  by_cases c : a ≤ q ∧ q < a + n
  · rw [if_pos c]
  · rw [if_neg c]; exact x.2.2 q (fun w => w.elim c hq)
def pRd (h : px_H) (tx : List Nat) (p : Nat) : Prop := ∃ n, h.2.2 175 = some (4, [.ref 18, .int (nI tx.length), .int n, .int (nI p)])
theorem pRd_fi {h h1 : px_H} {tx : List Nat} {p lo n : Nat} (q : pRd h tx p) (f : px_fi lo n h h1) (d : 176 ≤ lo ∨ lo + n ≤ 175) : pRd h1 tx p := by
  obtain ⟨k, hk⟩ := q
  exact ⟨k, fi_at hk f (by omega)⟩
def actsOf (s : Nat) : List Nat := if s = 102 then [60, 61, 62] else [43, 45, 42, 47]
theorem ixf_neg : ∀ {l : List Nat} {c i : Nat}, i + l.length < 1000 → (ixf l c i < nI 0 ↔ c ∉ l)
  | [], c, i, _ => ⟨fun _ h => (nomatch h), fun _ => (by show (-1 : Int32) < nI 0; decide)⟩
  | b :: r, c, i, h => by
    rw [List.length_cons] at h
    rw [ixf]
    by_cases e : b = c
    · rw [if_pos e]
      exact ⟨fun z => absurd z (nI_pos (by omega)), fun z => absurd (by rw [e]; exact List.mem_cons_self) z⟩
    · rw [if_neg e, ixf_neg (by omega)]
      exact ⟨fun z w => (List.mem_cons.mp w).elim (fun q => e q.symm) z, fun z w => z (List.mem_cons_of_mem _ w)⟩
theorem ix_in {l : List Nat} {c : Nat} (hl : l.length < 1000) (h : 0 ≤ ixf l c 0) : c ∈ l := Classical.not_not.mp (fun z => Int32.not_le.mpr ((ixf_neg (by omega)).mpr z) h)
theorem ix_out {l : List Nat} {c : Nat} (hl : l.length < 1000) (h : ¬ 0 ≤ ixf l c 0) : c ∉ l := (ixf_neg (by omega)).mp (Int32.not_le.mp h)
/-- a step that begins with s, its sign read: did it go well, the place, the step -/
def rdStep (tx : List Nat) (s p : Nat) : Bool × Nat × St :=
  if s = 102 ∨ s = 109 then
    (if sgn tx p ∈ actsOf s then ((rdI tx (skp tx p + 1)).1, (rdI tx (skp tx p + 1)).2.2, (s, sgn tx p, (rdI tx (skp tx p + 1)).2.1)) else (false, skp tx p, (s, 0, 0)))
  else if s = 119 ∨ s = 116 then ((rdT tx p).1 && decide (0 < (rdT tx p).2.1), (rdT tx p).2.2, (s, 0, nI (rdT tx p).2.1))
  else if s = 100 ∨ s = 115 then (true, p, (s, 0, nI 0))
  else ((rdI tx p).1, (rdI tx p).2.2, (s, 0, (rdI tx p).2.1))
def stepSigns : List Nat := [102, 109, 113, 100, 115, 119, 116]
def rdSteps (tx : List Nat) : Nat → Nat → Nat → List St → Bool × Nat × List St
  | 0, _, p, j => (true, p, j)
  | f + 1, tm, p, j => if sgn tx p ∉ stepSigns ∨ (sgn tx p = 116 ∧ tm = 2) then (true, skp tx p, j)
    else if (rdStep tx (sgn tx p) (skp tx p + 1)).1 = true then rdSteps tx f (if sgn tx p = 116 then tm + 1 else tm) (rdStep tx (sgn tx p) (skp tx p + 1)).2.1 (j ++ [(rdStep tx (sgn tx p) (skp tx p + 1)).2.2])
    else (false, (rdStep tx (sgn tx p) (skp tx p + 1)).2.1, j)
theorem sgn_next {tx : List Nat} {p : Nat} {l : List Nat} (h : sgn tx p ∈ l) (h0 : 0 ∉ l) : skp tx p + 1 ≤ tx.length := sgn_in (fun e => h0 (e ▸ h))
theorem rdStep_le {tx : List Nat} {s p : Nat} (h : p ≤ tx.length) : (rdStep tx s p).2.1 ≤ tx.length := by
  unfold rdStep
  split
  · split
    · exact rdI_le (sgn_next (by assumption) (by unfold actsOf; split <;> decide))
    · exact skp_le h
  · split
    · exact rdT_le h
    · split
      · exact h
      · exact rdI_le h
theorem rdSteps_le {tx : List Nat} : ∀ (f tm p : Nat) (j : List St), p ≤ tx.length → (rdSteps tx f tm p j).2.1 ≤ tx.length
  | 0, _, _, _, h => h
  | f + 1, tm, p, j, h => by
    rw [rdSteps]
    split
    · exact skp_le h
    · rename_i c
      have h1 : skp tx p + 1 ≤ tx.length := sgn_next (l := stepSigns) (Classical.not_not.mp (fun z => c (Or.inl z))) (by decide)
      split
      · exact rdSteps_le f _ _ _ (rdStep_le h1)
      · exact rdStep_le h1
theorem rdStep_ok {tx : List Nat} {s p : Nat} (hs : s ∈ stepSigns) (ht : okTx tx) (h : (rdStep tx s p).1 = true) : okSt (rdStep tx s p).2.2 := by
  have hs2 : s = 102 ∨ s = 109 ∨ s = 113 ∨ s = 100 ∨ s = 115 ∨ s = 119 ∨ s = 116 := by simpa [stepSigns] using hs
  unfold rdStep at h ⊢
  split
  · rename_i c
    rw [if_pos c] at h
    split
    · exact ⟨hs2, by have := tx_lt ht (skp tx p); show sgn tx p < 65536; unfold sgn; omega, fun z => by dsimp only at z; omega⟩
    · rename_i c2
      rw [if_neg c2] at h
      exact absurd h Bool.false_ne_true
  · rename_i c
    rw [if_neg c] at h
    split
    · rename_i c2
      rw [if_pos c2] at h
      simp at h
      exact ⟨hs2, by show 0 < 65536; decide, fun _ => ⟨_, h.2, by have := rdT_b (tx := tx) (p := p); omega, rfl⟩⟩
    · rename_i c2
      rw [if_neg c2] at h
      split
      · exact ⟨hs2, by show 0 < 65536; decide, fun z => by dsimp only at z; omega⟩
      · exact ⟨hs2, by show 0 < 65536; decide, fun z => by dsimp only at z; omega⟩
theorem rdSteps_ok {tx : List Nat} (ht : okTx tx) : ∀ (f tm p : Nat) (j : List St), j.length + f ≤ 6 → okJ j → okJ (rdSteps tx f tm p j).2.2
  | 0, _, _, _, _, h => h
  | f + 1, tm, p, j, hl, h => by
    rw [rdSteps]
    split
    · exact h
    · rename_i c
      split
      · refine rdSteps_ok ht f _ _ _ (by rw [List.length_append, List.length_singleton]; omega) ⟨by rw [List.length_append, List.length_singleton]; omega, fun s hs => ?_⟩
        rw [List.mem_append, List.mem_singleton] at hs
        rcases hs with z | z
        · exact h.2 s z
        · rw [z]; exact rdStep_ok (Classical.not_not.mp (fun z => c (Or.inl z))) ht (by assumption)
      · exact h

set_option maxRecDepth 20000 in
set_option maxHeartbeats 4000000 in
theorem cc_Rd_step {h : px_H} {s b : Nat} {j : List St} {tx : List Nat} {p : Nat} (H0 : pRd h tx p) (H1 : pJob h b j) (H2 : px_pa h 18 52 500 vN tx) (H3 : pStr h 4 ([60, 61, 62])) (H4 : pStr h 5 ([43, 45, 42, 47])) (p0 : p ≤ tx.length) (p1 : okTx tx) (p2 : s ∈ stepSigns) (p3 : j.length < 6) (p4 : 17 ≤ b) (p5 : 18 < b ∧ (b + 4 ≤ 175 ∨ 176 ≤ b)) : px_wp 29 [.ref (175), .ref (b), .int (nI s)] h (fun h1 r => r = some (.int (bI ((rdStep tx s p).1))) ∧ pRd h1 tx ((rdStep tx s p).2.1) ∧ pJob h1 b (if (rdStep tx s p).1 = true then j ++ [(rdStep tx s p).2.2] else j) ∧ px_fj b 4 175 1 h h1) := by
  have fr0 : px_fj b 4 175 1 h h := fj_rf _ _ _ _ _
  have le := pa_len H2
  have hsl : sgn tx p < 127 := tx_lt p1 _
  have hsk := skp_le p0
  have hs2 : s = 102 ∨ s = 109 ∨ s = 113 ∨ s = 100 ∨ s = 115 ∨ s = 119 ∨ s = 116 := by simpa [stepSigns] using p2
  have htb := rdT_b (tx := tx) (p := p)
  show px_to 29 0 [some (.ref (175)), some (.ref (b)), some (.int (nI s)), none, none] [] h _
  refine e_iconst (v := nI 0) f_29_0 (by decide) rfl ?_
  refine e_istore_n (L' := [some (.ref (175)), some (.ref (b)), some (.int (nI s)), some (.int (nI 0)), none]) f_29_1 (Nat.le_of_ble_eq_true rfl) rfl rfl ?_
  refine e_iload_n f_29_2 rfl rfl ?_
  refine e_bipush (v := nI 102) f_29_3 (by decide) rfl ?_
  refine e_icmp_eq f_29_5 rfl (fun c_5 => ?_) (fun c_5 => ?_)
  · skip
    have c_5 : s = 102 := cv_eq (by omega) (by omega) c_5
    refine e_aload_n f_29_14 rfl rfl ?_
    obtain ⟨n1, g2⟩ := H0
    refine e_callV (As := []) (rest := []) f_29_15 rfl rfl rfl (Nat.le_of_ble_eq_true rfl) (Nat.le_of_ble_eq_true rfl) g2 rfl (Nat.le_of_ble_eq_true rfl) (cc_Rd_next (tx := tx) (p := p) (n := n1) g2 H2 (by omega) (p1)) rfl (fun h3 r4 q5 => ?_)
    obtain ⟨rfl, g6, fx7⟩ := q5
    have fr8 : px_fj b 4 175 1 h h3 := fj_tr fr0 fx7 (by omega)
    show px_to 29 18 [some (.ref (175)), some (.ref (b)), some (.int (nI s)), some (.int (nI 0)), none] [.int (nI (sgn tx p))] h3 _
    refine e_istore_n (L' := [some (.ref (175)), some (.ref (b)), some (.int (nI s)), some (.int (nI (sgn tx p))), none]) f_29_18 (Nat.le_of_ble_eq_true rfl) rfl rfl ?_
    refine e_iload_n f_29_19 rfl rfl ?_
    refine e_bipush (v := nI 102) f_29_20 (by decide) rfl ?_
    refine e_icmp_ne f_29_22 rfl (fun c_22 => ?_) (fun c_22 => ?_)
    · skip
      have c_22 : s ≠ 102 := cv_ne c_22
      refine e_ldc f_29_30 rfl ?_
      refine e_astore (L' := [some (.ref (175)), some (.ref (b)), some (.int (nI s)), some (.int (nI (sgn tx p))), some (.ref (5))]) f_29_32 (Nat.le_of_ble_eq_true rfl) rfl rfl ?_
      refine e_aload f_29_34 rfl rfl ?_
      refine e_iload_n f_29_36 rfl rfl ?_
      obtain ⟨hm10, fa11, fb12⟩ := fj_mid fr8
      have g9 : pStr h3 5 ([43, 45, 42, 47]) := pStr_fi (pStr_fi H4 fa11 (by omega)) fb12 (by omega)
      refine e_callV (As := [.int (nI (sgn tx p))]) (rest := []) f_29_37 rfl rfl rfl (Nat.le_of_ble_eq_true rfl) (Nat.le_of_ble_eq_true rfl) g9.1 rfl (Nat.le_of_ble_eq_true rfl) (cc_Str_ix (c := sgn tx p) (k := 5) (bs := [43, 45, 42, 47]) g9 (by omega) (by decide) (by decide)) rfl (fun h13 r14 q15 => ?_)
      obtain ⟨rfl, qe⟩ := q15
      have qe := qe.symm
      subst qe
      show px_to 29 40 [some (.ref (175)), some (.ref (b)), some (.int (nI s)), some (.int (nI (sgn tx p))), some (.ref (5))] [.int (ixf ([43, 45, 42, 47]) (sgn tx p) 0)] h3 _
      refine e_if_ge f_29_40 rfl (fun c_40 => ?_) (fun c_40 => ?_)
      · skip
        have hin : sgn tx p ∈ [43, 45, 42, 47] := ix_in (by decide) c_40
        have hsl2 : skp tx p + 1 ≤ tx.length := sgn_next hin (by decide)
        refine e_aload_n f_29_45 rfl rfl ?_
        refine e_dup f_29_46 rfl rfl ?_
        refine e_getf f_29_47 g6 rfl rfl ?_
        refine e_iconst (v := nI 1) f_29_50 (by decide) rfl ?_
        refine e_iadd (z := nI (skp tx p + 1)) f_29_51 (nI_add _ _) rfl ?_
        refine e_putp (vs' := [.ref (18), .int (nI tx.length), .int (n1), .int (nI (skp tx p + 1))]) f_29_52 g6 (Nat.le_of_ble_eq_true rfl) (rfl) (rfl) rfl rfl (fun h16 g17 fx18 => ?_)
        have fr19 : px_fj b 4 175 1 h h16 := fj_tr fr8 fx18 (by omega)
        refine e_aload_n f_29_55 rfl rfl ?_
        refine e_iconst (v := nI 0) f_29_56 (by decide) rfl ?_
        refine e_putp (vs' := [.ref (18), .int (nI tx.length), .int (nI 0), .int (nI (skp tx p + 1))]) f_29_57 g17 (Nat.le_of_ble_eq_true rfl) (rfl) (rfl) rfl rfl (fun h20 g21 fx22 => ?_)
        have fr23 : px_fj b 4 175 1 h h20 := fj_tr fr19 fx22 (by omega)
        refine e_iconst (v := nI 1) f_29_60 (by decide) rfl ?_
        refine e_istore (L' := [some (.ref (175)), some (.ref (b)), some (.int (nI s)), some (.int (nI (sgn tx p))), some (.int (nI 1))]) f_29_61 (Nat.le_of_ble_eq_true rfl) rfl rfl ?_
        refine e_iload_n f_29_63 rfl rfl ?_
        refine e_bipush (v := nI 119) f_29_64 (by decide) rfl ?_
        refine e_icmp_eq f_29_66 rfl (fun c_66 => ?_) (fun c_66 => ?_)
        · skip
          have c_66 : s = 119 := cv_eq (by omega) (by omega) c_66
          exfalso; omega
        · skip
          have c_66 : s ≠ 119 := cv_ne c_66
          refine e_iload_n f_29_69 rfl rfl ?_
          refine e_bipush (v := nI 116) f_29_70 (by decide) rfl ?_
          refine e_icmp_ne f_29_72 rfl (fun c_72 => ?_) (fun c_72 => ?_)
          · skip
            have c_72 : s ≠ 116 := cv_ne c_72
            refine e_iload_n f_29_99 rfl rfl ?_
            refine e_bipush (v := nI 100) f_29_100 (by decide) rfl ?_
            refine e_icmp_eq f_29_102 rfl (fun c_102 => ?_) (fun c_102 => ?_)
            · skip
              have c_102 : s = 100 := cv_eq (by omega) (by omega) c_102
              exfalso; omega
            · skip
              have c_102 : s ≠ 100 := cv_ne c_102
              refine e_iload_n f_29_105 rfl rfl ?_
              refine e_bipush (v := nI 115) f_29_106 (by decide) rfl ?_
              refine e_icmp_eq f_29_108 rfl (fun c_108 => ?_) (fun c_108 => ?_)
              · skip
                have c_108 : s = 115 := cv_eq (by omega) (by omega) c_108
                exfalso; omega
              · skip
                have c_108 : s ≠ 115 := cv_ne c_108
                refine e_aload_n f_29_111 rfl rfl ?_
                obtain ⟨hm25, fa26, fb27⟩ := fj_mid fr23
                have g24 : px_pa h20 18 52 500 vN tx := pa_fi (pa_fi H2 fa26 (by omega)) fb27 (by omega)
                refine e_callV (As := []) (rest := []) f_29_112 rfl rfl rfl (Nat.le_of_ble_eq_true rfl) (Nat.le_of_ble_eq_true rfl) g21 rfl (Nat.le_of_ble_eq_true rfl) (cc_Rd_int (tx := tx) (p := skp tx p + 1) (n := nI 0) g21 g24 (by first | exact hsl2 | exact p0) (p1)) rfl (fun h28 r29 q30 => ?_)
                obtain ⟨rfl, g31, fx32⟩ := q30
                have fr33 : px_fj b 4 175 1 h h28 := fj_tr fr23 fx32 (by omega)
                show px_to 29 115 [some (.ref (175)), some (.ref (b)), some (.int (nI s)), some (.int (nI (sgn tx p))), some (.int (nI 1))] [.int (bI ((rdI tx (skp tx p + 1)).1))] h28 _
                refine e_istore (L' := [some (.ref (175)), some (.ref (b)), some (.int (nI s)), some (.int (nI (sgn tx p))), some (.int (bI ((rdI tx (skp tx p + 1)).1)))]) f_29_115 (Nat.le_of_ble_eq_true rfl) rfl rfl ?_
                refine e_iload f_29_117 rfl rfl ?_
                refine e_if_eq f_29_119 rfl (fun c_119 => ?_) (fun c_119 => ?_)
                · skip
                  have c_119 : ((rdI tx (skp tx p + 1)).1) = false := bI_f c_119
                  refine e_iload f_29_132 rfl rfl ?_
                  refine e_iret f_29_134 rfl (nw_bI _) ?_
                  have g34 : pJob h3 b j := pJob_fi H1 fx7 (by omega)
                  have g35 : pJob h16 b j := pJob_fi g34 fx18 (by omega)
                  have g36 : pJob h20 b j := pJob_fi g35 fx22 (by omega)
                  have g37 : pJob h28 b j := pJob_fi g36 fx32 (by omega)
                  have hfm : s = 102 ∨ s = 109 := by omega
                  have hac : actsOf s = [43, 45, 42, 47] := by unfold actsOf; rw [if_neg c_22]
                  have er : rdStep tx s p = ((rdI tx (skp tx p + 1)).1, (rdI tx (skp tx p + 1)).2.2, (s, sgn tx p, (rdI tx (skp tx p + 1)).2.1)) := by unfold rdStep; rw [if_pos hfm, hac, if_pos hin]
                  have g38 : pRd h28 tx ((rdI tx (skp tx p + 1)).2.2) := ⟨_, g31⟩
                  rw [er]
                  dsimp only
                  rw [if_neg (by rw [c_119]; decide)]
                  exact ⟨by rw [c_119], g38, g37, fr33⟩
                · skip
                  have c_119 : ((rdI tx (skp tx p + 1)).1) = true := bI_t' c_119
                  refine e_aload_n f_29_122 rfl rfl ?_
                  refine e_iload_n f_29_123 rfl rfl ?_
                  refine e_iload_n f_29_124 rfl rfl ?_
                  refine e_aload_n f_29_125 rfl rfl ?_
                  refine e_getf f_29_126 g31 rfl rfl ?_
                  have g39 : pJob h3 b j := pJob_fi H1 fx7 (by omega)
                  have g40 : pJob h16 b j := pJob_fi g39 fx18 (by omega)
                  have g41 : pJob h20 b j := pJob_fi g40 fx22 (by omega)
                  have g42 : pJob h28 b j := pJob_fi g41 fx32 (by omega)
                  refine e_callV (As := [.int (nI s), .int (nI (sgn tx p)), .int ((rdI tx (skp tx p + 1)).2.1)]) (rest := []) f_29_129 rfl rfl rfl (Nat.le_of_ble_eq_true rfl) (Nat.le_of_ble_eq_true rfl) g42.1 rfl (Nat.le_of_ble_eq_true rfl) (cc_Job_addStep (a := b) (s := s) (ac := sgn tx p) (nu := (rdI tx (skp tx p + 1)).2.1) (j := j) g42 (by omega) (by omega)) rfl (fun h43 r44 q45 => ?_)
                  obtain ⟨rfl, g46, fx47⟩ := q45
                  have fr48 : px_fj b 4 175 1 h h43 := fj_tr fr33 fx47 (by omega)
                  show px_to 29 132 [some (.ref (175)), some (.ref (b)), some (.int (nI s)), some (.int (nI (sgn tx p))), some (.int (bI ((rdI tx (skp tx p + 1)).1)))] [] h43 _
                  refine e_iload f_29_132 rfl rfl ?_
                  refine e_iret f_29_134 rfl (nw_bI _) ?_
                  have hfm : s = 102 ∨ s = 109 := by omega
                  have hac : actsOf s = [43, 45, 42, 47] := by unfold actsOf; rw [if_neg c_22]
                  have er : rdStep tx s p = ((rdI tx (skp tx p + 1)).1, (rdI tx (skp tx p + 1)).2.2, (s, sgn tx p, (rdI tx (skp tx p + 1)).2.1)) := by unfold rdStep; rw [if_pos hfm, hac, if_pos hin]
                  have g49 : h43.2.2 175 = some (4, [.ref (18), .int (nI tx.length), .int ((rdI tx (skp tx p + 1)).2.1), .int (nI ((rdI tx (skp tx p + 1)).2.2))]) := fi_at g31 fx47 (by omega)
                  have g50 : pRd h43 tx ((rdI tx (skp tx p + 1)).2.2) := ⟨_, g49⟩
                  rw [er]
                  dsimp only
                  rw [if_pos c_119]
                  exact ⟨by rw [c_119], g50, g46, fr48⟩
          · skip
            have c_72 : s = 116 := cv_nne (by omega) (by omega) c_72
            exfalso; omega
      · skip
        have hin : sgn tx p ∉ [43, 45, 42, 47] := ix_out (by decide) c_40
        refine e_iconst (v := nI 0) f_29_43 (by decide) rfl ?_
        refine e_iret f_29_44 rfl (rfl) ?_
        have g51 : pJob h3 b j := pJob_fi H1 fx7 (by omega)
        have hfm : s = 102 ∨ s = 109 := by omega
        have hac : actsOf s = [43, 45, 42, 47] := by unfold actsOf; rw [if_neg c_22]
        have er : rdStep tx s p = (false, skp tx p, (s, 0, 0)) := by unfold rdStep; rw [if_pos hfm, hac, if_neg hin]
        have g52 : pRd h3 tx (skp tx p) := ⟨_, g6⟩
        rw [er]
        exact ⟨rfl, g52, g51, fr8⟩
    · skip
      have c_22 : s = 102 := cv_nne (by omega) (by omega) c_22
      refine e_ldc f_29_25 rfl ?_
      refine e_goto f_29_27 ?_
      refine e_astore (L' := [some (.ref (175)), some (.ref (b)), some (.int (nI s)), some (.int (nI (sgn tx p))), some (.ref (4))]) f_29_32 (Nat.le_of_ble_eq_true rfl) rfl rfl ?_
      refine e_aload f_29_34 rfl rfl ?_
      refine e_iload_n f_29_36 rfl rfl ?_
      obtain ⟨hm54, fa55, fb56⟩ := fj_mid fr8
      have g53 : pStr h3 4 ([60, 61, 62]) := pStr_fi (pStr_fi H3 fa55 (by omega)) fb56 (by omega)
      refine e_callV (As := [.int (nI (sgn tx p))]) (rest := []) f_29_37 rfl rfl rfl (Nat.le_of_ble_eq_true rfl) (Nat.le_of_ble_eq_true rfl) g53.1 rfl (Nat.le_of_ble_eq_true rfl) (cc_Str_ix (c := sgn tx p) (k := 4) (bs := [60, 61, 62]) g53 (by omega) (by decide) (by decide)) rfl (fun h57 r58 q59 => ?_)
      obtain ⟨rfl, qe⟩ := q59
      have qe := qe.symm
      subst qe
      show px_to 29 40 [some (.ref (175)), some (.ref (b)), some (.int (nI s)), some (.int (nI (sgn tx p))), some (.ref (4))] [.int (ixf ([60, 61, 62]) (sgn tx p) 0)] h3 _
      refine e_if_ge f_29_40 rfl (fun c_40 => ?_) (fun c_40 => ?_)
      · skip
        have hin : sgn tx p ∈ [60, 61, 62] := ix_in (by decide) c_40
        have hsl2 : skp tx p + 1 ≤ tx.length := sgn_next hin (by decide)
        refine e_aload_n f_29_45 rfl rfl ?_
        refine e_dup f_29_46 rfl rfl ?_
        refine e_getf f_29_47 g6 rfl rfl ?_
        refine e_iconst (v := nI 1) f_29_50 (by decide) rfl ?_
        refine e_iadd (z := nI (skp tx p + 1)) f_29_51 (nI_add _ _) rfl ?_
        refine e_putp (vs' := [.ref (18), .int (nI tx.length), .int (n1), .int (nI (skp tx p + 1))]) f_29_52 g6 (Nat.le_of_ble_eq_true rfl) (rfl) (rfl) rfl rfl (fun h60 g61 fx62 => ?_)
        have fr63 : px_fj b 4 175 1 h h60 := fj_tr fr8 fx62 (by omega)
        refine e_aload_n f_29_55 rfl rfl ?_
        refine e_iconst (v := nI 0) f_29_56 (by decide) rfl ?_
        refine e_putp (vs' := [.ref (18), .int (nI tx.length), .int (nI 0), .int (nI (skp tx p + 1))]) f_29_57 g61 (Nat.le_of_ble_eq_true rfl) (rfl) (rfl) rfl rfl (fun h64 g65 fx66 => ?_)
        have fr67 : px_fj b 4 175 1 h h64 := fj_tr fr63 fx66 (by omega)
        refine e_iconst (v := nI 1) f_29_60 (by decide) rfl ?_
        refine e_istore (L' := [some (.ref (175)), some (.ref (b)), some (.int (nI s)), some (.int (nI (sgn tx p))), some (.int (nI 1))]) f_29_61 (Nat.le_of_ble_eq_true rfl) rfl rfl ?_
        refine e_iload_n f_29_63 rfl rfl ?_
        refine e_bipush (v := nI 119) f_29_64 (by decide) rfl ?_
        refine e_icmp_eq f_29_66 rfl (fun c_66 => ?_) (fun c_66 => ?_)
        · skip
          have c_66 : s = 119 := cv_eq (by omega) (by omega) c_66
          exfalso; omega
        · skip
          have c_66 : s ≠ 119 := cv_ne c_66
          refine e_iload_n f_29_69 rfl rfl ?_
          refine e_bipush (v := nI 116) f_29_70 (by decide) rfl ?_
          refine e_icmp_ne f_29_72 rfl (fun c_72 => ?_) (fun c_72 => ?_)
          · skip
            have c_72 : s ≠ 116 := cv_ne c_72
            refine e_iload_n f_29_99 rfl rfl ?_
            refine e_bipush (v := nI 100) f_29_100 (by decide) rfl ?_
            refine e_icmp_eq f_29_102 rfl (fun c_102 => ?_) (fun c_102 => ?_)
            · skip
              have c_102 : s = 100 := cv_eq (by omega) (by omega) c_102
              exfalso; omega
            · skip
              have c_102 : s ≠ 100 := cv_ne c_102
              refine e_iload_n f_29_105 rfl rfl ?_
              refine e_bipush (v := nI 115) f_29_106 (by decide) rfl ?_
              refine e_icmp_eq f_29_108 rfl (fun c_108 => ?_) (fun c_108 => ?_)
              · skip
                have c_108 : s = 115 := cv_eq (by omega) (by omega) c_108
                exfalso; omega
              · skip
                have c_108 : s ≠ 115 := cv_ne c_108
                refine e_aload_n f_29_111 rfl rfl ?_
                obtain ⟨hm69, fa70, fb71⟩ := fj_mid fr67
                have g68 : px_pa h64 18 52 500 vN tx := pa_fi (pa_fi H2 fa70 (by omega)) fb71 (by omega)
                refine e_callV (As := []) (rest := []) f_29_112 rfl rfl rfl (Nat.le_of_ble_eq_true rfl) (Nat.le_of_ble_eq_true rfl) g65 rfl (Nat.le_of_ble_eq_true rfl) (cc_Rd_int (tx := tx) (p := skp tx p + 1) (n := nI 0) g65 g68 (by first | exact hsl2 | exact p0) (p1)) rfl (fun h72 r73 q74 => ?_)
                obtain ⟨rfl, g75, fx76⟩ := q74
                have fr77 : px_fj b 4 175 1 h h72 := fj_tr fr67 fx76 (by omega)
                show px_to 29 115 [some (.ref (175)), some (.ref (b)), some (.int (nI s)), some (.int (nI (sgn tx p))), some (.int (nI 1))] [.int (bI ((rdI tx (skp tx p + 1)).1))] h72 _
                refine e_istore (L' := [some (.ref (175)), some (.ref (b)), some (.int (nI s)), some (.int (nI (sgn tx p))), some (.int (bI ((rdI tx (skp tx p + 1)).1)))]) f_29_115 (Nat.le_of_ble_eq_true rfl) rfl rfl ?_
                refine e_iload f_29_117 rfl rfl ?_
                refine e_if_eq f_29_119 rfl (fun c_119 => ?_) (fun c_119 => ?_)
                · skip
                  have c_119 : ((rdI tx (skp tx p + 1)).1) = false := bI_f c_119
                  refine e_iload f_29_132 rfl rfl ?_
                  refine e_iret f_29_134 rfl (nw_bI _) ?_
                  have g78 : pJob h3 b j := pJob_fi H1 fx7 (by omega)
                  have g79 : pJob h60 b j := pJob_fi g78 fx62 (by omega)
                  have g80 : pJob h64 b j := pJob_fi g79 fx66 (by omega)
                  have g81 : pJob h72 b j := pJob_fi g80 fx76 (by omega)
                  have hfm : s = 102 ∨ s = 109 := by omega
                  have hac : actsOf s = [60, 61, 62] := by unfold actsOf; rw [if_pos c_22]
                  have er : rdStep tx s p = ((rdI tx (skp tx p + 1)).1, (rdI tx (skp tx p + 1)).2.2, (s, sgn tx p, (rdI tx (skp tx p + 1)).2.1)) := by unfold rdStep; rw [if_pos hfm, hac, if_pos hin]
                  have g82 : pRd h72 tx ((rdI tx (skp tx p + 1)).2.2) := ⟨_, g75⟩
                  rw [er]
                  dsimp only
                  rw [if_neg (by rw [c_119]; decide)]
                  exact ⟨by rw [c_119], g82, g81, fr77⟩
                · skip
                  have c_119 : ((rdI tx (skp tx p + 1)).1) = true := bI_t' c_119
                  refine e_aload_n f_29_122 rfl rfl ?_
                  refine e_iload_n f_29_123 rfl rfl ?_
                  refine e_iload_n f_29_124 rfl rfl ?_
                  refine e_aload_n f_29_125 rfl rfl ?_
                  refine e_getf f_29_126 g75 rfl rfl ?_
                  have g83 : pJob h3 b j := pJob_fi H1 fx7 (by omega)
                  have g84 : pJob h60 b j := pJob_fi g83 fx62 (by omega)
                  have g85 : pJob h64 b j := pJob_fi g84 fx66 (by omega)
                  have g86 : pJob h72 b j := pJob_fi g85 fx76 (by omega)
                  refine e_callV (As := [.int (nI s), .int (nI (sgn tx p)), .int ((rdI tx (skp tx p + 1)).2.1)]) (rest := []) f_29_129 rfl rfl rfl (Nat.le_of_ble_eq_true rfl) (Nat.le_of_ble_eq_true rfl) g86.1 rfl (Nat.le_of_ble_eq_true rfl) (cc_Job_addStep (a := b) (s := s) (ac := sgn tx p) (nu := (rdI tx (skp tx p + 1)).2.1) (j := j) g86 (by omega) (by omega)) rfl (fun h87 r88 q89 => ?_)
                  obtain ⟨rfl, g90, fx91⟩ := q89
                  have fr92 : px_fj b 4 175 1 h h87 := fj_tr fr77 fx91 (by omega)
                  show px_to 29 132 [some (.ref (175)), some (.ref (b)), some (.int (nI s)), some (.int (nI (sgn tx p))), some (.int (bI ((rdI tx (skp tx p + 1)).1)))] [] h87 _
                  refine e_iload f_29_132 rfl rfl ?_
                  refine e_iret f_29_134 rfl (nw_bI _) ?_
                  have hfm : s = 102 ∨ s = 109 := by omega
                  have hac : actsOf s = [60, 61, 62] := by unfold actsOf; rw [if_pos c_22]
                  have er : rdStep tx s p = ((rdI tx (skp tx p + 1)).1, (rdI tx (skp tx p + 1)).2.2, (s, sgn tx p, (rdI tx (skp tx p + 1)).2.1)) := by unfold rdStep; rw [if_pos hfm, hac, if_pos hin]
                  have g93 : h87.2.2 175 = some (4, [.ref (18), .int (nI tx.length), .int ((rdI tx (skp tx p + 1)).2.1), .int (nI ((rdI tx (skp tx p + 1)).2.2))]) := fi_at g75 fx91 (by omega)
                  have g94 : pRd h87 tx ((rdI tx (skp tx p + 1)).2.2) := ⟨_, g93⟩
                  rw [er]
                  dsimp only
                  rw [if_pos c_119]
                  exact ⟨by rw [c_119], g94, g90, fr92⟩
          · skip
            have c_72 : s = 116 := cv_nne (by omega) (by omega) c_72
            exfalso; omega
      · skip
        have hin : sgn tx p ∉ [60, 61, 62] := ix_out (by decide) c_40
        refine e_iconst (v := nI 0) f_29_43 (by decide) rfl ?_
        refine e_iret f_29_44 rfl (rfl) ?_
        have g95 : pJob h3 b j := pJob_fi H1 fx7 (by omega)
        have hfm : s = 102 ∨ s = 109 := by omega
        have hac : actsOf s = [60, 61, 62] := by unfold actsOf; rw [if_pos c_22]
        have er : rdStep tx s p = (false, skp tx p, (s, 0, 0)) := by unfold rdStep; rw [if_pos hfm, hac, if_neg hin]
        have g96 : pRd h3 tx (skp tx p) := ⟨_, g6⟩
        rw [er]
        exact ⟨rfl, g96, g95, fr8⟩
  · skip
    have c_5 : s ≠ 102 := cv_ne c_5
    refine e_iload_n f_29_8 rfl rfl ?_
    refine e_bipush (v := nI 109) f_29_9 (by decide) rfl ?_
    refine e_icmp_ne f_29_11 rfl (fun c_11 => ?_) (fun c_11 => ?_)
    · skip
      have c_11 : s ≠ 109 := cv_ne c_11
      refine e_aload_n f_29_55 rfl rfl ?_
      refine e_iconst (v := nI 0) f_29_56 (by decide) rfl ?_
      obtain ⟨n97, g98⟩ := H0
      refine e_putp (vs' := [.ref (18), .int (nI tx.length), .int (nI 0), .int (nI p)]) f_29_57 g98 (Nat.le_of_ble_eq_true rfl) (rfl) (rfl) rfl rfl (fun h99 g100 fx101 => ?_)
      have fr102 : px_fj b 4 175 1 h h99 := fj_tr fr0 fx101 (by omega)
      refine e_iconst (v := nI 1) f_29_60 (by decide) rfl ?_
      refine e_istore (L' := [some (.ref (175)), some (.ref (b)), some (.int (nI s)), some (.int (nI 0)), some (.int (nI 1))]) f_29_61 (Nat.le_of_ble_eq_true rfl) rfl rfl ?_
      refine e_iload_n f_29_63 rfl rfl ?_
      refine e_bipush (v := nI 119) f_29_64 (by decide) rfl ?_
      refine e_icmp_eq f_29_66 rfl (fun c_66 => ?_) (fun c_66 => ?_)
      · skip
        have c_66 : s = 119 := cv_eq (by omega) (by omega) c_66
        refine e_aload_n f_29_75 rfl rfl ?_
        obtain ⟨hm104, fa105, fb106⟩ := fj_mid fr102
        have g103 : px_pa h99 18 52 500 vN tx := pa_fi (pa_fi H2 fa105 (by omega)) fb106 (by omega)
        refine e_callV (As := []) (rest := []) f_29_76 rfl rfl rfl (Nat.le_of_ble_eq_true rfl) (Nat.le_of_ble_eq_true rfl) g100 rfl (Nat.le_of_ble_eq_true rfl) (cc_Rd_time (tx := tx) (p := p) (n := nI 0) g100 g103 (by omega) (p1)) rfl (fun h107 r108 q109 => ?_)
        obtain ⟨rfl, g110, fx111⟩ := q109
        have fr112 : px_fj b 4 175 1 h h107 := fj_tr fr102 fx111 (by omega)
        show px_to 29 79 [some (.ref (175)), some (.ref (b)), some (.int (nI s)), some (.int (nI 0)), some (.int (nI 1))] [.int (bI ((rdT tx p).1))] h107 _
        refine e_if_eq f_29_79 rfl (fun c_79 => ?_) (fun c_79 => ?_)
        · skip
          have c_79 : ((rdT tx p).1) = false := bI_f c_79
          refine e_iconst (v := nI 0) f_29_93 (by decide) rfl ?_
          refine e_istore (L' := [some (.ref (175)), some (.ref (b)), some (.int (nI s)), some (.int (nI 0)), some (.int (nI 0))]) f_29_94 (Nat.le_of_ble_eq_true rfl) rfl rfl ?_
          refine e_goto f_29_96 ?_
          refine e_iload f_29_117 rfl rfl ?_
          refine e_if_eq_t f_29_119 (by decide) ?_
          refine e_iload f_29_132 rfl rfl ?_
          refine e_iret f_29_134 rfl (rfl) ?_
          have g113 : pJob h99 b j := pJob_fi H1 fx101 (by omega)
          have g114 : pJob h107 b j := pJob_fi g113 fx111 (by omega)
          have er : rdStep tx s p = ((rdT tx p).1 && decide (0 < (rdT tx p).2.1), (rdT tx p).2.2, (s, 0, nI (rdT tx p).2.1)) := by unfold rdStep; rw [if_neg (by omega), if_pos (by omega)]
          have g115 : pRd h107 tx ((rdT tx p).2.2) := ⟨_, g110⟩
          have hb : ((rdT tx p).1 && decide (0 < (rdT tx p).2.1)) = false := by rw [c_79]; rfl
          rw [er]
          dsimp only
          rw [hb, if_neg (by decide)]
          exact ⟨rfl, g115, g114, fr112⟩
        · skip
          have c_79 : ((rdT tx p).1) = true := bI_t' c_79
          refine e_aload_n f_29_82 rfl rfl ?_
          refine e_getf f_29_83 g110 rfl rfl ?_
          refine e_if_le f_29_86 rfl (fun c_86 => ?_) (fun c_86 => ?_)
          · skip
            rw [← nI_0] at c_86
            have c_86 : (rdT tx p).2.1 ≤ 0 := cv_le (by omega) (by omega) c_86
            refine e_iconst (v := nI 0) f_29_93 (by decide) rfl ?_
            refine e_istore (L' := [some (.ref (175)), some (.ref (b)), some (.int (nI s)), some (.int (nI 0)), some (.int (nI 0))]) f_29_94 (Nat.le_of_ble_eq_true rfl) rfl rfl ?_
            refine e_goto f_29_96 ?_
            refine e_iload f_29_117 rfl rfl ?_
            refine e_if_eq_t f_29_119 (by decide) ?_
            refine e_iload f_29_132 rfl rfl ?_
            refine e_iret f_29_134 rfl (rfl) ?_
            have g116 : pJob h99 b j := pJob_fi H1 fx101 (by omega)
            have g117 : pJob h107 b j := pJob_fi g116 fx111 (by omega)
            have er : rdStep tx s p = ((rdT tx p).1 && decide (0 < (rdT tx p).2.1), (rdT tx p).2.2, (s, 0, nI (rdT tx p).2.1)) := by unfold rdStep; rw [if_neg (by omega), if_pos (by omega)]
            have g118 : pRd h107 tx ((rdT tx p).2.2) := ⟨_, g110⟩
            have hb : ((rdT tx p).1 && decide (0 < (rdT tx p).2.1)) = false := by rw [c_79, decide_eq_false (show ¬ 0 < (rdT tx p).2.1 by omega)]; rfl
            rw [er]
            dsimp only
            rw [hb, if_neg (by decide)]
            exact ⟨rfl, g118, g117, fr112⟩
          · skip
            rw [← nI_0] at c_86
            have c_86 : 0 < (rdT tx p).2.1 := cv_nle (by omega) (by omega) c_86
            refine e_iconst (v := nI 1) f_29_89 (by decide) rfl ?_
            refine e_goto f_29_90 ?_
            refine e_istore (L' := [some (.ref (175)), some (.ref (b)), some (.int (nI s)), some (.int (nI 0)), some (.int (nI 1))]) f_29_94 (Nat.le_of_ble_eq_true rfl) rfl rfl ?_
            refine e_goto f_29_96 ?_
            refine e_iload f_29_117 rfl rfl ?_
            refine e_if_eq_f f_29_119 (by decide) rfl ?_
            refine e_aload_n f_29_122 rfl rfl ?_
            refine e_iload_n f_29_123 rfl rfl ?_
            refine e_iload_n f_29_124 rfl rfl ?_
            refine e_aload_n f_29_125 rfl rfl ?_
            refine e_getf f_29_126 g110 rfl rfl ?_
            have g119 : pJob h99 b j := pJob_fi H1 fx101 (by omega)
            have g120 : pJob h107 b j := pJob_fi g119 fx111 (by omega)
            refine e_callV (As := [.int (nI s), .int (nI 0), .int (nI (rdT tx p).2.1)]) (rest := []) f_29_129 rfl rfl rfl (Nat.le_of_ble_eq_true rfl) (Nat.le_of_ble_eq_true rfl) g120.1 rfl (Nat.le_of_ble_eq_true rfl) (cc_Job_addStep (a := b) (s := s) (ac := 0) (nu := nI (rdT tx p).2.1) (j := j) g120 (by omega) (by omega)) rfl (fun h121 r122 q123 => ?_)
            obtain ⟨rfl, g124, fx125⟩ := q123
            have fr126 : px_fj b 4 175 1 h h121 := fj_tr fr112 fx125 (by omega)
            show px_to 29 132 [some (.ref (175)), some (.ref (b)), some (.int (nI s)), some (.int (nI 0)), some (.int (nI 1))] [] h121 _
            refine e_iload f_29_132 rfl rfl ?_
            refine e_iret f_29_134 rfl (rfl) ?_
            have er : rdStep tx s p = ((rdT tx p).1 && decide (0 < (rdT tx p).2.1), (rdT tx p).2.2, (s, 0, nI (rdT tx p).2.1)) := by unfold rdStep; rw [if_neg (by omega), if_pos (by omega)]
            have g127 : h121.2.2 175 = some (4, [.ref (18), .int (nI tx.length), .int (nI (rdT tx p).2.1), .int (nI ((rdT tx p).2.2))]) := fi_at g110 fx125 (by omega)
            have g128 : pRd h121 tx ((rdT tx p).2.2) := ⟨_, g127⟩
            have hb : ((rdT tx p).1 && decide (0 < (rdT tx p).2.1)) = true := by rw [c_79, decide_eq_true (show 0 < (rdT tx p).2.1 by omega)]; rfl
            rw [er]
            dsimp only
            rw [hb, if_pos rfl]
            exact ⟨rfl, g128, g124, fr126⟩
      · skip
        have c_66 : s ≠ 119 := cv_ne c_66
        refine e_iload_n f_29_69 rfl rfl ?_
        refine e_bipush (v := nI 116) f_29_70 (by decide) rfl ?_
        refine e_icmp_ne f_29_72 rfl (fun c_72 => ?_) (fun c_72 => ?_)
        · skip
          have c_72 : s ≠ 116 := cv_ne c_72
          refine e_iload_n f_29_99 rfl rfl ?_
          refine e_bipush (v := nI 100) f_29_100 (by decide) rfl ?_
          refine e_icmp_eq f_29_102 rfl (fun c_102 => ?_) (fun c_102 => ?_)
          · skip
            have c_102 : s = 100 := cv_eq (by omega) (by omega) c_102
            refine e_iload f_29_117 rfl rfl ?_
            refine e_if_eq_f f_29_119 (by decide) rfl ?_
            refine e_aload_n f_29_122 rfl rfl ?_
            refine e_iload_n f_29_123 rfl rfl ?_
            refine e_iload_n f_29_124 rfl rfl ?_
            refine e_aload_n f_29_125 rfl rfl ?_
            refine e_getf f_29_126 g100 rfl rfl ?_
            have g129 : pJob h99 b j := pJob_fi H1 fx101 (by omega)
            refine e_callV (As := [.int (nI s), .int (nI 0), .int (nI 0)]) (rest := []) f_29_129 rfl rfl rfl (Nat.le_of_ble_eq_true rfl) (Nat.le_of_ble_eq_true rfl) g129.1 rfl (Nat.le_of_ble_eq_true rfl) (cc_Job_addStep (a := b) (s := s) (ac := 0) (nu := nI 0) (j := j) g129 (by omega) (by omega)) rfl (fun h130 r131 q132 => ?_)
            obtain ⟨rfl, g133, fx134⟩ := q132
            have fr135 : px_fj b 4 175 1 h h130 := fj_tr fr102 fx134 (by omega)
            show px_to 29 132 [some (.ref (175)), some (.ref (b)), some (.int (nI s)), some (.int (nI 0)), some (.int (nI 1))] [] h130 _
            refine e_iload f_29_132 rfl rfl ?_
            refine e_iret f_29_134 rfl (rfl) ?_
            have er : rdStep tx s p = (true, p, (s, 0, nI 0)) := by unfold rdStep; rw [if_neg (by omega), if_neg (by omega), if_pos (by omega)]
            have g136 : h130.2.2 175 = some (4, [.ref (18), .int (nI tx.length), .int (nI 0), .int (nI p)]) := fi_at g100 fx134 (by omega)
            have g137 : pRd h130 tx p := ⟨_, g136⟩
            rw [er]
            dsimp only
            rw [if_pos rfl]
            exact ⟨rfl, g137, g133, fr135⟩
          · skip
            have c_102 : s ≠ 100 := cv_ne c_102
            refine e_iload_n f_29_105 rfl rfl ?_
            refine e_bipush (v := nI 115) f_29_106 (by decide) rfl ?_
            refine e_icmp_eq f_29_108 rfl (fun c_108 => ?_) (fun c_108 => ?_)
            · skip
              have c_108 : s = 115 := cv_eq (by omega) (by omega) c_108
              refine e_iload f_29_117 rfl rfl ?_
              refine e_if_eq_f f_29_119 (by decide) rfl ?_
              refine e_aload_n f_29_122 rfl rfl ?_
              refine e_iload_n f_29_123 rfl rfl ?_
              refine e_iload_n f_29_124 rfl rfl ?_
              refine e_aload_n f_29_125 rfl rfl ?_
              refine e_getf f_29_126 g100 rfl rfl ?_
              have g138 : pJob h99 b j := pJob_fi H1 fx101 (by omega)
              refine e_callV (As := [.int (nI s), .int (nI 0), .int (nI 0)]) (rest := []) f_29_129 rfl rfl rfl (Nat.le_of_ble_eq_true rfl) (Nat.le_of_ble_eq_true rfl) g138.1 rfl (Nat.le_of_ble_eq_true rfl) (cc_Job_addStep (a := b) (s := s) (ac := 0) (nu := nI 0) (j := j) g138 (by omega) (by omega)) rfl (fun h139 r140 q141 => ?_)
              obtain ⟨rfl, g142, fx143⟩ := q141
              have fr144 : px_fj b 4 175 1 h h139 := fj_tr fr102 fx143 (by omega)
              show px_to 29 132 [some (.ref (175)), some (.ref (b)), some (.int (nI s)), some (.int (nI 0)), some (.int (nI 1))] [] h139 _
              refine e_iload f_29_132 rfl rfl ?_
              refine e_iret f_29_134 rfl (rfl) ?_
              have er : rdStep tx s p = (true, p, (s, 0, nI 0)) := by unfold rdStep; rw [if_neg (by omega), if_neg (by omega), if_pos (by omega)]
              have g145 : h139.2.2 175 = some (4, [.ref (18), .int (nI tx.length), .int (nI 0), .int (nI p)]) := fi_at g100 fx143 (by omega)
              have g146 : pRd h139 tx p := ⟨_, g145⟩
              rw [er]
              dsimp only
              rw [if_pos rfl]
              exact ⟨rfl, g146, g142, fr144⟩
            · skip
              have c_108 : s ≠ 115 := cv_ne c_108
              refine e_aload_n f_29_111 rfl rfl ?_
              obtain ⟨hm148, fa149, fb150⟩ := fj_mid fr102
              have g147 : px_pa h99 18 52 500 vN tx := pa_fi (pa_fi H2 fa149 (by omega)) fb150 (by omega)
              refine e_callV (As := []) (rest := []) f_29_112 rfl rfl rfl (Nat.le_of_ble_eq_true rfl) (Nat.le_of_ble_eq_true rfl) g100 rfl (Nat.le_of_ble_eq_true rfl) (cc_Rd_int (tx := tx) (p := p) (n := nI 0) g100 g147 (by first | exact hsl2 | exact p0) (p1)) rfl (fun h151 r152 q153 => ?_)
              obtain ⟨rfl, g154, fx155⟩ := q153
              have fr156 : px_fj b 4 175 1 h h151 := fj_tr fr102 fx155 (by omega)
              show px_to 29 115 [some (.ref (175)), some (.ref (b)), some (.int (nI s)), some (.int (nI 0)), some (.int (nI 1))] [.int (bI ((rdI tx p).1))] h151 _
              refine e_istore (L' := [some (.ref (175)), some (.ref (b)), some (.int (nI s)), some (.int (nI 0)), some (.int (bI ((rdI tx p).1)))]) f_29_115 (Nat.le_of_ble_eq_true rfl) rfl rfl ?_
              refine e_iload f_29_117 rfl rfl ?_
              refine e_if_eq f_29_119 rfl (fun c_119 => ?_) (fun c_119 => ?_)
              · skip
                have c_119 : ((rdI tx p).1) = false := bI_f c_119
                refine e_iload f_29_132 rfl rfl ?_
                refine e_iret f_29_134 rfl (nw_bI _) ?_
                have g157 : pJob h99 b j := pJob_fi H1 fx101 (by omega)
                have g158 : pJob h151 b j := pJob_fi g157 fx155 (by omega)
                have er : rdStep tx s p = ((rdI tx p).1, (rdI tx p).2.2, (s, 0, (rdI tx p).2.1)) := by unfold rdStep; rw [if_neg (by omega), if_neg (by omega), if_neg (by omega)]
                have g159 : pRd h151 tx ((rdI tx p).2.2) := ⟨_, g154⟩
                rw [er]
                dsimp only
                rw [if_neg (by rw [c_119]; decide)]
                exact ⟨by rw [c_119], g159, g158, fr156⟩
              · skip
                have c_119 : ((rdI tx p).1) = true := bI_t' c_119
                refine e_aload_n f_29_122 rfl rfl ?_
                refine e_iload_n f_29_123 rfl rfl ?_
                refine e_iload_n f_29_124 rfl rfl ?_
                refine e_aload_n f_29_125 rfl rfl ?_
                refine e_getf f_29_126 g154 rfl rfl ?_
                have g160 : pJob h99 b j := pJob_fi H1 fx101 (by omega)
                have g161 : pJob h151 b j := pJob_fi g160 fx155 (by omega)
                refine e_callV (As := [.int (nI s), .int (nI 0), .int ((rdI tx p).2.1)]) (rest := []) f_29_129 rfl rfl rfl (Nat.le_of_ble_eq_true rfl) (Nat.le_of_ble_eq_true rfl) g161.1 rfl (Nat.le_of_ble_eq_true rfl) (cc_Job_addStep (a := b) (s := s) (ac := 0) (nu := (rdI tx p).2.1) (j := j) g161 (by omega) (by omega)) rfl (fun h162 r163 q164 => ?_)
                obtain ⟨rfl, g165, fx166⟩ := q164
                have fr167 : px_fj b 4 175 1 h h162 := fj_tr fr156 fx166 (by omega)
                show px_to 29 132 [some (.ref (175)), some (.ref (b)), some (.int (nI s)), some (.int (nI 0)), some (.int (bI ((rdI tx p).1)))] [] h162 _
                refine e_iload f_29_132 rfl rfl ?_
                refine e_iret f_29_134 rfl (nw_bI _) ?_
                have er : rdStep tx s p = ((rdI tx p).1, (rdI tx p).2.2, (s, 0, (rdI tx p).2.1)) := by unfold rdStep; rw [if_neg (by omega), if_neg (by omega), if_neg (by omega)]
                have g168 : h162.2.2 175 = some (4, [.ref (18), .int (nI tx.length), .int ((rdI tx p).2.1), .int (nI ((rdI tx p).2.2))]) := fi_at g154 fx166 (by omega)
                have g169 : pRd h162 tx ((rdI tx p).2.2) := ⟨_, g168⟩
                rw [er]
                dsimp only
                rw [if_pos c_119]
                exact ⟨by rw [c_119], g169, g165, fr167⟩
        · skip
          have c_72 : s = 116 := cv_nne (by omega) (by omega) c_72
          refine e_aload_n f_29_75 rfl rfl ?_
          obtain ⟨hm171, fa172, fb173⟩ := fj_mid fr102
          have g170 : px_pa h99 18 52 500 vN tx := pa_fi (pa_fi H2 fa172 (by omega)) fb173 (by omega)
          refine e_callV (As := []) (rest := []) f_29_76 rfl rfl rfl (Nat.le_of_ble_eq_true rfl) (Nat.le_of_ble_eq_true rfl) g100 rfl (Nat.le_of_ble_eq_true rfl) (cc_Rd_time (tx := tx) (p := p) (n := nI 0) g100 g170 (by omega) (p1)) rfl (fun h174 r175 q176 => ?_)
          obtain ⟨rfl, g177, fx178⟩ := q176
          have fr179 : px_fj b 4 175 1 h h174 := fj_tr fr102 fx178 (by omega)
          show px_to 29 79 [some (.ref (175)), some (.ref (b)), some (.int (nI s)), some (.int (nI 0)), some (.int (nI 1))] [.int (bI ((rdT tx p).1))] h174 _
          refine e_if_eq f_29_79 rfl (fun c_79 => ?_) (fun c_79 => ?_)
          · skip
            have c_79 : ((rdT tx p).1) = false := bI_f c_79
            refine e_iconst (v := nI 0) f_29_93 (by decide) rfl ?_
            refine e_istore (L' := [some (.ref (175)), some (.ref (b)), some (.int (nI s)), some (.int (nI 0)), some (.int (nI 0))]) f_29_94 (Nat.le_of_ble_eq_true rfl) rfl rfl ?_
            refine e_goto f_29_96 ?_
            refine e_iload f_29_117 rfl rfl ?_
            refine e_if_eq_t f_29_119 (by decide) ?_
            refine e_iload f_29_132 rfl rfl ?_
            refine e_iret f_29_134 rfl (rfl) ?_
            have g180 : pJob h99 b j := pJob_fi H1 fx101 (by omega)
            have g181 : pJob h174 b j := pJob_fi g180 fx178 (by omega)
            have er : rdStep tx s p = ((rdT tx p).1 && decide (0 < (rdT tx p).2.1), (rdT tx p).2.2, (s, 0, nI (rdT tx p).2.1)) := by unfold rdStep; rw [if_neg (by omega), if_pos (by omega)]
            have g182 : pRd h174 tx ((rdT tx p).2.2) := ⟨_, g177⟩
            have hb : ((rdT tx p).1 && decide (0 < (rdT tx p).2.1)) = false := by rw [c_79]; rfl
            rw [er]
            dsimp only
            rw [hb, if_neg (by decide)]
            exact ⟨rfl, g182, g181, fr179⟩
          · skip
            have c_79 : ((rdT tx p).1) = true := bI_t' c_79
            refine e_aload_n f_29_82 rfl rfl ?_
            refine e_getf f_29_83 g177 rfl rfl ?_
            refine e_if_le f_29_86 rfl (fun c_86 => ?_) (fun c_86 => ?_)
            · skip
              rw [← nI_0] at c_86
              have c_86 : (rdT tx p).2.1 ≤ 0 := cv_le (by omega) (by omega) c_86
              refine e_iconst (v := nI 0) f_29_93 (by decide) rfl ?_
              refine e_istore (L' := [some (.ref (175)), some (.ref (b)), some (.int (nI s)), some (.int (nI 0)), some (.int (nI 0))]) f_29_94 (Nat.le_of_ble_eq_true rfl) rfl rfl ?_
              refine e_goto f_29_96 ?_
              refine e_iload f_29_117 rfl rfl ?_
              refine e_if_eq_t f_29_119 (by decide) ?_
              refine e_iload f_29_132 rfl rfl ?_
              refine e_iret f_29_134 rfl (rfl) ?_
              have g183 : pJob h99 b j := pJob_fi H1 fx101 (by omega)
              have g184 : pJob h174 b j := pJob_fi g183 fx178 (by omega)
              have er : rdStep tx s p = ((rdT tx p).1 && decide (0 < (rdT tx p).2.1), (rdT tx p).2.2, (s, 0, nI (rdT tx p).2.1)) := by unfold rdStep; rw [if_neg (by omega), if_pos (by omega)]
              have g185 : pRd h174 tx ((rdT tx p).2.2) := ⟨_, g177⟩
              have hb : ((rdT tx p).1 && decide (0 < (rdT tx p).2.1)) = false := by rw [c_79, decide_eq_false (show ¬ 0 < (rdT tx p).2.1 by omega)]; rfl
              rw [er]
              dsimp only
              rw [hb, if_neg (by decide)]
              exact ⟨rfl, g185, g184, fr179⟩
            · skip
              rw [← nI_0] at c_86
              have c_86 : 0 < (rdT tx p).2.1 := cv_nle (by omega) (by omega) c_86
              refine e_iconst (v := nI 1) f_29_89 (by decide) rfl ?_
              refine e_goto f_29_90 ?_
              refine e_istore (L' := [some (.ref (175)), some (.ref (b)), some (.int (nI s)), some (.int (nI 0)), some (.int (nI 1))]) f_29_94 (Nat.le_of_ble_eq_true rfl) rfl rfl ?_
              refine e_goto f_29_96 ?_
              refine e_iload f_29_117 rfl rfl ?_
              refine e_if_eq_f f_29_119 (by decide) rfl ?_
              refine e_aload_n f_29_122 rfl rfl ?_
              refine e_iload_n f_29_123 rfl rfl ?_
              refine e_iload_n f_29_124 rfl rfl ?_
              refine e_aload_n f_29_125 rfl rfl ?_
              refine e_getf f_29_126 g177 rfl rfl ?_
              have g186 : pJob h99 b j := pJob_fi H1 fx101 (by omega)
              have g187 : pJob h174 b j := pJob_fi g186 fx178 (by omega)
              refine e_callV (As := [.int (nI s), .int (nI 0), .int (nI (rdT tx p).2.1)]) (rest := []) f_29_129 rfl rfl rfl (Nat.le_of_ble_eq_true rfl) (Nat.le_of_ble_eq_true rfl) g187.1 rfl (Nat.le_of_ble_eq_true rfl) (cc_Job_addStep (a := b) (s := s) (ac := 0) (nu := nI (rdT tx p).2.1) (j := j) g187 (by omega) (by omega)) rfl (fun h188 r189 q190 => ?_)
              obtain ⟨rfl, g191, fx192⟩ := q190
              have fr193 : px_fj b 4 175 1 h h188 := fj_tr fr179 fx192 (by omega)
              show px_to 29 132 [some (.ref (175)), some (.ref (b)), some (.int (nI s)), some (.int (nI 0)), some (.int (nI 1))] [] h188 _
              refine e_iload f_29_132 rfl rfl ?_
              refine e_iret f_29_134 rfl (rfl) ?_
              have er : rdStep tx s p = ((rdT tx p).1 && decide (0 < (rdT tx p).2.1), (rdT tx p).2.2, (s, 0, nI (rdT tx p).2.1)) := by unfold rdStep; rw [if_neg (by omega), if_pos (by omega)]
              have g194 : h188.2.2 175 = some (4, [.ref (18), .int (nI tx.length), .int (nI (rdT tx p).2.1), .int (nI ((rdT tx p).2.2))]) := fi_at g177 fx192 (by omega)
              have g195 : pRd h188 tx ((rdT tx p).2.2) := ⟨_, g194⟩
              have hb : ((rdT tx p).1 && decide (0 < (rdT tx p).2.1)) = true := by rw [c_79, decide_eq_true (show 0 < (rdT tx p).2.1 by omega)]; rfl
              rw [er]
              dsimp only
              rw [hb, if_pos rfl]
              exact ⟨rfl, g195, g191, fr193⟩
    · skip
      have c_11 : s = 109 := cv_nne (by omega) (by omega) c_11
      refine e_aload_n f_29_14 rfl rfl ?_
      obtain ⟨n196, g197⟩ := H0
      refine e_callV (As := []) (rest := []) f_29_15 rfl rfl rfl (Nat.le_of_ble_eq_true rfl) (Nat.le_of_ble_eq_true rfl) g197 rfl (Nat.le_of_ble_eq_true rfl) (cc_Rd_next (tx := tx) (p := p) (n := n196) g197 H2 (by omega) (p1)) rfl (fun h198 r199 q200 => ?_)
      obtain ⟨rfl, g201, fx202⟩ := q200
      have fr203 : px_fj b 4 175 1 h h198 := fj_tr fr0 fx202 (by omega)
      show px_to 29 18 [some (.ref (175)), some (.ref (b)), some (.int (nI s)), some (.int (nI 0)), none] [.int (nI (sgn tx p))] h198 _
      refine e_istore_n (L' := [some (.ref (175)), some (.ref (b)), some (.int (nI s)), some (.int (nI (sgn tx p))), none]) f_29_18 (Nat.le_of_ble_eq_true rfl) rfl rfl ?_
      refine e_iload_n f_29_19 rfl rfl ?_
      refine e_bipush (v := nI 102) f_29_20 (by decide) rfl ?_
      refine e_icmp_ne f_29_22 rfl (fun c_22 => ?_) (fun c_22 => ?_)
      · skip
        have c_22 : s ≠ 102 := cv_ne c_22
        refine e_ldc f_29_30 rfl ?_
        refine e_astore (L' := [some (.ref (175)), some (.ref (b)), some (.int (nI s)), some (.int (nI (sgn tx p))), some (.ref (5))]) f_29_32 (Nat.le_of_ble_eq_true rfl) rfl rfl ?_
        refine e_aload f_29_34 rfl rfl ?_
        refine e_iload_n f_29_36 rfl rfl ?_
        obtain ⟨hm205, fa206, fb207⟩ := fj_mid fr203
        have g204 : pStr h198 5 ([43, 45, 42, 47]) := pStr_fi (pStr_fi H4 fa206 (by omega)) fb207 (by omega)
        refine e_callV (As := [.int (nI (sgn tx p))]) (rest := []) f_29_37 rfl rfl rfl (Nat.le_of_ble_eq_true rfl) (Nat.le_of_ble_eq_true rfl) g204.1 rfl (Nat.le_of_ble_eq_true rfl) (cc_Str_ix (c := sgn tx p) (k := 5) (bs := [43, 45, 42, 47]) g204 (by omega) (by decide) (by decide)) rfl (fun h208 r209 q210 => ?_)
        obtain ⟨rfl, qe⟩ := q210
        have qe := qe.symm
        subst qe
        show px_to 29 40 [some (.ref (175)), some (.ref (b)), some (.int (nI s)), some (.int (nI (sgn tx p))), some (.ref (5))] [.int (ixf ([43, 45, 42, 47]) (sgn tx p) 0)] h198 _
        refine e_if_ge f_29_40 rfl (fun c_40 => ?_) (fun c_40 => ?_)
        · skip
          have hin : sgn tx p ∈ [43, 45, 42, 47] := ix_in (by decide) c_40
          have hsl2 : skp tx p + 1 ≤ tx.length := sgn_next hin (by decide)
          refine e_aload_n f_29_45 rfl rfl ?_
          refine e_dup f_29_46 rfl rfl ?_
          refine e_getf f_29_47 g201 rfl rfl ?_
          refine e_iconst (v := nI 1) f_29_50 (by decide) rfl ?_
          refine e_iadd (z := nI (skp tx p + 1)) f_29_51 (nI_add _ _) rfl ?_
          refine e_putp (vs' := [.ref (18), .int (nI tx.length), .int (n196), .int (nI (skp tx p + 1))]) f_29_52 g201 (Nat.le_of_ble_eq_true rfl) (rfl) (rfl) rfl rfl (fun h211 g212 fx213 => ?_)
          have fr214 : px_fj b 4 175 1 h h211 := fj_tr fr203 fx213 (by omega)
          refine e_aload_n f_29_55 rfl rfl ?_
          refine e_iconst (v := nI 0) f_29_56 (by decide) rfl ?_
          refine e_putp (vs' := [.ref (18), .int (nI tx.length), .int (nI 0), .int (nI (skp tx p + 1))]) f_29_57 g212 (Nat.le_of_ble_eq_true rfl) (rfl) (rfl) rfl rfl (fun h215 g216 fx217 => ?_)
          have fr218 : px_fj b 4 175 1 h h215 := fj_tr fr214 fx217 (by omega)
          refine e_iconst (v := nI 1) f_29_60 (by decide) rfl ?_
          refine e_istore (L' := [some (.ref (175)), some (.ref (b)), some (.int (nI s)), some (.int (nI (sgn tx p))), some (.int (nI 1))]) f_29_61 (Nat.le_of_ble_eq_true rfl) rfl rfl ?_
          refine e_iload_n f_29_63 rfl rfl ?_
          refine e_bipush (v := nI 119) f_29_64 (by decide) rfl ?_
          refine e_icmp_eq f_29_66 rfl (fun c_66 => ?_) (fun c_66 => ?_)
          · skip
            have c_66 : s = 119 := cv_eq (by omega) (by omega) c_66
            exfalso; omega
          · skip
            have c_66 : s ≠ 119 := cv_ne c_66
            refine e_iload_n f_29_69 rfl rfl ?_
            refine e_bipush (v := nI 116) f_29_70 (by decide) rfl ?_
            refine e_icmp_ne f_29_72 rfl (fun c_72 => ?_) (fun c_72 => ?_)
            · skip
              have c_72 : s ≠ 116 := cv_ne c_72
              refine e_iload_n f_29_99 rfl rfl ?_
              refine e_bipush (v := nI 100) f_29_100 (by decide) rfl ?_
              refine e_icmp_eq f_29_102 rfl (fun c_102 => ?_) (fun c_102 => ?_)
              · skip
                have c_102 : s = 100 := cv_eq (by omega) (by omega) c_102
                exfalso; omega
              · skip
                have c_102 : s ≠ 100 := cv_ne c_102
                refine e_iload_n f_29_105 rfl rfl ?_
                refine e_bipush (v := nI 115) f_29_106 (by decide) rfl ?_
                refine e_icmp_eq f_29_108 rfl (fun c_108 => ?_) (fun c_108 => ?_)
                · skip
                  have c_108 : s = 115 := cv_eq (by omega) (by omega) c_108
                  exfalso; omega
                · skip
                  have c_108 : s ≠ 115 := cv_ne c_108
                  refine e_aload_n f_29_111 rfl rfl ?_
                  obtain ⟨hm220, fa221, fb222⟩ := fj_mid fr218
                  have g219 : px_pa h215 18 52 500 vN tx := pa_fi (pa_fi H2 fa221 (by omega)) fb222 (by omega)
                  refine e_callV (As := []) (rest := []) f_29_112 rfl rfl rfl (Nat.le_of_ble_eq_true rfl) (Nat.le_of_ble_eq_true rfl) g216 rfl (Nat.le_of_ble_eq_true rfl) (cc_Rd_int (tx := tx) (p := skp tx p + 1) (n := nI 0) g216 g219 (by first | exact hsl2 | exact p0) (p1)) rfl (fun h223 r224 q225 => ?_)
                  obtain ⟨rfl, g226, fx227⟩ := q225
                  have fr228 : px_fj b 4 175 1 h h223 := fj_tr fr218 fx227 (by omega)
                  show px_to 29 115 [some (.ref (175)), some (.ref (b)), some (.int (nI s)), some (.int (nI (sgn tx p))), some (.int (nI 1))] [.int (bI ((rdI tx (skp tx p + 1)).1))] h223 _
                  refine e_istore (L' := [some (.ref (175)), some (.ref (b)), some (.int (nI s)), some (.int (nI (sgn tx p))), some (.int (bI ((rdI tx (skp tx p + 1)).1)))]) f_29_115 (Nat.le_of_ble_eq_true rfl) rfl rfl ?_
                  refine e_iload f_29_117 rfl rfl ?_
                  refine e_if_eq f_29_119 rfl (fun c_119 => ?_) (fun c_119 => ?_)
                  · skip
                    have c_119 : ((rdI tx (skp tx p + 1)).1) = false := bI_f c_119
                    refine e_iload f_29_132 rfl rfl ?_
                    refine e_iret f_29_134 rfl (nw_bI _) ?_
                    have g229 : pJob h198 b j := pJob_fi H1 fx202 (by omega)
                    have g230 : pJob h211 b j := pJob_fi g229 fx213 (by omega)
                    have g231 : pJob h215 b j := pJob_fi g230 fx217 (by omega)
                    have g232 : pJob h223 b j := pJob_fi g231 fx227 (by omega)
                    have hfm : s = 102 ∨ s = 109 := by omega
                    have hac : actsOf s = [43, 45, 42, 47] := by unfold actsOf; rw [if_neg c_22]
                    have er : rdStep tx s p = ((rdI tx (skp tx p + 1)).1, (rdI tx (skp tx p + 1)).2.2, (s, sgn tx p, (rdI tx (skp tx p + 1)).2.1)) := by unfold rdStep; rw [if_pos hfm, hac, if_pos hin]
                    have g233 : pRd h223 tx ((rdI tx (skp tx p + 1)).2.2) := ⟨_, g226⟩
                    rw [er]
                    dsimp only
                    rw [if_neg (by rw [c_119]; decide)]
                    exact ⟨by rw [c_119], g233, g232, fr228⟩
                  · skip
                    have c_119 : ((rdI tx (skp tx p + 1)).1) = true := bI_t' c_119
                    refine e_aload_n f_29_122 rfl rfl ?_
                    refine e_iload_n f_29_123 rfl rfl ?_
                    refine e_iload_n f_29_124 rfl rfl ?_
                    refine e_aload_n f_29_125 rfl rfl ?_
                    refine e_getf f_29_126 g226 rfl rfl ?_
                    have g234 : pJob h198 b j := pJob_fi H1 fx202 (by omega)
                    have g235 : pJob h211 b j := pJob_fi g234 fx213 (by omega)
                    have g236 : pJob h215 b j := pJob_fi g235 fx217 (by omega)
                    have g237 : pJob h223 b j := pJob_fi g236 fx227 (by omega)
                    refine e_callV (As := [.int (nI s), .int (nI (sgn tx p)), .int ((rdI tx (skp tx p + 1)).2.1)]) (rest := []) f_29_129 rfl rfl rfl (Nat.le_of_ble_eq_true rfl) (Nat.le_of_ble_eq_true rfl) g237.1 rfl (Nat.le_of_ble_eq_true rfl) (cc_Job_addStep (a := b) (s := s) (ac := sgn tx p) (nu := (rdI tx (skp tx p + 1)).2.1) (j := j) g237 (by omega) (by omega)) rfl (fun h238 r239 q240 => ?_)
                    obtain ⟨rfl, g241, fx242⟩ := q240
                    have fr243 : px_fj b 4 175 1 h h238 := fj_tr fr228 fx242 (by omega)
                    show px_to 29 132 [some (.ref (175)), some (.ref (b)), some (.int (nI s)), some (.int (nI (sgn tx p))), some (.int (bI ((rdI tx (skp tx p + 1)).1)))] [] h238 _
                    refine e_iload f_29_132 rfl rfl ?_
                    refine e_iret f_29_134 rfl (nw_bI _) ?_
                    have hfm : s = 102 ∨ s = 109 := by omega
                    have hac : actsOf s = [43, 45, 42, 47] := by unfold actsOf; rw [if_neg c_22]
                    have er : rdStep tx s p = ((rdI tx (skp tx p + 1)).1, (rdI tx (skp tx p + 1)).2.2, (s, sgn tx p, (rdI tx (skp tx p + 1)).2.1)) := by unfold rdStep; rw [if_pos hfm, hac, if_pos hin]
                    have g244 : h238.2.2 175 = some (4, [.ref (18), .int (nI tx.length), .int ((rdI tx (skp tx p + 1)).2.1), .int (nI ((rdI tx (skp tx p + 1)).2.2))]) := fi_at g226 fx242 (by omega)
                    have g245 : pRd h238 tx ((rdI tx (skp tx p + 1)).2.2) := ⟨_, g244⟩
                    rw [er]
                    dsimp only
                    rw [if_pos c_119]
                    exact ⟨by rw [c_119], g245, g241, fr243⟩
            · skip
              have c_72 : s = 116 := cv_nne (by omega) (by omega) c_72
              exfalso; omega
        · skip
          have hin : sgn tx p ∉ [43, 45, 42, 47] := ix_out (by decide) c_40
          refine e_iconst (v := nI 0) f_29_43 (by decide) rfl ?_
          refine e_iret f_29_44 rfl (rfl) ?_
          have g246 : pJob h198 b j := pJob_fi H1 fx202 (by omega)
          have hfm : s = 102 ∨ s = 109 := by omega
          have hac : actsOf s = [43, 45, 42, 47] := by unfold actsOf; rw [if_neg c_22]
          have er : rdStep tx s p = (false, skp tx p, (s, 0, 0)) := by unfold rdStep; rw [if_pos hfm, hac, if_neg hin]
          have g247 : pRd h198 tx (skp tx p) := ⟨_, g201⟩
          rw [er]
          exact ⟨rfl, g247, g246, fr203⟩
      · skip
        have c_22 : s = 102 := cv_nne (by omega) (by omega) c_22
        refine e_ldc f_29_25 rfl ?_
        refine e_goto f_29_27 ?_
        refine e_astore (L' := [some (.ref (175)), some (.ref (b)), some (.int (nI s)), some (.int (nI (sgn tx p))), some (.ref (4))]) f_29_32 (Nat.le_of_ble_eq_true rfl) rfl rfl ?_
        refine e_aload f_29_34 rfl rfl ?_
        refine e_iload_n f_29_36 rfl rfl ?_
        obtain ⟨hm249, fa250, fb251⟩ := fj_mid fr203
        have g248 : pStr h198 4 ([60, 61, 62]) := pStr_fi (pStr_fi H3 fa250 (by omega)) fb251 (by omega)
        refine e_callV (As := [.int (nI (sgn tx p))]) (rest := []) f_29_37 rfl rfl rfl (Nat.le_of_ble_eq_true rfl) (Nat.le_of_ble_eq_true rfl) g248.1 rfl (Nat.le_of_ble_eq_true rfl) (cc_Str_ix (c := sgn tx p) (k := 4) (bs := [60, 61, 62]) g248 (by omega) (by decide) (by decide)) rfl (fun h252 r253 q254 => ?_)
        obtain ⟨rfl, qe⟩ := q254
        have qe := qe.symm
        subst qe
        show px_to 29 40 [some (.ref (175)), some (.ref (b)), some (.int (nI s)), some (.int (nI (sgn tx p))), some (.ref (4))] [.int (ixf ([60, 61, 62]) (sgn tx p) 0)] h198 _
        refine e_if_ge f_29_40 rfl (fun c_40 => ?_) (fun c_40 => ?_)
        · skip
          have hin : sgn tx p ∈ [60, 61, 62] := ix_in (by decide) c_40
          have hsl2 : skp tx p + 1 ≤ tx.length := sgn_next hin (by decide)
          refine e_aload_n f_29_45 rfl rfl ?_
          refine e_dup f_29_46 rfl rfl ?_
          refine e_getf f_29_47 g201 rfl rfl ?_
          refine e_iconst (v := nI 1) f_29_50 (by decide) rfl ?_
          refine e_iadd (z := nI (skp tx p + 1)) f_29_51 (nI_add _ _) rfl ?_
          refine e_putp (vs' := [.ref (18), .int (nI tx.length), .int (n196), .int (nI (skp tx p + 1))]) f_29_52 g201 (Nat.le_of_ble_eq_true rfl) (rfl) (rfl) rfl rfl (fun h255 g256 fx257 => ?_)
          have fr258 : px_fj b 4 175 1 h h255 := fj_tr fr203 fx257 (by omega)
          refine e_aload_n f_29_55 rfl rfl ?_
          refine e_iconst (v := nI 0) f_29_56 (by decide) rfl ?_
          refine e_putp (vs' := [.ref (18), .int (nI tx.length), .int (nI 0), .int (nI (skp tx p + 1))]) f_29_57 g256 (Nat.le_of_ble_eq_true rfl) (rfl) (rfl) rfl rfl (fun h259 g260 fx261 => ?_)
          have fr262 : px_fj b 4 175 1 h h259 := fj_tr fr258 fx261 (by omega)
          refine e_iconst (v := nI 1) f_29_60 (by decide) rfl ?_
          refine e_istore (L' := [some (.ref (175)), some (.ref (b)), some (.int (nI s)), some (.int (nI (sgn tx p))), some (.int (nI 1))]) f_29_61 (Nat.le_of_ble_eq_true rfl) rfl rfl ?_
          refine e_iload_n f_29_63 rfl rfl ?_
          refine e_bipush (v := nI 119) f_29_64 (by decide) rfl ?_
          refine e_icmp_eq f_29_66 rfl (fun c_66 => ?_) (fun c_66 => ?_)
          · skip
            have c_66 : s = 119 := cv_eq (by omega) (by omega) c_66
            exfalso; omega
          · skip
            have c_66 : s ≠ 119 := cv_ne c_66
            refine e_iload_n f_29_69 rfl rfl ?_
            refine e_bipush (v := nI 116) f_29_70 (by decide) rfl ?_
            refine e_icmp_ne f_29_72 rfl (fun c_72 => ?_) (fun c_72 => ?_)
            · skip
              have c_72 : s ≠ 116 := cv_ne c_72
              refine e_iload_n f_29_99 rfl rfl ?_
              refine e_bipush (v := nI 100) f_29_100 (by decide) rfl ?_
              refine e_icmp_eq f_29_102 rfl (fun c_102 => ?_) (fun c_102 => ?_)
              · skip
                have c_102 : s = 100 := cv_eq (by omega) (by omega) c_102
                exfalso; omega
              · skip
                have c_102 : s ≠ 100 := cv_ne c_102
                refine e_iload_n f_29_105 rfl rfl ?_
                refine e_bipush (v := nI 115) f_29_106 (by decide) rfl ?_
                refine e_icmp_eq f_29_108 rfl (fun c_108 => ?_) (fun c_108 => ?_)
                · skip
                  have c_108 : s = 115 := cv_eq (by omega) (by omega) c_108
                  exfalso; omega
                · skip
                  have c_108 : s ≠ 115 := cv_ne c_108
                  refine e_aload_n f_29_111 rfl rfl ?_
                  obtain ⟨hm264, fa265, fb266⟩ := fj_mid fr262
                  have g263 : px_pa h259 18 52 500 vN tx := pa_fi (pa_fi H2 fa265 (by omega)) fb266 (by omega)
                  refine e_callV (As := []) (rest := []) f_29_112 rfl rfl rfl (Nat.le_of_ble_eq_true rfl) (Nat.le_of_ble_eq_true rfl) g260 rfl (Nat.le_of_ble_eq_true rfl) (cc_Rd_int (tx := tx) (p := skp tx p + 1) (n := nI 0) g260 g263 (by first | exact hsl2 | exact p0) (p1)) rfl (fun h267 r268 q269 => ?_)
                  obtain ⟨rfl, g270, fx271⟩ := q269
                  have fr272 : px_fj b 4 175 1 h h267 := fj_tr fr262 fx271 (by omega)
                  show px_to 29 115 [some (.ref (175)), some (.ref (b)), some (.int (nI s)), some (.int (nI (sgn tx p))), some (.int (nI 1))] [.int (bI ((rdI tx (skp tx p + 1)).1))] h267 _
                  refine e_istore (L' := [some (.ref (175)), some (.ref (b)), some (.int (nI s)), some (.int (nI (sgn tx p))), some (.int (bI ((rdI tx (skp tx p + 1)).1)))]) f_29_115 (Nat.le_of_ble_eq_true rfl) rfl rfl ?_
                  refine e_iload f_29_117 rfl rfl ?_
                  refine e_if_eq f_29_119 rfl (fun c_119 => ?_) (fun c_119 => ?_)
                  · skip
                    have c_119 : ((rdI tx (skp tx p + 1)).1) = false := bI_f c_119
                    refine e_iload f_29_132 rfl rfl ?_
                    refine e_iret f_29_134 rfl (nw_bI _) ?_
                    have g273 : pJob h198 b j := pJob_fi H1 fx202 (by omega)
                    have g274 : pJob h255 b j := pJob_fi g273 fx257 (by omega)
                    have g275 : pJob h259 b j := pJob_fi g274 fx261 (by omega)
                    have g276 : pJob h267 b j := pJob_fi g275 fx271 (by omega)
                    have hfm : s = 102 ∨ s = 109 := by omega
                    have hac : actsOf s = [60, 61, 62] := by unfold actsOf; rw [if_pos c_22]
                    have er : rdStep tx s p = ((rdI tx (skp tx p + 1)).1, (rdI tx (skp tx p + 1)).2.2, (s, sgn tx p, (rdI tx (skp tx p + 1)).2.1)) := by unfold rdStep; rw [if_pos hfm, hac, if_pos hin]
                    have g277 : pRd h267 tx ((rdI tx (skp tx p + 1)).2.2) := ⟨_, g270⟩
                    rw [er]
                    dsimp only
                    rw [if_neg (by rw [c_119]; decide)]
                    exact ⟨by rw [c_119], g277, g276, fr272⟩
                  · skip
                    have c_119 : ((rdI tx (skp tx p + 1)).1) = true := bI_t' c_119
                    refine e_aload_n f_29_122 rfl rfl ?_
                    refine e_iload_n f_29_123 rfl rfl ?_
                    refine e_iload_n f_29_124 rfl rfl ?_
                    refine e_aload_n f_29_125 rfl rfl ?_
                    refine e_getf f_29_126 g270 rfl rfl ?_
                    have g278 : pJob h198 b j := pJob_fi H1 fx202 (by omega)
                    have g279 : pJob h255 b j := pJob_fi g278 fx257 (by omega)
                    have g280 : pJob h259 b j := pJob_fi g279 fx261 (by omega)
                    have g281 : pJob h267 b j := pJob_fi g280 fx271 (by omega)
                    refine e_callV (As := [.int (nI s), .int (nI (sgn tx p)), .int ((rdI tx (skp tx p + 1)).2.1)]) (rest := []) f_29_129 rfl rfl rfl (Nat.le_of_ble_eq_true rfl) (Nat.le_of_ble_eq_true rfl) g281.1 rfl (Nat.le_of_ble_eq_true rfl) (cc_Job_addStep (a := b) (s := s) (ac := sgn tx p) (nu := (rdI tx (skp tx p + 1)).2.1) (j := j) g281 (by omega) (by omega)) rfl (fun h282 r283 q284 => ?_)
                    obtain ⟨rfl, g285, fx286⟩ := q284
                    have fr287 : px_fj b 4 175 1 h h282 := fj_tr fr272 fx286 (by omega)
                    show px_to 29 132 [some (.ref (175)), some (.ref (b)), some (.int (nI s)), some (.int (nI (sgn tx p))), some (.int (bI ((rdI tx (skp tx p + 1)).1)))] [] h282 _
                    refine e_iload f_29_132 rfl rfl ?_
                    refine e_iret f_29_134 rfl (nw_bI _) ?_
                    have hfm : s = 102 ∨ s = 109 := by omega
                    have hac : actsOf s = [60, 61, 62] := by unfold actsOf; rw [if_pos c_22]
                    have er : rdStep tx s p = ((rdI tx (skp tx p + 1)).1, (rdI tx (skp tx p + 1)).2.2, (s, sgn tx p, (rdI tx (skp tx p + 1)).2.1)) := by unfold rdStep; rw [if_pos hfm, hac, if_pos hin]
                    have g288 : h282.2.2 175 = some (4, [.ref (18), .int (nI tx.length), .int ((rdI tx (skp tx p + 1)).2.1), .int (nI ((rdI tx (skp tx p + 1)).2.2))]) := fi_at g270 fx286 (by omega)
                    have g289 : pRd h282 tx ((rdI tx (skp tx p + 1)).2.2) := ⟨_, g288⟩
                    rw [er]
                    dsimp only
                    rw [if_pos c_119]
                    exact ⟨by rw [c_119], g289, g285, fr287⟩
            · skip
              have c_72 : s = 116 := cv_nne (by omega) (by omega) c_72
              exfalso; omega
        · skip
          have hin : sgn tx p ∉ [60, 61, 62] := ix_out (by decide) c_40
          refine e_iconst (v := nI 0) f_29_43 (by decide) rfl ?_
          refine e_iret f_29_44 rfl (rfl) ?_
          have g290 : pJob h198 b j := pJob_fi H1 fx202 (by omega)
          have hfm : s = 102 ∨ s = 109 := by omega
          have hac : actsOf s = [60, 61, 62] := by unfold actsOf; rw [if_pos c_22]
          have er : rdStep tx s p = (false, skp tx p, (s, 0, 0)) := by unfold rdStep; rw [if_pos hfm, hac, if_neg hin]
          have g291 : pRd h198 tx (skp tx p) := ⟨_, g201⟩
          rw [er]
          exact ⟨rfl, g291, g290, fr203⟩

set_option maxRecDepth 20000 in
set_option maxHeartbeats 4000000 in
theorem ll_Rd_steps {h0 : px_H} {tx : List Nat} {b : Nat} {y : Bool × Nat × List St} (HT : px_pa h0 18 52 500 vN tx) (HS : pStr h0 3 stepSigns) (H4 : pStr h0 4 [60, 61, 62]) (H5 : pStr h0 5 [43, 45, 42, 47]) (p1 : okTx tx) (p3 : 17 ≤ b) (p4 : 18 < b ∧ (b + 4 ≤ 175 ∨ 176 ≤ b)) : ∀ (d : Nat) (k : Nat) (tm : Nat) (p : Nat) (j : List St) (g : px_H), (6 ≤ k + d) → (k ≤ 6 ∧ tm ≤ k) → (p ≤ tx.length) → (j.length = k) → (rdSteps tx (6 - k) tm p j = y) → pRd g tx p → pJob g b j → px_fj b 4 175 1 h0 g → px_to 28 4 [some (.ref (175)), some (.ref (b)), some (.int (nI tm)), some (.int (nI k)), none] [] g (fun h1 r => r = some (.int (bI y.1)) ∧ pRd h1 tx y.2.1 ∧ pJob h1 b y.2.2 ∧ px_fj b 4 175 1 h0 h1) := by
  intro d
  induction d using Nat.strongRecOn with
  | ind d ih =>
    intro k tm p j g q0 q1 q2 q3 q4 G0 G1 frg
    have le := pa_len HT
    have hsl : sgn tx p < 127 := tx_lt p1 _
    have hsk := skp_le q2
    refine e_iload_n f_28_4 rfl rfl ?_
    refine e_bipush (v := nI 6) f_28_5 (by decide) rfl ?_
    refine e_icmp_ge f_28_7 rfl (fun c_7 => ?_) (fun c_7 => ?_)
    · skip
      have c_7 : 6 ≤ k := cv_le (by omega) (by omega) c_7
      refine e_iconst (v := nI 1) f_28_78 (by decide) rfl ?_
      refine e_iret f_28_79 rfl (rfl) ?_
      rw [show 6 - k = 0 by omega, rdSteps] at q4
      subst q4
      exact ⟨rfl, G0, G1, frg⟩
    · skip
      have c_7 : k < 6 := cv_nle (by omega) (by omega) c_7
      refine e_aload_n f_28_10 rfl rfl ?_
      obtain ⟨n1, g2⟩ := G0
      obtain ⟨hm4, fa5, fb6⟩ := fj_mid frg
      have g3 : px_pa g 18 52 500 vN tx := pa_fi (pa_fi HT fa5 (by omega)) fb6 (by omega)
      refine e_callV (As := []) (rest := []) f_28_11 rfl rfl rfl (Nat.le_of_ble_eq_true rfl) (Nat.le_of_ble_eq_true rfl) g2 rfl (Nat.le_of_ble_eq_true rfl) (cc_Rd_next (tx := tx) (p := p) (n := n1) g2 g3 (by omega) (p1)) rfl (fun h7 r8 q9 => ?_)
      obtain ⟨rfl, g10, fx11⟩ := q9
      have fr12 : px_fj b 4 175 1 h0 h7 := fj_tr frg fx11 (by omega)
      show px_to 28 14 [some (.ref (175)), some (.ref (b)), some (.int (nI tm)), some (.int (nI k)), none] [.int (nI (sgn tx p))] h7 _
      refine e_istore (L' := [some (.ref (175)), some (.ref (b)), some (.int (nI tm)), some (.int (nI k)), some (.int (nI (sgn tx p)))]) f_28_14 (Nat.le_of_ble_eq_true rfl) rfl rfl ?_
      refine e_ldc f_28_16 rfl ?_
      refine e_iload f_28_18 rfl rfl ?_
      obtain ⟨hm14, fa15, fb16⟩ := fj_mid fr12
      have g13 : pStr h7 3 stepSigns := pStr_fi (pStr_fi HS fa15 (by omega)) fb16 (by omega)
      refine e_callV (As := [.int (nI (sgn tx p))]) (rest := []) f_28_20 rfl rfl rfl (Nat.le_of_ble_eq_true rfl) (Nat.le_of_ble_eq_true rfl) g13.1 rfl (Nat.le_of_ble_eq_true rfl) (cc_Str_ix (c := sgn tx p) (k := 3) (bs := stepSigns) g13 (by omega) (by decide) (by decide)) rfl (fun h17 r18 q19 => ?_)
      obtain ⟨rfl, qe⟩ := q19
      have qe := qe.symm
      subst qe
      show px_to 28 23 [some (.ref (175)), some (.ref (b)), some (.int (nI tm)), some (.int (nI k)), some (.int (nI (sgn tx p)))] [.int (ixf stepSigns (sgn tx p) 0)] h7 _
      refine e_if_lt f_28_23 rfl (fun c_23 => ?_) (fun c_23 => ?_)
      · skip
        have hnin : sgn tx p ∉ stepSigns := (ixf_neg (by decide)).mp c_23
        refine e_iconst (v := nI 1) f_28_38 (by decide) rfl ?_
        refine e_iret f_28_39 rfl (rfl) ?_
        have g20 : pRd h7 tx (skp tx p) := ⟨_, g10⟩
        have g21 : pJob h7 b j := pJob_fi G1 fx11 (by omega)
        rw [show 6 - k = (6 - (k + 1)) + 1 by omega, rdSteps, if_pos (Or.inl hnin)] at q4
        subst q4
        exact ⟨rfl, g20, g21, fr12⟩
      · skip
        have hin : sgn tx p ∈ stepSigns := ix_in (by decide) (Int32.not_lt.mp c_23)
        refine e_iload f_28_26 rfl rfl ?_
        refine e_bipush (v := nI 116) f_28_28 (by decide) rfl ?_
        refine e_icmp_ne f_28_30 rfl (fun c_30 => ?_) (fun c_30 => ?_)
        · skip
          have c_30 : sgn tx p ≠ 116 := cv_ne c_30
          have hsl2 : skp tx p + 1 ≤ tx.length := sgn_next hin (by decide)
          refine e_aload_n f_28_40 rfl rfl ?_
          refine e_dup f_28_41 rfl rfl ?_
          refine e_getf f_28_42 g10 rfl rfl ?_
          refine e_iconst (v := nI 1) f_28_45 (by decide) rfl ?_
          refine e_iadd (z := nI (skp tx p + 1)) f_28_46 (nI_add _ _) rfl ?_
          refine e_putp (vs' := [.ref (18), .int (nI tx.length), .int (n1), .int (nI (skp tx p + 1))]) f_28_47 g10 (Nat.le_of_ble_eq_true rfl) (rfl) (rfl) rfl rfl (fun h22 g23 fx24 => ?_)
          have fr25 : px_fj b 4 175 1 h0 h22 := fj_tr fr12 fx24 (by omega)
          refine e_iload f_28_50 rfl rfl ?_
          refine e_bipush (v := nI 116) f_28_52 (by decide) rfl ?_
          refine e_icmp_ne f_28_54 rfl (fun c_54 => ?_) (fun c_54 => ?_)
          · skip
            have c_54 : sgn tx p ≠ 116 := cv_ne c_54
            refine e_aload_n f_28_60 rfl rfl ?_
            refine e_aload_n f_28_61 rfl rfl ?_
            refine e_iload f_28_62 rfl rfl ?_
            have g26 : pRd h22 tx (skp tx p + 1) := ⟨_, g23⟩
            have g27 : pJob h7 b j := pJob_fi G1 fx11 (by omega)
            have g28 : pJob h22 b j := pJob_fi g27 fx24 (by omega)
            obtain ⟨hm30, fa31, fb32⟩ := fj_mid fr25
            have g29 : px_pa h22 18 52 500 vN tx := pa_fi (pa_fi HT fa31 (by omega)) fb32 (by omega)
            obtain ⟨hm34, fa35, fb36⟩ := fj_mid fr25
            have g33 : pStr h22 4 ([60, 61, 62]) := pStr_fi (pStr_fi H4 fa35 (by omega)) fb36 (by omega)
            obtain ⟨hm38, fa39, fb40⟩ := fj_mid fr25
            have g37 : pStr h22 5 ([43, 45, 42, 47]) := pStr_fi (pStr_fi H5 fa39 (by omega)) fb40 (by omega)
            refine e_callV (As := [.ref (b), .int (nI (sgn tx p))]) (rest := []) f_28_64 rfl rfl rfl (Nat.le_of_ble_eq_true rfl) (Nat.le_of_ble_eq_true rfl) g23 rfl (Nat.le_of_ble_eq_true rfl) (cc_Rd_step (s := sgn tx p) (b := b) (j := j) (tx := tx) (p := skp tx p + 1) g26 g28 g29 g33 g37 (hsl2) (p1) (hin) (by omega) (by omega) (by omega)) rfl (fun h41 r42 q43 => ?_)
            obtain ⟨rfl, g44, g45, fx46⟩ := q43
            obtain ⟨hm47, fa48, fb49⟩ := fj_mid fx46
            have fr50 : px_fj b 4 175 1 h0 hm47 := fj_tr fr25 fa48 (by omega)
            have fr51 : px_fj b 4 175 1 h0 h41 := fj_tr fr50 fb49 (by omega)
            show px_to 28 67 [some (.ref (175)), some (.ref (b)), some (.int (nI tm)), some (.int (nI k)), some (.int (nI (sgn tx p)))] [.int (bI ((rdStep tx (sgn tx p) (skp tx p + 1)).1))] h41 _
            refine e_if_ne f_28_67 rfl (fun c_67 => ?_) (fun c_67 => ?_)
            · skip
              have c_67 : ((rdStep tx (sgn tx p) (skp tx p + 1)).1) = true := bI_t c_67
              refine e_iinc (y := nI (k + 1)) (L' := [some (.ref (175)), some (.ref (b)), some (.int (nI tm)), some (.int (nI (k + 1))), some (.int (nI (sgn tx p)))]) f_28_72 rfl (by rw [show Int32.ofInt 1 = nI 1 by decide]; exact (nI_add _ _)) rfl rfl ?_
              refine e_goto f_28_75 ?_
              rw [show 6 - k = (6 - (k + 1)) + 1 by omega, rdSteps, if_neg (fun z => z.elim (fun z => z hin) (fun z => by omega)), if_pos c_67, if_neg c_54] at q4
              have g52 : pJob h41 b (j ++ [(rdStep tx (sgn tx p) (skp tx p + 1)).2.2]) := by have z := g45; rw [if_pos c_67] at z; exact z
              refine px_to_L (L := [some (.ref (175)), some (.ref (b)), some (.int (nI tm)), some (.int (nI (k + 1))), none]) ⟨Or.inr rfl, Or.inr rfl, Or.inr rfl, Or.inr rfl, Or.inl rfl, trivial⟩ ?_
              first | (exfalso; omega) | exact ih (d - 1) (by omega) (k + 1) tm ((rdStep tx (sgn tx p) (skp tx p + 1)).2.1) (j ++ [(rdStep tx (sgn tx p) (skp tx p + 1)).2.2]) h41 (by omega) (by omega) (rdStep_le hsl2) (by rw [List.length_append, List.length_singleton]; omega) (q4) g44 g52 fr51
            · skip
              have c_67 : ((rdStep tx (sgn tx p) (skp tx p + 1)).1) = false := bI_f' c_67
              refine e_iconst (v := nI 0) f_28_70 (by decide) rfl ?_
              refine e_iret f_28_71 rfl (rfl) ?_
              rw [show 6 - k = (6 - (k + 1)) + 1 by omega, rdSteps, if_neg (fun z => z.elim (fun z => z hin) (fun z => by omega)), if_neg (by rw [c_67]; decide)] at q4
              subst q4
              exact ⟨rfl, g44, by have z := g45; rw [if_neg (by rw [c_67]; decide)] at z; exact z, fr51⟩
          · skip
            have c_54 : sgn tx p = 116 := cv_nne (by omega) (by omega) c_54
            refine e_iinc (y := nI (tm + 1)) (L' := [some (.ref (175)), some (.ref (b)), some (.int (nI (tm + 1))), some (.int (nI k)), some (.int (nI (sgn tx p)))]) f_28_57 rfl (by rw [show Int32.ofInt 1 = nI 1 by decide]; exact (nI_add _ _)) rfl rfl ?_
            refine e_aload_n f_28_60 rfl rfl ?_
            refine e_aload_n f_28_61 rfl rfl ?_
            refine e_iload f_28_62 rfl rfl ?_
            have g53 : pRd h22 tx (skp tx p + 1) := ⟨_, g23⟩
            have g54 : pJob h7 b j := pJob_fi G1 fx11 (by omega)
            have g55 : pJob h22 b j := pJob_fi g54 fx24 (by omega)
            obtain ⟨hm57, fa58, fb59⟩ := fj_mid fr25
            have g56 : px_pa h22 18 52 500 vN tx := pa_fi (pa_fi HT fa58 (by omega)) fb59 (by omega)
            obtain ⟨hm61, fa62, fb63⟩ := fj_mid fr25
            have g60 : pStr h22 4 ([60, 61, 62]) := pStr_fi (pStr_fi H4 fa62 (by omega)) fb63 (by omega)
            obtain ⟨hm65, fa66, fb67⟩ := fj_mid fr25
            have g64 : pStr h22 5 ([43, 45, 42, 47]) := pStr_fi (pStr_fi H5 fa66 (by omega)) fb67 (by omega)
            refine e_callV (As := [.ref (b), .int (nI (sgn tx p))]) (rest := []) f_28_64 rfl rfl rfl (Nat.le_of_ble_eq_true rfl) (Nat.le_of_ble_eq_true rfl) g23 rfl (Nat.le_of_ble_eq_true rfl) (cc_Rd_step (s := sgn tx p) (b := b) (j := j) (tx := tx) (p := skp tx p + 1) g53 g55 g56 g60 g64 (hsl2) (p1) (hin) (by omega) (by omega) (by omega)) rfl (fun h68 r69 q70 => ?_)
            obtain ⟨rfl, g71, g72, fx73⟩ := q70
            obtain ⟨hm74, fa75, fb76⟩ := fj_mid fx73
            have fr77 : px_fj b 4 175 1 h0 hm74 := fj_tr fr25 fa75 (by omega)
            have fr78 : px_fj b 4 175 1 h0 h68 := fj_tr fr77 fb76 (by omega)
            show px_to 28 67 [some (.ref (175)), some (.ref (b)), some (.int (nI (tm + 1))), some (.int (nI k)), some (.int (nI (sgn tx p)))] [.int (bI ((rdStep tx (sgn tx p) (skp tx p + 1)).1))] h68 _
            refine e_if_ne f_28_67 rfl (fun c_67 => ?_) (fun c_67 => ?_)
            · skip
              have c_67 : ((rdStep tx (sgn tx p) (skp tx p + 1)).1) = true := bI_t c_67
              refine e_iinc (y := nI (k + 1)) (L' := [some (.ref (175)), some (.ref (b)), some (.int (nI (tm + 1))), some (.int (nI (k + 1))), some (.int (nI (sgn tx p)))]) f_28_72 rfl (by rw [show Int32.ofInt 1 = nI 1 by decide]; exact (nI_add _ _)) rfl rfl ?_
              refine e_goto f_28_75 ?_
              rw [show 6 - k = (6 - (k + 1)) + 1 by omega, rdSteps, if_neg (fun z => z.elim (fun z => z hin) (fun z => by omega)), if_pos c_67, if_pos c_54] at q4
              have g79 : pJob h68 b (j ++ [(rdStep tx (sgn tx p) (skp tx p + 1)).2.2]) := by have z := g72; rw [if_pos c_67] at z; exact z
              refine px_to_L (L := [some (.ref (175)), some (.ref (b)), some (.int (nI (tm + 1))), some (.int (nI (k + 1))), none]) ⟨Or.inr rfl, Or.inr rfl, Or.inr rfl, Or.inr rfl, Or.inl rfl, trivial⟩ ?_
              first | (exfalso; omega) | exact ih (d - 1) (by omega) (k + 1) (tm + 1) ((rdStep tx (sgn tx p) (skp tx p + 1)).2.1) (j ++ [(rdStep tx (sgn tx p) (skp tx p + 1)).2.2]) h68 (by omega) (by omega) (rdStep_le hsl2) (by rw [List.length_append, List.length_singleton]; omega) (q4) g71 g79 fr78
            · skip
              have c_67 : ((rdStep tx (sgn tx p) (skp tx p + 1)).1) = false := bI_f' c_67
              refine e_iconst (v := nI 0) f_28_70 (by decide) rfl ?_
              refine e_iret f_28_71 rfl (rfl) ?_
              rw [show 6 - k = (6 - (k + 1)) + 1 by omega, rdSteps, if_neg (fun z => z.elim (fun z => z hin) (fun z => by omega)), if_neg (by rw [c_67]; decide)] at q4
              subst q4
              exact ⟨rfl, g71, by have z := g72; rw [if_neg (by rw [c_67]; decide)] at z; exact z, fr78⟩
        · skip
          have c_30 : sgn tx p = 116 := cv_nne (by omega) (by omega) c_30
          refine e_iload_n f_28_33 rfl rfl ?_
          refine e_iconst (v := nI 2) f_28_34 (by decide) rfl ?_
          refine e_icmp_ne f_28_35 rfl (fun c_35 => ?_) (fun c_35 => ?_)
          · skip
            have c_35 : tm ≠ 2 := cv_ne c_35
            have hsl2 : skp tx p + 1 ≤ tx.length := sgn_next hin (by decide)
            refine e_aload_n f_28_40 rfl rfl ?_
            refine e_dup f_28_41 rfl rfl ?_
            refine e_getf f_28_42 g10 rfl rfl ?_
            refine e_iconst (v := nI 1) f_28_45 (by decide) rfl ?_
            refine e_iadd (z := nI (skp tx p + 1)) f_28_46 (nI_add _ _) rfl ?_
            refine e_putp (vs' := [.ref (18), .int (nI tx.length), .int (n1), .int (nI (skp tx p + 1))]) f_28_47 g10 (Nat.le_of_ble_eq_true rfl) (rfl) (rfl) rfl rfl (fun h80 g81 fx82 => ?_)
            have fr83 : px_fj b 4 175 1 h0 h80 := fj_tr fr12 fx82 (by omega)
            refine e_iload f_28_50 rfl rfl ?_
            refine e_bipush (v := nI 116) f_28_52 (by decide) rfl ?_
            refine e_icmp_ne f_28_54 rfl (fun c_54 => ?_) (fun c_54 => ?_)
            · skip
              have c_54 : sgn tx p ≠ 116 := cv_ne c_54
              refine e_aload_n f_28_60 rfl rfl ?_
              refine e_aload_n f_28_61 rfl rfl ?_
              refine e_iload f_28_62 rfl rfl ?_
              have g84 : pRd h80 tx (skp tx p + 1) := ⟨_, g81⟩
              have g85 : pJob h7 b j := pJob_fi G1 fx11 (by omega)
              have g86 : pJob h80 b j := pJob_fi g85 fx82 (by omega)
              obtain ⟨hm88, fa89, fb90⟩ := fj_mid fr83
              have g87 : px_pa h80 18 52 500 vN tx := pa_fi (pa_fi HT fa89 (by omega)) fb90 (by omega)
              obtain ⟨hm92, fa93, fb94⟩ := fj_mid fr83
              have g91 : pStr h80 4 ([60, 61, 62]) := pStr_fi (pStr_fi H4 fa93 (by omega)) fb94 (by omega)
              obtain ⟨hm96, fa97, fb98⟩ := fj_mid fr83
              have g95 : pStr h80 5 ([43, 45, 42, 47]) := pStr_fi (pStr_fi H5 fa97 (by omega)) fb98 (by omega)
              refine e_callV (As := [.ref (b), .int (nI (sgn tx p))]) (rest := []) f_28_64 rfl rfl rfl (Nat.le_of_ble_eq_true rfl) (Nat.le_of_ble_eq_true rfl) g81 rfl (Nat.le_of_ble_eq_true rfl) (cc_Rd_step (s := sgn tx p) (b := b) (j := j) (tx := tx) (p := skp tx p + 1) g84 g86 g87 g91 g95 (hsl2) (p1) (hin) (by omega) (by omega) (by omega)) rfl (fun h99 r100 q101 => ?_)
              obtain ⟨rfl, g102, g103, fx104⟩ := q101
              obtain ⟨hm105, fa106, fb107⟩ := fj_mid fx104
              have fr108 : px_fj b 4 175 1 h0 hm105 := fj_tr fr83 fa106 (by omega)
              have fr109 : px_fj b 4 175 1 h0 h99 := fj_tr fr108 fb107 (by omega)
              show px_to 28 67 [some (.ref (175)), some (.ref (b)), some (.int (nI tm)), some (.int (nI k)), some (.int (nI (sgn tx p)))] [.int (bI ((rdStep tx (sgn tx p) (skp tx p + 1)).1))] h99 _
              refine e_if_ne f_28_67 rfl (fun c_67 => ?_) (fun c_67 => ?_)
              · skip
                have c_67 : ((rdStep tx (sgn tx p) (skp tx p + 1)).1) = true := bI_t c_67
                refine e_iinc (y := nI (k + 1)) (L' := [some (.ref (175)), some (.ref (b)), some (.int (nI tm)), some (.int (nI (k + 1))), some (.int (nI (sgn tx p)))]) f_28_72 rfl (by rw [show Int32.ofInt 1 = nI 1 by decide]; exact (nI_add _ _)) rfl rfl ?_
                refine e_goto f_28_75 ?_
                rw [show 6 - k = (6 - (k + 1)) + 1 by omega, rdSteps, if_neg (fun z => z.elim (fun z => z hin) (fun z => by omega)), if_pos c_67, if_neg c_54] at q4
                have g110 : pJob h99 b (j ++ [(rdStep tx (sgn tx p) (skp tx p + 1)).2.2]) := by have z := g103; rw [if_pos c_67] at z; exact z
                refine px_to_L (L := [some (.ref (175)), some (.ref (b)), some (.int (nI tm)), some (.int (nI (k + 1))), none]) ⟨Or.inr rfl, Or.inr rfl, Or.inr rfl, Or.inr rfl, Or.inl rfl, trivial⟩ ?_
                first | (exfalso; omega) | exact ih (d - 1) (by omega) (k + 1) tm ((rdStep tx (sgn tx p) (skp tx p + 1)).2.1) (j ++ [(rdStep tx (sgn tx p) (skp tx p + 1)).2.2]) h99 (by omega) (by omega) (rdStep_le hsl2) (by rw [List.length_append, List.length_singleton]; omega) (q4) g102 g110 fr109
              · skip
                have c_67 : ((rdStep tx (sgn tx p) (skp tx p + 1)).1) = false := bI_f' c_67
                refine e_iconst (v := nI 0) f_28_70 (by decide) rfl ?_
                refine e_iret f_28_71 rfl (rfl) ?_
                rw [show 6 - k = (6 - (k + 1)) + 1 by omega, rdSteps, if_neg (fun z => z.elim (fun z => z hin) (fun z => by omega)), if_neg (by rw [c_67]; decide)] at q4
                subst q4
                exact ⟨rfl, g102, by have z := g103; rw [if_neg (by rw [c_67]; decide)] at z; exact z, fr109⟩
            · skip
              have c_54 : sgn tx p = 116 := cv_nne (by omega) (by omega) c_54
              refine e_iinc (y := nI (tm + 1)) (L' := [some (.ref (175)), some (.ref (b)), some (.int (nI (tm + 1))), some (.int (nI k)), some (.int (nI (sgn tx p)))]) f_28_57 rfl (by rw [show Int32.ofInt 1 = nI 1 by decide]; exact (nI_add _ _)) rfl rfl ?_
              refine e_aload_n f_28_60 rfl rfl ?_
              refine e_aload_n f_28_61 rfl rfl ?_
              refine e_iload f_28_62 rfl rfl ?_
              have g111 : pRd h80 tx (skp tx p + 1) := ⟨_, g81⟩
              have g112 : pJob h7 b j := pJob_fi G1 fx11 (by omega)
              have g113 : pJob h80 b j := pJob_fi g112 fx82 (by omega)
              obtain ⟨hm115, fa116, fb117⟩ := fj_mid fr83
              have g114 : px_pa h80 18 52 500 vN tx := pa_fi (pa_fi HT fa116 (by omega)) fb117 (by omega)
              obtain ⟨hm119, fa120, fb121⟩ := fj_mid fr83
              have g118 : pStr h80 4 ([60, 61, 62]) := pStr_fi (pStr_fi H4 fa120 (by omega)) fb121 (by omega)
              obtain ⟨hm123, fa124, fb125⟩ := fj_mid fr83
              have g122 : pStr h80 5 ([43, 45, 42, 47]) := pStr_fi (pStr_fi H5 fa124 (by omega)) fb125 (by omega)
              refine e_callV (As := [.ref (b), .int (nI (sgn tx p))]) (rest := []) f_28_64 rfl rfl rfl (Nat.le_of_ble_eq_true rfl) (Nat.le_of_ble_eq_true rfl) g81 rfl (Nat.le_of_ble_eq_true rfl) (cc_Rd_step (s := sgn tx p) (b := b) (j := j) (tx := tx) (p := skp tx p + 1) g111 g113 g114 g118 g122 (hsl2) (p1) (hin) (by omega) (by omega) (by omega)) rfl (fun h126 r127 q128 => ?_)
              obtain ⟨rfl, g129, g130, fx131⟩ := q128
              obtain ⟨hm132, fa133, fb134⟩ := fj_mid fx131
              have fr135 : px_fj b 4 175 1 h0 hm132 := fj_tr fr83 fa133 (by omega)
              have fr136 : px_fj b 4 175 1 h0 h126 := fj_tr fr135 fb134 (by omega)
              show px_to 28 67 [some (.ref (175)), some (.ref (b)), some (.int (nI (tm + 1))), some (.int (nI k)), some (.int (nI (sgn tx p)))] [.int (bI ((rdStep tx (sgn tx p) (skp tx p + 1)).1))] h126 _
              refine e_if_ne f_28_67 rfl (fun c_67 => ?_) (fun c_67 => ?_)
              · skip
                have c_67 : ((rdStep tx (sgn tx p) (skp tx p + 1)).1) = true := bI_t c_67
                refine e_iinc (y := nI (k + 1)) (L' := [some (.ref (175)), some (.ref (b)), some (.int (nI (tm + 1))), some (.int (nI (k + 1))), some (.int (nI (sgn tx p)))]) f_28_72 rfl (by rw [show Int32.ofInt 1 = nI 1 by decide]; exact (nI_add _ _)) rfl rfl ?_
                refine e_goto f_28_75 ?_
                rw [show 6 - k = (6 - (k + 1)) + 1 by omega, rdSteps, if_neg (fun z => z.elim (fun z => z hin) (fun z => by omega)), if_pos c_67, if_pos c_54] at q4
                have g137 : pJob h126 b (j ++ [(rdStep tx (sgn tx p) (skp tx p + 1)).2.2]) := by have z := g130; rw [if_pos c_67] at z; exact z
                refine px_to_L (L := [some (.ref (175)), some (.ref (b)), some (.int (nI (tm + 1))), some (.int (nI (k + 1))), none]) ⟨Or.inr rfl, Or.inr rfl, Or.inr rfl, Or.inr rfl, Or.inl rfl, trivial⟩ ?_
                first | (exfalso; omega) | exact ih (d - 1) (by omega) (k + 1) (tm + 1) ((rdStep tx (sgn tx p) (skp tx p + 1)).2.1) (j ++ [(rdStep tx (sgn tx p) (skp tx p + 1)).2.2]) h126 (by omega) (by omega) (rdStep_le hsl2) (by rw [List.length_append, List.length_singleton]; omega) (q4) g129 g137 fr136
              · skip
                have c_67 : ((rdStep tx (sgn tx p) (skp tx p + 1)).1) = false := bI_f' c_67
                refine e_iconst (v := nI 0) f_28_70 (by decide) rfl ?_
                refine e_iret f_28_71 rfl (rfl) ?_
                rw [show 6 - k = (6 - (k + 1)) + 1 by omega, rdSteps, if_neg (fun z => z.elim (fun z => z hin) (fun z => by omega)), if_neg (by rw [c_67]; decide)] at q4
                subst q4
                exact ⟨rfl, g129, by have z := g130; rw [if_neg (by rw [c_67]; decide)] at z; exact z, fr136⟩
          · skip
            have c_35 : tm = 2 := cv_nne (by omega) (by omega) c_35
            refine e_iconst (v := nI 1) f_28_38 (by decide) rfl ?_
            refine e_iret f_28_39 rfl (rfl) ?_
            have g138 : pRd h7 tx (skp tx p) := ⟨_, g10⟩
            have g139 : pJob h7 b j := pJob_fi G1 fx11 (by omega)
            rw [show 6 - k = (6 - (k + 1)) + 1 by omega, rdSteps, if_pos (Or.inr ⟨c_30, c_35⟩)] at q4
            subst q4
            exact ⟨rfl, g138, g139, fr12⟩

set_option maxRecDepth 20000 in
set_option maxHeartbeats 4000000 in
theorem cc_Rd_steps {h : px_H} {b : Nat} {j : List St} {tx : List Nat} {p : Nat} (H0 : pRd h tx p) (H1 : pJob h b j) (H2 : px_pa h 18 52 500 vN tx) (H3 : pStr h 3 stepSigns) (H4 : pStr h 4 ([60, 61, 62])) (H5 : pStr h 5 ([43, 45, 42, 47])) (p0 : p ≤ tx.length) (p1 : okTx tx) (p2 : j = []) (p3 : 17 ≤ b) (p4 : 18 < b ∧ (b + 4 ≤ 175 ∨ 176 ≤ b)) : px_wp 28 [.ref (175), .ref (b)] h (fun h1 r => r = some (.int (bI ((rdSteps tx 6 0 p j).1))) ∧ pRd h1 tx ((rdSteps tx 6 0 p j).2.1) ∧ pJob h1 b ((rdSteps tx 6 0 p j).2.2) ∧ px_fj b 4 175 1 h h1) := by
  have fr0 : px_fj b 4 175 1 h h := fj_rf _ _ _ _ _
  show px_to 28 0 [some (.ref (175)), some (.ref (b)), none, none, none] [] h _
  refine e_iconst (v := nI 0) f_28_0 (by decide) rfl ?_
  refine e_istore_n (L' := [some (.ref (175)), some (.ref (b)), some (.int (nI 0)), none, none]) f_28_1 (Nat.le_of_ble_eq_true rfl) rfl rfl ?_
  refine e_iconst (v := nI 0) f_28_2 (by decide) rfl ?_
  refine e_istore_n (L' := [some (.ref (175)), some (.ref (b)), some (.int (nI 0)), some (.int (nI 0)), none]) f_28_3 (Nat.le_of_ble_eq_true rfl) rfl rfl ?_
  subst p2
  exact ll_Rd_steps (h0 := h) H2 H3 H4 H5 p1 p3 p4 6 0 0 p [] h (by omega) (by omega) p0 rfl rfl H0 H1 fr0
