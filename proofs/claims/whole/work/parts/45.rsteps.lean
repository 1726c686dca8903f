def px_fj (a n b m : Nat) (h h1 : px_H) : Prop := px_fr (fun q => (a ≤ q ∧ q < a + n) ∨ (b ≤ q ∧ q < b + m)) h h1
theorem fj_rf (a n b m : Nat) (h : px_H) : px_fj a n b m h h := px_fr_rf _ _
theorem fj_tr {a n b m lo k : Nat} {h h1 h2 : px_H} (x : px_fj a n b m h h1) (y : px_fi lo k h1 h2) (z : (a ≤ lo ∧ lo + k ≤ a + n) ∨ (b ≤ lo ∧ lo + k ≤ b + m)) : px_fj a n b m h h2 := px_fr_tr x y (fun q w => by
  rcases z with z | z
  · exact Or.inl ⟨by have := w.1; omega, by have := w.2; omega⟩
  · exact Or.inr ⟨by have := w.1; omega, by have := w.2; omega⟩)
theorem fj_mid {a n b m : Nat} {h h1 : px_H} (x : px_fj a n b m h h1) : ∃ hm, px_fi a n h hm ∧ px_fi b m hm h1 := by
  refine ⟨(h.1, h.2.1, fun q => if a ≤ q ∧ q < a + n then h1.2.2 q else h.2.2 q), ⟨rfl, rfl, fun q hq => if_neg hq⟩, ⟨x.1, x.2.1, fun q hq => ?_⟩⟩
  show h1.2.2 q = if a ≤ q ∧ q < a + n then h1.2.2 q else h.2.2 q
  by_cases c : a ≤ q ∧ q < a + n
  · rw [if_pos c]
  · rw [if_neg c]; exact x.2.2 q (fun w => w.elim c hq)
def pRd (h : px_H) (tx : List Nat) (p : Nat) : Prop := ∃ n, h.2.2 175 = some (4, [.ref 18, .int (nI tx.length), .int n, .int (nI p)])
theorem pRd_fi {h h1 : px_H} {tx : List Nat} {p lo n : Nat} (q : pRd h tx p) (f : px_fi lo n h h1) (d : 176 ≤ lo ∨ lo + n ≤ 175) : pRd h1 tx p := by
  obtain ⟨k, hk⟩ := q
  exact ⟨k, fi_at hk f (by omega)⟩
def actsOf (s : Nat) : List Nat := if s = 102 then [60, 61, 62] else [43, 45, 42, 47]
theorem ixf_neg : ∀ {l : List Nat} {c i : Nat}, i + l.length < 1000 → (ixf l c i < nI 0 ↔ c ∉ l)
  | [], c, i, _ => ⟨fun _ h => nomatch h, fun _ => by decide⟩
  | b :: r, c, i, h => by
    rw [List.length_cons] at h
    rw [ixf]
    by_cases e : b = c
    · rw [if_pos e]
      exact ⟨fun z => absurd z (nI_pos (by omega)), fun z => absurd (by rw [e]; exact List.mem_cons_self) z⟩
    · rw [if_neg e, ixf_neg (by omega)]
      exact ⟨fun z w => by rcases List.mem_cons.mp w with q | q; exacts [e q.symm, z q], fun z w => z (List.mem_cons_of_mem _ w)⟩
theorem ix_in {l : List Nat} {c : Nat} (hl : l.length < 1000) (h : 0 ≤ ixf l c 0) : c ∈ l := Classical.not_not.mp (fun z => Int32.not_le.mpr ((ixf_neg (by omega)).mpr z) h)
theorem ix_out {l : List Nat} {c : Nat} (hl : l.length < 1000) (h : ¬ 0 ≤ ixf l c 0) : c ∉ l := (ixf_neg (by omega)).mp (Int32.not_le.mp h)
/-- a step that begins with s, its sign read: did it go well, the place, the step -/
def rdStep (tx : List Nat) (s p : Nat) : Bool × Nat × St :=
  if s = 102 ∨ s = 109 then
    (if sgn tx p ∈ actsOf s then ((rdI tx (skp tx p + 1)).1, (rdI tx (skp tx p + 1)).2.2, (s, sgn tx p, (rdI tx (skp tx p + 1)).2.1)) else (false, skp tx p, (s, 0, 0)))
  else if s = 119 ∨ s = 116 then ((rdT tx p).1 && decide (0 < (rdT tx p).2.1), (rdT tx p).2.2, (s, 0, nI (rdT tx p).2.1))
  else if s = 100 ∨ s = 115 then (true, p, (s, 0, nI 0))
  else ((rdI tx p).1, (rdI tx p).2.2, (s, 0, (rdI tx p).2.1))
def stepSigns : List Nat := [102, 109, 113, 100, 115, 119, 116]
def rdSteps (tx : List Nat) : Nat → Nat → Nat → List St → Bool × Nat × List St
  | 0, _, p, j => (true, p, j)
  | f + 1, tm, p, j => if sgn tx p ∉ stepSigns ∨ (sgn tx p = 116 ∧ tm = 2) then (true, skp tx p, j)
    else if (rdStep tx (sgn tx p) (skp tx p + 1)).1 = true then rdSteps tx f (if sgn tx p = 116 then tm + 1 else tm) (rdStep tx (sgn tx p) (skp tx p + 1)).2.1 (j ++ [(rdStep tx (sgn tx p) (skp tx p + 1)).2.2])
    else (false, (rdStep tx (sgn tx p) (skp tx p + 1)).2.1, j)
theorem sgn_next {tx : List Nat} {p : Nat} {l : List Nat} (h : sgn tx p ∈ l) (h0 : 0 ∉ l) : skp tx p + 1 ≤ tx.length := sgn_in (fun e => h0 (e ▸ h))
theorem rdStep_le {tx : List Nat} {s p : Nat} (h : p ≤ tx.length) : (rdStep tx s p).2.1 ≤ tx.length := by
  unfold rdStep
  split
  · split
    · exact rdI_le (sgn_next (by assumption) (by unfold actsOf; split <;> decide))
    · exact skp_le h
  · split
    · exact rdT_le h
    · split
      · exact h
      · exact rdI_le h
theorem rdSteps_le {tx : List Nat} : ∀ (f tm p : Nat) (j : List St), p ≤ tx.length → (rdSteps tx f tm p j).2.1 ≤ tx.length
  | 0, _, _, _, h => h
  | f + 1, tm, p, j, h => by
    rw [rdSteps]
    split
    · exact skp_le h
    · rename_i c
      have h1 : skp tx p + 1 ≤ tx.length := sgn_next (l := stepSigns) (Classical.not_not.mp (fun z => c (Or.inl z))) (by decide)
      split
      · exact rdSteps_le f _ _ _ (rdStep_le h1)
      · exact rdStep_le h1
theorem rdStep_ok {tx : List Nat} {s p : Nat} (hs : s ∈ stepSigns) (ht : okTx tx) (h : (rdStep tx s p).1 = true) : okSt (rdStep tx s p).2.2 := by
  have hs2 : s = 102 ∨ s = 109 ∨ s = 113 ∨ s = 100 ∨ s = 115 ∨ s = 119 ∨ s = 116 := by simpa [stepSigns] using hs
  unfold rdStep at h ⊢
  split
  · rename_i c
    rw [if_pos c] at h
    split
    · exact ⟨hs2, by have := tx_lt ht (skp tx p); show sgn tx p < 65536; unfold sgn; omega, fun z => by dsimp only at z; omega⟩
    · rename_i c2
      rw [if_neg c2] at h
      exact absurd h (by decide)
  · rename_i c
    rw [if_neg c] at h
    split
    · rename_i c2
      rw [if_pos c2] at h
      simp at h
      exact ⟨hs2, by decide, fun _ => ⟨_, h.2, by have := rdT_b (tx := tx) (p := p); omega, rfl⟩⟩
    · rename_i c2
      rw [if_neg c2] at h
      split
      · exact ⟨hs2, by decide, fun z => by dsimp only at z; omega⟩
      · exact ⟨hs2, by decide, fun z => by dsimp only at z; omega⟩
theorem rdSteps_ok {tx : List Nat} (ht : okTx tx) : ∀ (f tm p : Nat) (j : List St), j.length + f ≤ 6 → okJ j → okJ (rdSteps tx f tm p j).2.2
  | 0, _, _, _, _, h => h
  | f + 1, tm, p, j, hl, h => by
    rw [rdSteps]
    split
    · exact h
    · rename_i c
      split
      · refine rdSteps_ok ht f _ _ _ (by rw [List.length_append, List.length_singleton]; omega) ⟨by rw [List.length_append, List.length_singleton]; omega, fun s hs => ?_⟩
        rw [List.mem_append, List.mem_singleton] at hs
        rcases hs with z | z
        · exact h.2 s z
        · rw [z]; exact rdStep_ok (Classical.not_not.mp (fun z => c (Or.inl z))) ht (by assumption)
      · exact h

set_option maxRecDepth 20000 in
set_option maxHeartbeats 4000000 in
theorem cc_Rd_step {h : px_H} {s b : Nat} {j : List St} {tx : List Nat} {p : Nat} (H0 : pRd h tx p) (H1 : pJob h b j) (H2 : px_pa h 18 52 500 vN tx) (H3 : pStr h 4 ([60, 61, 62])) (H4 : pStr h 5 ([43, 45, 42, 47])) (p0 : p ≤ tx.length) (p1 : okTx tx) (p2 : s ∈ stepSigns) (p3 : j.length < 6) (p4 : 17 ≤ b) (p5 : 18 < b ∧ (b + 4 ≤ 175 ∨ 176 ≤ b)) : px_wp 29 [.ref (175), .ref (b), .int (nI s)] h (fun h1 r => r = some (.int (bI ((rdStep tx s p).1))) ∧ pRd h1 tx ((rdStep tx s p).2.1) ∧ pJob h1 b (if (rdStep tx s p).1 = true then j ++ [(rdStep tx s p).2.2] else j) ∧ px_fj b 4 175 1 h h1) := by
  have fr0 : px_fj b 4 175 1 h h := fj_rf _ _ _ _ _
  have le := pa_len H2
  have hsl : sgn tx p < 127 := tx_lt p1 _
  have hsk := skp_le p0
  have hs2 : s = 102 ∨ s = 109 ∨ s = 113 ∨ s = 100 ∨ s = 115 ∨ s = 119 ∨ s = 116 := by simpa [stepSigns] using p2
  have htb := rdT_b (tx := tx) (p := p)
  show px_to 29 0 [some (.ref (175)), some (.ref (b)), some (.int (nI s)), none, none] [] h _
  refine e_iconst (v := nI 0) f_29_0 (by decide) rfl ?_
  refine e_istore_n (L' := [some (.ref (175)), some (.ref (b)), some (.int (nI s)), some (.int (nI 0)), none]) f_29_1 (Nat.le_of_ble_eq_true rfl) rfl rfl ?_
  refine e_iload_n f_29_2 rfl rfl ?_
  refine e_bipush (v := nI 102) f_29_3 (by decide) rfl ?_
  refine e_icmp_eq f_29_5 rfl (fun c_5 => ?_) (fun c_5 => ?_)
  · skip
    have c_5 : s = 102 := cv_eq (by omega) (by omega) c_5
    refine e_aload_n f_29_14 rfl rfl ?_
    obtain ⟨n1, g2⟩ := H0
    refine e_callV (As := []) (rest := []) f_29_15 rfl rfl rfl (Nat.le_of_ble_eq_true rfl) (Nat.le_of_ble_eq_true rfl) g2 rfl (Nat.le_of_ble_eq_true rfl) (cc_Rd_next (tx := tx) (p := p) (n := n1) g2 H2 (by omega) (p1)) rfl (fun h3 r4 q5 => ?_)
    obtain ⟨rfl, g6, fx7⟩ := q5
    have fr8 : px_fj b 4 175 1 h h3 := fj_tr fr0 fx7 (by omega)
    show px_to 29 18 [some (.ref (175)), some (.ref (b)), some (.int (nI s)), some (.int (nI 0)), none] [.int (nI (sgn tx p))] h3 _
    refine e_istore_n (L' := [some (.ref (175)), some (.ref (b)), some (.int (nI s)), some (.int (nI (sgn tx p))), none]) f_29_18 (Nat.le_of_ble_eq_true rfl) rfl rfl ?_
    refine e_iload_n f_29_19 rfl rfl ?_
    refine e_bipush (v := nI 102) f_29_20 (by decide) rfl ?_
    refine e_icmp_ne f_29_22 rfl (fun c_22 => ?_) (fun c_22 => ?_)
    · skip
      have c_22 : s ≠ 102 := cv_ne c_22
      refine e_ldc f_29_30 rfl ?_
      refine e_astore (L' := [some (.ref (175)), some (.ref (b)), some (.int (nI s)), some (.int (nI (sgn tx p))), some (.ref (5))]) f_29_32 (Nat.le_of_ble_eq_true rfl) rfl rfl ?_
      refine e_aload f_29_34 rfl rfl ?_
      refine e_iload_n f_29_36 rfl rfl ?_
      obtain ⟨hm10, fa11, fb12⟩ := fj_mid fr8
      have g9 : pStr h3 5 ([43, 45, 42, 47]) := pStr_fi (pStr_fi H4 fa11 (by omega)) fb12 (by omega)
      refine e_callV (As := [.int (nI (sgn tx p))]) (rest := []) f_29_37 rfl rfl rfl (Nat.le_of_ble_eq_true rfl) (Nat.le_of_ble_eq_true rfl) g9.1 rfl (Nat.le_of_ble_eq_true rfl) (cc_Str_ix (c := sgn tx p) (k := 5) (bs := [43, 45, 42, 47]) g9 (by omega) (by decide) (by decide)) rfl (fun h13 r14 q15 => ?_)
      obtain ⟨rfl, qe⟩ := q15
      have qe := qe.symm
      subst qe
      show px_to 29 40 [some (.ref (175)), some (.ref (b)), some (.int (nI s)), some (.int (nI (sgn tx p))), some (.ref (5))] [.int (ixf ([43, 45, 42, 47]) (sgn tx p) 0)] h3 _
      refine e_if_ge f_29_40 rfl (fun c_40 => ?_) (fun c_40 => ?_)
      · skip
        have hin : sgn tx p ∈ [43, 45, 42, 47] := ix_in (by decide) c_40
        have hsl2 : skp tx p + 1 ≤ tx.length := sgn_next hin (by decide)
        refine e_aload_n f_29_45 rfl rfl ?_
        refine e_dup f_29_46 rfl rfl ?_
        refine e_getf f_29_47 g6 rfl rfl ?_
        refine e_iconst (v := nI 1) f_29_50 (by decide) rfl ?_
        refine e_iadd (z := nI (skp tx p + 1)) f_29_51 (nI_add _ _) rfl ?_
        refine e_putp (vs' := [.ref (18), .int (nI tx.length), .int (n1), .int (nI (skp tx p + 1))]) f_29_52 g6 (Nat.le_of_ble_eq_true rfl) (rfl) (rfl) rfl rfl (fun h16 g17 fx18 => ?_)
        have fr19 : px_fj b 4 175 1 h h16 := fj_tr fr8 fx18 (by omega)
        refine e_aload_n f_29_55 rfl rfl ?_
        refine e_iconst (v := nI 0) f_29_56 (by decide) rfl ?_
        refine e_putp (vs' := [.ref (18), .int (nI tx.length), .int (nI 0), .int (nI (skp tx p + 1))]) f_29_57 g17 (Nat.le_of_ble_eq_true rfl) (rfl) (rfl) rfl rfl (fun h20 g21 fx22 => ?_)
        have fr23 : px_fj b 4 175 1 h h20 := fj_tr fr19 fx22 (by omega)
        refine e_iconst (v := nI 1) f_29_60 (by decide) rfl ?_
        refine e_istore (L' := [some (.ref (175)), some (.ref (b)), some (.int (nI s)), some (.int (nI (sgn tx p))), some (.int (nI 1))]) f_29_61 (Nat.le_of_ble_eq_true rfl) rfl rfl ?_
        refine e_iload_n f_29_63 rfl rfl ?_
        refine e_bipush (v := nI 119) f_29_64 (by decide) rfl ?_
        refine e_icmp_eq f_29_66 rfl (fun c_66 => ?_) (fun c_66 => ?_)
        · skip
          have c_66 : s = 119 := cv_eq (by omega) (by omega) c_66
          refine e_aload_n f_29_75 rfl rfl ?_
          obtain ⟨hm25, fa26, fb27⟩ := fj_mid fr23
          have g24 : px_pa h20 18 52 500 vN tx := pa_fi (pa_fi H2 fa26 (by omega)) fb27 (by omega)
          refine e_callV (As := []) (rest := []) f_29_76 rfl rfl rfl (Nat.le_of_ble_eq_true rfl) (Nat.le_of_ble_eq_true rfl) g21 rfl (Nat.le_of_ble_eq_true rfl) (cc_Rd_time (tx := tx) (p := skp tx p + 1) (n := nI 0) g21 g24 (by omega) (p1)) rfl (fun h28 r29 q30 => ?_)
          obtain ⟨rfl, g31, fx32⟩ := q30
          have fr33 : px_fj b 4 175 1 h h28 := fj_tr fr23 fx32 (by omega)
          show px_to 29 79 [some (.ref (175)), some (.ref (b)), some (.int (nI s)), some (.int (nI (sgn tx p))), some (.int (nI 1))] [.int (bI ((rdT tx (skp tx p + 1)).1))] h28 _
          refine e_if_eq f_29_79 rfl (fun c_79 => ?_) (fun c_79 => ?_)
          · skip
            have c_79 : ((rdT tx (skp tx p + 1)).1) = false := bI_f c_79
            refine e_iconst (v := nI 0) f_29_93 (by decide) rfl ?_
            refine e_istore (L' := [some (.ref (175)), some (.ref (b)), some (.int (nI s)), some (.int (nI (sgn tx p))), some (.int (nI 0))]) f_29_94 (Nat.le_of_ble_eq_true rfl) rfl rfl ?_
            refine e_goto f_29_96 ?_
            refine e_iload f_29_117 rfl rfl ?_
            refine e_if_eq_t f_29_119 (by decide) ?_
            refine e_iload f_29_132 rfl rfl ?_
            refine e_iret f_29_134 rfl (rfl) ?_
            have g34 : pJob h3 b j := pJob_fi H1 fx7 (by omega)
            have g35 : pJob h16 b j := pJob_fi g34 fx18 (by omega)
            have g36 : pJob h20 b j := pJob_fi g35 fx22 (by omega)
            have g37 : pJob h28 b j := pJob_fi g36 fx32 (by omega)
            have hfm : s = 102 ∨ s = 109 := by omega
            have hac : actsOf s = [43, 45, 42, 47] := by unfold actsOf; rw [if_neg c_22]
            have er : rdStep tx s p = ((rdI tx (skp tx p + 1)).1, (rdI tx (skp tx p + 1)).2.2, (s, sgn tx p, (rdI tx (skp tx p + 1)).2.1)) := by unfold rdStep; rw [if_pos hfm, hac, if_pos hin]
            have g38 : pRd h28 tx ((rdT tx (skp tx p + 1)).2.2) := ⟨_, g31⟩
            have hb : ((rdT tx p).1 && decide (0 < (rdT tx p).2.1)) = false := by rw [c_79]; rfl
            rw [er]
            dsimp only
            rw [hb, if_neg (by decide)]
            exact ⟨rfl, g38, g37, fr33⟩
          · skip
            have c_79 : ((rdT tx (skp tx p + 1)).1) = true := bI_t' c_79
            refine e_aload_n f_29_82 rfl rfl ?_
            refine e_getf f_29_83 g31 rfl rfl ?_
            refine e_if_le f_29_86 rfl (fun c_86 => ?_) (fun c_86 => ?_)
            · skip
              refine e_iconst (v := nI 0) f_29_93 (by decide) rfl ?_
              refine e_istore (L' := [some (.ref (175)), some (.ref (b)), some (.int (nI s)), some (.int (nI (sgn tx p))), some (.int (nI 0))]) f_29_94 (Nat.le_of_ble_eq_true rfl) rfl rfl ?_
              refine e_goto f_29_96 ?_
              refine e_iload f_29_117 rfl rfl ?_
              refine e_if_eq_t f_29_119 (by decide) ?_
              refine e_iload f_29_132 rfl rfl ?_
              refine e_iret f_29_134 rfl (rfl) ?_
              have g39 : pJob h3 b j := pJob_fi H1 fx7 (by omega)
              have g40 : pJob h16 b j := pJob_fi g39 fx18 (by omega)
              have g41 : pJob h20 b j := pJob_fi g40 fx22 (by omega)
              have g42 : pJob h28 b j := pJob_fi g41 fx32 (by omega)
              have hfm : s = 102 ∨ s = 109 := by omega
              have hac : actsOf s = [43, 45, 42, 47] := by unfold actsOf; rw [if_neg c_22]
              have er : rdStep tx s p = ((rdI tx (skp tx p + 1)).1, (rdI tx (skp tx p + 1)).2.2, (s, sgn tx p, (rdI tx (skp tx p + 1)).2.1)) := by unfold rdStep; rw [if_pos hfm, hac, if_pos hin]
              have g43 : pRd h28 tx ((rdT tx (skp tx p + 1)).2.2) := ⟨_, g31⟩
              have hb : ((rdT tx p).1 && decide (0 < (rdT tx p).2.1)) = false := by rw [c_79, decide_eq_false (show ¬ 0 < (rdT tx p).2.1 by omega)]; rfl
              rw [er]
              dsimp only
              rw [hb, if_neg (by decide)]
              exact ⟨rfl, g43, g42, fr33⟩
            · skip
              refine e_iconst (v := nI 1) f_29_89 (by decide) rfl ?_
              refine e_goto f_29_90 ?_
              refine e_istore (L' := [some (.ref (175)), some (.ref (b)), some (.int (nI s)), some (.int (nI (sgn tx p))), some (.int (nI 1))]) f_29_94 (Nat.le_of_ble_eq_true rfl) rfl rfl ?_
              refine e_goto f_29_96 ?_
              refine e_iload f_29_117 rfl rfl ?_
              refine e_if_eq_f f_29_119 (by decide) rfl ?_
              refine e_aload_n f_29_122 rfl rfl ?_
              refine e_iload_n f_29_123 rfl rfl ?_
              refine e_iload_n f_29_124 rfl rfl ?_
              refine e_aload_n f_29_125 rfl rfl ?_
              refine e_getf f_29_126 g31 rfl rfl ?_
              have g44 : pJob h3 b j := pJob_fi H1 fx7 (by omega)
              have g45 : pJob h16 b j := pJob_fi g44 fx18 (by omega)
              have g46 : pJob h20 b j := pJob_fi g45 fx22 (by omega)
              have g47 : pJob h28 b j := pJob_fi g46 fx32 (by omega)
              refine e_callV (As := [.int (nI s), .int (nI (sgn tx p)), .int (nI (rdT tx (skp tx p + 1)).2.1)]) (rest := []) f_29_129 rfl rfl rfl (Nat.le_of_ble_eq_true rfl) (Nat.le_of_ble_eq_true rfl) g47.1 rfl (Nat.le_of_ble_eq_true rfl) (cc_Job_addStep (a := b) (s := s) (ac := sgn tx p) (nu := nI (rdT tx (skp tx p + 1)).2.1) (j := j) g47 (by omega) (by omega)) rfl (fun h48 r49 q50 => ?_)
              obtain ⟨rfl, g51, fx52⟩ := q50
              have fr53 : px_fj b 4 175 1 h h48 := fj_tr fr33 fx52 (by omega)
              show px_to 29 132 [some (.ref (175)), some (.ref (b)), some (.int (nI s)), some (.int (nI (sgn tx p))), some (.int (nI 1))] [] h48 _
              refine e_iload f_29_132 rfl rfl ?_
              refine e_iret f_29_134 rfl (rfl) ?_
              have hfm : s = 102 ∨ s = 109 := by omega
              have hac : actsOf s = [43, 45, 42, 47] := by unfold actsOf; rw [if_neg c_22]
              have er : rdStep tx s p = ((rdI tx (skp tx p + 1)).1, (rdI tx (skp tx p + 1)).2.2, (s, sgn tx p, (rdI tx (skp tx p + 1)).2.1)) := by unfold rdStep; rw [if_pos hfm, hac, if_pos hin]
              have g54 : h48.2.2 175 = some (4, [.ref (18), .int (nI tx.length), .int (nI (rdT tx (skp tx p + 1)).2.1), .int (nI ((rdT tx (skp tx p + 1)).2.2))]) := fi_at g31 fx52 (by omega)
              have g55 : pRd h48 tx ((rdT tx (skp tx p + 1)).2.2) := ⟨_, g54⟩
              have hb : ((rdT tx p).1 && decide (0 < (rdT tx p).2.1)) = true := by rw [c_79, decide_eq_true (show 0 < (rdT tx p).2.1 by omega)]; rfl
              rw [er]
              dsimp only
              rw [hb, if_pos rfl]
              exact ⟨rfl, g55, g51, fr53⟩
        · skip
          have c_66 : s ≠ 119 := cv_ne c_66
          refine e_iload_n f_29_69 rfl rfl ?_
          refine e_bipush (v := nI 116) f_29_70 (by decide) rfl ?_
          refine e_icmp_ne f_29_72 rfl (fun c_72 => ?_) (fun c_72 => ?_)
          · skip
            have c_72 : s ≠ 116 := cv_ne c_72
            refine e_iload_n f_29_99 rfl rfl ?_
            refine e_bipush (v := nI 100) f_29_100 (by decide) rfl ?_
            refine e_icmp_eq f_29_102 rfl (fun c_102 => ?_) (fun c_102 => ?_)
            · skip
              have c_102 : s = 100 := cv_eq (by omega) (by omega) c_102
              refine e_iload f_29_117 rfl rfl ?_
              refine e_if_eq_f f_29_119 (by decide) rfl ?_
              refine e_aload_n f_29_122 rfl rfl ?_
              refine e_iload_n f_29_123 rfl rfl ?_
              refine e_iload_n f_29_124 rfl rfl ?_
              refine e_aload_n f_29_125 rfl rfl ?_
              refine e_getf f_29_126 g21 rfl rfl ?_
              have g56 : pJob h3 b j := pJob_fi H1 fx7 (by omega)
              have g57 : pJob h16 b j := pJob_fi g56 fx18 (by omega)
              have g58 : pJob h20 b j := pJob_fi g57 fx22 (by omega)
              refine e_callV (As := [.int (nI s), .int (nI (sgn tx p)), .int (nI 0)]) (rest := []) f_29_129 rfl rfl rfl (Nat.le_of_ble_eq_true rfl) (Nat.le_of_ble_eq_true rfl) g58.1 rfl (Nat.le_of_ble_eq_true rfl) (cc_Job_addStep (a := b) (s := s) (ac := sgn tx p) (nu := nI 0) (j := j) g58 (by omega) (by omega)) rfl (fun h59 r60 q61 => ?_)
              obtain ⟨rfl, g62, fx63⟩ := q61
              have fr64 : px_fj b 4 175 1 h h59 := fj_tr fr23 fx63 (by omega)
              show px_to 29 132 [some (.ref (175)), some (.ref (b)), some (.int (nI s)), some (.int (nI (sgn tx p))), some (.int (nI 1))] [] h59 _
              refine e_iload f_29_132 rfl rfl ?_
              refine e_iret f_29_134 rfl (rfl) ?_
              have hfm : s = 102 ∨ s = 109 := by omega
              have hac : actsOf s = [43, 45, 42, 47] := by unfold actsOf; rw [if_neg c_22]
              have er : rdStep tx s p = ((rdI tx (skp tx p + 1)).1, (rdI tx (skp tx p + 1)).2.2, (s, sgn tx p, (rdI tx (skp tx p + 1)).2.1)) := by unfold rdStep; rw [if_pos hfm, hac, if_pos hin]
              have g65 : h59.2.2 175 = some (4, [.ref (18), .int (nI tx.length), .int (nI 0), .int (nI (skp tx p + 1))]) := fi_at g21 fx63 (by omega)
              have g66 : pRd h59 tx (skp tx p + 1) := ⟨_, g65⟩
              rw [er]
              dsimp only
              rw [if_pos rfl]
              exact ⟨rfl, g66, g62, fr64⟩
            · skip
              have c_102 : s ≠ 100 := cv_ne c_102
              refine e_iload_n f_29_105 rfl rfl ?_
              refine e_bipush (v := nI 115) f_29_106 (by decide) rfl ?_
              refine e_icmp_eq f_29_108 rfl (fun c_108 => ?_) (fun c_108 => ?_)
              · skip
                have c_108 : s = 115 := cv_eq (by omega) (by omega) c_108
                refine e_iload f_29_117 rfl rfl ?_
                refine e_if_eq_f f_29_119 (by decide) rfl ?_
                refine e_aload_n f_29_122 rfl rfl ?_
                refine e_iload_n f_29_123 rfl rfl ?_
                refine e_iload_n f_29_124 rfl rfl ?_
                refine e_aload_n f_29_125 rfl rfl ?_
                refine e_getf f_29_126 g21 rfl rfl ?_
                have g67 : pJob h3 b j := pJob_fi H1 fx7 (by omega)
                have g68 : pJob h16 b j := pJob_fi g67 fx18 (by omega)
                have g69 : pJob h20 b j := pJob_fi g68 fx22 (by omega)
                refine e_callV (As := [.int (nI s), .int (nI (sgn tx p)), .int (nI 0)]) (rest := []) f_29_129 rfl rfl rfl (Nat.le_of_ble_eq_true rfl) (Nat.le_of_ble_eq_true rfl) g69.1 rfl (Nat.le_of_ble_eq_true rfl) (cc_Job_addStep (a := b) (s := s) (ac := sgn tx p) (nu := nI 0) (j := j) g69 (by omega) (by omega)) rfl (fun h70 r71 q72 => ?_)
                obtain ⟨rfl, g73, fx74⟩ := q72
                have fr75 : px_fj b 4 175 1 h h70 := fj_tr fr23 fx74 (by omega)
                show px_to 29 132 [some (.ref (175)), some (.ref (b)), some (.int (nI s)), some (.int (nI (sgn tx p))), some (.int (nI 1))] [] h70 _
                refine e_iload f_29_132 rfl rfl ?_
                refine e_iret f_29_134 rfl (rfl) ?_
                have hfm : s = 102 ∨ s = 109 := by omega
                have hac : actsOf s = [43, 45, 42, 47] := by unfold actsOf; rw [if_neg c_22]
                have er : rdStep tx s p = ((rdI tx (skp tx p + 1)).1, (rdI tx (skp tx p + 1)).2.2, (s, sgn tx p, (rdI tx (skp tx p + 1)).2.1)) := by unfold rdStep; rw [if_pos hfm, hac, if_pos hin]
                have g76 : h70.2.2 175 = some (4, [.ref (18), .int (nI tx.length), .int (nI 0), .int (nI (skp tx p + 1))]) := fi_at g21 fx74 (by omega)
                have g77 : pRd h70 tx (skp tx p + 1) := ⟨_, g76⟩
                rw [er]
                dsimp only
                rw [if_pos rfl]
                exact ⟨rfl, g77, g73, fr75⟩
              · skip
                have c_108 : s ≠ 115 := cv_ne c_108
                refine e_aload_n f_29_111 rfl rfl ?_
                obtain ⟨hm79, fa80, fb81⟩ := fj_mid fr23
                have g78 : px_pa h20 18 52 500 vN tx := pa_fi (pa_fi H2 fa80 (by omega)) fb81 (by omega)
                refine e_callV (As := []) (rest := []) f_29_112 rfl rfl rfl (Nat.le_of_ble_eq_true rfl) (Nat.le_of_ble_eq_true rfl) g21 rfl (Nat.le_of_ble_eq_true rfl) (cc_Rd_int (tx := tx) (p := skp tx p + 1) (n := nI 0) g21 g78 (by first | exact hsl2 | exact p0) (p1)) rfl (fun h82 r83 q84 => ?_)
                obtain ⟨rfl, g85, fx86⟩ := q84
                have fr87 : px_fj b 4 175 1 h h82 := fj_tr fr23 fx86 (by omega)
                show px_to 29 115 [some (.ref (175)), some (.ref (b)), some (.int (nI s)), some (.int (nI (sgn tx p))), some (.int (nI 1))] [.int (bI ((rdI tx (skp tx p + 1)).1))] h82 _
                refine e_istore (L' := [some (.ref (175)), some (.ref (b)), some (.int (nI s)), some (.int (nI (sgn tx p))), some (.int (bI ((rdI tx (skp tx p + 1)).1)))]) f_29_115 (Nat.le_of_ble_eq_true rfl) rfl rfl ?_
                refine e_iload f_29_117 rfl rfl ?_
                refine e_if_eq f_29_119 rfl (fun c_119 => ?_) (fun c_119 => ?_)
                · skip
                  have c_119 : ((rdI tx (skp tx p + 1)).1) = false := bI_f c_119
                  refine e_iload f_29_132 rfl rfl ?_
                  refine e_iret f_29_134 rfl (nw_bI _) ?_
                  have g88 : pJob h3 b j := pJob_fi H1 fx7 (by omega)
                  have g89 : pJob h16 b j := pJob_fi g88 fx18 (by omega)
                  have g90 : pJob h20 b j := pJob_fi g89 fx22 (by omega)
                  have g91 : pJob h82 b j := pJob_fi g90 fx86 (by omega)
                  have hfm : s = 102 ∨ s = 109 := by omega
                  have hac : actsOf s = [43, 45, 42, 47] := by unfold actsOf; rw [if_neg c_22]
                  have er : rdStep tx s p = ((rdI tx (skp tx p + 1)).1, (rdI tx (skp tx p + 1)).2.2, (s, sgn tx p, (rdI tx (skp tx p + 1)).2.1)) := by unfold rdStep; rw [if_pos hfm, hac, if_pos hin]
                  have g92 : pRd h82 tx ((rdI tx (skp tx p + 1)).2.2) := ⟨_, g85⟩
                  rw [er]
                  dsimp only
                  rw [if_neg (by rw [c_119]; decide)]
                  exact ⟨by rw [c_119], g92, g91, fr87⟩
                · skip
                  have c_119 : ((rdI tx (skp tx p + 1)).1) = true := bI_t' c_119
                  refine e_aload_n f_29_122 rfl rfl ?_
                  refine e_iload_n f_29_123 rfl rfl ?_
                  refine e_iload_n f_29_124 rfl rfl ?_
                  refine e_aload_n f_29_125 rfl rfl ?_
                  refine e_getf f_29_126 g85 rfl rfl ?_
                  have g93 : pJob h3 b j := pJob_fi H1 fx7 (by omega)
                  have g94 : pJob h16 b j := pJob_fi g93 fx18 (by omega)
                  have g95 : pJob h20 b j := pJob_fi g94 fx22 (by omega)
                  have g96 : pJob h82 b j := pJob_fi g95 fx86 (by omega)
                  refine e_callV (As := [.int (nI s), .int (nI (sgn tx p)), .int ((rdI tx (skp tx p + 1)).2.1)]) (rest := []) f_29_129 rfl rfl rfl (Nat.le_of_ble_eq_true rfl) (Nat.le_of_ble_eq_true rfl) g96.1 rfl (Nat.le_of_ble_eq_true rfl) (cc_Job_addStep (a := b) (s := s) (ac := sgn tx p) (nu := (rdI tx (skp tx p + 1)).2.1) (j := j) g96 (by omega) (by omega)) rfl (fun h97 r98 q99 => ?_)
                  obtain ⟨rfl, g100, fx101⟩ := q99
                  have fr102 : px_fj b 4 175 1 h h97 := fj_tr fr87 fx101 (by omega)
                  show px_to 29 132 [some (.ref (175)), some (.ref (b)), some (.int (nI s)), some (.int (nI (sgn tx p))), some (.int (bI ((rdI tx (skp tx p + 1)).1)))] [] h97 _
                  refine e_iload f_29_132 rfl rfl ?_
                  refine e_iret f_29_134 rfl (nw_bI _) ?_
                  have hfm : s = 102 ∨ s = 109 := by omega
                  have hac : actsOf s = [43, 45, 42, 47] := by unfold actsOf; rw [if_neg c_22]
                  have er : rdStep tx s p = ((rdI tx (skp tx p + 1)).1, (rdI tx (skp tx p + 1)).2.2, (s, sgn tx p, (rdI tx (skp tx p + 1)).2.1)) := by unfold rdStep; rw [if_pos hfm, hac, if_pos hin]
                  have g103 : h97.2.2 175 = some (4, [.ref (18), .int (nI tx.length), .int ((rdI tx (skp tx p + 1)).2.1), .int (nI ((rdI tx (skp tx p + 1)).2.2))]) := fi_at g85 fx101 (by omega)
                  have g104 : pRd h97 tx ((rdI tx (skp tx p + 1)).2.2) := ⟨_, g103⟩
                  rw [er]
                  dsimp only
                  rw [if_pos c_119]
                  exact ⟨by rw [c_119], g104, g100, fr102⟩
          · skip
            have c_72 : s = 116 := cv_nne (by omega) (by omega) c_72
            refine e_aload_n f_29_75 rfl rfl ?_
            obtain ⟨hm106, fa107, fb108⟩ := fj_mid fr23
            have g105 : px_pa h20 18 52 500 vN tx := pa_fi (pa_fi H2 fa107 (by omega)) fb108 (by omega)
            refine e_callV (As := []) (rest := []) f_29_76 rfl rfl rfl (Nat.le_of_ble_eq_true rfl) (Nat.le_of_ble_eq_true rfl) g21 rfl (Nat.le_of_ble_eq_true rfl) (cc_Rd_time (tx := tx) (p := skp tx p + 1) (n := nI 0) g21 g105 (by omega) (p1)) rfl (fun h109 r110 q111 => ?_)
            obtain ⟨rfl, g112, fx113⟩ := q111
            have fr114 : px_fj b 4 175 1 h h109 := fj_tr fr23 fx113 (by omega)
            show px_to 29 79 [some (.ref (175)), some (.ref (b)), some (.int (nI s)), some (.int (nI (sgn tx p))), some (.int (nI 1))] [.int (bI ((rdT tx (skp tx p + 1)).1))] h109 _
            refine e_if_eq f_29_79 rfl (fun c_79 => ?_) (fun c_79 => ?_)
            · skip
              have c_79 : ((rdT tx (skp tx p + 1)).1) = false := bI_f c_79
              refine e_iconst (v := nI 0) f_29_93 (by decide) rfl ?_
              refine e_istore (L' := [some (.ref (175)), some (.ref (b)), some (.int (nI s)), some (.int (nI (sgn tx p))), some (.int (nI 0))]) f_29_94 (Nat.le_of_ble_eq_true rfl) rfl rfl ?_
              refine e_goto f_29_96 ?_
              refine e_iload f_29_117 rfl rfl ?_
              refine e_if_eq_t f_29_119 (by decide) ?_
              refine e_iload f_29_132 rfl rfl ?_
              refine e_iret f_29_134 rfl (rfl) ?_
              have g115 : pJob h3 b j := pJob_fi H1 fx7 (by omega)
              have g116 : pJob h16 b j := pJob_fi g115 fx18 (by omega)
              have g117 : pJob h20 b j := pJob_fi g116 fx22 (by omega)
              have g118 : pJob h109 b j := pJob_fi g117 fx113 (by omega)
              have hfm : s = 102 ∨ s = 109 := by omega
              have hac : actsOf s = [43, 45, 42, 47] := by unfold actsOf; rw [if_neg c_22]
              have er : rdStep tx s p = ((rdI tx (skp tx p + 1)).1, (rdI tx (skp tx p + 1)).2.2, (s, sgn tx p, (rdI tx (skp tx p + 1)).2.1)) := by unfold rdStep; rw [if_pos hfm, hac, if_pos hin]
              have g119 : pRd h109 tx ((rdT tx (skp tx p + 1)).2.2) := ⟨_, g112⟩
              have hb : ((rdT tx p).1 && decide (0 < (rdT tx p).2.1)) = false := by rw [c_79]; rfl
              rw [er]
              dsimp only
              rw [hb, if_neg (by decide)]
              exact ⟨rfl, g119, g118, fr114⟩
            · skip
              have c_79 : ((rdT tx (skp tx p + 1)).1) = true := bI_t' c_79
              refine e_aload_n f_29_82 rfl rfl ?_
              refine e_getf f_29_83 g112 rfl rfl ?_
              refine e_if_le f_29_86 rfl (fun c_86 => ?_) (fun c_86 => ?_)
              · skip
                refine e_iconst (v := nI 0) f_29_93 (by decide) rfl ?_
                refine e_istore (L' := [some (.ref (175)), some (.ref (b)), some (.int (nI s)), some (.int (nI (sgn tx p))), some (.int (nI 0))]) f_29_94 (Nat.le_of_ble_eq_true rfl) rfl rfl ?_
                refine e_goto f_29_96 ?_
                refine e_iload f_29_117 rfl rfl ?_
                refine e_if_eq_t f_29_119 (by decide) ?_
                refine e_iload f_29_132 rfl rfl ?_
                refine e_iret f_29_134 rfl (rfl) ?_
                have g120 : pJob h3 b j := pJob_fi H1 fx7 (by omega)
                have g121 : pJob h16 b j := pJob_fi g120 fx18 (by omega)
                have g122 : pJob h20 b j := pJob_fi g121 fx22 (by omega)
                have g123 : pJob h109 b j := pJob_fi g122 fx113 (by omega)
                have hfm : s = 102 ∨ s = 109 := by omega
                have hac : actsOf s = [43, 45, 42, 47] := by unfold actsOf; rw [if_neg c_22]
                have er : rdStep tx s p = ((rdI tx (skp tx p + 1)).1, (rdI tx (skp tx p + 1)).2.2, (s, sgn tx p, (rdI tx (skp tx p + 1)).2.1)) := by unfold rdStep; rw [if_pos hfm, hac, if_pos hin]
                have g124 : pRd h109 tx ((rdT tx (skp tx p + 1)).2.2) := ⟨_, g112⟩
                have hb : ((rdT tx p).1 && decide (0 < (rdT tx p).2.1)) = false := by rw [c_79, decide_eq_false (show ¬ 0 < (rdT tx p).2.1 by omega)]; rfl
                rw [er]
                dsimp only
                rw [hb, if_neg (by decide)]
                exact ⟨rfl, g124, g123, fr114⟩
              · skip
                refine e_iconst (v := nI 1) f_29_89 (by decide) rfl ?_
                refine e_goto f_29_90 ?_
                refine e_istore (L' := [some (.ref (175)), some (.ref (b)), some (.int (nI s)), some (.int (nI (sgn tx p))), some (.int (nI 1))]) f_29_94 (Nat.le_of_ble_eq_true rfl) rfl rfl ?_
                refine e_goto f_29_96 ?_
                refine e_iload f_29_117 rfl rfl ?_
                refine e_if_eq_f f_29_119 (by decide) rfl ?_
                refine e_aload_n f_29_122 rfl rfl ?_
                refine e_iload_n f_29_123 rfl rfl ?_
                refine e_iload_n f_29_124 rfl rfl ?_
                refine e_aload_n f_29_125 rfl rfl ?_
                refine e_getf f_29_126 g112 rfl rfl ?_
                have g125 : pJob h3 b j := pJob_fi H1 fx7 (by omega)
                have g126 : pJob h16 b j := pJob_fi g125 fx18 (by omega)
                have g127 : pJob h20 b j := pJob_fi g126 fx22 (by omega)
                have g128 : pJob h109 b j := pJob_fi g127 fx113 (by omega)
                refine e_callV (As := [.int (nI s), .int (nI (sgn tx p)), .int (nI (rdT tx (skp tx p + 1)).2.1)]) (rest := []) f_29_129 rfl rfl rfl (Nat.le_of_ble_eq_true rfl) (Nat.le_of_ble_eq_true rfl) g128.1 rfl (Nat.le_of_ble_eq_true rfl) (cc_Job_addStep (a := b) (s := s) (ac := sgn tx p) (nu := nI (rdT tx (skp tx p + 1)).2.1) (j := j) g128 (by omega) (by omega)) rfl (fun h129 r130 q131 => ?_)
                obtain ⟨rfl, g132, fx133⟩ := q131
                have fr134 : px_fj b 4 175 1 h h129 := fj_tr fr114 fx133 (by omega)
                show px_to 29 132 [some (.ref (175)), some (.ref (b)), some (.int (nI s)), some (.int (nI (sgn tx p))), some (.int (nI 1))] [] h129 _
                refine e_iload f_29_132 rfl rfl ?_
                refine e_iret f_29_134 rfl (rfl) ?_
                have hfm : s = 102 ∨ s = 109 := by omega
                have hac : actsOf s = [43, 45, 42, 47] := by unfold actsOf; rw [if_neg c_22]
                have er : rdStep tx s p = ((rdI tx (skp tx p + 1)).1, (rdI tx (skp tx p + 1)).2.2, (s, sgn tx p, (rdI tx (skp tx p + 1)).2.1)) := by unfold rdStep; rw [if_pos hfm, hac, if_pos hin]
                have g135 : h129.2.2 175 = some (4, [.ref (18), .int (nI tx.length), .int (nI (rdT tx (skp tx p + 1)).2.1), .int (nI ((rdT tx (skp tx p + 1)).2.2))]) := fi_at g112 fx133 (by omega)
                have g136 : pRd h129 tx ((rdT tx (skp tx p + 1)).2.2) := ⟨_, g135⟩
                have hb : ((rdT tx p).1 && decide (0 < (rdT tx p).2.1)) = true := by rw [c_79, decide_eq_true (show 0 < (rdT tx p).2.1 by omega)]; rfl
                rw [er]
                dsimp only
                rw [hb, if_pos rfl]
                exact ⟨rfl, g136, g132, fr134⟩
      · skip
        have hin : sgn tx p ∉ [43, 45, 42, 47] := ix_out (by decide) c_40
        refine e_iconst (v := nI 0) f_29_43 (by decide) rfl ?_
        refine e_iret f_29_44 rfl (rfl) ?_
        have g137 : pJob h3 b j := pJob_fi H1 fx7 (by omega)
        have hfm : s = 102 ∨ s = 109 := by omega
        have hac : actsOf s = [43, 45, 42, 47] := by unfold actsOf; rw [if_neg c_22]
        have er : rdStep tx s p = (false, skp tx p, (s, 0, 0)) := by unfold rdStep; rw [if_pos hfm, hac, if_neg hin]
        have g138 : pRd h3 tx (skp tx p) := ⟨_, g6⟩
        rw [er]
        exact ⟨rfl, g138, g137, fr8⟩
    · skip
      have c_22 : s = 102 := cv_nne (by omega) (by omega) c_22
      refine e_ldc f_29_25 rfl ?_
      refine e_goto f_29_27 ?_
      refine e_astore (L' := [some (.ref (175)), some (.ref (b)), some (.int (nI s)), some (.int (nI (sgn tx p))), some (.ref (4))]) f_29_32 (Nat.le_of_ble_eq_true rfl) rfl rfl ?_
      refine e_aload f_29_34 rfl rfl ?_
      refine e_iload_n f_29_36 rfl rfl ?_
      obtain ⟨hm140, fa141, fb142⟩ := fj_mid fr8
      have g139 : pStr h3 4 ([60, 61, 62]) := pStr_fi (pStr_fi H3 fa141 (by omega)) fb142 (by omega)
      refine e_callV (As := [.int (nI (sgn tx p))]) (rest := []) f_29_37 rfl rfl rfl (Nat.le_of_ble_eq_true rfl) (Nat.le_of_ble_eq_true rfl) g139.1 rfl (Nat.le_of_ble_eq_true rfl) (cc_Str_ix (c := sgn tx p) (k := 4) (bs := [60, 61, 62]) g139 (by omega) (by decide) (by decide)) rfl (fun h143 r144 q145 => ?_)
      obtain ⟨rfl, qe⟩ := q145
      have qe := qe.symm
      subst qe
      show px_to 29 40 [some (.ref (175)), some (.ref (b)), some (.int (nI s)), some (.int (nI (sgn tx p))), some (.ref (4))] [.int (ixf ([60, 61, 62]) (sgn tx p) 0)] h3 _
      refine e_if_ge f_29_40 rfl (fun c_40 => ?_) (fun c_40 => ?_)
      · skip
        have hin : sgn tx p ∈ [60, 61, 62] := ix_in (by decide) c_40
        have hsl2 : skp tx p + 1 ≤ tx.length := sgn_next hin (by decide)
        refine e_aload_n f_29_45 rfl rfl ?_
        refine e_dup f_29_46 rfl rfl ?_
        refine e_getf f_29_47 g6 rfl rfl ?_
        refine e_iconst (v := nI 1) f_29_50 (by decide) rfl ?_
        refine e_iadd (z := nI (skp tx p + 1)) f_29_51 (nI_add _ _) rfl ?_
        refine e_putp (vs' := [.ref (18), .int (nI tx.length), .int (n1), .int (nI (skp tx p + 1))]) f_29_52 g6 (Nat.le_of_ble_eq_true rfl) (rfl) (rfl) rfl rfl (fun h146 g147 fx148 => ?_)
        have fr149 : px_fj b 4 175 1 h h146 := fj_tr fr8 fx148 (by omega)
        refine e_aload_n f_29_55 rfl rfl ?_
        refine e_iconst (v := nI 0) f_29_56 (by decide) rfl ?_
        refine e_putp (vs' := [.ref (18), .int (nI tx.length), .int (nI 0), .int (nI (skp tx p + 1))]) f_29_57 g147 (Nat.le_of_ble_eq_true rfl) (rfl) (rfl) rfl rfl (fun h150 g151 fx152 => ?_)
        have fr153 : px_fj b 4 175 1 h h150 := fj_tr fr149 fx152 (by omega)
        refine e_iconst (v := nI 1) f_29_60 (by decide) rfl ?_
        refine e_istore (L' := [some (.ref (175)), some (.ref (b)), some (.int (nI s)), some (.int (nI (sgn tx p))), some (.int (nI 1))]) f_29_61 (Nat.le_of_ble_eq_true rfl) rfl rfl ?_
        refine e_iload_n f_29_63 rfl rfl ?_
        refine e_bipush (v := nI 119) f_29_64 (by decide) rfl ?_
        refine e_icmp_eq f_29_66 rfl (fun c_66 => ?_) (fun c_66 => ?_)
        · skip
          have c_66 : s = 119 := cv_eq (by omega) (by omega) c_66
          refine e_aload_n f_29_75 rfl rfl ?_
          obtain ⟨hm155, fa156, fb157⟩ := fj_mid fr153
          have g154 : px_pa h150 18 52 500 vN tx := pa_fi (pa_fi H2 fa156 (by omega)) fb157 (by omega)
          refine e_callV (As := []) (rest := []) f_29_76 rfl rfl rfl (Nat.le_of_ble_eq_true rfl) (Nat.le_of_ble_eq_true rfl) g151 rfl (Nat.le_of_ble_eq_true rfl) (cc_Rd_time (tx := tx) (p := skp tx p + 1) (n := nI 0) g151 g154 (by omega) (p1)) rfl (fun h158 r159 q160 => ?_)
          obtain ⟨rfl, g161, fx162⟩ := q160
          have fr163 : px_fj b 4 175 1 h h158 := fj_tr fr153 fx162 (by omega)
          show px_to 29 79 [some (.ref (175)), some (.ref (b)), some (.int (nI s)), some (.int (nI (sgn tx p))), some (.int (nI 1))] [.int (bI ((rdT tx (skp tx p + 1)).1))] h158 _
          refine e_if_eq f_29_79 rfl (fun c_79 => ?_) (fun c_79 => ?_)
          · skip
            have c_79 : ((rdT tx (skp tx p + 1)).1) = false := bI_f c_79
            refine e_iconst (v := nI 0) f_29_93 (by decide) rfl ?_
            refine e_istore (L' := [some (.ref (175)), some (.ref (b)), some (.int (nI s)), some (.int (nI (sgn tx p))), some (.int (nI 0))]) f_29_94 (Nat.le_of_ble_eq_true rfl) rfl rfl ?_
            refine e_goto f_29_96 ?_
            refine e_iload f_29_117 rfl rfl ?_
            refine e_if_eq_t f_29_119 (by decide) ?_
            refine e_iload f_29_132 rfl rfl ?_
            refine e_iret f_29_134 rfl (rfl) ?_
            have g164 : pJob h3 b j := pJob_fi H1 fx7 (by omega)
            have g165 : pJob h146 b j := pJob_fi g164 fx148 (by omega)
            have g166 : pJob h150 b j := pJob_fi g165 fx152 (by omega)
            have g167 : pJob h158 b j := pJob_fi g166 fx162 (by omega)
            have hfm : s = 102 ∨ s = 109 := by omega
            have hac : actsOf s = [60, 61, 62] := by unfold actsOf; rw [if_pos c_22]
            have er : rdStep tx s p = ((rdI tx (skp tx p + 1)).1, (rdI tx (skp tx p + 1)).2.2, (s, sgn tx p, (rdI tx (skp tx p + 1)).2.1)) := by unfold rdStep; rw [if_pos hfm, hac, if_pos hin]
            have g168 : pRd h158 tx ((rdT tx (skp tx p + 1)).2.2) := ⟨_, g161⟩
            have hb : ((rdT tx p).1 && decide (0 < (rdT tx p).2.1)) = false := by rw [c_79]; rfl
            rw [er]
            dsimp only
            rw [hb, if_neg (by decide)]
            exact ⟨rfl, g168, g167, fr163⟩
          · skip
            have c_79 : ((rdT tx (skp tx p + 1)).1) = true := bI_t' c_79
            refine e_aload_n f_29_82 rfl rfl ?_
            refine e_getf f_29_83 g161 rfl rfl ?_
            refine e_if_le f_29_86 rfl (fun c_86 => ?_) (fun c_86 => ?_)
            · skip
              refine e_iconst (v := nI 0) f_29_93 (by decide) rfl ?_
              refine e_istore (L' := [some (.ref (175)), some (.ref (b)), some (.int (nI s)), some (.int (nI (sgn tx p))), some (.int (nI 0))]) f_29_94 (Nat.le_of_ble_eq_true rfl) rfl rfl ?_
              refine e_goto f_29_96 ?_
              refine e_iload f_29_117 rfl rfl ?_
              refine e_if_eq_t f_29_119 (by decide) ?_
              refine e_iload f_29_132 rfl rfl ?_
              refine e_iret f_29_134 rfl (rfl) ?_
              have g169 : pJob h3 b j := pJob_fi H1 fx7 (by omega)
              have g170 : pJob h146 b j := pJob_fi g169 fx148 (by omega)
              have g171 : pJob h150 b j := pJob_fi g170 fx152 (by omega)
              have g172 : pJob h158 b j := pJob_fi g171 fx162 (by omega)
              have hfm : s = 102 ∨ s = 109 := by omega
              have hac : actsOf s = [60, 61, 62] := by unfold actsOf; rw [if_pos c_22]
              have er : rdStep tx s p = ((rdI tx (skp tx p + 1)).1, (rdI tx (skp tx p + 1)).2.2, (s, sgn tx p, (rdI tx (skp tx p + 1)).2.1)) := by unfold rdStep; rw [if_pos hfm, hac, if_pos hin]
              have g173 : pRd h158 tx ((rdT tx (skp tx p + 1)).2.2) := ⟨_, g161⟩
              have hb : ((rdT tx p).1 && decide (0 < (rdT tx p).2.1)) = false := by rw [c_79, decide_eq_false (show ¬ 0 < (rdT tx p).2.1 by omega)]; rfl
              rw [er]
              dsimp only
              rw [hb, if_neg (by decide)]
              exact ⟨rfl, g173, g172, fr163⟩
            · skip
              refine e_iconst (v := nI 1) f_29_89 (by decide) rfl ?_
              refine e_goto f_29_90 ?_
              refine e_istore (L' := [some (.ref (175)), some (.ref (b)), some (.int (nI s)), some (.int (nI (sgn tx p))), some (.int (nI 1))]) f_29_94 (Nat.le_of_ble_eq_true rfl) rfl rfl ?_
              refine e_goto f_29_96 ?_
              refine e_iload f_29_117 rfl rfl ?_
              refine e_if_eq_f f_29_119 (by decide) rfl ?_
              refine e_aload_n f_29_122 rfl rfl ?_
              refine e_iload_n f_29_123 rfl rfl ?_
              refine e_iload_n f_29_124 rfl rfl ?_
              refine e_aload_n f_29_125 rfl rfl ?_
              refine e_getf f_29_126 g161 rfl rfl ?_
              have g174 : pJob h3 b j := pJob_fi H1 fx7 (by omega)
              have g175 : pJob h146 b j := pJob_fi g174 fx148 (by omega)
              have g176 : pJob h150 b j := pJob_fi g175 fx152 (by omega)
              have g177 : pJob h158 b j := pJob_fi g176 fx162 (by omega)
              refine e_callV (As := [.int (nI s), .int (nI (sgn tx p)), .int (nI (rdT tx (skp tx p + 1)).2.1)]) (rest := []) f_29_129 rfl rfl rfl (Nat.le_of_ble_eq_true rfl) (Nat.le_of_ble_eq_true rfl) g177.1 rfl (Nat.le_of_ble_eq_true rfl) (cc_Job_addStep (a := b) (s := s) (ac := sgn tx p) (nu := nI (rdT tx (skp tx p + 1)).2.1) (j := j) g177 (by omega) (by omega)) rfl (fun h178 r179 q180 => ?_)
              obtain ⟨rfl, g181, fx182⟩ := q180
              have fr183 : px_fj b 4 175 1 h h178 := fj_tr fr163 fx182 (by omega)
              show px_to 29 132 [some (.ref (175)), some (.ref (b)), some (.int (nI s)), some (.int (nI (sgn tx p))), some (.int (nI 1))] [] h178 _
              refine e_iload f_29_132 rfl rfl ?_
              refine e_iret f_29_134 rfl (rfl) ?_
              have hfm : s = 102 ∨ s = 109 := by omega
              have hac : actsOf s = [60, 61, 62] := by unfold actsOf; rw [if_pos c_22]
              have er : rdStep tx s p = ((rdI tx (skp tx p + 1)).1, (rdI tx (skp tx p + 1)).2.2, (s, sgn tx p, (rdI tx (skp tx p + 1)).2.1)) := by unfold rdStep; rw [if_pos hfm, hac, if_pos hin]
              have g184 : h178.2.2 175 = some (4, [.ref (18), .int (nI tx.length), .int (nI (rdT tx (skp tx p + 1)).2.1), .int (nI ((rdT tx (skp tx p + 1)).2.2))]) := fi_at g161 fx182 (by omega)
              have g185 : pRd h178 tx ((rdT tx (skp tx p + 1)).2.2) := ⟨_, g184⟩
              have hb : ((rdT tx p).1 && decide (0 < (rdT tx p).2.1)) = true := by rw [c_79, decide_eq_true (show 0 < (rdT tx p).2.1 by omega)]; rfl
              rw [er]
              dsimp only
              rw [hb, if_pos rfl]
              exact ⟨rfl, g185, g181, fr183⟩
        · skip
          have c_66 : s ≠ 119 := cv_ne c_66
          refine e_iload_n f_29_69 rfl rfl ?_
          refine e_bipush (v := nI 116) f_29_70 (by decide) rfl ?_
          refine e_icmp_ne f_29_72 rfl (fun c_72 => ?_) (fun c_72 => ?_)
          · skip
            have c_72 : s ≠ 116 := cv_ne c_72
            refine e_iload_n f_29_99 rfl rfl ?_
            refine e_bipush (v := nI 100) f_29_100 (by decide) rfl ?_
            refine e_icmp_eq f_29_102 rfl (fun c_102 => ?_) (fun c_102 => ?_)
            · skip
              have c_102 : s = 100 := cv_eq (by omega) (by omega) c_102
              refine e_iload f_29_117 rfl rfl ?_
              refine e_if_eq_f f_29_119 (by decide) rfl ?_
              refine e_aload_n f_29_122 rfl rfl ?_
              refine e_iload_n f_29_123 rfl rfl ?_
              refine e_iload_n f_29_124 rfl rfl ?_
              refine e_aload_n f_29_125 rfl rfl ?_
              refine e_getf f_29_126 g151 rfl rfl ?_
              have g186 : pJob h3 b j := pJob_fi H1 fx7 (by omega)
              have g187 : pJob h146 b j := pJob_fi g186 fx148 (by omega)
              have g188 : pJob h150 b j := pJob_fi g187 fx152 (by omega)
              refine e_callV (As := [.int (nI s), .int (nI (sgn tx p)), .int (nI 0)]) (rest := []) f_29_129 rfl rfl rfl (Nat.le_of_ble_eq_true rfl) (Nat.le_of_ble_eq_true rfl) g188.1 rfl (Nat.le_of_ble_eq_true rfl) (cc_Job_addStep (a := b) (s := s) (ac := sgn tx p) (nu := nI 0) (j := j) g188 (by omega) (by omega)) rfl (fun h189 r190 q191 => ?_)
              obtain ⟨rfl, g192, fx193⟩ := q191
              have fr194 : px_fj b 4 175 1 h h189 := fj_tr fr153 fx193 (by omega)
              show px_to 29 132 [some (.ref (175)), some (.ref (b)), some (.int (nI s)), some (.int (nI (sgn tx p))), some (.int (nI 1))] [] h189 _
              refine e_iload f_29_132 rfl rfl ?_
              refine e_iret f_29_134 rfl (rfl) ?_
              have hfm : s = 102 ∨ s = 109 := by omega
              have hac : actsOf s = [60, 61, 62] := by unfold actsOf; rw [if_pos c_22]
              have er : rdStep tx s p = ((rdI tx (skp tx p + 1)).1, (rdI tx (skp tx p + 1)).2.2, (s, sgn tx p, (rdI tx (skp tx p + 1)).2.1)) := by unfold rdStep; rw [if_pos hfm, hac, if_pos hin]
              have g195 : h189.2.2 175 = some (4, [.ref (18), .int (nI tx.length), .int (nI 0), .int (nI (skp tx p + 1))]) := fi_at g151 fx193 (by omega)
              have g196 : pRd h189 tx (skp tx p + 1) := ⟨_, g195⟩
              rw [er]
              dsimp only
              rw [if_pos rfl]
              exact ⟨rfl, g196, g192, fr194⟩
            · skip
              have c_102 : s ≠ 100 := cv_ne c_102
              refine e_iload_n f_29_105 rfl rfl ?_
              refine e_bipush (v := nI 115) f_29_106 (by decide) rfl ?_
              refine e_icmp_eq f_29_108 rfl (fun c_108 => ?_) (fun c_108 => ?_)
              · skip
                have c_108 : s = 115 := cv_eq (by omega) (by omega) c_108
                refine e_iload f_29_117 rfl rfl ?_
                refine e_if_eq_f f_29_119 (by decide) rfl ?_
                refine e_aload_n f_29_122 rfl rfl ?_
                refine e_iload_n f_29_123 rfl rfl ?_
                refine e_iload_n f_29_124 rfl rfl ?_
                refine e_aload_n f_29_125 rfl rfl ?_
                refine e_getf f_29_126 g151 rfl rfl ?_
                have g197 : pJob h3 b j := pJob_fi H1 fx7 (by omega)
                have g198 : pJob h146 b j := pJob_fi g197 fx148 (by omega)
                have g199 : pJob h150 b j := pJob_fi g198 fx152 (by omega)
                refine e_callV (As := [.int (nI s), .int (nI (sgn tx p)), .int (nI 0)]) (rest := []) f_29_129 rfl rfl rfl (Nat.le_of_ble_eq_true rfl) (Nat.le_of_ble_eq_true rfl) g199.1 rfl (Nat.le_of_ble_eq_true rfl) (cc_Job_addStep (a := b) (s := s) (ac := sgn tx p) (nu := nI 0) (j := j) g199 (by omega) (by omega)) rfl (fun h200 r201 q202 => ?_)
                obtain ⟨rfl, g203, fx204⟩ := q202
                have fr205 : px_fj b 4 175 1 h h200 := fj_tr fr153 fx204 (by omega)
                show px_to 29 132 [some (.ref (175)), some (.ref (b)), some (.int (nI s)), some (.int (nI (sgn tx p))), some (.int (nI 1))] [] h200 _
                refine e_iload f_29_132 rfl rfl ?_
                refine e_iret f_29_134 rfl (rfl) ?_
                have hfm : s = 102 ∨ s = 109 := by omega
                have hac : actsOf s = [60, 61, 62] := by unfold actsOf; rw [if_pos c_22]
                have er : rdStep tx s p = ((rdI tx (skp tx p + 1)).1, (rdI tx (skp tx p + 1)).2.2, (s, sgn tx p, (rdI tx (skp tx p + 1)).2.1)) := by unfold rdStep; rw [if_pos hfm, hac, if_pos hin]
                have g206 : h200.2.2 175 = some (4, [.ref (18), .int (nI tx.length), .int (nI 0), .int (nI (skp tx p + 1))]) := fi_at g151 fx204 (by omega)
                have g207 : pRd h200 tx (skp tx p + 1) := ⟨_, g206⟩
                rw [er]
                dsimp only
                rw [if_pos rfl]
                exact ⟨rfl, g207, g203, fr205⟩
              · skip
                have c_108 : s ≠ 115 := cv_ne c_108
                refine e_aload_n f_29_111 rfl rfl ?_
                obtain ⟨hm209, fa210, fb211⟩ := fj_mid fr153
                have g208 : px_pa h150 18 52 500 vN tx := pa_fi (pa_fi H2 fa210 (by omega)) fb211 (by omega)
                refine e_callV (As := []) (rest := []) f_29_112 rfl rfl rfl (Nat.le_of_ble_eq_true rfl) (Nat.le_of_ble_eq_true rfl) g151 rfl (Nat.le_of_ble_eq_true rfl) (cc_Rd_int (tx := tx) (p := skp tx p + 1) (n := nI 0) g151 g208 (by first | exact hsl2 | exact p0) (p1)) rfl (fun h212 r213 q214 => ?_)
                obtain ⟨rfl, g215, fx216⟩ := q214
                have fr217 : px_fj b 4 175 1 h h212 := fj_tr fr153 fx216 (by omega)
                show px_to 29 115 [some (.ref (175)), some (.ref (b)), some (.int (nI s)), some (.int (nI (sgn tx p))), some (.int (nI 1))] [.int (bI ((rdI tx (skp tx p + 1)).1))] h212 _
                refine e_istore (L' := [some (.ref (175)), some (.ref (b)), some (.int (nI s)), some (.int (nI (sgn tx p))), some (.int (bI ((rdI tx (skp tx p + 1)).1)))]) f_29_115 (Nat.le_of_ble_eq_true rfl) rfl rfl ?_
                refine e_iload f_29_117 rfl rfl ?_
                refine e_if_eq f_29_119 rfl (fun c_119 => ?_) (fun c_119 => ?_)
                · skip
                  have c_119 : ((rdI tx (skp tx p + 1)).1) = false := bI_f c_119
                  refine e_iload f_29_132 rfl rfl ?_
                  refine e_iret f_29_134 rfl (nw_bI _) ?_
                  have g218 : pJob h3 b j := pJob_fi H1 fx7 (by omega)
                  have g219 : pJob h146 b j := pJob_fi g218 fx148 (by omega)
                  have g220 : pJob h150 b j := pJob_fi g219 fx152 (by omega)
                  have g221 : pJob h212 b j := pJob_fi g220 fx216 (by omega)
                  have hfm : s = 102 ∨ s = 109 := by omega
                  have hac : actsOf s = [60, 61, 62] := by unfold actsOf; rw [if_pos c_22]
                  have er : rdStep tx s p = ((rdI tx (skp tx p + 1)).1, (rdI tx (skp tx p + 1)).2.2, (s, sgn tx p, (rdI tx (skp tx p + 1)).2.1)) := by unfold rdStep; rw [if_pos hfm, hac, if_pos hin]
                  have g222 : pRd h212 tx ((rdI tx (skp tx p + 1)).2.2) := ⟨_, g215⟩
                  rw [er]
                  dsimp only
                  rw [if_neg (by rw [c_119]; decide)]
                  exact ⟨by rw [c_119], g222, g221, fr217⟩
                · skip
                  have c_119 : ((rdI tx (skp tx p + 1)).1) = true := bI_t' c_119
                  refine e_aload_n f_29_122 rfl rfl ?_
                  refine e_iload_n f_29_123 rfl rfl ?_
                  refine e_iload_n f_29_124 rfl rfl ?_
                  refine e_aload_n f_29_125 rfl rfl ?_
                  refine e_getf f_29_126 g215 rfl rfl ?_
                  have g223 : pJob h3 b j := pJob_fi H1 fx7 (by omega)
                  have g224 : pJob h146 b j := pJob_fi g223 fx148 (by omega)
                  have g225 : pJob h150 b j := pJob_fi g224 fx152 (by omega)
                  have g226 : pJob h212 b j := pJob_fi g225 fx216 (by omega)
                  refine e_callV (As := [.int (nI s), .int (nI (sgn tx p)), .int ((rdI tx (skp tx p + 1)).2.1)]) (rest := []) f_29_129 rfl rfl rfl (Nat.le_of_ble_eq_true rfl) (Nat.le_of_ble_eq_true rfl) g226.1 rfl (Nat.le_of_ble_eq_true rfl) (cc_Job_addStep (a := b) (s := s) (ac := sgn tx p) (nu := (rdI tx (skp tx p + 1)).2.1) (j := j) g226 (by omega) (by omega)) rfl (fun h227 r228 q229 => ?_)
                  obtain ⟨rfl, g230, fx231⟩ := q229
                  have fr232 : px_fj b 4 175 1 h h227 := fj_tr fr217 fx231 (by omega)
                  show px_to 29 132 [some (.ref (175)), some (.ref (b)), some (.int (nI s)), some (.int (nI (sgn tx p))), some (.int (bI ((rdI tx (skp tx p + 1)).1)))] [] h227 _
                  refine e_iload f_29_132 rfl rfl ?_
                  refine e_iret f_29_134 rfl (nw_bI _) ?_
                  have hfm : s = 102 ∨ s = 109 := by omega
                  have hac : actsOf s = [60, 61, 62] := by unfold actsOf; rw [if_pos c_22]
                  have er : rdStep tx s p = ((rdI tx (skp tx p + 1)).1, (rdI tx (skp tx p + 1)).2.2, (s, sgn tx p, (rdI tx (skp tx p + 1)).2.1)) := by unfold rdStep; rw [if_pos hfm, hac, if_pos hin]
                  have g233 : h227.2.2 175 = some (4, [.ref (18), .int (nI tx.length), .int ((rdI tx (skp tx p + 1)).2.1), .int (nI ((rdI tx (skp tx p + 1)).2.2))]) := fi_at g215 fx231 (by omega)
                  have g234 : pRd h227 tx ((rdI tx (skp tx p + 1)).2.2) := ⟨_, g233⟩
                  rw [er]
                  dsimp only
                  rw [if_pos c_119]
                  exact ⟨by rw [c_119], g234, g230, fr232⟩
          · skip
            have c_72 : s = 116 := cv_nne (by omega) (by omega) c_72
            refine e_aload_n f_29_75 rfl rfl ?_
            obtain ⟨hm236, fa237, fb238⟩ := fj_mid fr153
            have g235 : px_pa h150 18 52 500 vN tx := pa_fi (pa_fi H2 fa237 (by omega)) fb238 (by omega)
            refine e_callV (As := []) (rest := []) f_29_76 rfl rfl rfl (Nat.le_of_ble_eq_true rfl) (Nat.le_of_ble_eq_true rfl) g151 rfl (Nat.le_of_ble_eq_true rfl) (cc_Rd_time (tx := tx) (p := skp tx p + 1) (n := nI 0) g151 g235 (by omega) (p1)) rfl (fun h239 r240 q241 => ?_)
            obtain ⟨rfl, g242, fx243⟩ := q241
            have fr244 : px_fj b 4 175 1 h h239 := fj_tr fr153 fx243 (by omega)
            show px_to 29 79 [some (.ref (175)), some (.ref (b)), some (.int (nI s)), some (.int (nI (sgn tx p))), some (.int (nI 1))] [.int (bI ((rdT tx (skp tx p + 1)).1))] h239 _
            refine e_if_eq f_29_79 rfl (fun c_79 => ?_) (fun c_79 => ?_)
            · skip
              have c_79 : ((rdT tx (skp tx p + 1)).1) = false := bI_f c_79
              refine e_iconst (v := nI 0) f_29_93 (by decide) rfl ?_
              refine e_istore (L' := [some (.ref (175)), some (.ref (b)), some (.int (nI s)), some (.int (nI (sgn tx p))), some (.int (nI 0))]) f_29_94 (Nat.le_of_ble_eq_true rfl) rfl rfl ?_
              refine e_goto f_29_96 ?_
              refine e_iload f_29_117 rfl rfl ?_
              refine e_if_eq_t f_29_119 (by decide) ?_
              refine e_iload f_29_132 rfl rfl ?_
              refine e_iret f_29_134 rfl (rfl) ?_
              have g245 : pJob h3 b j := pJob_fi H1 fx7 (by omega)
              have g246 : pJob h146 b j := pJob_fi g245 fx148 (by omega)
              have g247 : pJob h150 b j := pJob_fi g246 fx152 (by omega)
              have g248 : pJob h239 b j := pJob_fi g247 fx243 (by omega)
              have hfm : s = 102 ∨ s = 109 := by omega
              have hac : actsOf s = [60, 61, 62] := by unfold actsOf; rw [if_pos c_22]
              have er : rdStep tx s p = ((rdI tx (skp tx p + 1)).1, (rdI tx (skp tx p + 1)).2.2, (s, sgn tx p, (rdI tx (skp tx p + 1)).2.1)) := by unfold rdStep; rw [if_pos hfm, hac, if_pos hin]
              have g249 : pRd h239 tx ((rdT tx (skp tx p + 1)).2.2) := ⟨_, g242⟩
              have hb : ((rdT tx p).1 && decide (0 < (rdT tx p).2.1)) = false := by rw [c_79]; rfl
              rw [er]
              dsimp only
              rw [hb, if_neg (by decide)]
              exact ⟨rfl, g249, g248, fr244⟩
            · skip
              have c_79 : ((rdT tx (skp tx p + 1)).1) = true := bI_t' c_79
              refine e_aload_n f_29_82 rfl rfl ?_
              refine e_getf f_29_83 g242 rfl rfl ?_
              refine e_if_le f_29_86 rfl (fun c_86 => ?_) (fun c_86 => ?_)
              · skip
                refine e_iconst (v := nI 0) f_29_93 (by decide) rfl ?_
                refine e_istore (L' := [some (.ref (175)), some (.ref (b)), some (.int (nI s)), some (.int (nI (sgn tx p))), some (.int (nI 0))]) f_29_94 (Nat.le_of_ble_eq_true rfl) rfl rfl ?_
                refine e_goto f_29_96 ?_
                refine e_iload f_29_117 rfl rfl ?_
                refine e_if_eq_t f_29_119 (by decide) ?_
                refine e_iload f_29_132 rfl rfl ?_
                refine e_iret f_29_134 rfl (rfl) ?_
                have g250 : pJob h3 b j := pJob_fi H1 fx7 (by omega)
                have g251 : pJob h146 b j := pJob_fi g250 fx148 (by omega)
                have g252 : pJob h150 b j := pJob_fi g251 fx152 (by omega)
                have g253 : pJob h239 b j := pJob_fi g252 fx243 (by omega)
                have hfm : s = 102 ∨ s = 109 := by omega
                have hac : actsOf s = [60, 61, 62] := by unfold actsOf; rw [if_pos c_22]
                have er : rdStep tx s p = ((rdI tx (skp tx p + 1)).1, (rdI tx (skp tx p + 1)).2.2, (s, sgn tx p, (rdI tx (skp tx p + 1)).2.1)) := by unfold rdStep; rw [if_pos hfm, hac, if_pos hin]
                have g254 : pRd h239 tx ((rdT tx (skp tx p + 1)).2.2) := ⟨_, g242⟩
                have hb : ((rdT tx p).1 && decide (0 < (rdT tx p).2.1)) = false := by rw [c_79, decide_eq_false (show ¬ 0 < (rdT tx p).2.1 by omega)]; rfl
                rw [er]
                dsimp only
                rw [hb, if_neg (by decide)]
                exact ⟨rfl, g254, g253, fr244⟩
              · skip
                refine e_iconst (v := nI 1) f_29_89 (by decide) rfl ?_
                refine e_goto f_29_90 ?_
                refine e_istore (L' := [some (.ref (175)), some (.ref (b)), some (.int (nI s)), some (.int (nI (sgn tx p))), some (.int (nI 1))]) f_29_94 (Nat.le_of_ble_eq_true rfl) rfl rfl ?_
                refine e_goto f_29_96 ?_
                refine e_iload f_29_117 rfl rfl ?_
                refine e_if_eq_f f_29_119 (by decide) rfl ?_
                refine e_aload_n f_29_122 rfl rfl ?_
                refine e_iload_n f_29_123 rfl rfl ?_
                refine e_iload_n f_29_124 rfl rfl ?_
                refine e_aload_n f_29_125 rfl rfl ?_
                refine e_getf f_29_126 g242 rfl rfl ?_
                have g255 : pJob h3 b j := pJob_fi H1 fx7 (by omega)
                have g256 : pJob h146 b j := pJob_fi g255 fx148 (by omega)
                have g257 : pJob h150 b j := pJob_fi g256 fx152 (by omega)
                have g258 : pJob h239 b j := pJob_fi g257 fx243 (by omega)
                refine e_callV (As := [.int (nI s), .int (nI (sgn tx p)), .int (nI (rdT tx (skp tx p + 1)).2.1)]) (rest := []) f_29_129 rfl rfl rfl (Nat.le_of_ble_eq_true rfl) (Nat.le_of_ble_eq_true rfl) g258.1 rfl (Nat.le_of_ble_eq_true rfl) (cc_Job_addStep (a := b) (s := s) (ac := sgn tx p) (nu := nI (rdT tx (skp tx p + 1)).2.1) (j := j) g258 (by omega) (by omega)) rfl (fun h259 r260 q261 => ?_)
                obtain ⟨rfl, g262, fx263⟩ := q261
                have fr264 : px_fj b 4 175 1 h h259 := fj_tr fr244 fx263 (by omega)
                show px_to 29 132 [some (.ref (175)), some (.ref (b)), some (.int (nI s)), some (.int (nI (sgn tx p))), some (.int (nI 1))] [] h259 _
                refine e_iload f_29_132 rfl rfl ?_
                refine e_iret f_29_134 rfl (rfl) ?_
                have hfm : s = 102 ∨ s = 109 := by omega
                have hac : actsOf s = [60, 61, 62] := by unfold actsOf; rw [if_pos c_22]
                have er : rdStep tx s p = ((rdI tx (skp tx p + 1)).1, (rdI tx (skp tx p + 1)).2.2, (s, sgn tx p, (rdI tx (skp tx p + 1)).2.1)) := by unfold rdStep; rw [if_pos hfm, hac, if_pos hin]
                have g265 : h259.2.2 175 = some (4, [.ref (18), .int (nI tx.length), .int (nI (rdT tx (skp tx p + 1)).2.1), .int (nI ((rdT tx (skp tx p + 1)).2.2))]) := fi_at g242 fx263 (by omega)
                have g266 : pRd h259 tx ((rdT tx (skp tx p + 1)).2.2) := ⟨_, g265⟩
                have hb : ((rdT tx p).1 && decide (0 < (rdT tx p).2.1)) = true := by rw [c_79, decide_eq_true (show 0 < (rdT tx p).2.1 by omega)]; rfl
                rw [er]
                dsimp only
                rw [hb, if_pos rfl]
                exact ⟨rfl, g266, g262, fr264⟩
      · skip
        have hin : sgn tx p ∉ [60, 61, 62] := ix_out (by decide) c_40
        refine e_iconst (v := nI 0) f_29_43 (by decide) rfl ?_
        refine e_iret f_29_44 rfl (rfl) ?_
        have g267 : pJob h3 b j := pJob_fi H1 fx7 (by omega)
        have hfm : s = 102 ∨ s = 109 := by omega
        have hac : actsOf s = [60, 61, 62] := by unfold actsOf; rw [if_pos c_22]
        have er : rdStep tx s p = (false, skp tx p, (s, 0, 0)) := by unfold rdStep; rw [if_pos hfm, hac, if_neg hin]
        have g268 : pRd h3 tx (skp tx p) := ⟨_, g6⟩
        rw [er]
        exact ⟨rfl, g268, g267, fr8⟩
  · skip
    have c_5 : s ≠ 102 := cv_ne c_5
    refine e_iload_n f_29_8 rfl rfl ?_
    refine e_bipush (v := nI 109) f_29_9 (by decide) rfl ?_
    refine e_icmp_ne f_29_11 rfl (fun c_11 => ?_) (fun c_11 => ?_)
    · skip
      have c_11 : s ≠ 109 := cv_ne c_11
      refine e_aload_n f_29_55 rfl rfl ?_
      refine e_iconst (v := nI 0) f_29_56 (by decide) rfl ?_
      obtain ⟨n269, g270⟩ := H0
      refine e_putp (vs' := [.ref (18), .int (nI tx.length), .int (nI 0), .int (nI p)]) f_29_57 g270 (Nat.le_of_ble_eq_true rfl) (rfl) (rfl) rfl rfl (fun h271 g272 fx273 => ?_)
      have fr274 : px_fj b 4 175 1 h h271 := fj_tr fr0 fx273 (by omega)
      refine e_iconst (v := nI 1) f_29_60 (by decide) rfl ?_
      refine e_istore (L' := [some (.ref (175)), some (.ref (b)), some (.int (nI s)), some (.int (nI 0)), some (.int (nI 1))]) f_29_61 (Nat.le_of_ble_eq_true rfl) rfl rfl ?_
      refine e_iload_n f_29_63 rfl rfl ?_
      refine e_bipush (v := nI 119) f_29_64 (by decide) rfl ?_
      refine e_icmp_eq f_29_66 rfl (fun c_66 => ?_) (fun c_66 => ?_)
      · skip
        have c_66 : s = 119 := cv_eq (by omega) (by omega) c_66
        refine e_aload_n f_29_75 rfl rfl ?_
        obtain ⟨hm276, fa277, fb278⟩ := fj_mid fr274
        have g275 : px_pa h271 18 52 500 vN tx := pa_fi (pa_fi H2 fa277 (by omega)) fb278 (by omega)
        refine e_callV (As := []) (rest := []) f_29_76 rfl rfl rfl (Nat.le_of_ble_eq_true rfl) (Nat.le_of_ble_eq_true rfl) g272 rfl (Nat.le_of_ble_eq_true rfl) (cc_Rd_time (tx := tx) (p := p) (n := nI 0) g272 g275 (by omega) (p1)) rfl (fun h279 r280 q281 => ?_)
        obtain ⟨rfl, g282, fx283⟩ := q281
        have fr284 : px_fj b 4 175 1 h h279 := fj_tr fr274 fx283 (by omega)
        show px_to 29 79 [some (.ref (175)), some (.ref (b)), some (.int (nI s)), some (.int (nI 0)), some (.int (nI 1))] [.int (bI ((rdT tx p).1))] h279 _
        refine e_if_eq f_29_79 rfl (fun c_79 => ?_) (fun c_79 => ?_)
        · skip
          have c_79 : ((rdT tx p).1) = false := bI_f c_79
          refine e_iconst (v := nI 0) f_29_93 (by decide) rfl ?_
          refine e_istore (L' := [some (.ref (175)), some (.ref (b)), some (.int (nI s)), some (.int (nI 0)), some (.int (nI 0))]) f_29_94 (Nat.le_of_ble_eq_true rfl) rfl rfl ?_
          refine e_goto f_29_96 ?_
          refine e_iload f_29_117 rfl rfl ?_
          refine e_if_eq_t f_29_119 (by decide) ?_
          refine e_iload f_29_132 rfl rfl ?_
          refine e_iret f_29_134 rfl (rfl) ?_
          have g285 : pJob h271 b j := pJob_fi H1 fx273 (by omega)
          have g286 : pJob h279 b j := pJob_fi g285 fx283 (by omega)
          have er : rdStep tx s p = ((rdT tx p).1 && decide (0 < (rdT tx p).2.1), (rdT tx p).2.2, (s, 0, nI (rdT tx p).2.1)) := by unfold rdStep; rw [if_neg (by omega), if_pos (by omega)]
          have g287 : pRd h279 tx ((rdT tx p).2.2) := ⟨_, g282⟩
          have hb : ((rdT tx p).1 && decide (0 < (rdT tx p).2.1)) = false := by rw [c_79]; rfl
          rw [er]
          dsimp only
          rw [hb, if_neg (by decide)]
          exact ⟨rfl, g287, g286, fr284⟩
        · skip
          have c_79 : ((rdT tx p).1) = true := bI_t' c_79
          refine e_aload_n f_29_82 rfl rfl ?_
          refine e_getf f_29_83 g282 rfl rfl ?_
          refine e_if_le f_29_86 rfl (fun c_86 => ?_) (fun c_86 => ?_)
          · skip
            refine e_iconst (v := nI 0) f_29_93 (by decide) rfl ?_
            refine e_istore (L' := [some (.ref (175)), some (.ref (b)), some (.int (nI s)), some (.int (nI 0)), some (.int (nI 0))]) f_29_94 (Nat.le_of_ble_eq_true rfl) rfl rfl ?_
            refine e_goto f_29_96 ?_
            refine e_iload f_29_117 rfl rfl ?_
            refine e_if_eq_t f_29_119 (by decide) ?_
            refine e_iload f_29_132 rfl rfl ?_
            refine e_iret f_29_134 rfl (rfl) ?_
            have g288 : pJob h271 b j := pJob_fi H1 fx273 (by omega)
            have g289 : pJob h279 b j := pJob_fi g288 fx283 (by omega)
            have er : rdStep tx s p = ((rdT tx p).1 && decide (0 < (rdT tx p).2.1), (rdT tx p).2.2, (s, 0, nI (rdT tx p).2.1)) := by unfold rdStep; rw [if_neg (by omega), if_pos (by omega)]
            have g290 : pRd h279 tx ((rdT tx p).2.2) := ⟨_, g282⟩
            have hb : ((rdT tx p).1 && decide (0 < (rdT tx p).2.1)) = false := by rw [c_79, decide_eq_false (show ¬ 0 < (rdT tx p).2.1 by omega)]; rfl
            rw [er]
            dsimp only
            rw [hb, if_neg (by decide)]
            exact ⟨rfl, g290, g289, fr284⟩
          · skip
            refine e_iconst (v := nI 1) f_29_89 (by decide) rfl ?_
            refine e_goto f_29_90 ?_
            refine e_istore (L' := [some (.ref (175)), some (.ref (b)), some (.int (nI s)), some (.int (nI 0)), some (.int (nI 1))]) f_29_94 (Nat.le_of_ble_eq_true rfl) rfl rfl ?_
            refine e_goto f_29_96 ?_
            refine e_iload f_29_117 rfl rfl ?_
            refine e_if_eq_f f_29_119 (by decide) rfl ?_
            refine e_aload_n f_29_122 rfl rfl ?_
            refine e_iload_n f_29_123 rfl rfl ?_
            refine e_iload_n f_29_124 rfl rfl ?_
            refine e_aload_n f_29_125 rfl rfl ?_
            refine e_getf f_29_126 g282 rfl rfl ?_
            have g291 : pJob h271 b j := pJob_fi H1 fx273 (by omega)
            have g292 : pJob h279 b j := pJob_fi g291 fx283 (by omega)
            refine e_callV (As := [.int (nI s), .int (nI 0), .int (nI (rdT tx p).2.1)]) (rest := []) f_29_129 rfl rfl rfl (Nat.le_of_ble_eq_true rfl) (Nat.le_of_ble_eq_true rfl) g292.1 rfl (Nat.le_of_ble_eq_true rfl) (cc_Job_addStep (a := b) (s := s) (ac := 0) (nu := nI (rdT tx p).2.1) (j := j) g292 (by omega) (by omega)) rfl (fun h293 r294 q295 => ?_)
            obtain ⟨rfl, g296, fx297⟩ := q295
            have fr298 : px_fj b 4 175 1 h h293 := fj_tr fr284 fx297 (by omega)
            show px_to 29 132 [some (.ref (175)), some (.ref (b)), some (.int (nI s)), some (.int (nI 0)), some (.int (nI 1))] [] h293 _
            refine e_iload f_29_132 rfl rfl ?_
            refine e_iret f_29_134 rfl (rfl) ?_
            have er : rdStep tx s p = ((rdT tx p).1 && decide (0 < (rdT tx p).2.1), (rdT tx p).2.2, (s, 0, nI (rdT tx p).2.1)) := by unfold rdStep; rw [if_neg (by omega), if_pos (by omega)]
            have g299 : h293.2.2 175 = some (4, [.ref (18), .int (nI tx.length), .int (nI (rdT tx p).2.1), .int (nI ((rdT tx p).2.2))]) := fi_at g282 fx297 (by omega)
            have g300 : pRd h293 tx ((rdT tx p).2.2) := ⟨_, g299⟩
            have hb : ((rdT tx p).1 && decide (0 < (rdT tx p).2.1)) = true := by rw [c_79, decide_eq_true (show 0 < (rdT tx p).2.1 by omega)]; rfl
            rw [er]
            dsimp only
            rw [hb, if_pos rfl]
            exact ⟨rfl, g300, g296, fr298⟩
      · skip
        have c_66 : s ≠ 119 := cv_ne c_66
        refine e_iload_n f_29_69 rfl rfl ?_
        refine e_bipush (v := nI 116) f_29_70 (by decide) rfl ?_
        refine e_icmp_ne f_29_72 rfl (fun c_72 => ?_) (fun c_72 => ?_)
        · skip
          have c_72 : s ≠ 116 := cv_ne c_72
          refine e_iload_n f_29_99 rfl rfl ?_
          refine e_bipush (v := nI 100) f_29_100 (by decide) rfl ?_
          refine e_icmp_eq f_29_102 rfl (fun c_102 => ?_) (fun c_102 => ?_)
          · skip
            have c_102 : s = 100 := cv_eq (by omega) (by omega) c_102
            refine e_iload f_29_117 rfl rfl ?_
            refine e_if_eq_f f_29_119 (by decide) rfl ?_
            refine e_aload_n f_29_122 rfl rfl ?_
            refine e_iload_n f_29_123 rfl rfl ?_
            refine e_iload_n f_29_124 rfl rfl ?_
            refine e_aload_n f_29_125 rfl rfl ?_
            refine e_getf f_29_126 g272 rfl rfl ?_
            have g301 : pJob h271 b j := pJob_fi H1 fx273 (by omega)
            refine e_callV (As := [.int (nI s), .int (nI 0), .int (nI 0)]) (rest := []) f_29_129 rfl rfl rfl (Nat.le_of_ble_eq_true rfl) (Nat.le_of_ble_eq_true rfl) g301.1 rfl (Nat.le_of_ble_eq_true rfl) (cc_Job_addStep (a := b) (s := s) (ac := 0) (nu := nI 0) (j := j) g301 (by omega) (by omega)) rfl (fun h302 r303 q304 => ?_)
            obtain ⟨rfl, g305, fx306⟩ := q304
            have fr307 : px_fj b 4 175 1 h h302 := fj_tr fr274 fx306 (by omega)
            show px_to 29 132 [some (.ref (175)), some (.ref (b)), some (.int (nI s)), some (.int (nI 0)), some (.int (nI 1))] [] h302 _
            refine e_iload f_29_132 rfl rfl ?_
            refine e_iret f_29_134 rfl (rfl) ?_
            have er : rdStep tx s p = (true, p, (s, 0, nI 0)) := by unfold rdStep; rw [if_neg (by omega), if_neg (by omega), if_pos (by omega)]
            have g308 : h302.2.2 175 = some (4, [.ref (18), .int (nI tx.length), .int (nI 0), .int (nI p)]) := fi_at g272 fx306 (by omega)
            have g309 : pRd h302 tx p := ⟨_, g308⟩
            rw [er]
            dsimp only
            rw [if_pos rfl]
            exact ⟨rfl, g309, g305, fr307⟩
          · skip
            have c_102 : s ≠ 100 := cv_ne c_102
            refine e_iload_n f_29_105 rfl rfl ?_
            refine e_bipush (v := nI 115) f_29_106 (by decide) rfl ?_
            refine e_icmp_eq f_29_108 rfl (fun c_108 => ?_) (fun c_108 => ?_)
            · skip
              have c_108 : s = 115 := cv_eq (by omega) (by omega) c_108
              refine e_iload f_29_117 rfl rfl ?_
              refine e_if_eq_f f_29_119 (by decide) rfl ?_
              refine e_aload_n f_29_122 rfl rfl ?_
              refine e_iload_n f_29_123 rfl rfl ?_
              refine e_iload_n f_29_124 rfl rfl ?_
              refine e_aload_n f_29_125 rfl rfl ?_
              refine e_getf f_29_126 g272 rfl rfl ?_
              have g310 : pJob h271 b j := pJob_fi H1 fx273 (by omega)
              refine e_callV (As := [.int (nI s), .int (nI 0), .int (nI 0)]) (rest := []) f_29_129 rfl rfl rfl (Nat.le_of_ble_eq_true rfl) (Nat.le_of_ble_eq_true rfl) g310.1 rfl (Nat.le_of_ble_eq_true rfl) (cc_Job_addStep (a := b) (s := s) (ac := 0) (nu := nI 0) (j := j) g310 (by omega) (by omega)) rfl (fun h311 r312 q313 => ?_)
              obtain ⟨rfl, g314, fx315⟩ := q313
              have fr316 : px_fj b 4 175 1 h h311 := fj_tr fr274 fx315 (by omega)
              show px_to 29 132 [some (.ref (175)), some (.ref (b)), some (.int (nI s)), some (.int (nI 0)), some (.int (nI 1))] [] h311 _
              refine e_iload f_29_132 rfl rfl ?_
              refine e_iret f_29_134 rfl (rfl) ?_
              have er : rdStep tx s p = (true, p, (s, 0, nI 0)) := by unfold rdStep; rw [if_neg (by omega), if_neg (by omega), if_pos (by omega)]
              have g317 : h311.2.2 175 = some (4, [.ref (18), .int (nI tx.length), .int (nI 0), .int (nI p)]) := fi_at g272 fx315 (by omega)
              have g318 : pRd h311 tx p := ⟨_, g317⟩
              rw [er]
              dsimp only
              rw [if_pos rfl]
              exact ⟨rfl, g318, g314, fr316⟩
            · skip
              have c_108 : s ≠ 115 := cv_ne c_108
              refine e_aload_n f_29_111 rfl rfl ?_
              obtain ⟨hm320, fa321, fb322⟩ := fj_mid fr274
              have g319 : px_pa h271 18 52 500 vN tx := pa_fi (pa_fi H2 fa321 (by omega)) fb322 (by omega)
              refine e_callV (As := []) (rest := []) f_29_112 rfl rfl rfl (Nat.le_of_ble_eq_true rfl) (Nat.le_of_ble_eq_true rfl) g272 rfl (Nat.le_of_ble_eq_true rfl) (cc_Rd_int (tx := tx) (p := p) (n := nI 0) g272 g319 (by first | exact hsl2 | exact p0) (p1)) rfl (fun h323 r324 q325 => ?_)
              obtain ⟨rfl, g326, fx327⟩ := q325
              have fr328 : px_fj b 4 175 1 h h323 := fj_tr fr274 fx327 (by omega)
              show px_to 29 115 [some (.ref (175)), some (.ref (b)), some (.int (nI s)), some (.int (nI 0)), some (.int (nI 1))] [.int (bI ((rdI tx p).1))] h323 _
              refine e_istore (L' := [some (.ref (175)), some (.ref (b)), some (.int (nI s)), some (.int (nI 0)), some (.int (bI ((rdI tx p).1)))]) f_29_115 (Nat.le_of_ble_eq_true rfl) rfl rfl ?_
              refine e_iload f_29_117 rfl rfl ?_
              refine e_if_eq f_29_119 rfl (fun c_119 => ?_) (fun c_119 => ?_)
              · skip
                have c_119 : ((rdI tx p).1) = false := bI_f c_119
                refine e_iload f_29_132 rfl rfl ?_
                refine e_iret f_29_134 rfl (nw_bI _) ?_
                have g329 : pJob h271 b j := pJob_fi H1 fx273 (by omega)
                have g330 : pJob h323 b j := pJob_fi g329 fx327 (by omega)
                have er : rdStep tx s p = ((rdI tx p).1, (rdI tx p).2.2, (s, 0, (rdI tx p).2.1)) := by unfold rdStep; rw [if_neg (by omega), if_neg (by omega), if_neg (by omega)]
                have g331 : pRd h323 tx ((rdI tx p).2.2) := ⟨_, g326⟩
                rw [er]
                dsimp only
                rw [if_neg (by rw [c_119]; decide)]
                exact ⟨by rw [c_119], g331, g330, fr328⟩
              · skip
                have c_119 : ((rdI tx p).1) = true := bI_t' c_119
                refine e_aload_n f_29_122 rfl rfl ?_
                refine e_iload_n f_29_123 rfl rfl ?_
                refine e_iload_n f_29_124 rfl rfl ?_
                refine e_aload_n f_29_125 rfl rfl ?_
                refine e_getf f_29_126 g326 rfl rfl ?_
                have g332 : pJob h271 b j := pJob_fi H1 fx273 (by omega)
                have g333 : pJob h323 b j := pJob_fi g332 fx327 (by omega)
                refine e_callV (As := [.int (nI s), .int (nI 0), .int ((rdI tx p).2.1)]) (rest := []) f_29_129 rfl rfl rfl (Nat.le_of_ble_eq_true rfl) (Nat.le_of_ble_eq_true rfl) g333.1 rfl (Nat.le_of_ble_eq_true rfl) (cc_Job_addStep (a := b) (s := s) (ac := 0) (nu := (rdI tx p).2.1) (j := j) g333 (by omega) (by omega)) rfl (fun h334 r335 q336 => ?_)
                obtain ⟨rfl, g337, fx338⟩ := q336
                have fr339 : px_fj b 4 175 1 h h334 := fj_tr fr328 fx338 (by omega)
                show px_to 29 132 [some (.ref (175)), some (.ref (b)), some (.int (nI s)), some (.int (nI 0)), some (.int (bI ((rdI tx p).1)))] [] h334 _
                refine e_iload f_29_132 rfl rfl ?_
                refine e_iret f_29_134 rfl (nw_bI _) ?_
                have er : rdStep tx s p = ((rdI tx p).1, (rdI tx p).2.2, (s, 0, (rdI tx p).2.1)) := by unfold rdStep; rw [if_neg (by omega), if_neg (by omega), if_neg (by omega)]
                have g340 : h334.2.2 175 = some (4, [.ref (18), .int (nI tx.length), .int ((rdI tx p).2.1), .int (nI ((rdI tx p).2.2))]) := fi_at g326 fx338 (by omega)
                have g341 : pRd h334 tx ((rdI tx p).2.2) := ⟨_, g340⟩
                rw [er]
                dsimp only
                rw [if_pos c_119]
                exact ⟨by rw [c_119], g341, g337, fr339⟩
        · skip
          have c_72 : s = 116 := cv_nne (by omega) (by omega) c_72
          refine e_aload_n f_29_75 rfl rfl ?_
          obtain ⟨hm343, fa344, fb345⟩ := fj_mid fr274
          have g342 : px_pa h271 18 52 500 vN tx := pa_fi (pa_fi H2 fa344 (by omega)) fb345 (by omega)
          refine e_callV (As := []) (rest := []) f_29_76 rfl rfl rfl (Nat.le_of_ble_eq_true rfl) (Nat.le_of_ble_eq_true rfl) g272 rfl (Nat.le_of_ble_eq_true rfl) (cc_Rd_time (tx := tx) (p := p) (n := nI 0) g272 g342 (by omega) (p1)) rfl (fun h346 r347 q348 => ?_)
          obtain ⟨rfl, g349, fx350⟩ := q348
          have fr351 : px_fj b 4 175 1 h h346 := fj_tr fr274 fx350 (by omega)
          show px_to 29 79 [some (.ref (175)), some (.ref (b)), some (.int (nI s)), some (.int (nI 0)), some (.int (nI 1))] [.int (bI ((rdT tx p).1))] h346 _
          refine e_if_eq f_29_79 rfl (fun c_79 => ?_) (fun c_79 => ?_)
          · skip
            have c_79 : ((rdT tx p).1) = false := bI_f c_79
            refine e_iconst (v := nI 0) f_29_93 (by decide) rfl ?_
            refine e_istore (L' := [some (.ref (175)), some (.ref (b)), some (.int (nI s)), some (.int (nI 0)), some (.int (nI 0))]) f_29_94 (Nat.le_of_ble_eq_true rfl) rfl rfl ?_
            refine e_goto f_29_96 ?_
            refine e_iload f_29_117 rfl rfl ?_
            refine e_if_eq_t f_29_119 (by decide) ?_
            refine e_iload f_29_132 rfl rfl ?_
            refine e_iret f_29_134 rfl (rfl) ?_
            have g352 : pJob h271 b j := pJob_fi H1 fx273 (by omega)
            have g353 : pJob h346 b j := pJob_fi g352 fx350 (by omega)
            have er : rdStep tx s p = ((rdT tx p).1 && decide (0 < (rdT tx p).2.1), (rdT tx p).2.2, (s, 0, nI (rdT tx p).2.1)) := by unfold rdStep; rw [if_neg (by omega), if_pos (by omega)]
            have g354 : pRd h346 tx ((rdT tx p).2.2) := ⟨_, g349⟩
            have hb : ((rdT tx p).1 && decide (0 < (rdT tx p).2.1)) = false := by rw [c_79]; rfl
            rw [er]
            dsimp only
            rw [hb, if_neg (by decide)]
            exact ⟨rfl, g354, g353, fr351⟩
          · skip
            have c_79 : ((rdT tx p).1) = true := bI_t' c_79
            refine e_aload_n f_29_82 rfl rfl ?_
            refine e_getf f_29_83 g349 rfl rfl ?_
            refine e_if_le f_29_86 rfl (fun c_86 => ?_) (fun c_86 => ?_)
            · skip
              refine e_iconst (v := nI 0) f_29_93 (by decide) rfl ?_
              refine e_istore (L' := [some (.ref (175)), some (.ref (b)), some (.int (nI s)), some (.int (nI 0)), some (.int (nI 0))]) f_29_94 (Nat.le_of_ble_eq_true rfl) rfl rfl ?_
              refine e_goto f_29_96 ?_
              refine e_iload f_29_117 rfl rfl ?_
              refine e_if_eq_t f_29_119 (by decide) ?_
              refine e_iload f_29_132 rfl rfl ?_
              refine e_iret f_29_134 rfl (rfl) ?_
              have g355 : pJob h271 b j := pJob_fi H1 fx273 (by omega)
              have g356 : pJob h346 b j := pJob_fi g355 fx350 (by omega)
              have er : rdStep tx s p = ((rdT tx p).1 && decide (0 < (rdT tx p).2.1), (rdT tx p).2.2, (s, 0, nI (rdT tx p).2.1)) := by unfold rdStep; rw [if_neg (by omega), if_pos (by omega)]
              have g357 : pRd h346 tx ((rdT tx p).2.2) := ⟨_, g349⟩
              have hb : ((rdT tx p).1 && decide (0 < (rdT tx p).2.1)) = false := by rw [c_79, decide_eq_false (show ¬ 0 < (rdT tx p).2.1 by omega)]; rfl
              rw [er]
              dsimp only
              rw [hb, if_neg (by decide)]
              exact ⟨rfl, g357, g356, fr351⟩
            · skip
              refine e_iconst (v := nI 1) f_29_89 (by decide) rfl ?_
              refine e_goto f_29_90 ?_
              refine e_istore (L' := [some (.ref (175)), some (.ref (b)), some (.int (nI s)), some (.int (nI 0)), some (.int (nI 1))]) f_29_94 (Nat.le_of_ble_eq_true rfl) rfl rfl ?_
              refine e_goto f_29_96 ?_
              refine e_iload f_29_117 rfl rfl ?_
              refine e_if_eq_f f_29_119 (by decide) rfl ?_
              refine e_aload_n f_29_122 rfl rfl ?_
              refine e_iload_n f_29_123 rfl rfl ?_
              refine e_iload_n f_29_124 rfl rfl ?_
              refine e_aload_n f_29_125 rfl rfl ?_
              refine e_getf f_29_126 g349 rfl rfl ?_
              have g358 : pJob h271 b j := pJob_fi H1 fx273 (by omega)
              have g359 : pJob h346 b j := pJob_fi g358 fx350 (by omega)
              refine e_callV (As := [.int (nI s), .int (nI 0), .int (nI (rdT tx p).2.1)]) (rest := []) f_29_129 rfl rfl rfl (Nat.le_of_ble_eq_true rfl) (Nat.le_of_ble_eq_true rfl) g359.1 rfl (Nat.le_of_ble_eq_true rfl) (cc_Job_addStep (a := b) (s := s) (ac := 0) (nu := nI (rdT tx p).2.1) (j := j) g359 (by omega) (by omega)) rfl (fun h360 r361 q362 => ?_)
              obtain ⟨rfl, g363, fx364⟩ := q362
              have fr365 : px_fj b 4 175 1 h h360 := fj_tr fr351 fx364 (by omega)
              show px_to 29 132 [some (.ref (175)), some (.ref (b)), some (.int (nI s)), some (.int (nI 0)), some (.int (nI 1))] [] h360 _
              refine e_iload f_29_132 rfl rfl ?_
              refine e_iret f_29_134 rfl (rfl) ?_
              have er : rdStep tx s p = ((rdT tx p).1 && decide (0 < (rdT tx p).2.1), (rdT tx p).2.2, (s, 0, nI (rdT tx p).2.1)) := by unfold rdStep; rw [if_neg (by omega), if_pos (by omega)]
              have g366 : h360.2.2 175 = some (4, [.ref (18), .int (nI tx.length), .int (nI (rdT tx p).2.1), .int (nI ((rdT tx p).2.2))]) := fi_at g349 fx364 (by omega)
              have g367 : pRd h360 tx ((rdT tx p).2.2) := ⟨_, g366⟩
              have hb : ((rdT tx p).1 && decide (0 < (rdT tx p).2.1)) = true := by rw [c_79, decide_eq_true (show 0 < (rdT tx p).2.1 by omega)]; rfl
              rw [er]
              dsimp only
              rw [hb, if_pos rfl]
              exact ⟨rfl, g367, g363, fr365⟩
    · skip
      have c_11 : s = 109 := cv_nne (by omega) (by omega) c_11
      refine e_aload_n f_29_14 rfl rfl ?_
      obtain ⟨n368, g369⟩ := H0
      refine e_callV (As := []) (rest := []) f_29_15 rfl rfl rfl (Nat.le_of_ble_eq_true rfl) (Nat.le_of_ble_eq_true rfl) g369 rfl (Nat.le_of_ble_eq_true rfl) (cc_Rd_next (tx := tx) (p := p) (n := n368) g369 H2 (by omega) (p1)) rfl (fun h370 r371 q372 => ?_)
      obtain ⟨rfl, g373, fx374⟩ := q372
      have fr375 : px_fj b 4 175 1 h h370 := fj_tr fr0 fx374 (by omega)
      show px_to 29 18 [some (.ref (175)), some (.ref (b)), some (.int (nI s)), some (.int (nI 0)), none] [.int (nI (sgn tx p))] h370 _
      refine e_istore_n (L' := [some (.ref (175)), some (.ref (b)), some (.int (nI s)), some (.int (nI (sgn tx p))), none]) f_29_18 (Nat.le_of_ble_eq_true rfl) rfl rfl ?_
      refine e_iload_n f_29_19 rfl rfl ?_
      refine e_bipush (v := nI 102) f_29_20 (by decide) rfl ?_
      refine e_icmp_ne f_29_22 rfl (fun c_22 => ?_) (fun c_22 => ?_)
      · skip
        have c_22 : s ≠ 102 := cv_ne c_22
        refine e_ldc f_29_30 rfl ?_
        refine e_astore (L' := [some (.ref (175)), some (.ref (b)), some (.int (nI s)), some (.int (nI (sgn tx p))), some (.ref (5))]) f_29_32 (Nat.le_of_ble_eq_true rfl) rfl rfl ?_
        refine e_aload f_29_34 rfl rfl ?_
        refine e_iload_n f_29_36 rfl rfl ?_
        obtain ⟨hm377, fa378, fb379⟩ := fj_mid fr375
        have g376 : pStr h370 5 ([43, 45, 42, 47]) := pStr_fi (pStr_fi H4 fa378 (by omega)) fb379 (by omega)
        refine e_callV (As := [.int (nI (sgn tx p))]) (rest := []) f_29_37 rfl rfl rfl (Nat.le_of_ble_eq_true rfl) (Nat.le_of_ble_eq_true rfl) g376.1 rfl (Nat.le_of_ble_eq_true rfl) (cc_Str_ix (c := sgn tx p) (k := 5) (bs := [43, 45, 42, 47]) g376 (by omega) (by decide) (by decide)) rfl (fun h380 r381 q382 => ?_)
        obtain ⟨rfl, qe⟩ := q382
        have qe := qe.symm
        subst qe
        show px_to 29 40 [some (.ref (175)), some (.ref (b)), some (.int (nI s)), some (.int (nI (sgn tx p))), some (.ref (5))] [.int (ixf ([43, 45, 42, 47]) (sgn tx p) 0)] h370 _
        refine e_if_ge f_29_40 rfl (fun c_40 => ?_) (fun c_40 => ?_)
        · skip
          have hin : sgn tx p ∈ [43, 45, 42, 47] := ix_in (by decide) c_40
          have hsl2 : skp tx p + 1 ≤ tx.length := sgn_next hin (by decide)
          refine e_aload_n f_29_45 rfl rfl ?_
          refine e_dup f_29_46 rfl rfl ?_
          refine e_getf f_29_47 g373 rfl rfl ?_
          refine e_iconst (v := nI 1) f_29_50 (by decide) rfl ?_
          refine e_iadd (z := nI (skp tx p + 1)) f_29_51 (nI_add _ _) rfl ?_
          refine e_putp (vs' := [.ref (18), .int (nI tx.length), .int (n368), .int (nI (skp tx p + 1))]) f_29_52 g373 (Nat.le_of_ble_eq_true rfl) (rfl) (rfl) rfl rfl (fun h383 g384 fx385 => ?_)
          have fr386 : px_fj b 4 175 1 h h383 := fj_tr fr375 fx385 (by omega)
          refine e_aload_n f_29_55 rfl rfl ?_
          refine e_iconst (v := nI 0) f_29_56 (by decide) rfl ?_
          refine e_putp (vs' := [.ref (18), .int (nI tx.length), .int (nI 0), .int (nI (skp tx p + 1))]) f_29_57 g384 (Nat.le_of_ble_eq_true rfl) (rfl) (rfl) rfl rfl (fun h387 g388 fx389 => ?_)
          have fr390 : px_fj b 4 175 1 h h387 := fj_tr fr386 fx389 (by omega)
          refine e_iconst (v := nI 1) f_29_60 (by decide) rfl ?_
          refine e_istore (L' := [some (.ref (175)), some (.ref (b)), some (.int (nI s)), some (.int (nI (sgn tx p))), some (.int (nI 1))]) f_29_61 (Nat.le_of_ble_eq_true rfl) rfl rfl ?_
          refine e_iload_n f_29_63 rfl rfl ?_
          refine e_bipush (v := nI 119) f_29_64 (by decide) rfl ?_
          refine e_icmp_eq f_29_66 rfl (fun c_66 => ?_) (fun c_66 => ?_)
          · skip
            have c_66 : s = 119 := cv_eq (by omega) (by omega) c_66
            refine e_aload_n f_29_75 rfl rfl ?_
            obtain ⟨hm392, fa393, fb394⟩ := fj_mid fr390
            have g391 : px_pa h387 18 52 500 vN tx := pa_fi (pa_fi H2 fa393 (by omega)) fb394 (by omega)
            refine e_callV (As := []) (rest := []) f_29_76 rfl rfl rfl (Nat.le_of_ble_eq_true rfl) (Nat.le_of_ble_eq_true rfl) g388 rfl (Nat.le_of_ble_eq_true rfl) (cc_Rd_time (tx := tx) (p := skp tx p + 1) (n := nI 0) g388 g391 (by omega) (p1)) rfl (fun h395 r396 q397 => ?_)
            obtain ⟨rfl, g398, fx399⟩ := q397
            have fr400 : px_fj b 4 175 1 h h395 := fj_tr fr390 fx399 (by omega)
            show px_to 29 79 [some (.ref (175)), some (.ref (b)), some (.int (nI s)), some (.int (nI (sgn tx p))), some (.int (nI 1))] [.int (bI ((rdT tx (skp tx p + 1)).1))] h395 _
            refine e_if_eq f_29_79 rfl (fun c_79 => ?_) (fun c_79 => ?_)
            · skip
              have c_79 : ((rdT tx (skp tx p + 1)).1) = false := bI_f c_79
              refine e_iconst (v := nI 0) f_29_93 (by decide) rfl ?_
              refine e_istore (L' := [some (.ref (175)), some (.ref (b)), some (.int (nI s)), some (.int (nI (sgn tx p))), some (.int (nI 0))]) f_29_94 (Nat.le_of_ble_eq_true rfl) rfl rfl ?_
              refine e_goto f_29_96 ?_
              refine e_iload f_29_117 rfl rfl ?_
              refine e_if_eq_t f_29_119 (by decide) ?_
              refine e_iload f_29_132 rfl rfl ?_
              refine e_iret f_29_134 rfl (rfl) ?_
              have g401 : pJob h370 b j := pJob_fi H1 fx374 (by omega)
              have g402 : pJob h383 b j := pJob_fi g401 fx385 (by omega)
              have g403 : pJob h387 b j := pJob_fi g402 fx389 (by omega)
              have g404 : pJob h395 b j := pJob_fi g403 fx399 (by omega)
              have hfm : s = 102 ∨ s = 109 := by omega
              have hac : actsOf s = [43, 45, 42, 47] := by unfold actsOf; rw [if_neg c_22]
              have er : rdStep tx s p = ((rdI tx (skp tx p + 1)).1, (rdI tx (skp tx p + 1)).2.2, (s, sgn tx p, (rdI tx (skp tx p + 1)).2.1)) := by unfold rdStep; rw [if_pos hfm, hac, if_pos hin]
              have g405 : pRd h395 tx ((rdT tx (skp tx p + 1)).2.2) := ⟨_, g398⟩
              have hb : ((rdT tx p).1 && decide (0 < (rdT tx p).2.1)) = false := by rw [c_79]; rfl
              rw [er]
              dsimp only
              rw [hb, if_neg (by decide)]
              exact ⟨rfl, g405, g404, fr400⟩
            · skip
              have c_79 : ((rdT tx (skp tx p + 1)).1) = true := bI_t' c_79
              refine e_aload_n f_29_82 rfl rfl ?_
              refine e_getf f_29_83 g398 rfl rfl ?_
              refine e_if_le f_29_86 rfl (fun c_86 => ?_) (fun c_86 => ?_)
              · skip
                refine e_iconst (v := nI 0) f_29_93 (by decide) rfl ?_
                refine e_istore (L' := [some (.ref (175)), some (.ref (b)), some (.int (nI s)), some (.int (nI (sgn tx p))), some (.int (nI 0))]) f_29_94 (Nat.le_of_ble_eq_true rfl) rfl rfl ?_
                refine e_goto f_29_96 ?_
                refine e_iload f_29_117 rfl rfl ?_
                refine e_if_eq_t f_29_119 (by decide) ?_
                refine e_iload f_29_132 rfl rfl ?_
                refine e_iret f_29_134 rfl (rfl) ?_
                have g406 : pJob h370 b j := pJob_fi H1 fx374 (by omega)
                have g407 : pJob h383 b j := pJob_fi g406 fx385 (by omega)
                have g408 : pJob h387 b j := pJob_fi g407 fx389 (by omega)
                have g409 : pJob h395 b j := pJob_fi g408 fx399 (by omega)
                have hfm : s = 102 ∨ s = 109 := by omega
                have hac : actsOf s = [43, 45, 42, 47] := by unfold actsOf; rw [if_neg c_22]
                have er : rdStep tx s p = ((rdI tx (skp tx p + 1)).1, (rdI tx (skp tx p + 1)).2.2, (s, sgn tx p, (rdI tx (skp tx p + 1)).2.1)) := by unfold rdStep; rw [if_pos hfm, hac, if_pos hin]
                have g410 : pRd h395 tx ((rdT tx (skp tx p + 1)).2.2) := ⟨_, g398⟩
                have hb : ((rdT tx p).1 && decide (0 < (rdT tx p).2.1)) = false := by rw [c_79, decide_eq_false (show ¬ 0 < (rdT tx p).2.1 by omega)]; rfl
                rw [er]
                dsimp only
                rw [hb, if_neg (by decide)]
                exact ⟨rfl, g410, g409, fr400⟩
              · skip
                refine e_iconst (v := nI 1) f_29_89 (by decide) rfl ?_
                refine e_goto f_29_90 ?_
                refine e_istore (L' := [some (.ref (175)), some (.ref (b)), some (.int (nI s)), some (.int (nI (sgn tx p))), some (.int (nI 1))]) f_29_94 (Nat.le_of_ble_eq_true rfl) rfl rfl ?_
                refine e_goto f_29_96 ?_
                refine e_iload f_29_117 rfl rfl ?_
                refine e_if_eq_f f_29_119 (by decide) rfl ?_
                refine e_aload_n f_29_122 rfl rfl ?_
                refine e_iload_n f_29_123 rfl rfl ?_
                refine e_iload_n f_29_124 rfl rfl ?_
                refine e_aload_n f_29_125 rfl rfl ?_
                refine e_getf f_29_126 g398 rfl rfl ?_
                have g411 : pJob h370 b j := pJob_fi H1 fx374 (by omega)
                have g412 : pJob h383 b j := pJob_fi g411 fx385 (by omega)
                have g413 : pJob h387 b j := pJob_fi g412 fx389 (by omega)
                have g414 : pJob h395 b j := pJob_fi g413 fx399 (by omega)
                refine e_callV (As := [.int (nI s), .int (nI (sgn tx p)), .int (nI (rdT tx (skp tx p + 1)).2.1)]) (rest := []) f_29_129 rfl rfl rfl (Nat.le_of_ble_eq_true rfl) (Nat.le_of_ble_eq_true rfl) g414.1 rfl (Nat.le_of_ble_eq_true rfl) (cc_Job_addStep (a := b) (s := s) (ac := sgn tx p) (nu := nI (rdT tx (skp tx p + 1)).2.1) (j := j) g414 (by omega) (by omega)) rfl (fun h415 r416 q417 => ?_)
                obtain ⟨rfl, g418, fx419⟩ := q417
                have fr420 : px_fj b 4 175 1 h h415 := fj_tr fr400 fx419 (by omega)
                show px_to 29 132 [some (.ref (175)), some (.ref (b)), some (.int (nI s)), some (.int (nI (sgn tx p))), some (.int (nI 1))] [] h415 _
                refine e_iload f_29_132 rfl rfl ?_
                refine e_iret f_29_134 rfl (rfl) ?_
                have hfm : s = 102 ∨ s = 109 := by omega
                have hac : actsOf s = [43, 45, 42, 47] := by unfold actsOf; rw [if_neg c_22]
                have er : rdStep tx s p = ((rdI tx (skp tx p + 1)).1, (rdI tx (skp tx p + 1)).2.2, (s, sgn tx p, (rdI tx (skp tx p + 1)).2.1)) := by unfold rdStep; rw [if_pos hfm, hac, if_pos hin]
                have g421 : h415.2.2 175 = some (4, [.ref (18), .int (nI tx.length), .int (nI (rdT tx (skp tx p + 1)).2.1), .int (nI ((rdT tx (skp tx p + 1)).2.2))]) := fi_at g398 fx419 (by omega)
                have g422 : pRd h415 tx ((rdT tx (skp tx p + 1)).2.2) := ⟨_, g421⟩
                have hb : ((rdT tx p).1 && decide (0 < (rdT tx p).2.1)) = true := by rw [c_79, decide_eq_true (show 0 < (rdT tx p).2.1 by omega)]; rfl
                rw [er]
                dsimp only
                rw [hb, if_pos rfl]
                exact ⟨rfl, g422, g418, fr420⟩
          · skip
            have c_66 : s ≠ 119 := cv_ne c_66
            refine e_iload_n f_29_69 rfl rfl ?_
            refine e_bipush (v := nI 116) f_29_70 (by decide) rfl ?_
            refine e_icmp_ne f_29_72 rfl (fun c_72 => ?_) (fun c_72 => ?_)
            · skip
              have c_72 : s ≠ 116 := cv_ne c_72
              refine e_iload_n f_29_99 rfl rfl ?_
              refine e_bipush (v := nI 100) f_29_100 (by decide) rfl ?_
              refine e_icmp_eq f_29_102 rfl (fun c_102 => ?_) (fun c_102 => ?_)
              · skip
                have c_102 : s = 100 := cv_eq (by omega) (by omega) c_102
                refine e_iload f_29_117 rfl rfl ?_
                refine e_if_eq_f f_29_119 (by decide) rfl ?_
                refine e_aload_n f_29_122 rfl rfl ?_
                refine e_iload_n f_29_123 rfl rfl ?_
                refine e_iload_n f_29_124 rfl rfl ?_
                refine e_aload_n f_29_125 rfl rfl ?_
                refine e_getf f_29_126 g388 rfl rfl ?_
                have g423 : pJob h370 b j := pJob_fi H1 fx374 (by omega)
                have g424 : pJob h383 b j := pJob_fi g423 fx385 (by omega)
                have g425 : pJob h387 b j := pJob_fi g424 fx389 (by omega)
                refine e_callV (As := [.int (nI s), .int (nI (sgn tx p)), .int (nI 0)]) (rest := []) f_29_129 rfl rfl rfl (Nat.le_of_ble_eq_true rfl) (Nat.le_of_ble_eq_true rfl) g425.1 rfl (Nat.le_of_ble_eq_true rfl) (cc_Job_addStep (a := b) (s := s) (ac := sgn tx p) (nu := nI 0) (j := j) g425 (by omega) (by omega)) rfl (fun h426 r427 q428 => ?_)
                obtain ⟨rfl, g429, fx430⟩ := q428
                have fr431 : px_fj b 4 175 1 h h426 := fj_tr fr390 fx430 (by omega)
                show px_to 29 132 [some (.ref (175)), some (.ref (b)), some (.int (nI s)), some (.int (nI (sgn tx p))), some (.int (nI 1))] [] h426 _
                refine e_iload f_29_132 rfl rfl ?_
                refine e_iret f_29_134 rfl (rfl) ?_
                have hfm : s = 102 ∨ s = 109 := by omega
                have hac : actsOf s = [43, 45, 42, 47] := by unfold actsOf; rw [if_neg c_22]
                have er : rdStep tx s p = ((rdI tx (skp tx p + 1)).1, (rdI tx (skp tx p + 1)).2.2, (s, sgn tx p, (rdI tx (skp tx p + 1)).2.1)) := by unfold rdStep; rw [if_pos hfm, hac, if_pos hin]
                have g432 : h426.2.2 175 = some (4, [.ref (18), .int (nI tx.length), .int (nI 0), .int (nI (skp tx p + 1))]) := fi_at g388 fx430 (by omega)
                have g433 : pRd h426 tx (skp tx p + 1) := ⟨_, g432⟩
                rw [er]
                dsimp only
                rw [if_pos rfl]
                exact ⟨rfl, g433, g429, fr431⟩
              · skip
                have c_102 : s ≠ 100 := cv_ne c_102
                refine e_iload_n f_29_105 rfl rfl ?_
                refine e_bipush (v := nI 115) f_29_106 (by decide) rfl ?_
                refine e_icmp_eq f_29_108 rfl (fun c_108 => ?_) (fun c_108 => ?_)
                · skip
                  have c_108 : s = 115 := cv_eq (by omega) (by omega) c_108
                  refine e_iload f_29_117 rfl rfl ?_
                  refine e_if_eq_f f_29_119 (by decide) rfl ?_
                  refine e_aload_n f_29_122 rfl rfl ?_
                  refine e_iload_n f_29_123 rfl rfl ?_
                  refine e_iload_n f_29_124 rfl rfl ?_
                  refine e_aload_n f_29_125 rfl rfl ?_
                  refine e_getf f_29_126 g388 rfl rfl ?_
                  have g434 : pJob h370 b j := pJob_fi H1 fx374 (by omega)
                  have g435 : pJob h383 b j := pJob_fi g434 fx385 (by omega)
                  have g436 : pJob h387 b j := pJob_fi g435 fx389 (by omega)
                  refine e_callV (As := [.int (nI s), .int (nI (sgn tx p)), .int (nI 0)]) (rest := []) f_29_129 rfl rfl rfl (Nat.le_of_ble_eq_true rfl) (Nat.le_of_ble_eq_true rfl) g436.1 rfl (Nat.le_of_ble_eq_true rfl) (cc_Job_addStep (a := b) (s := s) (ac := sgn tx p) (nu := nI 0) (j := j) g436 (by omega) (by omega)) rfl (fun h437 r438 q439 => ?_)
                  obtain ⟨rfl, g440, fx441⟩ := q439
                  have fr442 : px_fj b 4 175 1 h h437 := fj_tr fr390 fx441 (by omega)
                  show px_to 29 132 [some (.ref (175)), some (.ref (b)), some (.int (nI s)), some (.int (nI (sgn tx p))), some (.int (nI 1))] [] h437 _
                  refine e_iload f_29_132 rfl rfl ?_
                  refine e_iret f_29_134 rfl (rfl) ?_
                  have hfm : s = 102 ∨ s = 109 := by omega
                  have hac : actsOf s = [43, 45, 42, 47] := by unfold actsOf; rw [if_neg c_22]
                  have er : rdStep tx s p = ((rdI tx (skp tx p + 1)).1, (rdI tx (skp tx p + 1)).2.2, (s, sgn tx p, (rdI tx (skp tx p + 1)).2.1)) := by unfold rdStep; rw [if_pos hfm, hac, if_pos hin]
                  have g443 : h437.2.2 175 = some (4, [.ref (18), .int (nI tx.length), .int (nI 0), .int (nI (skp tx p + 1))]) := fi_at g388 fx441 (by omega)
                  have g444 : pRd h437 tx (skp tx p + 1) := ⟨_, g443⟩
                  rw [er]
                  dsimp only
                  rw [if_pos rfl]
                  exact ⟨rfl, g444, g440, fr442⟩
                · skip
                  have c_108 : s ≠ 115 := cv_ne c_108
                  refine e_aload_n f_29_111 rfl rfl ?_
                  obtain ⟨hm446, fa447, fb448⟩ := fj_mid fr390
                  have g445 : px_pa h387 18 52 500 vN tx := pa_fi (pa_fi H2 fa447 (by omega)) fb448 (by omega)
                  refine e_callV (As := []) (rest := []) f_29_112 rfl rfl rfl (Nat.le_of_ble_eq_true rfl) (Nat.le_of_ble_eq_true rfl) g388 rfl (Nat.le_of_ble_eq_true rfl) (cc_Rd_int (tx := tx) (p := skp tx p + 1) (n := nI 0) g388 g445 (by first | exact hsl2 | exact p0) (p1)) rfl (fun h449 r450 q451 => ?_)
                  obtain ⟨rfl, g452, fx453⟩ := q451
                  have fr454 : px_fj b 4 175 1 h h449 := fj_tr fr390 fx453 (by omega)
                  show px_to 29 115 [some (.ref (175)), some (.ref (b)), some (.int (nI s)), some (.int (nI (sgn tx p))), some (.int (nI 1))] [.int (bI ((rdI tx (skp tx p + 1)).1))] h449 _
                  refine e_istore (L' := [some (.ref (175)), some (.ref (b)), some (.int (nI s)), some (.int (nI (sgn tx p))), some (.int (bI ((rdI tx (skp tx p + 1)).1)))]) f_29_115 (Nat.le_of_ble_eq_true rfl) rfl rfl ?_
                  refine e_iload f_29_117 rfl rfl ?_
                  refine e_if_eq f_29_119 rfl (fun c_119 => ?_) (fun c_119 => ?_)
                  · skip
                    have c_119 : ((rdI tx (skp tx p + 1)).1) = false := bI_f c_119
                    refine e_iload f_29_132 rfl rfl ?_
                    refine e_iret f_29_134 rfl (nw_bI _) ?_
                    have g455 : pJob h370 b j := pJob_fi H1 fx374 (by omega)
                    have g456 : pJob h383 b j := pJob_fi g455 fx385 (by omega)
                    have g457 : pJob h387 b j := pJob_fi g456 fx389 (by omega)
                    have g458 : pJob h449 b j := pJob_fi g457 fx453 (by omega)
                    have hfm : s = 102 ∨ s = 109 := by omega
                    have hac : actsOf s = [43, 45, 42, 47] := by unfold actsOf; rw [if_neg c_22]
                    have er : rdStep tx s p = ((rdI tx (skp tx p + 1)).1, (rdI tx (skp tx p + 1)).2.2, (s, sgn tx p, (rdI tx (skp tx p + 1)).2.1)) := by unfold rdStep; rw [if_pos hfm, hac, if_pos hin]
                    have g459 : pRd h449 tx ((rdI tx (skp tx p + 1)).2.2) := ⟨_, g452⟩
                    rw [er]
                    dsimp only
                    rw [if_neg (by rw [c_119]; decide)]
                    exact ⟨by rw [c_119], g459, g458, fr454⟩
                  · skip
                    have c_119 : ((rdI tx (skp tx p + 1)).1) = true := bI_t' c_119
                    refine e_aload_n f_29_122 rfl rfl ?_
                    refine e_iload_n f_29_123 rfl rfl ?_
                    refine e_iload_n f_29_124 rfl rfl ?_
                    refine e_aload_n f_29_125 rfl rfl ?_
                    refine e_getf f_29_126 g452 rfl rfl ?_
                    have g460 : pJob h370 b j := pJob_fi H1 fx374 (by omega)
                    have g461 : pJob h383 b j := pJob_fi g460 fx385 (by omega)
                    have g462 : pJob h387 b j := pJob_fi g461 fx389 (by omega)
                    have g463 : pJob h449 b j := pJob_fi g462 fx453 (by omega)
                    refine e_callV (As := [.int (nI s), .int (nI (sgn tx p)), .int ((rdI tx (skp tx p + 1)).2.1)]) (rest := []) f_29_129 rfl rfl rfl (Nat.le_of_ble_eq_true rfl) (Nat.le_of_ble_eq_true rfl) g463.1 rfl (Nat.le_of_ble_eq_true rfl) (cc_Job_addStep (a := b) (s := s) (ac := sgn tx p) (nu := (rdI tx (skp tx p + 1)).2.1) (j := j) g463 (by omega) (by omega)) rfl (fun h464 r465 q466 => ?_)
                    obtain ⟨rfl, g467, fx468⟩ := q466
                    have fr469 : px_fj b 4 175 1 h h464 := fj_tr fr454 fx468 (by omega)
                    show px_to 29 132 [some (.ref (175)), some (.ref (b)), some (.int (nI s)), some (.int (nI (sgn tx p))), some (.int (bI ((rdI tx (skp tx p + 1)).1)))] [] h464 _
                    refine e_iload f_29_132 rfl rfl ?_
                    refine e_iret f_29_134 rfl (nw_bI _) ?_
                    have hfm : s = 102 ∨ s = 109 := by omega
                    have hac : actsOf s = [43, 45, 42, 47] := by unfold actsOf; rw [if_neg c_22]
                    have er : rdStep tx s p = ((rdI tx (skp tx p + 1)).1, (rdI tx (skp tx p + 1)).2.2, (s, sgn tx p, (rdI tx (skp tx p + 1)).2.1)) := by unfold rdStep; rw [if_pos hfm, hac, if_pos hin]
                    have g470 : h464.2.2 175 = some (4, [.ref (18), .int (nI tx.length), .int ((rdI tx (skp tx p + 1)).2.1), .int (nI ((rdI tx (skp tx p + 1)).2.2))]) := fi_at g452 fx468 (by omega)
                    have g471 : pRd h464 tx ((rdI tx (skp tx p + 1)).2.2) := ⟨_, g470⟩
                    rw [er]
                    dsimp only
                    rw [if_pos c_119]
                    exact ⟨by rw [c_119], g471, g467, fr469⟩
            · skip
              have c_72 : s = 116 := cv_nne (by omega) (by omega) c_72
              refine e_aload_n f_29_75 rfl rfl ?_
              obtain ⟨hm473, fa474, fb475⟩ := fj_mid fr390
              have g472 : px_pa h387 18 52 500 vN tx := pa_fi (pa_fi H2 fa474 (by omega)) fb475 (by omega)
              refine e_callV (As := []) (rest := []) f_29_76 rfl rfl rfl (Nat.le_of_ble_eq_true rfl) (Nat.le_of_ble_eq_true rfl) g388 rfl (Nat.le_of_ble_eq_true rfl) (cc_Rd_time (tx := tx) (p := skp tx p + 1) (n := nI 0) g388 g472 (by omega) (p1)) rfl (fun h476 r477 q478 => ?_)
              obtain ⟨rfl, g479, fx480⟩ := q478
              have fr481 : px_fj b 4 175 1 h h476 := fj_tr fr390 fx480 (by omega)
              show px_to 29 79 [some (.ref (175)), some (.ref (b)), some (.int (nI s)), some (.int (nI (sgn tx p))), some (.int (nI 1))] [.int (bI ((rdT tx (skp tx p + 1)).1))] h476 _
              refine e_if_eq f_29_79 rfl (fun c_79 => ?_) (fun c_79 => ?_)
              · skip
                have c_79 : ((rdT tx (skp tx p + 1)).1) = false := bI_f c_79
                refine e_iconst (v := nI 0) f_29_93 (by decide) rfl ?_
                refine e_istore (L' := [some (.ref (175)), some (.ref (b)), some (.int (nI s)), some (.int (nI (sgn tx p))), some (.int (nI 0))]) f_29_94 (Nat.le_of_ble_eq_true rfl) rfl rfl ?_
                refine e_goto f_29_96 ?_
                refine e_iload f_29_117 rfl rfl ?_
                refine e_if_eq_t f_29_119 (by decide) ?_
                refine e_iload f_29_132 rfl rfl ?_
                refine e_iret f_29_134 rfl (rfl) ?_
                have g482 : pJob h370 b j := pJob_fi H1 fx374 (by omega)
                have g483 : pJob h383 b j := pJob_fi g482 fx385 (by omega)
                have g484 : pJob h387 b j := pJob_fi g483 fx389 (by omega)
                have g485 : pJob h476 b j := pJob_fi g484 fx480 (by omega)
                have hfm : s = 102 ∨ s = 109 := by omega
                have hac : actsOf s = [43, 45, 42, 47] := by unfold actsOf; rw [if_neg c_22]
                have er : rdStep tx s p = ((rdI tx (skp tx p + 1)).1, (rdI tx (skp tx p + 1)).2.2, (s, sgn tx p, (rdI tx (skp tx p + 1)).2.1)) := by unfold rdStep; rw [if_pos hfm, hac, if_pos hin]
                have g486 : pRd h476 tx ((rdT tx (skp tx p + 1)).2.2) := ⟨_, g479⟩
                have hb : ((rdT tx p).1 && decide (0 < (rdT tx p).2.1)) = false := by rw [c_79]; rfl
                rw [er]
                dsimp only
                rw [hb, if_neg (by decide)]
                exact ⟨rfl, g486, g485, fr481⟩
              · skip
                have c_79 : ((rdT tx (skp tx p + 1)).1) = true := bI_t' c_79
                refine e_aload_n f_29_82 rfl rfl ?_
                refine e_getf f_29_83 g479 rfl rfl ?_
                refine e_if_le f_29_86 rfl (fun c_86 => ?_) (fun c_86 => ?_)
                · skip
                  refine e_iconst (v := nI 0) f_29_93 (by decide) rfl ?_
                  refine e_istore (L' := [some (.ref (175)), some (.ref (b)), some (.int (nI s)), some (.int (nI (sgn tx p))), some (.int (nI 0))]) f_29_94 (Nat.le_of_ble_eq_true rfl) rfl rfl ?_
                  refine e_goto f_29_96 ?_
                  refine e_iload f_29_117 rfl rfl ?_
                  refine e_if_eq_t f_29_119 (by decide) ?_
                  refine e_iload f_29_132 rfl rfl ?_
                  refine e_iret f_29_134 rfl (rfl) ?_
                  have g487 : pJob h370 b j := pJob_fi H1 fx374 (by omega)
                  have g488 : pJob h383 b j := pJob_fi g487 fx385 (by omega)
                  have g489 : pJob h387 b j := pJob_fi g488 fx389 (by omega)
                  have g490 : pJob h476 b j := pJob_fi g489 fx480 (by omega)
                  have hfm : s = 102 ∨ s = 109 := by omega
                  have hac : actsOf s = [43, 45, 42, 47] := by unfold actsOf; rw [if_neg c_22]
                  have er : rdStep tx s p = ((rdI tx (skp tx p + 1)).1, (rdI tx (skp tx p + 1)).2.2, (s, sgn tx p, (rdI tx (skp tx p + 1)).2.1)) := by unfold rdStep; rw [if_pos hfm, hac, if_pos hin]
                  have g491 : pRd h476 tx ((rdT tx (skp tx p + 1)).2.2) := ⟨_, g479⟩
                  have hb : ((rdT tx p).1 && decide (0 < (rdT tx p).2.1)) = false := by rw [c_79, decide_eq_false (show ¬ 0 < (rdT tx p).2.1 by omega)]; rfl
                  rw [er]
                  dsimp only
                  rw [hb, if_neg (by decide)]
                  exact ⟨rfl, g491, g490, fr481⟩
                · skip
                  refine e_iconst (v := nI 1) f_29_89 (by decide) rfl ?_
                  refine e_goto f_29_90 ?_
                  refine e_istore (L' := [some (.ref (175)), some (.ref (b)), some (.int (nI s)), some (.int (nI (sgn tx p))), some (.int (nI 1))]) f_29_94 (Nat.le_of_ble_eq_true rfl) rfl rfl ?_
                  refine e_goto f_29_96 ?_
                  refine e_iload f_29_117 rfl rfl ?_
                  refine e_if_eq_f f_29_119 (by decide) rfl ?_
                  refine e_aload_n f_29_122 rfl rfl ?_
                  refine e_iload_n f_29_123 rfl rfl ?_
                  refine e_iload_n f_29_124 rfl rfl ?_
                  refine e_aload_n f_29_125 rfl rfl ?_
                  refine e_getf f_29_126 g479 rfl rfl ?_
                  have g492 : pJob h370 b j := pJob_fi H1 fx374 (by omega)
                  have g493 : pJob h383 b j := pJob_fi g492 fx385 (by omega)
                  have g494 : pJob h387 b j := pJob_fi g493 fx389 (by omega)
                  have g495 : pJob h476 b j := pJob_fi g494 fx480 (by omega)
                  refine e_callV (As := [.int (nI s), .int (nI (sgn tx p)), .int (nI (rdT tx (skp tx p + 1)).2.1)]) (rest := []) f_29_129 rfl rfl rfl (Nat.le_of_ble_eq_true rfl) (Nat.le_of_ble_eq_true rfl) g495.1 rfl (Nat.le_of_ble_eq_true rfl) (cc_Job_addStep (a := b) (s := s) (ac := sgn tx p) (nu := nI (rdT tx (skp tx p + 1)).2.1) (j := j) g495 (by omega) (by omega)) rfl (fun h496 r497 q498 => ?_)
                  obtain ⟨rfl, g499, fx500⟩ := q498
                  have fr501 : px_fj b 4 175 1 h h496 := fj_tr fr481 fx500 (by omega)
                  show px_to 29 132 [some (.ref (175)), some (.ref (b)), some (.int (nI s)), some (.int (nI (sgn tx p))), some (.int (nI 1))] [] h496 _
                  refine e_iload f_29_132 rfl rfl ?_
                  refine e_iret f_29_134 rfl (rfl) ?_
                  have hfm : s = 102 ∨ s = 109 := by omega
                  have hac : actsOf s = [43, 45, 42, 47] := by unfold actsOf; rw [if_neg c_22]
                  have er : rdStep tx s p = ((rdI tx (skp tx p + 1)).1, (rdI tx (skp tx p + 1)).2.2, (s, sgn tx p, (rdI tx (skp tx p + 1)).2.1)) := by unfold rdStep; rw [if_pos hfm, hac, if_pos hin]
                  have g502 : h496.2.2 175 = some (4, [.ref (18), .int (nI tx.length), .int (nI (rdT tx (skp tx p + 1)).2.1), .int (nI ((rdT tx (skp tx p + 1)).2.2))]) := fi_at g479 fx500 (by omega)
                  have g503 : pRd h496 tx ((rdT tx (skp tx p + 1)).2.2) := ⟨_, g502⟩
                  have hb : ((rdT tx p).1 && decide (0 < (rdT tx p).2.1)) = true := by rw [c_79, decide_eq_true (show 0 < (rdT tx p).2.1 by omega)]; rfl
                  rw [er]
                  dsimp only
                  rw [hb, if_pos rfl]
                  exact ⟨rfl, g503, g499, fr501⟩
        · skip
          have hin : sgn tx p ∉ [43, 45, 42, 47] := ix_out (by decide) c_40
          refine e_iconst (v := nI 0) f_29_43 (by decide) rfl ?_
          refine e_iret f_29_44 rfl (rfl) ?_
          have g504 : pJob h370 b j := pJob_fi H1 fx374 (by omega)
          have hfm : s = 102 ∨ s = 109 := by omega
          have hac : actsOf s = [43, 45, 42, 47] := by unfold actsOf; rw [if_neg c_22]
          have er : rdStep tx s p = (false, skp tx p, (s, 0, 0)) := by unfold rdStep; rw [if_pos hfm, hac, if_neg hin]
          have g505 : pRd h370 tx (skp tx p) := ⟨_, g373⟩
          rw [er]
          exact ⟨rfl, g505, g504, fr375⟩
      · skip
        have c_22 : s = 102 := cv_nne (by omega) (by omega) c_22
        refine e_ldc f_29_25 rfl ?_
        refine e_goto f_29_27 ?_
        refine e_astore (L' := [some (.ref (175)), some (.ref (b)), some (.int (nI s)), some (.int (nI (sgn tx p))), some (.ref (4))]) f_29_32 (Nat.le_of_ble_eq_true rfl) rfl rfl ?_
        refine e_aload f_29_34 rfl rfl ?_
        refine e_iload_n f_29_36 rfl rfl ?_
        obtain ⟨hm507, fa508, fb509⟩ := fj_mid fr375
        have g506 : pStr h370 4 ([60, 61, 62]) := pStr_fi (pStr_fi H3 fa508 (by omega)) fb509 (by omega)
        refine e_callV (As := [.int (nI (sgn tx p))]) (rest := []) f_29_37 rfl rfl rfl (Nat.le_of_ble_eq_true rfl) (Nat.le_of_ble_eq_true rfl) g506.1 rfl (Nat.le_of_ble_eq_true rfl) (cc_Str_ix (c := sgn tx p) (k := 4) (bs := [60, 61, 62]) g506 (by omega) (by decide) (by decide)) rfl (fun h510 r511 q512 => ?_)
        obtain ⟨rfl, qe⟩ := q512
        have qe := qe.symm
        subst qe
        show px_to 29 40 [some (.ref (175)), some (.ref (b)), some (.int (nI s)), some (.int (nI (sgn tx p))), some (.ref (4))] [.int (ixf ([60, 61, 62]) (sgn tx p) 0)] h370 _
        refine e_if_ge f_29_40 rfl (fun c_40 => ?_) (fun c_40 => ?_)
        · skip
          have hin : sgn tx p ∈ [60, 61, 62] := ix_in (by decide) c_40
          have hsl2 : skp tx p + 1 ≤ tx.length := sgn_next hin (by decide)
          refine e_aload_n f_29_45 rfl rfl ?_
          refine e_dup f_29_46 rfl rfl ?_
          refine e_getf f_29_47 g373 rfl rfl ?_
          refine e_iconst (v := nI 1) f_29_50 (by decide) rfl ?_
          refine e_iadd (z := nI (skp tx p + 1)) f_29_51 (nI_add _ _) rfl ?_
          refine e_putp (vs' := [.ref (18), .int (nI tx.length), .int (n368), .int (nI (skp tx p + 1))]) f_29_52 g373 (Nat.le_of_ble_eq_true rfl) (rfl) (rfl) rfl rfl (fun h513 g514 fx515 => ?_)
          have fr516 : px_fj b 4 175 1 h h513 := fj_tr fr375 fx515 (by omega)
          refine e_aload_n f_29_55 rfl rfl ?_
          refine e_iconst (v := nI 0) f_29_56 (by decide) rfl ?_
          refine e_putp (vs' := [.ref (18), .int (nI tx.length), .int (nI 0), .int (nI (skp tx p + 1))]) f_29_57 g514 (Nat.le_of_ble_eq_true rfl) (rfl) (rfl) rfl rfl (fun h517 g518 fx519 => ?_)
          have fr520 : px_fj b 4 175 1 h h517 := fj_tr fr516 fx519 (by omega)
          refine e_iconst (v := nI 1) f_29_60 (by decide) rfl ?_
          refine e_istore (L' := [some (.ref (175)), some (.ref (b)), some (.int (nI s)), some (.int (nI (sgn tx p))), some (.int (nI 1))]) f_29_61 (Nat.le_of_ble_eq_true rfl) rfl rfl ?_
          refine e_iload_n f_29_63 rfl rfl ?_
          refine e_bipush (v := nI 119) f_29_64 (by decide) rfl ?_
          refine e_icmp_eq f_29_66 rfl (fun c_66 => ?_) (fun c_66 => ?_)
          · skip
            have c_66 : s = 119 := cv_eq (by omega) (by omega) c_66
            refine e_aload_n f_29_75 rfl rfl ?_
            obtain ⟨hm522, fa523, fb524⟩ := fj_mid fr520
            have g521 : px_pa h517 18 52 500 vN tx := pa_fi (pa_fi H2 fa523 (by omega)) fb524 (by omega)
            refine e_callV (As := []) (rest := []) f_29_76 rfl rfl rfl (Nat.le_of_ble_eq_true rfl) (Nat.le_of_ble_eq_true rfl) g518 rfl (Nat.le_of_ble_eq_true rfl) (cc_Rd_time (tx := tx) (p := skp tx p + 1) (n := nI 0) g518 g521 (by omega) (p1)) rfl (fun h525 r526 q527 => ?_)
            obtain ⟨rfl, g528, fx529⟩ := q527
            have fr530 : px_fj b 4 175 1 h h525 := fj_tr fr520 fx529 (by omega)
            show px_to 29 79 [some (.ref (175)), some (.ref (b)), some (.int (nI s)), some (.int (nI (sgn tx p))), some (.int (nI 1))] [.int (bI ((rdT tx (skp tx p + 1)).1))] h525 _
            refine e_if_eq f_29_79 rfl (fun c_79 => ?_) (fun c_79 => ?_)
            · skip
              have c_79 : ((rdT tx (skp tx p + 1)).1) = false := bI_f c_79
              refine e_iconst (v := nI 0) f_29_93 (by decide) rfl ?_
              refine e_istore (L' := [some (.ref (175)), some (.ref (b)), some (.int (nI s)), some (.int (nI (sgn tx p))), some (.int (nI 0))]) f_29_94 (Nat.le_of_ble_eq_true rfl) rfl rfl ?_
              refine e_goto f_29_96 ?_
              refine e_iload f_29_117 rfl rfl ?_
              refine e_if_eq_t f_29_119 (by decide) ?_
              refine e_iload f_29_132 rfl rfl ?_
              refine e_iret f_29_134 rfl (rfl) ?_
              have g531 : pJob h370 b j := pJob_fi H1 fx374 (by omega)
              have g532 : pJob h513 b j := pJob_fi g531 fx515 (by omega)
              have g533 : pJob h517 b j := pJob_fi g532 fx519 (by omega)
              have g534 : pJob h525 b j := pJob_fi g533 fx529 (by omega)
              have hfm : s = 102 ∨ s = 109 := by omega
              have hac : actsOf s = [60, 61, 62] := by unfold actsOf; rw [if_pos c_22]
              have er : rdStep tx s p = ((rdI tx (skp tx p + 1)).1, (rdI tx (skp tx p + 1)).2.2, (s, sgn tx p, (rdI tx (skp tx p + 1)).2.1)) := by unfold rdStep; rw [if_pos hfm, hac, if_pos hin]
              have g535 : pRd h525 tx ((rdT tx (skp tx p + 1)).2.2) := ⟨_, g528⟩
              have hb : ((rdT tx p).1 && decide (0 < (rdT tx p).2.1)) = false := by rw [c_79]; rfl
              rw [er]
              dsimp only
              rw [hb, if_neg (by decide)]
              exact ⟨rfl, g535, g534, fr530⟩
            · skip
              have c_79 : ((rdT tx (skp tx p + 1)).1) = true := bI_t' c_79
              refine e_aload_n f_29_82 rfl rfl ?_
              refine e_getf f_29_83 g528 rfl rfl ?_
              refine e_if_le f_29_86 rfl (fun c_86 => ?_) (fun c_86 => ?_)
              · skip
                refine e_iconst (v := nI 0) f_29_93 (by decide) rfl ?_
                refine e_istore (L' := [some (.ref (175)), some (.ref (b)), some (.int (nI s)), some (.int (nI (sgn tx p))), some (.int (nI 0))]) f_29_94 (Nat.le_of_ble_eq_true rfl) rfl rfl ?_
                refine e_goto f_29_96 ?_
                refine e_iload f_29_117 rfl rfl ?_
                refine e_if_eq_t f_29_119 (by decide) ?_
                refine e_iload f_29_132 rfl rfl ?_
                refine e_iret f_29_134 rfl (rfl) ?_
                have g536 : pJob h370 b j := pJob_fi H1 fx374 (by omega)
                have g537 : pJob h513 b j := pJob_fi g536 fx515 (by omega)
                have g538 : pJob h517 b j := pJob_fi g537 fx519 (by omega)
                have g539 : pJob h525 b j := pJob_fi g538 fx529 (by omega)
                have hfm : s = 102 ∨ s = 109 := by omega
                have hac : actsOf s = [60, 61, 62] := by unfold actsOf; rw [if_pos c_22]
                have er : rdStep tx s p = ((rdI tx (skp tx p + 1)).1, (rdI tx (skp tx p + 1)).2.2, (s, sgn tx p, (rdI tx (skp tx p + 1)).2.1)) := by unfold rdStep; rw [if_pos hfm, hac, if_pos hin]
                have g540 : pRd h525 tx ((rdT tx (skp tx p + 1)).2.2) := ⟨_, g528⟩
                have hb : ((rdT tx p).1 && decide (0 < (rdT tx p).2.1)) = false := by rw [c_79, decide_eq_false (show ¬ 0 < (rdT tx p).2.1 by omega)]; rfl
                rw [er]
                dsimp only
                rw [hb, if_neg (by decide)]
                exact ⟨rfl, g540, g539, fr530⟩
              · skip
                refine e_iconst (v := nI 1) f_29_89 (by decide) rfl ?_
                refine e_goto f_29_90 ?_
                refine e_istore (L' := [some (.ref (175)), some (.ref (b)), some (.int (nI s)), some (.int (nI (sgn tx p))), some (.int (nI 1))]) f_29_94 (Nat.le_of_ble_eq_true rfl) rfl rfl ?_
                refine e_goto f_29_96 ?_
                refine e_iload f_29_117 rfl rfl ?_
                refine e_if_eq_f f_29_119 (by decide) rfl ?_
                refine e_aload_n f_29_122 rfl rfl ?_
                refine e_iload_n f_29_123 rfl rfl ?_
                refine e_iload_n f_29_124 rfl rfl ?_
                refine e_aload_n f_29_125 rfl rfl ?_
                refine e_getf f_29_126 g528 rfl rfl ?_
                have g541 : pJob h370 b j := pJob_fi H1 fx374 (by omega)
                have g542 : pJob h513 b j := pJob_fi g541 fx515 (by omega)
                have g543 : pJob h517 b j := pJob_fi g542 fx519 (by omega)
                have g544 : pJob h525 b j := pJob_fi g543 fx529 (by omega)
                refine e_callV (As := [.int (nI s), .int (nI (sgn tx p)), .int (nI (rdT tx (skp tx p + 1)).2.1)]) (rest := []) f_29_129 rfl rfl rfl (Nat.le_of_ble_eq_true rfl) (Nat.le_of_ble_eq_true rfl) g544.1 rfl (Nat.le_of_ble_eq_true rfl) (cc_Job_addStep (a := b) (s := s) (ac := sgn tx p) (nu := nI (rdT tx (skp tx p + 1)).2.1) (j := j) g544 (by omega) (by omega)) rfl (fun h545 r546 q547 => ?_)
                obtain ⟨rfl, g548, fx549⟩ := q547
                have fr550 : px_fj b 4 175 1 h h545 := fj_tr fr530 fx549 (by omega)
                show px_to 29 132 [some (.ref (175)), some (.ref (b)), some (.int (nI s)), some (.int (nI (sgn tx p))), some (.int (nI 1))] [] h545 _
                refine e_iload f_29_132 rfl rfl ?_
                refine e_iret f_29_134 rfl (rfl) ?_
                have hfm : s = 102 ∨ s = 109 := by omega
                have hac : actsOf s = [60, 61, 62] := by unfold actsOf; rw [if_pos c_22]
                have er : rdStep tx s p = ((rdI tx (skp tx p + 1)).1, (rdI tx (skp tx p + 1)).2.2, (s, sgn tx p, (rdI tx (skp tx p + 1)).2.1)) := by unfold rdStep; rw [if_pos hfm, hac, if_pos hin]
                have g551 : h545.2.2 175 = some (4, [.ref (18), .int (nI tx.length), .int (nI (rdT tx (skp tx p + 1)).2.1), .int (nI ((rdT tx (skp tx p + 1)).2.2))]) := fi_at g528 fx549 (by omega)
                have g552 : pRd h545 tx ((rdT tx (skp tx p + 1)).2.2) := ⟨_, g551⟩
                have hb : ((rdT tx p).1 && decide (0 < (rdT tx p).2.1)) = true := by rw [c_79, decide_eq_true (show 0 < (rdT tx p).2.1 by omega)]; rfl
                rw [er]
                dsimp only
                rw [hb, if_pos rfl]
                exact ⟨rfl, g552, g548, fr550⟩
          · skip
            have c_66 : s ≠ 119 := cv_ne c_66
            refine e_iload_n f_29_69 rfl rfl ?_
            refine e_bipush (v := nI 116) f_29_70 (by decide) rfl ?_
            refine e_icmp_ne f_29_72 rfl (fun c_72 => ?_) (fun c_72 => ?_)
            · skip
              have c_72 : s ≠ 116 := cv_ne c_72
              refine e_iload_n f_29_99 rfl rfl ?_
              refine e_bipush (v := nI 100) f_29_100 (by decide) rfl ?_
              refine e_icmp_eq f_29_102 rfl (fun c_102 => ?_) (fun c_102 => ?_)
              · skip
                have c_102 : s = 100 := cv_eq (by omega) (by omega) c_102
                refine e_iload f_29_117 rfl rfl ?_
                refine e_if_eq_f f_29_119 (by decide) rfl ?_
                refine e_aload_n f_29_122 rfl rfl ?_
                refine e_iload_n f_29_123 rfl rfl ?_
                refine e_iload_n f_29_124 rfl rfl ?_
                refine e_aload_n f_29_125 rfl rfl ?_
                refine e_getf f_29_126 g518 rfl rfl ?_
                have g553 : pJob h370 b j := pJob_fi H1 fx374 (by omega)
                have g554 : pJob h513 b j := pJob_fi g553 fx515 (by omega)
                have g555 : pJob h517 b j := pJob_fi g554 fx519 (by omega)
                refine e_callV (As := [.int (nI s), .int (nI (sgn tx p)), .int (nI 0)]) (rest := []) f_29_129 rfl rfl rfl (Nat.le_of_ble_eq_true rfl) (Nat.le_of_ble_eq_true rfl) g555.1 rfl (Nat.le_of_ble_eq_true rfl) (cc_Job_addStep (a := b) (s := s) (ac := sgn tx p) (nu := nI 0) (j := j) g555 (by omega) (by omega)) rfl (fun h556 r557 q558 => ?_)
                obtain ⟨rfl, g559, fx560⟩ := q558
                have fr561 : px_fj b 4 175 1 h h556 := fj_tr fr520 fx560 (by omega)
                show px_to 29 132 [some (.ref (175)), some (.ref (b)), some (.int (nI s)), some (.int (nI (sgn tx p))), some (.int (nI 1))] [] h556 _
                refine e_iload f_29_132 rfl rfl ?_
                refine e_iret f_29_134 rfl (rfl) ?_
                have hfm : s = 102 ∨ s = 109 := by omega
                have hac : actsOf s = [60, 61, 62] := by unfold actsOf; rw [if_pos c_22]
                have er : rdStep tx s p = ((rdI tx (skp tx p + 1)).1, (rdI tx (skp tx p + 1)).2.2, (s, sgn tx p, (rdI tx (skp tx p + 1)).2.1)) := by unfold rdStep; rw [if_pos hfm, hac, if_pos hin]
                have g562 : h556.2.2 175 = some (4, [.ref (18), .int (nI tx.length), .int (nI 0), .int (nI (skp tx p + 1))]) := fi_at g518 fx560 (by omega)
                have g563 : pRd h556 tx (skp tx p + 1) := ⟨_, g562⟩
                rw [er]
                dsimp only
                rw [if_pos rfl]
                exact ⟨rfl, g563, g559, fr561⟩
              · skip
                have c_102 : s ≠ 100 := cv_ne c_102
                refine e_iload_n f_29_105 rfl rfl ?_
                refine e_bipush (v := nI 115) f_29_106 (by decide) rfl ?_
                refine e_icmp_eq f_29_108 rfl (fun c_108 => ?_) (fun c_108 => ?_)
                · skip
                  have c_108 : s = 115 := cv_eq (by omega) (by omega) c_108
                  refine e_iload f_29_117 rfl rfl ?_
                  refine e_if_eq_f f_29_119 (by decide) rfl ?_
                  refine e_aload_n f_29_122 rfl rfl ?_
                  refine e_iload_n f_29_123 rfl rfl ?_
                  refine e_iload_n f_29_124 rfl rfl ?_
                  refine e_aload_n f_29_125 rfl rfl ?_
                  refine e_getf f_29_126 g518 rfl rfl ?_
                  have g564 : pJob h370 b j := pJob_fi H1 fx374 (by omega)
                  have g565 : pJob h513 b j := pJob_fi g564 fx515 (by omega)
                  have g566 : pJob h517 b j := pJob_fi g565 fx519 (by omega)
                  refine e_callV (As := [.int (nI s), .int (nI (sgn tx p)), .int (nI 0)]) (rest := []) f_29_129 rfl rfl rfl (Nat.le_of_ble_eq_true rfl) (Nat.le_of_ble_eq_true rfl) g566.1 rfl (Nat.le_of_ble_eq_true rfl) (cc_Job_addStep (a := b) (s := s) (ac := sgn tx p) (nu := nI 0) (j := j) g566 (by omega) (by omega)) rfl (fun h567 r568 q569 => ?_)
                  obtain ⟨rfl, g570, fx571⟩ := q569
                  have fr572 : px_fj b 4 175 1 h h567 := fj_tr fr520 fx571 (by omega)
                  show px_to 29 132 [some (.ref (175)), some (.ref (b)), some (.int (nI s)), some (.int (nI (sgn tx p))), some (.int (nI 1))] [] h567 _
                  refine e_iload f_29_132 rfl rfl ?_
                  refine e_iret f_29_134 rfl (rfl) ?_
                  have hfm : s = 102 ∨ s = 109 := by omega
                  have hac : actsOf s = [60, 61, 62] := by unfold actsOf; rw [if_pos c_22]
                  have er : rdStep tx s p = ((rdI tx (skp tx p + 1)).1, (rdI tx (skp tx p + 1)).2.2, (s, sgn tx p, (rdI tx (skp tx p + 1)).2.1)) := by unfold rdStep; rw [if_pos hfm, hac, if_pos hin]
                  have g573 : h567.2.2 175 = some (4, [.ref (18), .int (nI tx.length), .int (nI 0), .int (nI (skp tx p + 1))]) := fi_at g518 fx571 (by omega)
                  have g574 : pRd h567 tx (skp tx p + 1) := ⟨_, g573⟩
                  rw [er]
                  dsimp only
                  rw [if_pos rfl]
                  exact ⟨rfl, g574, g570, fr572⟩
                · skip
                  have c_108 : s ≠ 115 := cv_ne c_108
                  refine e_aload_n f_29_111 rfl rfl ?_
                  obtain ⟨hm576, fa577, fb578⟩ := fj_mid fr520
                  have g575 : px_pa h517 18 52 500 vN tx := pa_fi (pa_fi H2 fa577 (by omega)) fb578 (by omega)
                  refine e_callV (As := []) (rest := []) f_29_112 rfl rfl rfl (Nat.le_of_ble_eq_true rfl) (Nat.le_of_ble_eq_true rfl) g518 rfl (Nat.le_of_ble_eq_true rfl) (cc_Rd_int (tx := tx) (p := skp tx p + 1) (n := nI 0) g518 g575 (by first | exact hsl2 | exact p0) (p1)) rfl (fun h579 r580 q581 => ?_)
                  obtain ⟨rfl, g582, fx583⟩ := q581
                  have fr584 : px_fj b 4 175 1 h h579 := fj_tr fr520 fx583 (by omega)
                  show px_to 29 115 [some (.ref (175)), some (.ref (b)), some (.int (nI s)), some (.int (nI (sgn tx p))), some (.int (nI 1))] [.int (bI ((rdI tx (skp tx p + 1)).1))] h579 _
                  refine e_istore (L' := [some (.ref (175)), some (.ref (b)), some (.int (nI s)), some (.int (nI (sgn tx p))), some (.int (bI ((rdI tx (skp tx p + 1)).1)))]) f_29_115 (Nat.le_of_ble_eq_true rfl) rfl rfl ?_
                  refine e_iload f_29_117 rfl rfl ?_
                  refine e_if_eq f_29_119 rfl (fun c_119 => ?_) (fun c_119 => ?_)
                  · skip
                    have c_119 : ((rdI tx (skp tx p + 1)).1) = false := bI_f c_119
                    refine e_iload f_29_132 rfl rfl ?_
                    refine e_iret f_29_134 rfl (nw_bI _) ?_
                    have g585 : pJob h370 b j := pJob_fi H1 fx374 (by omega)
                    have g586 : pJob h513 b j := pJob_fi g585 fx515 (by omega)
                    have g587 : pJob h517 b j := pJob_fi g586 fx519 (by omega)
                    have g588 : pJob h579 b j := pJob_fi g587 fx583 (by omega)
                    have hfm : s = 102 ∨ s = 109 := by omega
                    have hac : actsOf s = [60, 61, 62] := by unfold actsOf; rw [if_pos c_22]
                    have er : rdStep tx s p = ((rdI tx (skp tx p + 1)).1, (rdI tx (skp tx p + 1)).2.2, (s, sgn tx p, (rdI tx (skp tx p + 1)).2.1)) := by unfold rdStep; rw [if_pos hfm, hac, if_pos hin]
                    have g589 : pRd h579 tx ((rdI tx (skp tx p + 1)).2.2) := ⟨_, g582⟩
                    rw [er]
                    dsimp only
                    rw [if_neg (by rw [c_119]; decide)]
                    exact ⟨by rw [c_119], g589, g588, fr584⟩
                  · skip
                    have c_119 : ((rdI tx (skp tx p + 1)).1) = true := bI_t' c_119
                    refine e_aload_n f_29_122 rfl rfl ?_
                    refine e_iload_n f_29_123 rfl rfl ?_
                    refine e_iload_n f_29_124 rfl rfl ?_
                    refine e_aload_n f_29_125 rfl rfl ?_
                    refine e_getf f_29_126 g582 rfl rfl ?_
                    have g590 : pJob h370 b j := pJob_fi H1 fx374 (by omega)
                    have g591 : pJob h513 b j := pJob_fi g590 fx515 (by omega)
                    have g592 : pJob h517 b j := pJob_fi g591 fx519 (by omega)
                    have g593 : pJob h579 b j := pJob_fi g592 fx583 (by omega)
                    refine e_callV (As := [.int (nI s), .int (nI (sgn tx p)), .int ((rdI tx (skp tx p + 1)).2.1)]) (rest := []) f_29_129 rfl rfl rfl (Nat.le_of_ble_eq_true rfl) (Nat.le_of_ble_eq_true rfl) g593.1 rfl (Nat.le_of_ble_eq_true rfl) (cc_Job_addStep (a := b) (s := s) (ac := sgn tx p) (nu := (rdI tx (skp tx p + 1)).2.1) (j := j) g593 (by omega) (by omega)) rfl (fun h594 r595 q596 => ?_)
                    obtain ⟨rfl, g597, fx598⟩ := q596
                    have fr599 : px_fj b 4 175 1 h h594 := fj_tr fr584 fx598 (by omega)
                    show px_to 29 132 [some (.ref (175)), some (.ref (b)), some (.int (nI s)), some (.int (nI (sgn tx p))), some (.int (bI ((rdI tx (skp tx p + 1)).1)))] [] h594 _
                    refine e_iload f_29_132 rfl rfl ?_
                    refine e_iret f_29_134 rfl (nw_bI _) ?_
                    have hfm : s = 102 ∨ s = 109 := by omega
                    have hac : actsOf s = [60, 61, 62] := by unfold actsOf; rw [if_pos c_22]
                    have er : rdStep tx s p = ((rdI tx (skp tx p + 1)).1, (rdI tx (skp tx p + 1)).2.2, (s, sgn tx p, (rdI tx (skp tx p + 1)).2.1)) := by unfold rdStep; rw [if_pos hfm, hac, if_pos hin]
                    have g600 : h594.2.2 175 = some (4, [.ref (18), .int (nI tx.length), .int ((rdI tx (skp tx p + 1)).2.1), .int (nI ((rdI tx (skp tx p + 1)).2.2))]) := fi_at g582 fx598 (by omega)
                    have g601 : pRd h594 tx ((rdI tx (skp tx p + 1)).2.2) := ⟨_, g600⟩
                    rw [er]
                    dsimp only
                    rw [if_pos c_119]
                    exact ⟨by rw [c_119], g601, g597, fr599⟩
            · skip
              have c_72 : s = 116 := cv_nne (by omega) (by omega) c_72
              refine e_aload_n f_29_75 rfl rfl ?_
              obtain ⟨hm603, fa604, fb605⟩ := fj_mid fr520
              have g602 : px_pa h517 18 52 500 vN tx := pa_fi (pa_fi H2 fa604 (by omega)) fb605 (by omega)
              refine e_callV (As := []) (rest := []) f_29_76 rfl rfl rfl (Nat.le_of_ble_eq_true rfl) (Nat.le_of_ble_eq_true rfl) g518 rfl (Nat.le_of_ble_eq_true rfl) (cc_Rd_time (tx := tx) (p := skp tx p + 1) (n := nI 0) g518 g602 (by omega) (p1)) rfl (fun h606 r607 q608 => ?_)
              obtain ⟨rfl, g609, fx610⟩ := q608
              have fr611 : px_fj b 4 175 1 h h606 := fj_tr fr520 fx610 (by omega)
              show px_to 29 79 [some (.ref (175)), some (.ref (b)), some (.int (nI s)), some (.int (nI (sgn tx p))), some (.int (nI 1))] [.int (bI ((rdT tx (skp tx p + 1)).1))] h606 _
              refine e_if_eq f_29_79 rfl (fun c_79 => ?_) (fun c_79 => ?_)
              · skip
                have c_79 : ((rdT tx (skp tx p + 1)).1) = false := bI_f c_79
                refine e_iconst (v := nI 0) f_29_93 (by decide) rfl ?_
                refine e_istore (L' := [some (.ref (175)), some (.ref (b)), some (.int (nI s)), some (.int (nI (sgn tx p))), some (.int (nI 0))]) f_29_94 (Nat.le_of_ble_eq_true rfl) rfl rfl ?_
                refine e_goto f_29_96 ?_
                refine e_iload f_29_117 rfl rfl ?_
                refine e_if_eq_t f_29_119 (by decide) ?_
                refine e_iload f_29_132 rfl rfl ?_
                refine e_iret f_29_134 rfl (rfl) ?_
                have g612 : pJob h370 b j := pJob_fi H1 fx374 (by omega)
                have g613 : pJob h513 b j := pJob_fi g612 fx515 (by omega)
                have g614 : pJob h517 b j := pJob_fi g613 fx519 (by omega)
                have g615 : pJob h606 b j := pJob_fi g614 fx610 (by omega)
                have hfm : s = 102 ∨ s = 109 := by omega
                have hac : actsOf s = [60, 61, 62] := by unfold actsOf; rw [if_pos c_22]
                have er : rdStep tx s p = ((rdI tx (skp tx p + 1)).1, (rdI tx (skp tx p + 1)).2.2, (s, sgn tx p, (rdI tx (skp tx p + 1)).2.1)) := by unfold rdStep; rw [if_pos hfm, hac, if_pos hin]
                have g616 : pRd h606 tx ((rdT tx (skp tx p + 1)).2.2) := ⟨_, g609⟩
                have hb : ((rdT tx p).1 && decide (0 < (rdT tx p).2.1)) = false := by rw [c_79]; rfl
                rw [er]
                dsimp only
                rw [hb, if_neg (by decide)]
                exact ⟨rfl, g616, g615, fr611⟩
              · skip
                have c_79 : ((rdT tx (skp tx p + 1)).1) = true := bI_t' c_79
                refine e_aload_n f_29_82 rfl rfl ?_
                refine e_getf f_29_83 g609 rfl rfl ?_
                refine e_if_le f_29_86 rfl (fun c_86 => ?_) (fun c_86 => ?_)
                · skip
                  refine e_iconst (v := nI 0) f_29_93 (by decide) rfl ?_
                  refine e_istore (L' := [some (.ref (175)), some (.ref (b)), some (.int (nI s)), some (.int (nI (sgn tx p))), some (.int (nI 0))]) f_29_94 (Nat.le_of_ble_eq_true rfl) rfl rfl ?_
                  refine e_goto f_29_96 ?_
                  refine e_iload f_29_117 rfl rfl ?_
                  refine e_if_eq_t f_29_119 (by decide) ?_
                  refine e_iload f_29_132 rfl rfl ?_
                  refine e_iret f_29_134 rfl (rfl) ?_
                  have g617 : pJob h370 b j := pJob_fi H1 fx374 (by omega)
                  have g618 : pJob h513 b j := pJob_fi g617 fx515 (by omega)
                  have g619 : pJob h517 b j := pJob_fi g618 fx519 (by omega)
                  have g620 : pJob h606 b j := pJob_fi g619 fx610 (by omega)
                  have hfm : s = 102 ∨ s = 109 := by omega
                  have hac : actsOf s = [60, 61, 62] := by unfold actsOf; rw [if_pos c_22]
                  have er : rdStep tx s p = ((rdI tx (skp tx p + 1)).1, (rdI tx (skp tx p + 1)).2.2, (s, sgn tx p, (rdI tx (skp tx p + 1)).2.1)) := by unfold rdStep; rw [if_pos hfm, hac, if_pos hin]
                  have g621 : pRd h606 tx ((rdT tx (skp tx p + 1)).2.2) := ⟨_, g609⟩
                  have hb : ((rdT tx p).1 && decide (0 < (rdT tx p).2.1)) = false := by rw [c_79, decide_eq_false (show ¬ 0 < (rdT tx p).2.1 by omega)]; rfl
                  rw [er]
                  dsimp only
                  rw [hb, if_neg (by decide)]
                  exact ⟨rfl, g621, g620, fr611⟩
                · skip
                  refine e_iconst (v := nI 1) f_29_89 (by decide) rfl ?_
                  refine e_goto f_29_90 ?_
                  refine e_istore (L' := [some (.ref (175)), some (.ref (b)), some (.int (nI s)), some (.int (nI (sgn tx p))), some (.int (nI 1))]) f_29_94 (Nat.le_of_ble_eq_true rfl) rfl rfl ?_
                  refine e_goto f_29_96 ?_
                  refine e_iload f_29_117 rfl rfl ?_
                  refine e_if_eq_f f_29_119 (by decide) rfl ?_
                  refine e_aload_n f_29_122 rfl rfl ?_
                  refine e_iload_n f_29_123 rfl rfl ?_
                  refine e_iload_n f_29_124 rfl rfl ?_
                  refine e_aload_n f_29_125 rfl rfl ?_
                  refine e_getf f_29_126 g609 rfl rfl ?_
                  have g622 : pJob h370 b j := pJob_fi H1 fx374 (by omega)
                  have g623 : pJob h513 b j := pJob_fi g622 fx515 (by omega)
                  have g624 : pJob h517 b j := pJob_fi g623 fx519 (by omega)
                  have g625 : pJob h606 b j := pJob_fi g624 fx610 (by omega)
                  refine e_callV (As := [.int (nI s), .int (nI (sgn tx p)), .int (nI (rdT tx (skp tx p + 1)).2.1)]) (rest := []) f_29_129 rfl rfl rfl (Nat.le_of_ble_eq_true rfl) (Nat.le_of_ble_eq_true rfl) g625.1 rfl (Nat.le_of_ble_eq_true rfl) (cc_Job_addStep (a := b) (s := s) (ac := sgn tx p) (nu := nI (rdT tx (skp tx p + 1)).2.1) (j := j) g625 (by omega) (by omega)) rfl (fun h626 r627 q628 => ?_)
                  obtain ⟨rfl, g629, fx630⟩ := q628
                  have fr631 : px_fj b 4 175 1 h h626 := fj_tr fr611 fx630 (by omega)
                  show px_to 29 132 [some (.ref (175)), some (.ref (b)), some (.int (nI s)), some (.int (nI (sgn tx p))), some (.int (nI 1))] [] h626 _
                  refine e_iload f_29_132 rfl rfl ?_
                  refine e_iret f_29_134 rfl (rfl) ?_
                  have hfm : s = 102 ∨ s = 109 := by omega
                  have hac : actsOf s = [60, 61, 62] := by unfold actsOf; rw [if_pos c_22]
                  have er : rdStep tx s p = ((rdI tx (skp tx p + 1)).1, (rdI tx (skp tx p + 1)).2.2, (s, sgn tx p, (rdI tx (skp tx p + 1)).2.1)) := by unfold rdStep; rw [if_pos hfm, hac, if_pos hin]
                  have g632 : h626.2.2 175 = some (4, [.ref (18), .int (nI tx.length), .int (nI (rdT tx (skp tx p + 1)).2.1), .int (nI ((rdT tx (skp tx p + 1)).2.2))]) := fi_at g609 fx630 (by omega)
                  have g633 : pRd h626 tx ((rdT tx (skp tx p + 1)).2.2) := ⟨_, g632⟩
                  have hb : ((rdT tx p).1 && decide (0 < (rdT tx p).2.1)) = true := by rw [c_79, decide_eq_true (show 0 < (rdT tx p).2.1 by omega)]; rfl
                  rw [er]
                  dsimp only
                  rw [hb, if_pos rfl]
                  exact ⟨rfl, g633, g629, fr631⟩
        · skip
          have hin : sgn tx p ∉ [60, 61, 62] := ix_out (by decide) c_40
          refine e_iconst (v := nI 0) f_29_43 (by decide) rfl ?_
          refine e_iret f_29_44 rfl (rfl) ?_
          have g634 : pJob h370 b j := pJob_fi H1 fx374 (by omega)
          have hfm : s = 102 ∨ s = 109 := by omega
          have hac : actsOf s = [60, 61, 62] := by unfold actsOf; rw [if_pos c_22]
          have er : rdStep tx s p = (false, skp tx p, (s, 0, 0)) := by unfold rdStep; rw [if_pos hfm, hac, if_neg hin]
          have g635 : pRd h370 tx (skp tx p) := ⟨_, g373⟩
          rw [er]
          exact ⟨rfl, g635, g634, fr375⟩

set_option maxRecDepth 20000 in
set_option maxHeartbeats 4000000 in
theorem ll_Rd_steps {h0 : px_H} {tx : List Nat} {b : Nat} {y : Bool × Nat × List St} (HT : px_pa h0 18 52 500 vN tx) (HS : pStr h0 3 stepSigns) (H4 : pStr h0 4 [60, 61, 62]) (H5 : pStr h0 5 [43, 45, 42, 47]) (p1 : okTx tx) (p3 : 17 ≤ b) (p4 : 18 < b ∧ (b + 4 ≤ 175 ∨ 176 ≤ b)) : ∀ (d : Nat) (k : Nat) (tm : Nat) (p : Nat) (j : List St) (g : px_H), (6 ≤ k + d) → (k ≤ 6 ∧ tm ≤ k) → (p ≤ tx.length) → (j.length = k) → (rdSteps tx (6 - k) tm p j = y) → pRd g tx p → pJob g b j → px_fj b 4 175 1 h0 g → px_to 28 4 [some (.ref (175)), some (.ref (b)), some (.int (nI tm)), some (.int (nI k)), none] [] g (fun h1 r => r = some (.int (bI y.1)) ∧ pRd h1 tx y.2.1 ∧ pJob h1 b y.2.2 ∧ px_fj b 4 175 1 h0 h1) := by
  intro d
  induction d using Nat.strongRecOn with
  | ind d ih =>
    intro k tm p j g q0 q1 q2 q3 q4 G0 G1 frg
    have le := pa_len HT
    have hsl : sgn tx p < 127 := tx_lt p1 _
    have hsk := skp_le q2
    refine e_iload_n f_28_4 rfl rfl ?_
    refine e_bipush (v := nI 6) f_28_5 (by decide) rfl ?_
    refine e_icmp_ge f_28_7 rfl (fun c_7 => ?_) (fun c_7 => ?_)
    · skip
      have c_7 : 6 ≤ k := cv_le (by omega) (by omega) c_7
      refine e_iconst (v := nI 1) f_28_78 (by decide) rfl ?_
      refine e_iret f_28_79 rfl (rfl) ?_
      rw [show 6 - k = 0 by omega, rdSteps] at q4
      subst q4
      exact ⟨rfl, G0, G1, frg⟩
    · skip
      have c_7 : k < 6 := cv_nle (by omega) (by omega) c_7
      refine e_aload_n f_28_10 rfl rfl ?_
      obtain ⟨n1, g2⟩ := G0
      obtain ⟨hm4, fa5, fb6⟩ := fj_mid frg
      have g3 : px_pa g 18 52 500 vN tx := pa_fi (pa_fi HT fa5 (by omega)) fb6 (by omega)
      refine e_callV (As := []) (rest := []) f_28_11 rfl rfl rfl (Nat.le_of_ble_eq_true rfl) (Nat.le_of_ble_eq_true rfl) g2 rfl (Nat.le_of_ble_eq_true rfl) (cc_Rd_next (tx := tx) (p := p) (n := n1) g2 g3 (by omega) (p1)) rfl (fun h7 r8 q9 => ?_)
      obtain ⟨rfl, g10, fx11⟩ := q9
      have fr12 : px_fj b 4 175 1 h0 h7 := fj_tr frg fx11 (by omega)
      show px_to 28 14 [some (.ref (175)), some (.ref (b)), some (.int (nI tm)), some (.int (nI k)), none] [.int (nI (sgn tx p))] h7 _
      refine e_istore (L' := [some (.ref (175)), some (.ref (b)), some (.int (nI tm)), some (.int (nI k)), some (.int (nI (sgn tx p)))]) f_28_14 (Nat.le_of_ble_eq_true rfl) rfl rfl ?_
      refine e_ldc f_28_16 rfl ?_
      refine e_iload f_28_18 rfl rfl ?_
      obtain ⟨hm14, fa15, fb16⟩ := fj_mid fr12
      have g13 : pStr h7 3 stepSigns := pStr_fi (pStr_fi HS fa15 (by omega)) fb16 (by omega)
      refine e_callV (As := [.int (nI (sgn tx p))]) (rest := []) f_28_20 rfl rfl rfl (Nat.le_of_ble_eq_true rfl) (Nat.le_of_ble_eq_true rfl) g13.1 rfl (Nat.le_of_ble_eq_true rfl) (cc_Str_ix (c := sgn tx p) (k := 3) (bs := stepSigns) g13 (by omega) (by decide) (by decide)) rfl (fun h17 r18 q19 => ?_)
      obtain ⟨rfl, qe⟩ := q19
      have qe := qe.symm
      subst qe
      show px_to 28 23 [some (.ref (175)), some (.ref (b)), some (.int (nI tm)), some (.int (nI k)), some (.int (nI (sgn tx p)))] [.int (ixf stepSigns (sgn tx p) 0)] h7 _
      refine e_if_lt f_28_23 rfl (fun c_23 => ?_) (fun c_23 => ?_)
      · skip
        have hnin : sgn tx p ∉ stepSigns := (ixf_neg (by decide)).mp c_23
        refine e_iconst (v := nI 1) f_28_38 (by decide) rfl ?_
        refine e_iret f_28_39 rfl (rfl) ?_
        have g20 : pRd h7 tx (skp tx p) := ⟨_, g10⟩
        have g21 : pJob h7 b j := pJob_fi G1 fx11 (by omega)
        rw [show 6 - k = (6 - (k + 1)) + 1 by omega, rdSteps, if_pos (Or.inl hnin)] at q4
        subst q4
        exact ⟨rfl, g20, g21, fr12⟩
      · skip
        have hin : sgn tx p ∈ stepSigns := ix_in (by decide) (Int32.not_lt.mp c_23)
        refine e_iload f_28_26 rfl rfl ?_
        refine e_bipush (v := nI 116) f_28_28 (by decide) rfl ?_
        refine e_icmp_ne f_28_30 rfl (fun c_30 => ?_) (fun c_30 => ?_)
        · skip
          have c_30 : sgn tx p ≠ 116 := cv_ne c_30
          have hsl2 : skp tx p + 1 ≤ tx.length := sgn_next hin (by decide)
          refine e_aload_n f_28_40 rfl rfl ?_
          refine e_dup f_28_41 rfl rfl ?_
          refine e_getf f_28_42 g10 rfl rfl ?_
          refine e_iconst (v := nI 1) f_28_45 (by decide) rfl ?_
          refine e_iadd (z := nI (skp tx p + 1)) f_28_46 (nI_add _ _) rfl ?_
          refine e_putp (vs' := [.ref (18), .int (nI tx.length), .int (n1), .int (nI (skp tx p + 1))]) f_28_47 g10 (Nat.le_of_ble_eq_true rfl) (rfl) (rfl) rfl rfl (fun h22 g23 fx24 => ?_)
          have fr25 : px_fj b 4 175 1 h0 h22 := fj_tr fr12 fx24 (by omega)
          refine e_iload f_28_50 rfl rfl ?_
          refine e_bipush (v := nI 116) f_28_52 (by decide) rfl ?_
          refine e_icmp_ne f_28_54 rfl (fun c_54 => ?_) (fun c_54 => ?_)
          · skip
            have c_54 : sgn tx p ≠ 116 := cv_ne c_54
            refine e_aload_n f_28_60 rfl rfl ?_
            refine e_aload_n f_28_61 rfl rfl ?_
            refine e_iload f_28_62 rfl rfl ?_
            have g26 : pRd h22 tx (skp tx p + 1) := ⟨_, g23⟩
            have g27 : pJob h7 b j := pJob_fi G1 fx11 (by omega)
            have g28 : pJob h22 b j := pJob_fi g27 fx24 (by omega)
            obtain ⟨hm30, fa31, fb32⟩ := fj_mid fr25
            have g29 : px_pa h22 18 52 500 vN tx := pa_fi (pa_fi HT fa31 (by omega)) fb32 (by omega)
            obtain ⟨hm34, fa35, fb36⟩ := fj_mid fr25
            have g33 : pStr h22 4 ([60, 61, 62]) := pStr_fi (pStr_fi H4 fa35 (by omega)) fb36 (by omega)
            obtain ⟨hm38, fa39, fb40⟩ := fj_mid fr25
            have g37 : pStr h22 5 ([43, 45, 42, 47]) := pStr_fi (pStr_fi H5 fa39 (by omega)) fb40 (by omega)
            refine e_callV (As := [.ref (b), .int (nI (sgn tx p))]) (rest := []) f_28_64 rfl rfl rfl (Nat.le_of_ble_eq_true rfl) (Nat.le_of_ble_eq_true rfl) g23 rfl (Nat.le_of_ble_eq_true rfl) (cc_Rd_step (s := sgn tx p) (b := b) (j := j) (tx := tx) (p := skp tx p + 1) g26 g28 g29 g33 g37 (hsl2) (p1) (hin) (by omega) (by omega) (by omega)) rfl (fun h41 r42 q43 => ?_)
            obtain ⟨rfl, g44, g45, fx46⟩ := q43
            obtain ⟨hm47, fa48, fb49⟩ := fj_mid fx46
            have fr50 : px_fj b 4 175 1 h0 hm47 := fj_tr fr25 fa48 (by omega)
            have fr51 : px_fj b 4 175 1 h0 h41 := fj_tr fr50 fb49 (by omega)
            show px_to 28 67 [some (.ref (175)), some (.ref (b)), some (.int (nI tm)), some (.int (nI k)), some (.int (nI (sgn tx p)))] [.int (bI ((rdStep tx (sgn tx p) (skp tx p + 1)).1))] h41 _
            refine e_if_ne f_28_67 rfl (fun c_67 => ?_) (fun c_67 => ?_)
            · skip
              have c_67 : ((rdStep tx (sgn tx p) (skp tx p + 1)).1) = true := bI_t c_67
              refine e_iinc (y := nI (k + 1)) (L' := [some (.ref (175)), some (.ref (b)), some (.int (nI tm)), some (.int (nI (k + 1))), some (.int (nI (sgn tx p)))]) f_28_72 rfl (by rw [show Int32.ofInt 1 = nI 1 by decide]; exact (nI_add _ _)) rfl rfl ?_
              refine e_goto f_28_75 ?_
              rw [show 6 - k = (6 - (k + 1)) + 1 by omega, rdSteps, if_neg (fun z => z.elim (fun z => z hin) (fun z => by omega)), if_pos c_67, if_neg c_54] at q4
              have g52 : pJob h41 b (j ++ [(rdStep tx (sgn tx p) (skp tx p + 1)).2.2]) := by have z := g45; rw [if_pos c_67] at z; exact z
              refine px_to_L (L := [some (.ref (175)), some (.ref (b)), some (.int (nI tm)), some (.int (nI (k + 1))), none]) ⟨Or.inr rfl, Or.inr rfl, Or.inr rfl, Or.inr rfl, Or.inl rfl, trivial⟩ ?_
              first | (exfalso; omega) | exact ih (d - 1) (by omega) (k + 1) tm ((rdStep tx (sgn tx p) (skp tx p + 1)).2.1) (j ++ [(rdStep tx (sgn tx p) (skp tx p + 1)).2.2]) h41 (by omega) (by omega) (rdStep_le hsl2) (by rw [List.length_append, List.length_singleton]; omega) (q4) g44 g52 fr51
            · skip
              have c_67 : ((rdStep tx (sgn tx p) (skp tx p + 1)).1) = false := bI_f' c_67
              refine e_iconst (v := nI 0) f_28_70 (by decide) rfl ?_
              refine e_iret f_28_71 rfl (rfl) ?_
              rw [show 6 - k = (6 - (k + 1)) + 1 by omega, rdSteps, if_neg (fun z => z.elim (fun z => z hin) (fun z => by omega)), if_neg (by rw [c_67]; decide)] at q4
              subst q4
              exact ⟨rfl, g44, by have z := g45; rw [if_neg (by rw [c_67]; decide)] at z; exact z, fr51⟩
          · skip
            have c_54 : sgn tx p = 116 := cv_nne (by omega) (by omega) c_54
            refine e_iinc (y := nI (tm + 1)) (L' := [some (.ref (175)), some (.ref (b)), some (.int (nI (tm + 1))), some (.int (nI k)), some (.int (nI (sgn tx p)))]) f_28_57 rfl (by rw [show Int32.ofInt 1 = nI 1 by decide]; exact (nI_add _ _)) rfl rfl ?_
            refine e_aload_n f_28_60 rfl rfl ?_
            refine e_aload_n f_28_61 rfl rfl ?_
            refine e_iload f_28_62 rfl rfl ?_
            have g53 : pRd h22 tx (skp tx p + 1) := ⟨_, g23⟩
            have g54 : pJob h7 b j := pJob_fi G1 fx11 (by omega)
            have g55 : pJob h22 b j := pJob_fi g54 fx24 (by omega)
            obtain ⟨hm57, fa58, fb59⟩ := fj_mid fr25
            have g56 : px_pa h22 18 52 500 vN tx := pa_fi (pa_fi HT fa58 (by omega)) fb59 (by omega)
            obtain ⟨hm61, fa62, fb63⟩ := fj_mid fr25
            have g60 : pStr h22 4 ([60, 61, 62]) := pStr_fi (pStr_fi H4 fa62 (by omega)) fb63 (by omega)
            obtain ⟨hm65, fa66, fb67⟩ := fj_mid fr25
            have g64 : pStr h22 5 ([43, 45, 42, 47]) := pStr_fi (pStr_fi H5 fa66 (by omega)) fb67 (by omega)
            refine e_callV (As := [.ref (b), .int (nI (sgn tx p))]) (rest := []) f_28_64 rfl rfl rfl (Nat.le_of_ble_eq_true rfl) (Nat.le_of_ble_eq_true rfl) g23 rfl (Nat.le_of_ble_eq_true rfl) (cc_Rd_step (s := sgn tx p) (b := b) (j := j) (tx := tx) (p := skp tx p + 1) g53 g55 g56 g60 g64 (hsl2) (p1) (hin) (by omega) (by omega) (by omega)) rfl (fun h68 r69 q70 => ?_)
            obtain ⟨rfl, g71, g72, fx73⟩ := q70
            obtain ⟨hm74, fa75, fb76⟩ := fj_mid fx73
            have fr77 : px_fj b 4 175 1 h0 hm74 := fj_tr fr25 fa75 (by omega)
            have fr78 : px_fj b 4 175 1 h0 h68 := fj_tr fr77 fb76 (by omega)
            show px_to 28 67 [some (.ref (175)), some (.ref (b)), some (.int (nI (tm + 1))), some (.int (nI k)), some (.int (nI (sgn tx p)))] [.int (bI ((rdStep tx (sgn tx p) (skp tx p + 1)).1))] h68 _
            refine e_if_ne f_28_67 rfl (fun c_67 => ?_) (fun c_67 => ?_)
            · skip
              have c_67 : ((rdStep tx (sgn tx p) (skp tx p + 1)).1) = true := bI_t c_67
              refine e_iinc (y := nI (k + 1)) (L' := [some (.ref (175)), some (.ref (b)), some (.int (nI (tm + 1))), some (.int (nI (k + 1))), some (.int (nI (sgn tx p)))]) f_28_72 rfl (by rw [show Int32.ofInt 1 = nI 1 by decide]; exact (nI_add _ _)) rfl rfl ?_
              refine e_goto f_28_75 ?_
              rw [show 6 - k = (6 - (k + 1)) + 1 by omega, rdSteps, if_neg (fun z => z.elim (fun z => z hin) (fun z => by omega)), if_pos c_67, if_pos c_54] at q4
              have g79 : pJob h68 b (j ++ [(rdStep tx (sgn tx p) (skp tx p + 1)).2.2]) := by have z := g72; rw [if_pos c_67] at z; exact z
              refine px_to_L (L := [some (.ref (175)), some (.ref (b)), some (.int (nI (tm + 1))), some (.int (nI (k + 1))), none]) ⟨Or.inr rfl, Or.inr rfl, Or.inr rfl, Or.inr rfl, Or.inl rfl, trivial⟩ ?_
              first | (exfalso; omega) | exact ih (d - 1) (by omega) (k + 1) (tm + 1) ((rdStep tx (sgn tx p) (skp tx p + 1)).2.1) (j ++ [(rdStep tx (sgn tx p) (skp tx p + 1)).2.2]) h68 (by omega) (by omega) (rdStep_le hsl2) (by rw [List.length_append, List.length_singleton]; omega) (q4) g71 g79 fr78
            · skip
              have c_67 : ((rdStep tx (sgn tx p) (skp tx p + 1)).1) = false := bI_f' c_67
              refine e_iconst (v := nI 0) f_28_70 (by decide) rfl ?_
              refine e_iret f_28_71 rfl (rfl) ?_
              rw [show 6 - k = (6 - (k + 1)) + 1 by omega, rdSteps, if_neg (fun z => z.elim (fun z => z hin) (fun z => by omega)), if_neg (by rw [c_67]; decide)] at q4
              subst q4
              exact ⟨rfl, g71, by have z := g72; rw [if_neg (by rw [c_67]; decide)] at z; exact z, fr78⟩
        · skip
          have c_30 : sgn tx p = 116 := cv_nne (by omega) (by omega) c_30
          refine e_iload_n f_28_33 rfl rfl ?_
          refine e_iconst (v := nI 2) f_28_34 (by decide) rfl ?_
          refine e_icmp_ne f_28_35 rfl (fun c_35 => ?_) (fun c_35 => ?_)
          · skip
            have c_35 : tm ≠ 2 := cv_ne c_35
            have hsl2 : skp tx p + 1 ≤ tx.length := sgn_next hin (by decide)
            refine e_aload_n f_28_40 rfl rfl ?_
            refine e_dup f_28_41 rfl rfl ?_
            refine e_getf f_28_42 g10 rfl rfl ?_
            refine e_iconst (v := nI 1) f_28_45 (by decide) rfl ?_
            refine e_iadd (z := nI (skp tx p + 1)) f_28_46 (nI_add _ _) rfl ?_
            refine e_putp (vs' := [.ref (18), .int (nI tx.length), .int (n1), .int (nI (skp tx p + 1))]) f_28_47 g10 (Nat.le_of_ble_eq_true rfl) (rfl) (rfl) rfl rfl (fun h80 g81 fx82 => ?_)
            have fr83 : px_fj b 4 175 1 h0 h80 := fj_tr fr12 fx82 (by omega)
            refine e_iload f_28_50 rfl rfl ?_
            refine e_bipush (v := nI 116) f_28_52 (by decide) rfl ?_
            refine e_icmp_ne f_28_54 rfl (fun c_54 => ?_) (fun c_54 => ?_)
            · skip
              have c_54 : sgn tx p ≠ 116 := cv_ne c_54
              refine e_aload_n f_28_60 rfl rfl ?_
              refine e_aload_n f_28_61 rfl rfl ?_
              refine e_iload f_28_62 rfl rfl ?_
              have g84 : pRd h80 tx (skp tx p + 1) := ⟨_, g81⟩
              have g85 : pJob h7 b j := pJob_fi G1 fx11 (by omega)
              have g86 : pJob h80 b j := pJob_fi g85 fx82 (by omega)
              obtain ⟨hm88, fa89, fb90⟩ := fj_mid fr83
              have g87 : px_pa h80 18 52 500 vN tx := pa_fi (pa_fi HT fa89 (by omega)) fb90 (by omega)
              obtain ⟨hm92, fa93, fb94⟩ := fj_mid fr83
              have g91 : pStr h80 4 ([60, 61, 62]) := pStr_fi (pStr_fi H4 fa93 (by omega)) fb94 (by omega)
              obtain ⟨hm96, fa97, fb98⟩ := fj_mid fr83
              have g95 : pStr h80 5 ([43, 45, 42, 47]) := pStr_fi (pStr_fi H5 fa97 (by omega)) fb98 (by omega)
              refine e_callV (As := [.ref (b), .int (nI (sgn tx p))]) (rest := []) f_28_64 rfl rfl rfl (Nat.le_of_ble_eq_true rfl) (Nat.le_of_ble_eq_true rfl) g81 rfl (Nat.le_of_ble_eq_true rfl) (cc_Rd_step (s := sgn tx p) (b := b) (j := j) (tx := tx) (p := skp tx p + 1) g84 g86 g87 g91 g95 (hsl2) (p1) (hin) (by omega) (by omega) (by omega)) rfl (fun h99 r100 q101 => ?_)
              obtain ⟨rfl, g102, g103, fx104⟩ := q101
              obtain ⟨hm105, fa106, fb107⟩ := fj_mid fx104
              have fr108 : px_fj b 4 175 1 h0 hm105 := fj_tr fr83 fa106 (by omega)
              have fr109 : px_fj b 4 175 1 h0 h99 := fj_tr fr108 fb107 (by omega)
              show px_to 28 67 [some (.ref (175)), some (.ref (b)), some (.int (nI tm)), some (.int (nI k)), some (.int (nI (sgn tx p)))] [.int (bI ((rdStep tx (sgn tx p) (skp tx p + 1)).1))] h99 _
              refine e_if_ne f_28_67 rfl (fun c_67 => ?_) (fun c_67 => ?_)
              · skip
                have c_67 : ((rdStep tx (sgn tx p) (skp tx p + 1)).1) = true := bI_t c_67
                refine e_iinc (y := nI (k + 1)) (L' := [some (.ref (175)), some (.ref (b)), some (.int (nI tm)), some (.int (nI (k + 1))), some (.int (nI (sgn tx p)))]) f_28_72 rfl (by rw [show Int32.ofInt 1 = nI 1 by decide]; exact (nI_add _ _)) rfl rfl ?_
                refine e_goto f_28_75 ?_
                rw [show 6 - k = (6 - (k + 1)) + 1 by omega, rdSteps, if_neg (fun z => z.elim (fun z => z hin) (fun z => by omega)), if_pos c_67, if_neg c_54] at q4
                have g110 : pJob h99 b (j ++ [(rdStep tx (sgn tx p) (skp tx p + 1)).2.2]) := by have z := g103; rw [if_pos c_67] at z; exact z
                refine px_to_L (L := [some (.ref (175)), some (.ref (b)), some (.int (nI tm)), some (.int (nI (k + 1))), none]) ⟨Or.inr rfl, Or.inr rfl, Or.inr rfl, Or.inr rfl, Or.inl rfl, trivial⟩ ?_
                first | (exfalso; omega) | exact ih (d - 1) (by omega) (k + 1) tm ((rdStep tx (sgn tx p) (skp tx p + 1)).2.1) (j ++ [(rdStep tx (sgn tx p) (skp tx p + 1)).2.2]) h99 (by omega) (by omega) (rdStep_le hsl2) (by rw [List.length_append, List.length_singleton]; omega) (q4) g102 g110 fr109
              · skip
                have c_67 : ((rdStep tx (sgn tx p) (skp tx p + 1)).1) = false := bI_f' c_67
                refine e_iconst (v := nI 0) f_28_70 (by decide) rfl ?_
                refine e_iret f_28_71 rfl (rfl) ?_
                rw [show 6 - k = (6 - (k + 1)) + 1 by omega, rdSteps, if_neg (fun z => z.elim (fun z => z hin) (fun z => by omega)), if_neg (by rw [c_67]; decide)] at q4
                subst q4
                exact ⟨rfl, g102, by have z := g103; rw [if_neg (by rw [c_67]; decide)] at z; exact z, fr109⟩
            · skip
              have c_54 : sgn tx p = 116 := cv_nne (by omega) (by omega) c_54
              refine e_iinc (y := nI (tm + 1)) (L' := [some (.ref (175)), some (.ref (b)), some (.int (nI (tm + 1))), some (.int (nI k)), some (.int (nI (sgn tx p)))]) f_28_57 rfl (by rw [show Int32.ofInt 1 = nI 1 by decide]; exact (nI_add _ _)) rfl rfl ?_
              refine e_aload_n f_28_60 rfl rfl ?_
              refine e_aload_n f_28_61 rfl rfl ?_
              refine e_iload f_28_62 rfl rfl ?_
              have g111 : pRd h80 tx (skp tx p + 1) := ⟨_, g81⟩
              have g112 : pJob h7 b j := pJob_fi G1 fx11 (by omega)
              have g113 : pJob h80 b j := pJob_fi g112 fx82 (by omega)
              obtain ⟨hm115, fa116, fb117⟩ := fj_mid fr83
              have g114 : px_pa h80 18 52 500 vN tx := pa_fi (pa_fi HT fa116 (by omega)) fb117 (by omega)
              obtain ⟨hm119, fa120, fb121⟩ := fj_mid fr83
              have g118 : pStr h80 4 ([60, 61, 62]) := pStr_fi (pStr_fi H4 fa120 (by omega)) fb121 (by omega)
              obtain ⟨hm123, fa124, fb125⟩ := fj_mid fr83
              have g122 : pStr h80 5 ([43, 45, 42, 47]) := pStr_fi (pStr_fi H5 fa124 (by omega)) fb125 (by omega)
              refine e_callV (As := [.ref (b), .int (nI (sgn tx p))]) (rest := []) f_28_64 rfl rfl rfl (Nat.le_of_ble_eq_true rfl) (Nat.le_of_ble_eq_true rfl) g81 rfl (Nat.le_of_ble_eq_true rfl) (cc_Rd_step (s := sgn tx p) (b := b) (j := j) (tx := tx) (p := skp tx p + 1) g111 g113 g114 g118 g122 (hsl2) (p1) (hin) (by omega) (by omega) (by omega)) rfl (fun h126 r127 q128 => ?_)
              obtain ⟨rfl, g129, g130, fx131⟩ := q128
              obtain ⟨hm132, fa133, fb134⟩ := fj_mid fx131
              have fr135 : px_fj b 4 175 1 h0 hm132 := fj_tr fr83 fa133 (by omega)
              have fr136 : px_fj b 4 175 1 h0 h126 := fj_tr fr135 fb134 (by omega)
              show px_to 28 67 [some (.ref (175)), some (.ref (b)), some (.int (nI (tm + 1))), some (.int (nI k)), some (.int (nI (sgn tx p)))] [.int (bI ((rdStep tx (sgn tx p) (skp tx p + 1)).1))] h126 _
              refine e_if_ne f_28_67 rfl (fun c_67 => ?_) (fun c_67 => ?_)
              · skip
                have c_67 : ((rdStep tx (sgn tx p) (skp tx p + 1)).1) = true := bI_t c_67
                refine e_iinc (y := nI (k + 1)) (L' := [some (.ref (175)), some (.ref (b)), some (.int (nI (tm + 1))), some (.int (nI (k + 1))), some (.int (nI (sgn tx p)))]) f_28_72 rfl (by rw [show Int32.ofInt 1 = nI 1 by decide]; exact (nI_add _ _)) rfl rfl ?_
                refine e_goto f_28_75 ?_
                rw [show 6 - k = (6 - (k + 1)) + 1 by omega, rdSteps, if_neg (fun z => z.elim (fun z => z hin) (fun z => by omega)), if_pos c_67, if_pos c_54] at q4
                have g137 : pJob h126 b (j ++ [(rdStep tx (sgn tx p) (skp tx p + 1)).2.2]) := by have z := g130; rw [if_pos c_67] at z; exact z
                refine px_to_L (L := [some (.ref (175)), some (.ref (b)), some (.int (nI (tm + 1))), some (.int (nI (k + 1))), none]) ⟨Or.inr rfl, Or.inr rfl, Or.inr rfl, Or.inr rfl, Or.inl rfl, trivial⟩ ?_
                first | (exfalso; omega) | exact ih (d - 1) (by omega) (k + 1) (tm + 1) ((rdStep tx (sgn tx p) (skp tx p + 1)).2.1) (j ++ [(rdStep tx (sgn tx p) (skp tx p + 1)).2.2]) h126 (by omega) (by omega) (rdStep_le hsl2) (by rw [List.length_append, List.length_singleton]; omega) (q4) g129 g137 fr136
              · skip
                have c_67 : ((rdStep tx (sgn tx p) (skp tx p + 1)).1) = false := bI_f' c_67
                refine e_iconst (v := nI 0) f_28_70 (by decide) rfl ?_
                refine e_iret f_28_71 rfl (rfl) ?_
                rw [show 6 - k = (6 - (k + 1)) + 1 by omega, rdSteps, if_neg (fun z => z.elim (fun z => z hin) (fun z => by omega)), if_neg (by rw [c_67]; decide)] at q4
                subst q4
                exact ⟨rfl, g129, by have z := g130; rw [if_neg (by rw [c_67]; decide)] at z; exact z, fr136⟩
          · skip
            have c_35 : tm = 2 := cv_nne (by omega) (by omega) c_35
            refine e_iconst (v := nI 1) f_28_38 (by decide) rfl ?_
            refine e_iret f_28_39 rfl (rfl) ?_
            have g138 : pRd h7 tx (skp tx p) := ⟨_, g10⟩
            have g139 : pJob h7 b j := pJob_fi G1 fx11 (by omega)
            rw [show 6 - k = (6 - (k + 1)) + 1 by omega, rdSteps, if_pos (Or.inr ⟨c_30, c_35⟩)] at q4
            subst q4
            exact ⟨rfl, g138, g139, fr12⟩

set_option maxRecDepth 20000 in
set_option maxHeartbeats 4000000 in
theorem cc_Rd_steps {h : px_H} {b : Nat} {j : List St} {tx : List Nat} {p : Nat} (H0 : pRd h tx p) (H1 : pJob h b j) (H2 : px_pa h 18 52 500 vN tx) (H3 : pStr h 3 stepSigns) (H4 : pStr h 4 ([60, 61, 62])) (H5 : pStr h 5 ([43, 45, 42, 47])) (p0 : p ≤ tx.length) (p1 : okTx tx) (p2 : j = []) (p3 : 17 ≤ b) (p4 : 18 < b ∧ (b + 4 ≤ 175 ∨ 176 ≤ b)) : px_wp 28 [.ref (175), .ref (b)] h (fun h1 r => r = some (.int (bI ((rdSteps tx 6 0 p j).1))) ∧ pRd h1 tx ((rdSteps tx 6 0 p j).2.1) ∧ pJob h1 b ((rdSteps tx 6 0 p j).2.2) ∧ px_fj b 4 175 1 h h1) := by
  have fr0 : px_fj b 4 175 1 h h := fj_rf _ _ _ _ _
  show px_to 28 0 [some (.ref (175)), some (.ref (b)), none, none, none] [] h _
  refine e_iconst (v := nI 0) f_28_0 (by decide) rfl ?_
  refine e_istore_n (L' := [some (.ref (175)), some (.ref (b)), some (.int (nI 0)), none, none]) f_28_1 (Nat.le_of_ble_eq_true rfl) rfl rfl ?_
  refine e_iconst (v := nI 0) f_28_2 (by decide) rfl ?_
  refine e_istore_n (L' := [some (.ref (175)), some (.ref (b)), some (.int (nI 0)), some (.int (nI 0)), none]) f_28_3 (Nat.le_of_ble_eq_true rfl) rfl rfl ?_
  subst p2
  exact ll_Rd_steps (h0 := h) H2 H3 H4 H5 p1 p3 p4 6 0 0 p [] h (by omega) (by omega) p0 rfl rfl H0 H1 fr0
