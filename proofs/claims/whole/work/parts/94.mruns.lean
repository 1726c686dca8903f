theorem doEv_keep {j : List St} {la lb : Bool} {e : Ev} {s : RS} (h : e.1 ≠ 107) : (doEv j la lb e s).2.2.1 = s.2.2.1 ∧ (doEv j la lb e s).2.2.2.1 = s.2.2.2.1 := by
  unfold doEv
  by_cases h1 : e.1 = 114 ∨ e.1 = 82
  · rw [if_pos h1]; exact ⟨rfl, rfl⟩
  · rw [if_neg h1, if_neg h]
    by_cases h2 : e.1 = 104 ∨ e.1 = 72
    · rw [if_pos h2]
      split
      · exact ⟨rfl, rfl⟩
      · exact ⟨rfl, rfl⟩
    · rw [if_neg h2]; exact ⟨rfl, rfl⟩
theorem doEv_S9 {j : List St} {la lb : Bool} {e : Ev} {s : RS} (he : okEv e) (h : okS9 s) : okS9 (doEv j la lb e s) := by
  unfold doEv
  split
  · exact h
  · split
    · exact h
    · rename_i h1 h2
      split
      · rename_i h3
        obtain ⟨t, ht, e3⟩ := he.2.2 ⟨h2, by omega⟩
        have h9 : okW9 e.2.2.2 := Or.inr ⟨t, ht, e3⟩
        split
        · exact ⟨okW9_upA h.1 h9, okW9_upB h.2.1 h9, okW9_les (okW9_upA h.1 h9) (okW9_upB h.2.1 h9)⟩
        · exact ⟨okW9_upA h.1 h9, okW9_upB h.2.1 h9, h.2.2⟩
      · exact h
theorem PB_le {j : List St} {x : RX} {n m : Nat} (p : PB j x n) (h : n ≤ m) : PB j x m := fun k hk => Nat.le_trans (p k hk) h
theorem doEv_PB {j : List St} {la lb : Bool} {e : Ev} {s : RS} {n : Nat} (hj : okZ j) (he : okEv e) (hx : okX j s.1) (h : okS9 s) (p : PB j s.1 n) (hn : n + 4 ≤ 96) (hz : (doEv j la lb e s).1.2.2.2.2 = none) : PB j (doEv j la lb e s).1 (n + 4) := by
  by_cases h1 : e.1 = 114 ∨ e.1 = 82
  · obtain ⟨k, hk, ek⟩ := he.2.1 h1
    obtain ⟨t, ht, et⟩ := he.2.2 ⟨by omega, by omega⟩
    rw [doEv_r h1 ek hk et ht]
    intro q hq
    refine Nat.le_trans (pass_Phi hj.1 _ _ _ _ hx.1.1 (Nat.zero_le _) q) ?_
    have := p q hq
    have := Mz_le hj.2.2 0 q
    omega
  · by_cases h2 : e.1 = 107
    · rw [doEv_k h2]; exact PB_le p (by omega)
    · by_cases h3 : e.1 = 104 ∨ e.1 = 72
      · obtain ⟨t, ht, et⟩ := he.2.2 ⟨h2, by omega⟩
        have h9 : okW9 e.2.2.2 := Or.inr ⟨t, ht, et⟩
        by_cases hw : s.2.1.2.2 < lesW la lb (upA (decide (e.1 = 72)) s.2.1.1 e.2.2.2) (upB (decide (e.1 = 72)) s.2.1.2.1 e.2.2.2)
        · obtain ⟨m, hm, em⟩ := okW9_gt h.2.2 (okW9_les (okW9_upA h.1 h9) (okW9_upB h.2.1 h9)) hw
          rw [doEv_h1 h3 rfl hw em (by omega)] at hz ⊢
          exact PB_le (PB_tellGo hj.1 (by omega) (by omega) 7 0 s.1 hx p hz) (by omega)
        · rw [doEv_h0 h3 rfl (Int32.not_lt.mp hw)]; exact PB_le p (by omega)
      · have hx' : e.1 = 120 := by have := he.1; omega
        rw [doEv_x hx']; exact PB_le p (by omega)
def svR (j : List St) (s : RS) (sl2 : List Int32) : Prop := relB j s.2.2.2.1.1 s.2.2.2.1.2.1 s.2.2.2.1.2.2.1 s.2.2.2.1.2.2.2.1 s.2.2.2.1.2.2.2.2 sl2
/-- what holds between two events -/
def inv (j : List St) (s : RS) (gl : Nat) (sl2 : List Int32) (k fr : Nat) : Prop := okR j s ∧ okS9 s ∧ (okW9 s.2.2.2.1.1 ∧ okW9 s.2.2.2.1.2.1 ∧ okW9 s.2.2.2.1.2.2.1) ∧ svR j s sl2 ∧ gl = s.2.2.1 ∧ (s.1.2.2.2.2 = none → PB j s.1 (4 * k)) ∧ PB j (s.2.2.2.1.2.2.2.1, s.2.2.2.1.2.2.2.2, List.replicate gl (0, 0, 0), [], none) (4 * fr)
theorem inv_do {j : List St} {la lb : Bool} {e : Ev} {s : RS} {gl k fr : Nat} {sl2 : List Int32} (hj : okZ j) (he : okEv e) (hne : e.1 ≠ 107) (hk : k < 24) (h : inv j s gl sl2 k fr) (hz0 : s.1.2.2.2.2 = none) : inv j (doEv j la lb e s) gl sl2 (k + 1) fr := by
  obtain ⟨h1, h2, h3, h4, h5, h6, h7⟩ := h
  have hk2 := doEv_keep (j := j) (la := la) (lb := lb) (e := e) (s := s) hne
  refine ⟨doEv_ok hj.1 he h1, doEv_S9 he h2, by rw [hk2.2]; exact h3, by unfold svR; rw [hk2.2]; exact h4, by rw [hk2.1]; exact h5, fun z => ?_, by rw [hk2.2]; exact h7⟩
  exact doEv_PB (n := 4 * k) hj he h1.1 h2 (h6 hz0) (by omega) z
theorem inv_mono {j : List St} {s : RS} {gl k k' fr : Nat} {sl2 : List Int32} (hk : k ≤ k') (h : inv j s gl sl2 k fr) : inv j s gl sl2 k' fr := ⟨h.1, h.2.1, h.2.2.1, h.2.2.2.1, h.2.2.2.2.1, fun z => PB_le (h.2.2.2.2.2.1 z) (by omega), h.2.2.2.2.2.2⟩
theorem inv_back {j : List St} {s : RS} {gl k fr : Nat} {sl2 : List Int32} {lg lh : List Row} (h : inv j s gl sl2 k fr) (hz : s.1.2.2.2.2 = none) (ho : s.1.2.2.1 = lg ++ lh) (hg : lg.length = gl) : inv j (backS (doneS s)) gl sl2 fr fr := by
  obtain ⟨h1, h2, h3, h4, h5, h6, h7⟩ := h
  refine ⟨backS_ok (doneS_ok h1), h3, h3, h4, h5, fun z q hq => ?_, h7⟩
  have e : (backS (doneS s)).1.2.2.1.length = (List.replicate gl ((0, 0, 0) : Row)).length := by
    show (s.1.2.2.1.take s.2.2.1).length = _
    rw [List.length_take, List.length_replicate, ho, List.length_append]
    omega
  have := h7 q hq
  rw [e]
  exact this
theorem inv_mark {j : List St} {la lb : Bool} {e : Ev} {s : RS} {gl k fr : Nat} {sl sl2 : List Int32} (he : okEv e) (hj : okZ j) (h : inv j s gl sl2 k fr) (hz : s.1.2.2.2.2 = none) (hk : e.1 = 107) (hs : relB j s.2.1.1 s.2.1.2.1 s.2.1.2.2 s.1.1 s.1.2.1 sl) : inv j (doEv j la lb e s) s.1.2.2.1.length sl (k + 1) (k + 1) := by
  obtain ⟨h1, h2, h3, h4, h5, h6, h7⟩ := h
  have h8 := doEv_ok (la := la) (lb := lb) hj.1 he h1
  rw [doEv_k hk] at h8 ⊢
  refine ⟨h8, h2, h2, hs, rfl, fun _ => PB_le (h6 hz) (by omega), fun q hq => ?_⟩
  have := h6 hz q hq
  show Phi j s.1.2.1 (List.replicate s.1.2.2.1.length ((0, 0, 0) : Row)).length q ≤ _
  rw [List.length_replicate]
  omega
theorem inv_0 {j : List St} {tl : List Int32} {sl2 : List Int32} (ht : tl.length = 30) (hj : okZ j) (hs : relB j (-1) (-1) (-1) (nI 0) (List.replicate j.length sm0) sl2) : inv j (s0 j tl) 0 sl2 0 0 := by
  have h9 : okW9 (-1) := Or.inl rfl
  have hp : ∀ q, q ≤ j.length → Phi j (List.replicate j.length sm0) 0 q ≤ 0 := fun q hq => by
    unfold Phi
    have e1 : ∀ k, (List.replicate j.length sm0).getD k sm0 = sm0 := fun k => by
      rcases Nat.lt_or_ge k j.length with z | z
      · exact rep_sm z
      · rw [List.getD_eq_getElem?_getD, List.getElem?_eq_none (by rw [List.length_replicate]; exact z)]; rfl
    have e2 : ∀ s : St, pend s sm0 = 0 := fun s => by unfold pend; split; rfl; split <;> rfl
    have e3 : ∀ s : St, sizM s sm0 = 0 := fun s => by unfold sizM; split <;> rfl
    have e4 : ∀ n, sumF (fun i => pend (j.getD i (0, 0, 0)) ((List.replicate j.length sm0).getD i sm0) * Mz j (i + 1) q) n = 0 := fun n => by
      induction n with
      | zero => rfl
      | succ n ih =>
        show sumF _ n + _ = 0
        rw [ih]
        dsimp only
        rw [e1, e2, Nat.zero_mul]
    rw [e4, e1, e3]
    split
    · exact Nat.le_refl _
    · split <;> exact Nat.le_refl _
  exact ⟨s0_ok ht, ⟨h9, h9, h9⟩, ⟨h9, h9, h9⟩, hs, rfl, fun _ => hp, hp⟩
theorem lks_app {b : Bool} {es : List Ev} {e : Ev} (h : e ∈ es) (hb : evOf e.1 b = true) : lks b es = true := List.any_eq_true.mpr ⟨e, h, hb⟩
theorem perfL_s {j : List St} {la lb : Bool} {es pend : List Ev} {i : Nat} {s : RS} (hi : i < es.length) (hz : s.1.2.2.2.2 = none) : perfL j la lb (es.drop i) pend s = if (es.getD i (0, 0, 0, 0)).1 = 120 then perfL j la lb (es.drop (i + 1)) (pend ++ [es.getD i (0, 0, 0, 0)]) (redoL j la lb pend (backS (doneS s))) else perfL j la lb (es.drop (i + 1)) (if (es.getD i (0, 0, 0, 0)).1 = 107 then [] else pend ++ [es.getD i (0, 0, 0, 0)]) (doEv j la lb (es.getD i (0, 0, 0, 0)) s) := by
  rw [drop_step (0, 0, 0, 0) hi, perfL, if_pos hz]
theorem redoL_s {j : List St} {la lb : Bool} {es : List Ev} {i : Nat} {s : RS} (hi : i < es.length) (hz : s.1.2.2.2.2 = none) : redoL j la lb (es.drop i) s = redoL j la lb (es.drop (i + 1)) (if (es.getD i (0, 0, 0, 0)).1 = 120 then s else doEv j la lb (es.getD i (0, 0, 0, 0)) s) := by
  rw [drop_step (0, 0, 0, 0) hi, redoL, if_pos hz]

set_option maxRecDepth 20000 in
set_option maxHeartbeats 4000000 in
theorem ll_Md_run1 {P : px_H → Option Value → Prop} {h0 : px_H} {c : Nat} {ev es : List Ev} {pl : List Nat} {j : List St} {cb LA LB : Bool} {ga : gA} {gp : gP} {gq : gQ} {gh : gH} {gw : gW} {gu : gU} {gv : gV} (K0 : px_pa h0 275 52 192 evS es) (K1 : px_pa h0 296 50 24 vN pl) (hc : c < 8) (hes : es.length = 192) (hin : inE es c ev) (h24 : ev.length ≤ 24) (hok : ∀ e ∈ ev, okEv e) (hpl : ∀ p ∈ pl, p < ev.length) (kx : ∀ g, g.2.2 269 = some (12, mB ga gp (nI j.length, gq.2.1, gq.2.2.1, gq.2.2.2.1, LA, LB, cb) gh gw (nI pl.length, gu.2.1, gu.2.2) gv) → px_fi 269 1 h0 g → px_to 156 99 [some (.ref (269)), some (.int (nI c)), none, none, none, none] [] g P) : ∀ (d : Nat) (i : Nat) (la : Bool) (lb : Bool) (g : px_H), (pl.length ≤ i + d) → (i ≤ pl.length) → ((la || lks false ((evs ev pl).drop i)) = LA) → ((lb || lks true ((evs ev pl).drop i)) = LB) → g.2.2 269 = some (12, mB ga gp (nI j.length, gq.2.1, gq.2.2.1, gq.2.2.2.1, la, lb, cb) gh gw (nI pl.length, gu.2.1, gu.2.2) gv) → px_fi 269 1 h0 g → px_to 156 12 [some (.ref (269)), some (.int (nI c)), some (.int (nI i)), none, none, none] [] g P := by
  intro d
  induction d using Nat.strongRecOn with
  | ind d ih =>
    intro i la lb g q0 q1 q2 q3 G0 frg
    have lp := pa_len K1
    refine e_iload_n f_156_12 rfl rfl ?_
    refine e_aload_n f_156_13 rfl rfl ?_
    refine e_getf f_156_14 G0 rfl rfl ?_
    show px_to 156 17 [some (.ref (269)), some (.int (nI c)), some (.int (nI i)), none, none, none] [.int (nI pl.length), .int (nI i)] g _
    refine e_icmp_ge f_156_17 rfl (fun c_17 => ?_) (fun c_17 => ?_)
    · skip
      have c_17 : pl.length ≤ i := cv_le (by omega) (by omega) c_17
      refine px_to_L (L := [some (.ref (269)), some (.int (nI c)), none, none, none, none]) ⟨Or.inr rfl, Or.inr rfl, Or.inl rfl, Or.inr rfl, Or.inr rfl, Or.inr rfl, trivial⟩ ?_
      have ei : i = pl.length := by omega
      subst ei
      rw [List.drop_eq_nil_of_le (by rw [evs_len]; exact Nat.le_refl _), show lks false [] = false from rfl, Bool.or_false] at q2
      rw [List.drop_eq_nil_of_le (by rw [evs_len]; exact Nat.le_refl _), show lks true [] = false from rfl, Bool.or_false] at q3
      subst q2
      subst q3
      exact kx g G0 frg
    · skip
      have c_17 : i < pl.length := cv_nle (by omega) (by omega) c_17
      have hpi : pl.getD i 0 < ev.length := hpl _ (getD_mem 0 (show i < pl.length by omega))
      have hEi : es.getD (24 * c + pl.getD i 0) (0, 0, 0, 0) = ((evs ev pl).getD i (0, 0, 0, 0)) := by rw [hin _ hpi, evs_get (show i < pl.length by omega)]
      have hoei : okEv ((evs ev pl).getD i (0, 0, 0, 0)) := by rw [evs_get (show i < pl.length by omega)]; exact hok _ (getD_mem _ hpi)
      have hs9i := hoei.1
      refine e_aload_n f_156_20 rfl rfl ?_
      refine e_getf f_156_21 G0 rfl rfl ?_
      refine e_bipush (v := nI 24) f_156_24 (by decide) rfl ?_
      refine e_iload_n f_156_26 rfl rfl ?_
      refine e_imul (z := nI (24 * c)) f_156_27 (pk_mul _ _) rfl ?_
      refine e_aload_n f_156_28 rfl rfl ?_
      refine e_getf f_156_29 G0 rfl rfl ?_
      refine e_iload_n f_156_32 rfl rfl ?_
      have g1 : px_pa g 296 50 24 vN pl := pa_fi K1 frg (by omega)
      refine e_iaload_p (xs := pl) f_156_33 g1 (d := 0) (by first | omega | (simp only [List.length_set]; omega)) rfl ?_
      show px_to 156 34 [some (.ref (269)), some (.int (nI c)), some (.int (nI i)), none, none, none] [.int (nI (pl.getD i 0)), .int (nI (24 * c)), .ref (275)] g _
      refine e_iadd (z := nI (24 * c + pl.getD i 0)) f_156_34 (nI_add _ _) rfl ?_
      have g2 : px_pa g 275 52 192 evS es := pa_fi K0 frg (by omega)
      refine e_caload_p (xs := es) f_156_35 g2 (d := (0, 0, 0, 0)) (by omega) rfl ?_
      show px_to 156 36 [some (.ref (269)), some (.int (nI c)), some (.int (nI i)), none, none, none] [.int (nI ((es.getD (24 * c + pl.getD i 0) (0, 0, 0, 0)).1))] g _
      rw [hEi]
      refine e_istore_n (L' := [some (.ref (269)), some (.int (nI c)), some (.int (nI i)), some (.int (nI (((evs ev pl).getD i (0, 0, 0, 0)).1))), none, none]) f_156_36 (Nat.le_of_ble_eq_true rfl) rfl rfl ?_
      refine e_aload_n f_156_37 rfl rfl ?_
      refine e_aload_n f_156_38 rfl rfl ?_
      refine e_getf f_156_39 G0 rfl rfl ?_
      show px_to 156 42 [some (.ref (269)), some (.int (nI c)), some (.int (nI i)), some (.int (nI (((evs ev pl).getD i (0, 0, 0, 0)).1))), none, none] [.int (bI la), .ref (269)] g _
      refine e_if_ne f_156_42 rfl (fun c_42 => ?_) (fun c_42 => ?_)
      · skip
        have c_42 : la = true := bI_t c_42
        refine e_iconst (v := nI 1) f_156_57 (by decide) rfl ?_
        refine e_goto f_156_58 ?_
        refine e_putp (vs' := mB ga gp (nI j.length, gq.2.1, gq.2.2.1, gq.2.2.2.1, true, lb, cb) gh gw (nI pl.length, gu.2.1, gu.2.2) gv) f_156_62 G0 (Nat.le_of_ble_eq_true rfl) (rfl) (rfl) rfl rfl (fun h3 g4 fx5 => ?_)
        have fr6 : px_fi 269 1 h0 h3 := fi_tr frg fx5 (by omega)
        refine e_aload_n f_156_65 rfl rfl ?_
        refine e_aload_n f_156_66 rfl rfl ?_
        refine e_getf f_156_67 g4 rfl rfl ?_
        show px_to 156 70 [some (.ref (269)), some (.int (nI c)), some (.int (nI i)), some (.int (nI (((evs ev pl).getD i (0, 0, 0, 0)).1))), none, none] [.int (bI lb), .ref (269)] h3 _
        refine e_if_ne f_156_70 rfl (fun c_70 => ?_) (fun c_70 => ?_)
        · skip
          have c_70 : lb = true := bI_t c_70
          refine e_iconst (v := nI 1) f_156_85 (by decide) rfl ?_
          refine e_goto f_156_86 ?_
          refine e_putp (vs' := mB ga gp (nI j.length, gq.2.1, gq.2.2.1, gq.2.2.2.1, true, true, cb) gh gw (nI pl.length, gu.2.1, gu.2.2) gv) f_156_90 g4 (Nat.le_of_ble_eq_true rfl) (rfl) (rfl) rfl rfl (fun h7 g8 fx9 => ?_)
          have fr10 : px_fi 269 1 h0 h7 := fi_tr fr6 fx9 (by omega)
          refine e_iinc (y := nI (i + 1)) (L' := [some (.ref (269)), some (.int (nI c)), some (.int (nI (i + 1))), some (.int (nI (((evs ev pl).getD i (0, 0, 0, 0)).1))), none, none]) f_156_93 rfl (by rw [show Int32.ofInt 1 = nI 1 by decide]; exact (nI_add _ _)) rfl rfl ?_
          refine e_goto f_156_96 ?_
          have hnla : (la || evOf ((evs ev pl).getD i (0, 0, 0, 0)).1 false) = true := by rw [c_42]; rfl
          have hnlb : (lb || evOf ((evs ev pl).getD i (0, 0, 0, 0)).1 true) = true := by rw [c_70]; rfl
          refine px_to_L (L := [some (.ref (269)), some (.int (nI c)), some (.int (nI (i + 1))), none, none, none]) ⟨Or.inr rfl, Or.inr rfl, Or.inr rfl, Or.inl rfl, Or.inr rfl, Or.inr rfl, trivial⟩ ?_
          first | (exfalso; omega) | exact ih (d - 1) (by omega) (i + 1) true true h7 (by omega) (by omega) (by rw [lks_step (by rw [evs_len]; omega), ← Bool.or_assoc, hnla] at q2; exact q2) (by rw [lks_step (by rw [evs_len]; omega), ← Bool.or_assoc, hnlb] at q3; exact q3) g8 fr10
        · skip
          have c_70 : lb = false := bI_f' c_70
          refine e_iload_n f_156_73 rfl rfl ?_
          refine e_bipush (v := nI 82) f_156_74 (by decide) rfl ?_
          refine e_icmp_eq f_156_76 rfl (fun c_76 => ?_) (fun c_76 => ?_)
          · skip
            have c_76 : ((evs ev pl).getD i (0, 0, 0, 0)).1 = 82 := cv_eq (by omega) (by omega) c_76
            refine e_iconst (v := nI 1) f_156_85 (by decide) rfl ?_
            refine e_goto f_156_86 ?_
            refine e_putp (vs' := mB ga gp (nI j.length, gq.2.1, gq.2.2.1, gq.2.2.2.1, true, true, cb) gh gw (nI pl.length, gu.2.1, gu.2.2) gv) f_156_90 g4 (Nat.le_of_ble_eq_true rfl) (rfl) (rfl) rfl rfl (fun h11 g12 fx13 => ?_)
            have fr14 : px_fi 269 1 h0 h11 := fi_tr fr6 fx13 (by omega)
            refine e_iinc (y := nI (i + 1)) (L' := [some (.ref (269)), some (.int (nI c)), some (.int (nI (i + 1))), some (.int (nI (((evs ev pl).getD i (0, 0, 0, 0)).1))), none, none]) f_156_93 rfl (by rw [show Int32.ofInt 1 = nI 1 by decide]; exact (nI_add _ _)) rfl rfl ?_
            refine e_goto f_156_96 ?_
            have hnla : (la || evOf ((evs ev pl).getD i (0, 0, 0, 0)).1 false) = true := by rw [c_42]; rfl
            have hnlb : (lb || evOf ((evs ev pl).getD i (0, 0, 0, 0)).1 true) = true := by unfold evOf; rw [c_70, if_pos rfl]; rw [c_76]; rfl
            refine px_to_L (L := [some (.ref (269)), some (.int (nI c)), some (.int (nI (i + 1))), none, none, none]) ⟨Or.inr rfl, Or.inr rfl, Or.inr rfl, Or.inl rfl, Or.inr rfl, Or.inr rfl, trivial⟩ ?_
            first | (exfalso; omega) | exact ih (d - 1) (by omega) (i + 1) true true h11 (by omega) (by omega) (by rw [lks_step (by rw [evs_len]; omega), ← Bool.or_assoc, hnla] at q2; exact q2) (by rw [lks_step (by rw [evs_len]; omega), ← Bool.or_assoc, hnlb] at q3; exact q3) g12 fr14
          · skip
            have c_76 : ((evs ev pl).getD i (0, 0, 0, 0)).1 ≠ 82 := cv_ne c_76
            refine e_iload_n f_156_79 rfl rfl ?_
            refine e_bipush (v := nI 72) f_156_80 (by decide) rfl ?_
            refine e_icmp_ne f_156_82 rfl (fun c_82 => ?_) (fun c_82 => ?_)
            · skip
              have c_82 : ((evs ev pl).getD i (0, 0, 0, 0)).1 ≠ 72 := cv_ne c_82
              refine e_iconst (v := nI 0) f_156_89 (by decide) rfl ?_
              refine e_putp (vs' := mB ga gp (nI j.length, gq.2.1, gq.2.2.1, gq.2.2.2.1, true, false, cb) gh gw (nI pl.length, gu.2.1, gu.2.2) gv) f_156_90 g4 (Nat.le_of_ble_eq_true rfl) (rfl) (rfl) rfl rfl (fun h15 g16 fx17 => ?_)
              have fr18 : px_fi 269 1 h0 h15 := fi_tr fr6 fx17 (by omega)
              refine e_iinc (y := nI (i + 1)) (L' := [some (.ref (269)), some (.int (nI c)), some (.int (nI (i + 1))), some (.int (nI (((evs ev pl).getD i (0, 0, 0, 0)).1))), none, none]) f_156_93 rfl (by rw [show Int32.ofInt 1 = nI 1 by decide]; exact (nI_add _ _)) rfl rfl ?_
              refine e_goto f_156_96 ?_
              have hnla : (la || evOf ((evs ev pl).getD i (0, 0, 0, 0)).1 false) = true := by rw [c_42]; rfl
              have hnlb : (lb || evOf ((evs ev pl).getD i (0, 0, 0, 0)).1 true) = false := by unfold evOf; rw [c_70, if_pos rfl]; rw [beq_eq_false_iff_ne.mpr c_76, beq_eq_false_iff_ne.mpr c_82]; rfl
              refine px_to_L (L := [some (.ref (269)), some (.int (nI c)), some (.int (nI (i + 1))), none, none, none]) ⟨Or.inr rfl, Or.inr rfl, Or.inr rfl, Or.inl rfl, Or.inr rfl, Or.inr rfl, trivial⟩ ?_
              first | (exfalso; omega) | exact ih (d - 1) (by omega) (i + 1) true false h15 (by omega) (by omega) (by rw [lks_step (by rw [evs_len]; omega), ← Bool.or_assoc, hnla] at q2; exact q2) (by rw [lks_step (by rw [evs_len]; omega), ← Bool.or_assoc, hnlb] at q3; exact q3) g16 fr18
            · skip
              have c_82 : ((evs ev pl).getD i (0, 0, 0, 0)).1 = 72 := cv_nne (by omega) (by omega) c_82
              refine e_iconst (v := nI 1) f_156_85 (by decide) rfl ?_
              refine e_goto f_156_86 ?_
              refine e_putp (vs' := mB ga gp (nI j.length, gq.2.1, gq.2.2.1, gq.2.2.2.1, true, true, cb) gh gw (nI pl.length, gu.2.1, gu.2.2) gv) f_156_90 g4 (Nat.le_of_ble_eq_true rfl) (rfl) (rfl) rfl rfl (fun h19 g20 fx21 => ?_)
              have fr22 : px_fi 269 1 h0 h19 := fi_tr fr6 fx21 (by omega)
              refine e_iinc (y := nI (i + 1)) (L' := [some (.ref (269)), some (.int (nI c)), some (.int (nI (i + 1))), some (.int (nI (((evs ev pl).getD i (0, 0, 0, 0)).1))), none, none]) f_156_93 rfl (by rw [show Int32.ofInt 1 = nI 1 by decide]; exact (nI_add _ _)) rfl rfl ?_
              refine e_goto f_156_96 ?_
              have hnla : (la || evOf ((evs ev pl).getD i (0, 0, 0, 0)).1 false) = true := by rw [c_42]; rfl
              have hnlb : (lb || evOf ((evs ev pl).getD i (0, 0, 0, 0)).1 true) = true := by unfold evOf; rw [c_70, if_pos rfl]; rw [c_82]; rfl
              refine px_to_L (L := [some (.ref (269)), some (.int (nI c)), some (.int (nI (i + 1))), none, none, none]) ⟨Or.inr rfl, Or.inr rfl, Or.inr rfl, Or.inl rfl, Or.inr rfl, Or.inr rfl, trivial⟩ ?_
              first | (exfalso; omega) | exact ih (d - 1) (by omega) (i + 1) true true h19 (by omega) (by omega) (by rw [lks_step (by rw [evs_len]; omega), ← Bool.or_assoc, hnla] at q2; exact q2) (by rw [lks_step (by rw [evs_len]; omega), ← Bool.or_assoc, hnlb] at q3; exact q3) g20 fr22
      · skip
        have c_42 : la = false := bI_f' c_42
        refine e_iload_n f_156_45 rfl rfl ?_
        refine e_bipush (v := nI 114) f_156_46 (by decide) rfl ?_
        refine e_icmp_eq f_156_48 rfl (fun c_48 => ?_) (fun c_48 => ?_)
        · skip
          have c_48 : ((evs ev pl).getD i (0, 0, 0, 0)).1 = 114 := cv_eq (by omega) (by omega) c_48
          refine e_iconst (v := nI 1) f_156_57 (by decide) rfl ?_
          refine e_goto f_156_58 ?_
          refine e_putp (vs' := mB ga gp (nI j.length, gq.2.1, gq.2.2.1, gq.2.2.2.1, true, lb, cb) gh gw (nI pl.length, gu.2.1, gu.2.2) gv) f_156_62 G0 (Nat.le_of_ble_eq_true rfl) (rfl) (rfl) rfl rfl (fun h23 g24 fx25 => ?_)
          have fr26 : px_fi 269 1 h0 h23 := fi_tr frg fx25 (by omega)
          refine e_aload_n f_156_65 rfl rfl ?_
          refine e_aload_n f_156_66 rfl rfl ?_
          refine e_getf f_156_67 g24 rfl rfl ?_
          show px_to 156 70 [some (.ref (269)), some (.int (nI c)), some (.int (nI i)), some (.int (nI (((evs ev pl).getD i (0, 0, 0, 0)).1))), none, none] [.int (bI lb), .ref (269)] h23 _
          refine e_if_ne f_156_70 rfl (fun c_70 => ?_) (fun c_70 => ?_)
          · skip
            have c_70 : lb = true := bI_t c_70
            refine e_iconst (v := nI 1) f_156_85 (by decide) rfl ?_
            refine e_goto f_156_86 ?_
            refine e_putp (vs' := mB ga gp (nI j.length, gq.2.1, gq.2.2.1, gq.2.2.2.1, true, true, cb) gh gw (nI pl.length, gu.2.1, gu.2.2) gv) f_156_90 g24 (Nat.le_of_ble_eq_true rfl) (rfl) (rfl) rfl rfl (fun h27 g28 fx29 => ?_)
            have fr30 : px_fi 269 1 h0 h27 := fi_tr fr26 fx29 (by omega)
            refine e_iinc (y := nI (i + 1)) (L' := [some (.ref (269)), some (.int (nI c)), some (.int (nI (i + 1))), some (.int (nI (((evs ev pl).getD i (0, 0, 0, 0)).1))), none, none]) f_156_93 rfl (by rw [show Int32.ofInt 1 = nI 1 by decide]; exact (nI_add _ _)) rfl rfl ?_
            refine e_goto f_156_96 ?_
            have hnla : (la || evOf ((evs ev pl).getD i (0, 0, 0, 0)).1 false) = true := by unfold evOf; rw [c_42, if_neg (by decide)]; rw [c_48]; rfl
            have hnlb : (lb || evOf ((evs ev pl).getD i (0, 0, 0, 0)).1 true) = true := by rw [c_70]; rfl
            refine px_to_L (L := [some (.ref (269)), some (.int (nI c)), some (.int (nI (i + 1))), none, none, none]) ⟨Or.inr rfl, Or.inr rfl, Or.inr rfl, Or.inl rfl, Or.inr rfl, Or.inr rfl, trivial⟩ ?_
            first | (exfalso; omega) | exact ih (d - 1) (by omega) (i + 1) true true h27 (by omega) (by omega) (by rw [lks_step (by rw [evs_len]; omega), ← Bool.or_assoc, hnla] at q2; exact q2) (by rw [lks_step (by rw [evs_len]; omega), ← Bool.or_assoc, hnlb] at q3; exact q3) g28 fr30
          · skip
            have c_70 : lb = false := bI_f' c_70
            refine e_iload_n f_156_73 rfl rfl ?_
            refine e_bipush (v := nI 82) f_156_74 (by decide) rfl ?_
            refine e_icmp_eq f_156_76 rfl (fun c_76 => ?_) (fun c_76 => ?_)
            · skip
              have c_76 : ((evs ev pl).getD i (0, 0, 0, 0)).1 = 82 := cv_eq (by omega) (by omega) c_76
              refine e_iconst (v := nI 1) f_156_85 (by decide) rfl ?_
              refine e_goto f_156_86 ?_
              refine e_putp (vs' := mB ga gp (nI j.length, gq.2.1, gq.2.2.1, gq.2.2.2.1, true, true, cb) gh gw (nI pl.length, gu.2.1, gu.2.2) gv) f_156_90 g24 (Nat.le_of_ble_eq_true rfl) (rfl) (rfl) rfl rfl (fun h31 g32 fx33 => ?_)
              have fr34 : px_fi 269 1 h0 h31 := fi_tr fr26 fx33 (by omega)
              refine e_iinc (y := nI (i + 1)) (L' := [some (.ref (269)), some (.int (nI c)), some (.int (nI (i + 1))), some (.int (nI (((evs ev pl).getD i (0, 0, 0, 0)).1))), none, none]) f_156_93 rfl (by rw [show Int32.ofInt 1 = nI 1 by decide]; exact (nI_add _ _)) rfl rfl ?_
              refine e_goto f_156_96 ?_
              have hnla : (la || evOf ((evs ev pl).getD i (0, 0, 0, 0)).1 false) = true := by unfold evOf; rw [c_42, if_neg (by decide)]; rw [c_48]; rfl
              have hnlb : (lb || evOf ((evs ev pl).getD i (0, 0, 0, 0)).1 true) = true := by unfold evOf; rw [c_70, if_pos rfl]; rw [c_76]; rfl
              refine px_to_L (L := [some (.ref (269)), some (.int (nI c)), some (.int (nI (i + 1))), none, none, none]) ⟨Or.inr rfl, Or.inr rfl, Or.inr rfl, Or.inl rfl, Or.inr rfl, Or.inr rfl, trivial⟩ ?_
              first | (exfalso; omega) | exact ih (d - 1) (by omega) (i + 1) true true h31 (by omega) (by omega) (by rw [lks_step (by rw [evs_len]; omega), ← Bool.or_assoc, hnla] at q2; exact q2) (by rw [lks_step (by rw [evs_len]; omega), ← Bool.or_assoc, hnlb] at q3; exact q3) g32 fr34
            · skip
              have c_76 : ((evs ev pl).getD i (0, 0, 0, 0)).1 ≠ 82 := cv_ne c_76
              refine e_iload_n f_156_79 rfl rfl ?_
              refine e_bipush (v := nI 72) f_156_80 (by decide) rfl ?_
              refine e_icmp_ne f_156_82 rfl (fun c_82 => ?_) (fun c_82 => ?_)
              · skip
                have c_82 : ((evs ev pl).getD i (0, 0, 0, 0)).1 ≠ 72 := cv_ne c_82
                refine e_iconst (v := nI 0) f_156_89 (by decide) rfl ?_
                refine e_putp (vs' := mB ga gp (nI j.length, gq.2.1, gq.2.2.1, gq.2.2.2.1, true, false, cb) gh gw (nI pl.length, gu.2.1, gu.2.2) gv) f_156_90 g24 (Nat.le_of_ble_eq_true rfl) (rfl) (rfl) rfl rfl (fun h35 g36 fx37 => ?_)
                have fr38 : px_fi 269 1 h0 h35 := fi_tr fr26 fx37 (by omega)
                refine e_iinc (y := nI (i + 1)) (L' := [some (.ref (269)), some (.int (nI c)), some (.int (nI (i + 1))), some (.int (nI (((evs ev pl).getD i (0, 0, 0, 0)).1))), none, none]) f_156_93 rfl (by rw [show Int32.ofInt 1 = nI 1 by decide]; exact (nI_add _ _)) rfl rfl ?_
                refine e_goto f_156_96 ?_
                have hnla : (la || evOf ((evs ev pl).getD i (0, 0, 0, 0)).1 false) = true := by unfold evOf; rw [c_42, if_neg (by decide)]; rw [c_48]; rfl
                have hnlb : (lb || evOf ((evs ev pl).getD i (0, 0, 0, 0)).1 true) = false := by unfold evOf; rw [c_70, if_pos rfl]; rw [beq_eq_false_iff_ne.mpr c_76, beq_eq_false_iff_ne.mpr c_82]; rfl
                refine px_to_L (L := [some (.ref (269)), some (.int (nI c)), some (.int (nI (i + 1))), none, none, none]) ⟨Or.inr rfl, Or.inr rfl, Or.inr rfl, Or.inl rfl, Or.inr rfl, Or.inr rfl, trivial⟩ ?_
                first | (exfalso; omega) | exact ih (d - 1) (by omega) (i + 1) true false h35 (by omega) (by omega) (by rw [lks_step (by rw [evs_len]; omega), ← Bool.or_assoc, hnla] at q2; exact q2) (by rw [lks_step (by rw [evs_len]; omega), ← Bool.or_assoc, hnlb] at q3; exact q3) g36 fr38
              · skip
                have c_82 : ((evs ev pl).getD i (0, 0, 0, 0)).1 = 72 := cv_nne (by omega) (by omega) c_82
                refine e_iconst (v := nI 1) f_156_85 (by decide) rfl ?_
                refine e_goto f_156_86 ?_
                refine e_putp (vs' := mB ga gp (nI j.length, gq.2.1, gq.2.2.1, gq.2.2.2.1, true, true, cb) gh gw (nI pl.length, gu.2.1, gu.2.2) gv) f_156_90 g24 (Nat.le_of_ble_eq_true rfl) (rfl) (rfl) rfl rfl (fun h39 g40 fx41 => ?_)
                have fr42 : px_fi 269 1 h0 h39 := fi_tr fr26 fx41 (by omega)
                refine e_iinc (y := nI (i + 1)) (L' := [some (.ref (269)), some (.int (nI c)), some (.int (nI (i + 1))), some (.int (nI (((evs ev pl).getD i (0, 0, 0, 0)).1))), none, none]) f_156_93 rfl (by rw [show Int32.ofInt 1 = nI 1 by decide]; exact (nI_add _ _)) rfl rfl ?_
                refine e_goto f_156_96 ?_
                have hnla : (la || evOf ((evs ev pl).getD i (0, 0, 0, 0)).1 false) = true := by unfold evOf; rw [c_42, if_neg (by decide)]; rw [c_48]; rfl
                have hnlb : (lb || evOf ((evs ev pl).getD i (0, 0, 0, 0)).1 true) = true := by unfold evOf; rw [c_70, if_pos rfl]; rw [c_82]; rfl
                refine px_to_L (L := [some (.ref (269)), some (.int (nI c)), some (.int (nI (i + 1))), none, none, none]) ⟨Or.inr rfl, Or.inr rfl, Or.inr rfl, Or.inl rfl, Or.inr rfl, Or.inr rfl, trivial⟩ ?_
                first | (exfalso; omega) | exact ih (d - 1) (by omega) (i + 1) true true h39 (by omega) (by omega) (by rw [lks_step (by rw [evs_len]; omega), ← Bool.or_assoc, hnla] at q2; exact q2) (by rw [lks_step (by rw [evs_len]; omega), ← Bool.or_assoc, hnlb] at q3; exact q3) g40 fr42
        · skip
          have c_48 : ((evs ev pl).getD i (0, 0, 0, 0)).1 ≠ 114 := cv_ne c_48
          refine e_iload_n f_156_51 rfl rfl ?_
          refine e_bipush (v := nI 104) f_156_52 (by decide) rfl ?_
          refine e_icmp_ne f_156_54 rfl (fun c_54 => ?_) (fun c_54 => ?_)
          · skip
            have c_54 : ((evs ev pl).getD i (0, 0, 0, 0)).1 ≠ 104 := cv_ne c_54
            refine e_iconst (v := nI 0) f_156_61 (by decide) rfl ?_
            refine e_putp (vs' := mB ga gp (nI j.length, gq.2.1, gq.2.2.1, gq.2.2.2.1, false, lb, cb) gh gw (nI pl.length, gu.2.1, gu.2.2) gv) f_156_62 G0 (Nat.le_of_ble_eq_true rfl) (rfl) (rfl) rfl rfl (fun h43 g44 fx45 => ?_)
            have fr46 : px_fi 269 1 h0 h43 := fi_tr frg fx45 (by omega)
            refine e_aload_n f_156_65 rfl rfl ?_
            refine e_aload_n f_156_66 rfl rfl ?_
            refine e_getf f_156_67 g44 rfl rfl ?_
            show px_to 156 70 [some (.ref (269)), some (.int (nI c)), some (.int (nI i)), some (.int (nI (((evs ev pl).getD i (0, 0, 0, 0)).1))), none, none] [.int (bI lb), .ref (269)] h43 _
            refine e_if_ne f_156_70 rfl (fun c_70 => ?_) (fun c_70 => ?_)
            · skip
              have c_70 : lb = true := bI_t c_70
              refine e_iconst (v := nI 1) f_156_85 (by decide) rfl ?_
              refine e_goto f_156_86 ?_
              refine e_putp (vs' := mB ga gp (nI j.length, gq.2.1, gq.2.2.1, gq.2.2.2.1, false, true, cb) gh gw (nI pl.length, gu.2.1, gu.2.2) gv) f_156_90 g44 (Nat.le_of_ble_eq_true rfl) (rfl) (rfl) rfl rfl (fun h47 g48 fx49 => ?_)
              have fr50 : px_fi 269 1 h0 h47 := fi_tr fr46 fx49 (by omega)
              refine e_iinc (y := nI (i + 1)) (L' := [some (.ref (269)), some (.int (nI c)), some (.int (nI (i + 1))), some (.int (nI (((evs ev pl).getD i (0, 0, 0, 0)).1))), none, none]) f_156_93 rfl (by rw [show Int32.ofInt 1 = nI 1 by decide]; exact (nI_add _ _)) rfl rfl ?_
              refine e_goto f_156_96 ?_
              have hnla : (la || evOf ((evs ev pl).getD i (0, 0, 0, 0)).1 false) = false := by unfold evOf; rw [c_42, if_neg (by decide)]; rw [beq_eq_false_iff_ne.mpr c_48, beq_eq_false_iff_ne.mpr c_54]; rfl
              have hnlb : (lb || evOf ((evs ev pl).getD i (0, 0, 0, 0)).1 true) = true := by rw [c_70]; rfl
              refine px_to_L (L := [some (.ref (269)), some (.int (nI c)), some (.int (nI (i + 1))), none, none, none]) ⟨Or.inr rfl, Or.inr rfl, Or.inr rfl, Or.inl rfl, Or.inr rfl, Or.inr rfl, trivial⟩ ?_
              first | (exfalso; omega) | exact ih (d - 1) (by omega) (i + 1) false true h47 (by omega) (by omega) (by rw [lks_step (by rw [evs_len]; omega), ← Bool.or_assoc, hnla] at q2; exact q2) (by rw [lks_step (by rw [evs_len]; omega), ← Bool.or_assoc, hnlb] at q3; exact q3) g48 fr50
            · skip
              have c_70 : lb = false := bI_f' c_70
              refine e_iload_n f_156_73 rfl rfl ?_
              refine e_bipush (v := nI 82) f_156_74 (by decide) rfl ?_
              refine e_icmp_eq f_156_76 rfl (fun c_76 => ?_) (fun c_76 => ?_)
              · skip
                have c_76 : ((evs ev pl).getD i (0, 0, 0, 0)).1 = 82 := cv_eq (by omega) (by omega) c_76
                refine e_iconst (v := nI 1) f_156_85 (by decide) rfl ?_
                refine e_goto f_156_86 ?_
                refine e_putp (vs' := mB ga gp (nI j.length, gq.2.1, gq.2.2.1, gq.2.2.2.1, false, true, cb) gh gw (nI pl.length, gu.2.1, gu.2.2) gv) f_156_90 g44 (Nat.le_of_ble_eq_true rfl) (rfl) (rfl) rfl rfl (fun h51 g52 fx53 => ?_)
                have fr54 : px_fi 269 1 h0 h51 := fi_tr fr46 fx53 (by omega)
                refine e_iinc (y := nI (i + 1)) (L' := [some (.ref (269)), some (.int (nI c)), some (.int (nI (i + 1))), some (.int (nI (((evs ev pl).getD i (0, 0, 0, 0)).1))), none, none]) f_156_93 rfl (by rw [show Int32.ofInt 1 = nI 1 by decide]; exact (nI_add _ _)) rfl rfl ?_
                refine e_goto f_156_96 ?_
                have hnla : (la || evOf ((evs ev pl).getD i (0, 0, 0, 0)).1 false) = false := by unfold evOf; rw [c_42, if_neg (by decide)]; rw [beq_eq_false_iff_ne.mpr c_48, beq_eq_false_iff_ne.mpr c_54]; rfl
                have hnlb : (lb || evOf ((evs ev pl).getD i (0, 0, 0, 0)).1 true) = true := by unfold evOf; rw [c_70, if_pos rfl]; rw [c_76]; rfl
                refine px_to_L (L := [some (.ref (269)), some (.int (nI c)), some (.int (nI (i + 1))), none, none, none]) ⟨Or.inr rfl, Or.inr rfl, Or.inr rfl, Or.inl rfl, Or.inr rfl, Or.inr rfl, trivial⟩ ?_
                first | (exfalso; omega) | exact ih (d - 1) (by omega) (i + 1) false true h51 (by omega) (by omega) (by rw [lks_step (by rw [evs_len]; omega), ← Bool.or_assoc, hnla] at q2; exact q2) (by rw [lks_step (by rw [evs_len]; omega), ← Bool.or_assoc, hnlb] at q3; exact q3) g52 fr54
              · skip
                have c_76 : ((evs ev pl).getD i (0, 0, 0, 0)).1 ≠ 82 := cv_ne c_76
                refine e_iload_n f_156_79 rfl rfl ?_
                refine e_bipush (v := nI 72) f_156_80 (by decide) rfl ?_
                refine e_icmp_ne f_156_82 rfl (fun c_82 => ?_) (fun c_82 => ?_)
                · skip
                  have c_82 : ((evs ev pl).getD i (0, 0, 0, 0)).1 ≠ 72 := cv_ne c_82
                  refine e_iconst (v := nI 0) f_156_89 (by decide) rfl ?_
                  refine e_putp (vs' := mB ga gp (nI j.length, gq.2.1, gq.2.2.1, gq.2.2.2.1, false, false, cb) gh gw (nI pl.length, gu.2.1, gu.2.2) gv) f_156_90 g44 (Nat.le_of_ble_eq_true rfl) (rfl) (rfl) rfl rfl (fun h55 g56 fx57 => ?_)
                  have fr58 : px_fi 269 1 h0 h55 := fi_tr fr46 fx57 (by omega)
                  refine e_iinc (y := nI (i + 1)) (L' := [some (.ref (269)), some (.int (nI c)), some (.int (nI (i + 1))), some (.int (nI (((evs ev pl).getD i (0, 0, 0, 0)).1))), none, none]) f_156_93 rfl (by rw [show Int32.ofInt 1 = nI 1 by decide]; exact (nI_add _ _)) rfl rfl ?_
                  refine e_goto f_156_96 ?_
                  have hnla : (la || evOf ((evs ev pl).getD i (0, 0, 0, 0)).1 false) = false := by unfold evOf; rw [c_42, if_neg (by decide)]; rw [beq_eq_false_iff_ne.mpr c_48, beq_eq_false_iff_ne.mpr c_54]; rfl
                  have hnlb : (lb || evOf ((evs ev pl).getD i (0, 0, 0, 0)).1 true) = false := by unfold evOf; rw [c_70, if_pos rfl]; rw [beq_eq_false_iff_ne.mpr c_76, beq_eq_false_iff_ne.mpr c_82]; rfl
                  refine px_to_L (L := [some (.ref (269)), some (.int (nI c)), some (.int (nI (i + 1))), none, none, none]) ⟨Or.inr rfl, Or.inr rfl, Or.inr rfl, Or.inl rfl, Or.inr rfl, Or.inr rfl, trivial⟩ ?_
                  first | (exfalso; omega) | exact ih (d - 1) (by omega) (i + 1) false false h55 (by omega) (by omega) (by rw [lks_step (by rw [evs_len]; omega), ← Bool.or_assoc, hnla] at q2; exact q2) (by rw [lks_step (by rw [evs_len]; omega), ← Bool.or_assoc, hnlb] at q3; exact q3) g56 fr58
                · skip
                  have c_82 : ((evs ev pl).getD i (0, 0, 0, 0)).1 = 72 := cv_nne (by omega) (by omega) c_82
                  refine e_iconst (v := nI 1) f_156_85 (by decide) rfl ?_
                  refine e_goto f_156_86 ?_
                  refine e_putp (vs' := mB ga gp (nI j.length, gq.2.1, gq.2.2.1, gq.2.2.2.1, false, true, cb) gh gw (nI pl.length, gu.2.1, gu.2.2) gv) f_156_90 g44 (Nat.le_of_ble_eq_true rfl) (rfl) (rfl) rfl rfl (fun h59 g60 fx61 => ?_)
                  have fr62 : px_fi 269 1 h0 h59 := fi_tr fr46 fx61 (by omega)
                  refine e_iinc (y := nI (i + 1)) (L' := [some (.ref (269)), some (.int (nI c)), some (.int (nI (i + 1))), some (.int (nI (((evs ev pl).getD i (0, 0, 0, 0)).1))), none, none]) f_156_93 rfl (by rw [show Int32.ofInt 1 = nI 1 by decide]; exact (nI_add _ _)) rfl rfl ?_
                  refine e_goto f_156_96 ?_
                  have hnla : (la || evOf ((evs ev pl).getD i (0, 0, 0, 0)).1 false) = false := by unfold evOf; rw [c_42, if_neg (by decide)]; rw [beq_eq_false_iff_ne.mpr c_48, beq_eq_false_iff_ne.mpr c_54]; rfl
                  have hnlb : (lb || evOf ((evs ev pl).getD i (0, 0, 0, 0)).1 true) = true := by unfold evOf; rw [c_70, if_pos rfl]; rw [c_82]; rfl
                  refine px_to_L (L := [some (.ref (269)), some (.int (nI c)), some (.int (nI (i + 1))), none, none, none]) ⟨Or.inr rfl, Or.inr rfl, Or.inr rfl, Or.inl rfl, Or.inr rfl, Or.inr rfl, trivial⟩ ?_
                  first | (exfalso; omega) | exact ih (d - 1) (by omega) (i + 1) false true h59 (by omega) (by omega) (by rw [lks_step (by rw [evs_len]; omega), ← Bool.or_assoc, hnla] at q2; exact q2) (by rw [lks_step (by rw [evs_len]; omega), ← Bool.or_assoc, hnlb] at q3; exact q3) g60 fr62
          · skip
            have c_54 : ((evs ev pl).getD i (0, 0, 0, 0)).1 = 104 := cv_nne (by omega) (by omega) c_54
            refine e_iconst (v := nI 1) f_156_57 (by decide) rfl ?_
            refine e_goto f_156_58 ?_
            refine e_putp (vs' := mB ga gp (nI j.length, gq.2.1, gq.2.2.1, gq.2.2.2.1, true, lb, cb) gh gw (nI pl.length, gu.2.1, gu.2.2) gv) f_156_62 G0 (Nat.le_of_ble_eq_true rfl) (rfl) (rfl) rfl rfl (fun h63 g64 fx65 => ?_)
            have fr66 : px_fi 269 1 h0 h63 := fi_tr frg fx65 (by omega)
            refine e_aload_n f_156_65 rfl rfl ?_
            refine e_aload_n f_156_66 rfl rfl ?_
            refine e_getf f_156_67 g64 rfl rfl ?_
            show px_to 156 70 [some (.ref (269)), some (.int (nI c)), some (.int (nI i)), some (.int (nI (((evs ev pl).getD i (0, 0, 0, 0)).1))), none, none] [.int (bI lb), .ref (269)] h63 _
            refine e_if_ne f_156_70 rfl (fun c_70 => ?_) (fun c_70 => ?_)
            · skip
              have c_70 : lb = true := bI_t c_70
              refine e_iconst (v := nI 1) f_156_85 (by decide) rfl ?_
              refine e_goto f_156_86 ?_
              refine e_putp (vs' := mB ga gp (nI j.length, gq.2.1, gq.2.2.1, gq.2.2.2.1, true, true, cb) gh gw (nI pl.length, gu.2.1, gu.2.2) gv) f_156_90 g64 (Nat.le_of_ble_eq_true rfl) (rfl) (rfl) rfl rfl (fun h67 g68 fx69 => ?_)
              have fr70 : px_fi 269 1 h0 h67 := fi_tr fr66 fx69 (by omega)
              refine e_iinc (y := nI (i + 1)) (L' := [some (.ref (269)), some (.int (nI c)), some (.int (nI (i + 1))), some (.int (nI (((evs ev pl).getD i (0, 0, 0, 0)).1))), none, none]) f_156_93 rfl (by rw [show Int32.ofInt 1 = nI 1 by decide]; exact (nI_add _ _)) rfl rfl ?_
              refine e_goto f_156_96 ?_
              have hnla : (la || evOf ((evs ev pl).getD i (0, 0, 0, 0)).1 false) = true := by unfold evOf; rw [c_42, if_neg (by decide)]; rw [c_54]; rfl
              have hnlb : (lb || evOf ((evs ev pl).getD i (0, 0, 0, 0)).1 true) = true := by rw [c_70]; rfl
              refine px_to_L (L := [some (.ref (269)), some (.int (nI c)), some (.int (nI (i + 1))), none, none, none]) ⟨Or.inr rfl, Or.inr rfl, Or.inr rfl, Or.inl rfl, Or.inr rfl, Or.inr rfl, trivial⟩ ?_
              first | (exfalso; omega) | exact ih (d - 1) (by omega) (i + 1) true true h67 (by omega) (by omega) (by rw [lks_step (by rw [evs_len]; omega), ← Bool.or_assoc, hnla] at q2; exact q2) (by rw [lks_step (by rw [evs_len]; omega), ← Bool.or_assoc, hnlb] at q3; exact q3) g68 fr70
            · skip
              have c_70 : lb = false := bI_f' c_70
              refine e_iload_n f_156_73 rfl rfl ?_
              refine e_bipush (v := nI 82) f_156_74 (by decide) rfl ?_
              refine e_icmp_eq f_156_76 rfl (fun c_76 => ?_) (fun c_76 => ?_)
              · skip
                have c_76 : ((evs ev pl).getD i (0, 0, 0, 0)).1 = 82 := cv_eq (by omega) (by omega) c_76
                refine e_iconst (v := nI 1) f_156_85 (by decide) rfl ?_
                refine e_goto f_156_86 ?_
                refine e_putp (vs' := mB ga gp (nI j.length, gq.2.1, gq.2.2.1, gq.2.2.2.1, true, true, cb) gh gw (nI pl.length, gu.2.1, gu.2.2) gv) f_156_90 g64 (Nat.le_of_ble_eq_true rfl) (rfl) (rfl) rfl rfl (fun h71 g72 fx73 => ?_)
                have fr74 : px_fi 269 1 h0 h71 := fi_tr fr66 fx73 (by omega)
                refine e_iinc (y := nI (i + 1)) (L' := [some (.ref (269)), some (.int (nI c)), some (.int (nI (i + 1))), some (.int (nI (((evs ev pl).getD i (0, 0, 0, 0)).1))), none, none]) f_156_93 rfl (by rw [show Int32.ofInt 1 = nI 1 by decide]; exact (nI_add _ _)) rfl rfl ?_
                refine e_goto f_156_96 ?_
                have hnla : (la || evOf ((evs ev pl).getD i (0, 0, 0, 0)).1 false) = true := by unfold evOf; rw [c_42, if_neg (by decide)]; rw [c_54]; rfl
                have hnlb : (lb || evOf ((evs ev pl).getD i (0, 0, 0, 0)).1 true) = true := by unfold evOf; rw [c_70, if_pos rfl]; rw [c_76]; rfl
                refine px_to_L (L := [some (.ref (269)), some (.int (nI c)), some (.int (nI (i + 1))), none, none, none]) ⟨Or.inr rfl, Or.inr rfl, Or.inr rfl, Or.inl rfl, Or.inr rfl, Or.inr rfl, trivial⟩ ?_
                first | (exfalso; omega) | exact ih (d - 1) (by omega) (i + 1) true true h71 (by omega) (by omega) (by rw [lks_step (by rw [evs_len]; omega), ← Bool.or_assoc, hnla] at q2; exact q2) (by rw [lks_step (by rw [evs_len]; omega), ← Bool.or_assoc, hnlb] at q3; exact q3) g72 fr74
              · skip
                have c_76 : ((evs ev pl).getD i (0, 0, 0, 0)).1 ≠ 82 := cv_ne c_76
                refine e_iload_n f_156_79 rfl rfl ?_
                refine e_bipush (v := nI 72) f_156_80 (by decide) rfl ?_
                refine e_icmp_ne f_156_82 rfl (fun c_82 => ?_) (fun c_82 => ?_)
                · skip
                  have c_82 : ((evs ev pl).getD i (0, 0, 0, 0)).1 ≠ 72 := cv_ne c_82
                  refine e_iconst (v := nI 0) f_156_89 (by decide) rfl ?_
                  refine e_putp (vs' := mB ga gp (nI j.length, gq.2.1, gq.2.2.1, gq.2.2.2.1, true, false, cb) gh gw (nI pl.length, gu.2.1, gu.2.2) gv) f_156_90 g64 (Nat.le_of_ble_eq_true rfl) (rfl) (rfl) rfl rfl (fun h75 g76 fx77 => ?_)
                  have fr78 : px_fi 269 1 h0 h75 := fi_tr fr66 fx77 (by omega)
                  refine e_iinc (y := nI (i + 1)) (L' := [some (.ref (269)), some (.int (nI c)), some (.int (nI (i + 1))), some (.int (nI (((evs ev pl).getD i (0, 0, 0, 0)).1))), none, none]) f_156_93 rfl (by rw [show Int32.ofInt 1 = nI 1 by decide]; exact (nI_add _ _)) rfl rfl ?_
                  refine e_goto f_156_96 ?_
                  have hnla : (la || evOf ((evs ev pl).getD i (0, 0, 0, 0)).1 false) = true := by unfold evOf; rw [c_42, if_neg (by decide)]; rw [c_54]; rfl
                  have hnlb : (lb || evOf ((evs ev pl).getD i (0, 0, 0, 0)).1 true) = false := by unfold evOf; rw [c_70, if_pos rfl]; rw [beq_eq_false_iff_ne.mpr c_76, beq_eq_false_iff_ne.mpr c_82]; rfl
                  refine px_to_L (L := [some (.ref (269)), some (.int (nI c)), some (.int (nI (i + 1))), none, none, none]) ⟨Or.inr rfl, Or.inr rfl, Or.inr rfl, Or.inl rfl, Or.inr rfl, Or.inr rfl, trivial⟩ ?_
                  first | (exfalso; omega) | exact ih (d - 1) (by omega) (i + 1) true false h75 (by omega) (by omega) (by rw [lks_step (by rw [evs_len]; omega), ← Bool.or_assoc, hnla] at q2; exact q2) (by rw [lks_step (by rw [evs_len]; omega), ← Bool.or_assoc, hnlb] at q3; exact q3) g76 fr78
                · skip
                  have c_82 : ((evs ev pl).getD i (0, 0, 0, 0)).1 = 72 := cv_nne (by omega) (by omega) c_82
                  refine e_iconst (v := nI 1) f_156_85 (by decide) rfl ?_
                  refine e_goto f_156_86 ?_
                  refine e_putp (vs' := mB ga gp (nI j.length, gq.2.1, gq.2.2.1, gq.2.2.2.1, true, true, cb) gh gw (nI pl.length, gu.2.1, gu.2.2) gv) f_156_90 g64 (Nat.le_of_ble_eq_true rfl) (rfl) (rfl) rfl rfl (fun h79 g80 fx81 => ?_)
                  have fr82 : px_fi 269 1 h0 h79 := fi_tr fr66 fx81 (by omega)
                  refine e_iinc (y := nI (i + 1)) (L' := [some (.ref (269)), some (.int (nI c)), some (.int (nI (i + 1))), some (.int (nI (((evs ev pl).getD i (0, 0, 0, 0)).1))), none, none]) f_156_93 rfl (by rw [show Int32.ofInt 1 = nI 1 by decide]; exact (nI_add _ _)) rfl rfl ?_
                  refine e_goto f_156_96 ?_
                  have hnla : (la || evOf ((evs ev pl).getD i (0, 0, 0, 0)).1 false) = true := by unfold evOf; rw [c_42, if_neg (by decide)]; rw [c_54]; rfl
                  have hnlb : (lb || evOf ((evs ev pl).getD i (0, 0, 0, 0)).1 true) = true := by unfold evOf; rw [c_70, if_pos rfl]; rw [c_82]; rfl
                  refine px_to_L (L := [some (.ref (269)), some (.int (nI c)), some (.int (nI (i + 1))), none, none, none]) ⟨Or.inr rfl, Or.inr rfl, Or.inr rfl, Or.inl rfl, Or.inr rfl, Or.inr rfl, trivial⟩ ?_
                  first | (exfalso; omega) | exact ih (d - 1) (by omega) (i + 1) true true h79 (by omega) (by omega) (by rw [lks_step (by rw [evs_len]; omega), ← Bool.or_assoc, hnla] at q2; exact q2) (by rw [lks_step (by rw [evs_len]; omega), ← Bool.or_assoc, hnlb] at q3; exact q3) g80 fr82

set_option maxRecDepth 20000 in
set_option maxHeartbeats 4000000 in
theorem ll_Md_redo {P : px_H → Option Value → Prop} {h0 : px_H} {y : RS} {gl fr k : Nat} {sl2 : List Int32} {ga : gA} {gp : gP} {gu : gU} {gv : gV} {j : List St} {la lb cb : Bool} {lg : List Row} {ev es : List Ev} {pl : List Nat} {c : Nat}  (K0 : px_pa h0 275 52 192 evS es) (K1 : px_pa h0 276 54 192 evK es) (K2 : px_pa h0 277 53 192 evV es) (K3 : px_pa h0 278 53 192 evT es) (K4 : px_pa h0 284 52 6 stS j) (K5 : px_pa h0 285 52 6 stA j) (K6 : px_pa h0 286 50 6 stN j) (K7 : px_pa h0 296 50 24 vN pl) (hc : c < 8) (hes : es.length = 192) (hin : inE es c ev) (h24 : ev.length ≤ 24) (hok : ∀ e ∈ ev, okEv e) (hpl : ∀ p ∈ pl, p < ev.length) (hj : okZ j) (hLA : ∀ e ∈ (evs ev pl), e.1 = 104 → la = true) (hLB : ∀ e ∈ (evs ev pl), e.1 = 72 → lb = true) (hk : k < pl.length) (hnk : ∀ q, fr ≤ q → q < k → ((evs ev pl).getD q (0, 0, 0, 0)).1 ≠ 107) (kx : ∀ g, pRZ g ga gp gu gv j y.2.2.2.2 la lb cb lg y.2.1.1 y.2.1.2.1 y.2.1.2.2 y.1 → inv j y gl sl2 k fr → px_fl [(269, 1), (287, 1), (289, 3), (295, 1)] h0 g → px_to 156 279 [some (.ref (269)), some (.int (nI c)), some (.int (nI fr)), some (.int (nI k)), some (.int (nI (24 * c + pl.getD k 0))), none] [] g P) : ∀ (d : Nat) (i : Nat) (s : RS) (g : px_H), (k ≤ i + d) → (fr ≤ i ∧ i ≤ k) → (redoL j la lb (((evs ev pl).take k).drop i) s = y) → (inv j s gl sl2 i fr) → pRZ g ga gp gu gv j s.2.2.2.2 la lb cb lg s.2.1.1 s.2.1.2.1 s.2.1.2.2 s.1 → px_fl [(269, 1), (287, 1), (289, 3), (295, 1)] h0 g → px_to 156 222 [some (.ref (269)), some (.int (nI c)), some (.int (nI fr)), some (.int (nI k)), some (.int (nI (24 * c + pl.getD k 0))), some (.int (nI i))] [] g P := by
  intro d
  induction d using Nat.strongRecOn with
  | ind d ih =>
    intro i s g q0 q1 q2 q3 G0 frg
    have lp := pa_len K7
    have h6 := hj.1.1
    refine e_iload f_156_222 rfl rfl ?_
    refine e_iload_n f_156_224 rfl rfl ?_
    refine e_icmp_ge f_156_225 rfl (fun c_225 => ?_) (fun c_225 => ?_)
    · skip
      have c_225 : k ≤ i := cv_le (by omega) (by omega) c_225
      refine px_to_L (L := [some (.ref (269)), some (.int (nI c)), some (.int (nI fr)), some (.int (nI k)), some (.int (nI (24 * c + pl.getD k 0))), none]) ⟨Or.inr rfl, Or.inr rfl, Or.inr rfl, Or.inr rfl, Or.inr rfl, Or.inl rfl, trivial⟩ ?_
      have ey : y = s := by rw [← q2, List.drop_eq_nil_of_le (by rw [List.length_take]; omega)]; rfl
      rw [ey] at kx
      exact kx g G0 (inv_mono (by omega) q3) frg
    · skip
      have c_225 : i < k := cv_nle (by omega) (by omega) c_225
      refine e_aload_n f_156_228 rfl rfl ?_
      obtain ⟨gw1, sl2, lh3, cv4, g5, g6, g7, g8, g9, g10, hR11⟩ := id G0
      refine e_getf f_156_229 g5 rfl rfl ?_
      show px_to 156 232 [some (.ref (269)), some (.int (nI c)), some (.int (nI fr)), some (.int (nI k)), some (.int (nI (24 * c + pl.getD k 0))), some (.int (nI i))] [.int (bI s.1.2.2.2.2.isSome)] g _
      refine e_if_ne f_156_232 rfl (fun c_232 => ?_) (fun c_232 => ?_)
      · skip
        have c_232 : s.1.2.2.2.2.isSome = true := bI_t c_232
        have g12 : pRZ g ga gp gu gv j s.2.2.2.2 la lb cb lg s.2.1.1 s.2.1.2.1 s.2.1.2.2 s.1 := by exact ⟨_, _, _, _, g5, g6, g7, g8, g9, g10, hR11⟩
        refine px_to_L (L := [some (.ref (269)), some (.int (nI c)), some (.int (nI fr)), some (.int (nI k)), some (.int (nI (24 * c + pl.getD k 0))), none]) ⟨Or.inr rfl, Or.inr rfl, Or.inr rfl, Or.inr rfl, Or.inr rfl, Or.inl rfl, trivial⟩ ?_
        have ey : y = s := by rw [← q2]; exact redoL_z (some_t c_232)
        rw [ey] at kx
        exact kx g g12 (inv_mono (by omega) q3) frg
      · skip
        have c_232 : s.1.2.2.2.2.isSome = false := bI_f' c_232
        have g13 : pRZ g ga gp gu gv j s.2.2.2.2 la lb cb lg s.2.1.1 s.2.1.2.1 s.2.1.2.2 s.1 := by exact ⟨_, _, _, _, g5, g6, g7, g8, g9, g10, hR11⟩
        have hz := some_f c_232
        have hpi : pl.getD i 0 < ev.length := hpl _ (getD_mem 0 (show i < pl.length by omega))
        have hEi : es.getD (24 * c + pl.getD i 0) (0, 0, 0, 0) = ((evs ev pl).getD i (0, 0, 0, 0)) := by rw [hin _ hpi, evs_get (show i < pl.length by omega)]
        have hoei : okEv ((evs ev pl).getD i (0, 0, 0, 0)) := by rw [evs_get (show i < pl.length by omega)]; exact hok _ (getD_mem _ hpi)
        have hs9i := hoei.1
        refine e_aload_n f_156_235 rfl rfl ?_
        obtain ⟨gw14, sl15, lh16, cv17, g18, g19, g20, g21, g22, g23, hR24⟩ := id g13
        refine e_getf f_156_236 g18 rfl rfl ?_
        refine e_bipush (v := nI 24) f_156_239 (by decide) rfl ?_
        refine e_iload_n f_156_241 rfl rfl ?_
        refine e_imul (z := nI (24 * c)) f_156_242 (pk_mul _ _) rfl ?_
        refine e_aload_n f_156_243 rfl rfl ?_
        refine e_getf f_156_244 g18 rfl rfl ?_
        refine e_iload f_156_247 rfl rfl ?_
        obtain ⟨hm26, fa27, fb28⟩ := fl_mid frg
        obtain ⟨hm29, fa30, fb31⟩ := fl_mid fb28
        obtain ⟨hm32, fa33, fb34⟩ := fl_mid fb31
        have g25 : px_pa g 296 50 24 vN pl := pa_fi (pa_fi (pa_fi (pa_fi K7 fa27 (by omega)) fa30 (by omega)) fa33 (by omega)) (fl_one fb34) (by omega)
        refine e_iaload_p (xs := pl) f_156_249 g25 (d := 0) (by first | omega | (simp only [List.length_set]; omega)) rfl ?_
        show px_to 156 250 [some (.ref (269)), some (.int (nI c)), some (.int (nI fr)), some (.int (nI k)), some (.int (nI (24 * c + pl.getD k 0))), some (.int (nI i))] [.int (nI (pl.getD i 0)), .int (nI (24 * c)), .ref (275)] g _
        refine e_iadd (z := nI (24 * c + pl.getD i 0)) f_156_250 (nI_add _ _) rfl ?_
        obtain ⟨hm36, fa37, fb38⟩ := fl_mid frg
        obtain ⟨hm39, fa40, fb41⟩ := fl_mid fb38
        obtain ⟨hm42, fa43, fb44⟩ := fl_mid fb41
        have g35 : px_pa g 275 52 192 evS es := pa_fi (pa_fi (pa_fi (pa_fi K0 fa37 (by omega)) fa40 (by omega)) fa43 (by omega)) (fl_one fb44) (by omega)
        refine e_caload_p (xs := es) f_156_251 g35 (d := (0, 0, 0, 0)) (by first | omega | (simp only [List.length_set]; omega)) rfl ?_
        show px_to 156 252 [some (.ref (269)), some (.int (nI c)), some (.int (nI fr)), some (.int (nI k)), some (.int (nI (24 * c + pl.getD k 0))), some (.int (nI i))] [.int (nI ((es.getD (24 * c + pl.getD i 0) (0, 0, 0, 0)).1))] g _
        rw [hEi]
        refine e_bipush (v := nI 120) f_156_252 (by decide) rfl ?_
        refine e_icmp_eq f_156_254 rfl (fun c_254 => ?_) (fun c_254 => ?_)
        · skip
          have c_254 : ((evs ev pl).getD i (0, 0, 0, 0)).1 = 120 := cv_eq (by omega) (by omega) c_254
          refine e_iinc (y := nI (i + 1)) (L' := [some (.ref (269)), some (.int (nI c)), some (.int (nI fr)), some (.int (nI k)), some (.int (nI (24 * c + pl.getD k 0))), some (.int (nI (i + 1)))]) f_156_273 rfl (by rw [show Int32.ofInt 1 = nI 1 by decide]; exact (nI_add _ _)) rfl rfl ?_
          refine e_goto f_156_276 ?_
          have eR := q2
          rw [redoL_s (by rw [List.length_take, evs_len]; omega) hz, getD_tk (by omega), if_pos c_254] at eR
          have g45 : pRZ g ga gp gu gv j s.2.2.2.2 la lb cb lg s.2.1.1 s.2.1.2.1 s.2.1.2.2 s.1 := by exact ⟨_, _, _, _, g18, g19, g20, g21, g22, g23, hR24⟩
          first | (exfalso; omega) | exact ih (d - 1) (by omega) (i + 1) s g (by omega) (by omega) (eR) (inv_mono (by omega) q3) g45 frg
        · skip
          have c_254 : ((evs ev pl).getD i (0, 0, 0, 0)).1 ≠ 120 := cv_ne c_254
          have g46 : pRZ g ga gp gu gv j s.2.2.2.2 la lb cb lg s.2.1.1 s.2.1.2.1 s.2.1.2.2 s.1 := by exact ⟨_, _, _, _, g18, g19, g20, g21, g22, g23, hR24⟩
          have hne := hnk i q1.1 (by omega)
          refine e_aload_n f_156_257 rfl rfl ?_
          refine e_bipush (v := nI 24) f_156_258 (by decide) rfl ?_
          refine e_iload_n f_156_260 rfl rfl ?_
          refine e_imul (z := nI (24 * c)) f_156_261 (pk_mul _ _) rfl ?_
          refine e_aload_n f_156_262 rfl rfl ?_
          obtain ⟨gw47, sl48, lh49, cv50, g51, g52, g53, g54, g55, g56, hR57⟩ := id g46
          refine e_getf f_156_263 g51 rfl rfl ?_
          refine e_iload f_156_266 rfl rfl ?_
          refine e_iaload_p (xs := pl) f_156_268 g25 (d := 0) (by first | omega | (simp only [List.length_set]; omega)) rfl ?_
          show px_to 156 269 [some (.ref (269)), some (.int (nI c)), some (.int (nI fr)), some (.int (nI k)), some (.int (nI (24 * c + pl.getD k 0))), some (.int (nI i))] [.int (nI (pl.getD i 0)), .int (nI (24 * c)), .ref (269)] g _
          refine e_iadd (z := nI (24 * c + pl.getD i 0)) f_156_269 (nI_add _ _) rfl ?_
          have g58 : pRZ g ga gp gu gv j s.2.2.2.2 la lb cb lg s.2.1.1 s.2.1.2.1 s.2.1.2.2 s.1 := ⟨_, _, _, _, g51, g52, g53, g54, g55, g56, hR57⟩
          obtain ⟨hm60, fa61, fb62⟩ := fl_mid frg
          obtain ⟨hm63, fa64, fb65⟩ := fl_mid fb62
          obtain ⟨hm66, fa67, fb68⟩ := fl_mid fb65
          have g59 : px_pa g 284 52 6 stS j := pa_fi (pa_fi (pa_fi (pa_fi K4 fa61 (by omega)) fa64 (by omega)) fa67 (by omega)) (fl_one fb68) (by omega)
          obtain ⟨hm70, fa71, fb72⟩ := fl_mid frg
          obtain ⟨hm73, fa74, fb75⟩ := fl_mid fb72
          obtain ⟨hm76, fa77, fb78⟩ := fl_mid fb75
          have g69 : px_pa g 285 52 6 stA j := pa_fi (pa_fi (pa_fi (pa_fi K5 fa71 (by omega)) fa74 (by omega)) fa77 (by omega)) (fl_one fb78) (by omega)
          obtain ⟨hm80, fa81, fb82⟩ := fl_mid frg
          obtain ⟨hm83, fa84, fb85⟩ := fl_mid fb82
          obtain ⟨hm86, fa87, fb88⟩ := fl_mid fb85
          have g79 : px_pa g 286 50 6 stN j := pa_fi (pa_fi (pa_fi (pa_fi K6 fa81 (by omega)) fa84 (by omega)) fa87 (by omega)) (fl_one fb88) (by omega)
          obtain ⟨hm90, fa91, fb92⟩ := fl_mid frg
          obtain ⟨hm93, fa94, fb95⟩ := fl_mid fb92
          obtain ⟨hm96, fa97, fb98⟩ := fl_mid fb95
          have g89 : px_pa g 276 54 192 evK es := pa_fi (pa_fi (pa_fi (pa_fi K1 fa91 (by omega)) fa94 (by omega)) fa97 (by omega)) (fl_one fb98) (by omega)
          obtain ⟨hm100, fa101, fb102⟩ := fl_mid frg
          obtain ⟨hm103, fa104, fb105⟩ := fl_mid fb102
          obtain ⟨hm106, fa107, fb108⟩ := fl_mid fb105
          have g99 : px_pa g 277 53 192 evV es := pa_fi (pa_fi (pa_fi (pa_fi K2 fa101 (by omega)) fa104 (by omega)) fa107 (by omega)) (fl_one fb108) (by omega)
          obtain ⟨hm110, fa111, fb112⟩ := fl_mid frg
          obtain ⟨hm113, fa114, fb115⟩ := fl_mid fb112
          obtain ⟨hm116, fa117, fb118⟩ := fl_mid fb115
          have g109 : px_pa g 278 53 192 evT es := pa_fi (pa_fi (pa_fi (pa_fi K3 fa111 (by omega)) fa114 (by omega)) fa117 (by omega)) (fl_one fb118) (by omega)
          refine e_callV (As := [.int (nI (24 * c + pl.getD i 0))]) (rest := []) f_156_270 rfl rfl rfl (Nat.le_of_ble_eq_true rfl) (Nat.le_of_ble_eq_true rfl) g51 rfl (Nat.le_of_ble_eq_true rfl) (cc_Md_doe (e := 24 * c + pl.getD i 0) (n := 4 * i) (s := s) (es := es) (ga := ga) (gp := gp) (gu := gu) (gv := gv) (j := j) (la := la) (lb := lb) (cb := cb) (lg := lg) g58 g59 g69 g79 g35 g89 g99 g109 (hj) (hes) (by omega) (by rw [hEi]; exact hoei) (by rw [hEi]; omega) (q3.1.1) (hz) (q3.2.2.2.2.2.1 hz) (by omega) (q3.2.1) (by rw [hEi]; exact ⟨hLA _ (getD_mem (0, 0, 0, 0) (show i < (evs ev pl).length by rw [evs_len]; omega)), hLB _ (getD_mem (0, 0, 0, 0) (show i < (evs ev pl).length by rw [evs_len]; omega))⟩)) rfl (fun h119 r120 q121 => ?_)
          obtain ⟨rfl, g122, fx123⟩ := q121
          obtain ⟨hm124, fa125, fb126⟩ := fl_mid fx123
          have fr127 : px_fl [(269, 1), (287, 1), (289, 3), (295, 1)] h0 hm124 := fl_tr frg fa125 (by first | exact ⟨_, List.mem_cons_self, by omega, by omega⟩ | exact ⟨_, List.mem_cons_of_mem _ (List.mem_cons_self), by omega, by omega⟩ | exact ⟨_, List.mem_cons_of_mem _ (List.mem_cons_of_mem _ (List.mem_cons_self)), by omega, by omega⟩ | exact ⟨_, List.mem_cons_of_mem _ (List.mem_cons_of_mem _ (List.mem_cons_of_mem _ (List.mem_cons_self))), by omega, by omega⟩)
          obtain ⟨hm128, fa129, fb130⟩ := fl_mid fb126
          have fr131 : px_fl [(269, 1), (287, 1), (289, 3), (295, 1)] h0 hm128 := fl_tr fr127 fa129 (by first | exact ⟨_, List.mem_cons_self, by omega, by omega⟩ | exact ⟨_, List.mem_cons_of_mem _ (List.mem_cons_self), by omega, by omega⟩ | exact ⟨_, List.mem_cons_of_mem _ (List.mem_cons_of_mem _ (List.mem_cons_self)), by omega, by omega⟩ | exact ⟨_, List.mem_cons_of_mem _ (List.mem_cons_of_mem _ (List.mem_cons_of_mem _ (List.mem_cons_self))), by omega, by omega⟩)
          obtain ⟨hm132, fa133, fb134⟩ := fl_mid fb130
          have fr135 : px_fl [(269, 1), (287, 1), (289, 3), (295, 1)] h0 hm132 := fl_tr fr131 fa133 (by first | exact ⟨_, List.mem_cons_self, by omega, by omega⟩ | exact ⟨_, List.mem_cons_of_mem _ (List.mem_cons_self), by omega, by omega⟩ | exact ⟨_, List.mem_cons_of_mem _ (List.mem_cons_of_mem _ (List.mem_cons_self)), by omega, by omega⟩ | exact ⟨_, List.mem_cons_of_mem _ (List.mem_cons_of_mem _ (List.mem_cons_of_mem _ (List.mem_cons_self))), by omega, by omega⟩)
          have fb136 := fl_one fb134
          have fr137 : px_fl [(269, 1), (287, 1), (289, 3), (295, 1)] h0 h119 := fl_tr fr135 fb136 (by first | exact ⟨_, List.mem_cons_self, by omega, by omega⟩ | exact ⟨_, List.mem_cons_of_mem _ (List.mem_cons_self), by omega, by omega⟩ | exact ⟨_, List.mem_cons_of_mem _ (List.mem_cons_of_mem _ (List.mem_cons_self)), by omega, by omega⟩ | exact ⟨_, List.mem_cons_of_mem _ (List.mem_cons_of_mem _ (List.mem_cons_of_mem _ (List.mem_cons_self))), by omega, by omega⟩)
          show px_to 156 273 [some (.ref (269)), some (.int (nI c)), some (.int (nI fr)), some (.int (nI k)), some (.int (nI (24 * c + pl.getD k 0))), some (.int (nI i))] [] h119 _
          have g138 : pRZ h119 ga gp gu gv j ((doEv j la lb ((evs ev pl).getD i (0, 0, 0, 0)) s).2.2.2.2) la lb cb lg ((doEv j la lb ((evs ev pl).getD i (0, 0, 0, 0)) s).2.1.1) ((doEv j la lb ((evs ev pl).getD i (0, 0, 0, 0)) s).2.1.2.1) ((doEv j la lb ((evs ev pl).getD i (0, 0, 0, 0)) s).2.1.2.2) ((doEv j la lb ((evs ev pl).getD i (0, 0, 0, 0)) s).1) := by rw [← hEi]; exact g122
          refine e_iinc (y := nI (i + 1)) (L' := [some (.ref (269)), some (.int (nI c)), some (.int (nI fr)), some (.int (nI k)), some (.int (nI (24 * c + pl.getD k 0))), some (.int (nI (i + 1)))]) f_156_273 rfl (by rw [show Int32.ofInt 1 = nI 1 by decide]; exact (nI_add _ _)) rfl rfl ?_
          refine e_goto f_156_276 ?_
          have eR := q2
          rw [redoL_s (by rw [List.length_take, evs_len]; omega) hz, getD_tk (by omega), if_neg c_254] at eR
          first | (exfalso; omega) | exact ih (d - 1) (by omega) (i + 1) (doEv j la lb ((evs ev pl).getD i (0, 0, 0, 0)) s) h119 (by omega) (by omega) (eR) (inv_do hj hoei hne (by omega) q3 hz) g138 fr137
