/-- bit i of a number -/
def bitB (x : Int32) (i : Nat) : Bool := decide ((x >>> (nI i &&& 31)) &&& nI 1 = nI 1)
def bsOf (x : Int32) (n : Nat) : List Bool := (List.range n).map (bitB x)
theorem bsOf_len (x : Int32) (n : Nat) : (bsOf x n).length = n := by unfold bsOf; rw [List.length_map, List.length_range]
theorem bsOf_drop {x : Int32} {n i : Nat} (h : i < n) : (bsOf x n).drop i = bitB x i :: (bsOf x n).drop (i + 1) := by
  rw [drop_step false (by rw [bsOf_len]; exact h)]
  congr 1
  unfold bsOf
  rw [List.getD_eq_getElem?_getD, List.getElem?_map, List.getElem?_range h]
  rfl
/-- the places of a schedule: what comes of A from fa on, of B from fb on -/
def schL (ev : List Ev) : List Bool → Nat → Nat → List Nat
  | [], _, _ => []
  | b :: r, fa, fb => if b = true then (fb + evNext true (ev.drop fb)) :: schL ev r fa (fb + evNext true (ev.drop fb) + 1) else (fa + evNext false (ev.drop fa)) :: schL ev r (fa + evNext false (ev.drop fa) + 1) fb
theorem evNext_sp {b : Bool} : ∀ {l : List Ev}, 0 < evCnt b l → evNext b l < l.length ∧ evCnt b (l.drop (evNext b l + 1)) + 1 = evCnt b l ∧ evOf (l.getD (evNext b l) (0, 0, 0, 0)).1 b = true
  | [], h => absurd h (Nat.lt_irrefl _)
  | e :: r, h => by
    rw [evCnt] at h
    rw [evNext, evCnt]
    by_cases c : evOf e.1 b = true
    · rw [if_pos c, if_pos c]
      refine ⟨Nat.succ_pos _, ?_, c⟩
      rw [Nat.zero_add, List.drop_succ_cons, List.drop_zero]
      omega
    · rw [if_neg c] at h
      rw [if_neg c, if_neg c]
      obtain ⟨h1, h2, h3⟩ := evNext_sp (b := b) (l := r) (by omega)
      refine ⟨by rw [List.length_cons]; omega, ?_, h3⟩
      rw [List.drop_succ_cons]
      omega
theorem evCnt_sum : ∀ ev : List Ev, evCnt false ev + evCnt true ev ≤ ev.length
  | [] => Nat.le_refl _
  | e :: r => by
    have h1 := evCnt_sum r
    have h2 : ¬ (evOf e.1 false = true ∧ evOf e.1 true = true) := by
      unfold evOf
      simp
      omega
    rw [evCnt, evCnt, List.length_cons]
    by_cases c : evOf e.1 false = true
    · rw [if_pos c, if_neg (fun z => h2 ⟨c, z⟩)]
      omega
    · rw [if_neg c]
      split <;> omega
/-- the bits ask for no more than there is -/
def schOk (ev : List Ev) (bs : List Bool) (fa fb : Nat) : Prop := bs.count false ≤ evCnt false (ev.drop fa) ∧ bs.count true ≤ evCnt true (ev.drop fb)
theorem schOk_b {ev : List Ev} {bs : List Bool} {fa fb : Nat} (h : schOk ev (true :: bs) fa fb) : fb + evNext true (ev.drop fb) < ev.length ∧ schOk ev bs fa (fb + evNext true (ev.drop fb) + 1) := by
  obtain ⟨h1, h2⟩ := h
  rw [List.count_cons_self] at h2
  rw [List.count_cons_of_ne (by decide)] at h1
  obtain ⟨h3, h4, _⟩ := evNext_sp (b := true) (l := ev.drop fb) (by omega)
  rw [List.length_drop] at h3
  refine ⟨by omega, h1, ?_⟩
  rw [List.drop_drop, show fb + (evNext true (ev.drop fb) + 1) = fb + evNext true (ev.drop fb) + 1 by omega] at h4
  omega
theorem schOk_a {ev : List Ev} {bs : List Bool} {fa fb : Nat} (h : schOk ev (false :: bs) fa fb) : fa + evNext false (ev.drop fa) < ev.length ∧ schOk ev bs (fa + evNext false (ev.drop fa) + 1) fb := by
  obtain ⟨h1, h2⟩ := h
  rw [List.count_cons_self] at h1
  rw [List.count_cons_of_ne (by decide)] at h2
  obtain ⟨h3, h4, _⟩ := evNext_sp (b := false) (l := ev.drop fa) (by omega)
  rw [List.length_drop] at h3
  refine ⟨by omega, ?_, h2⟩
  rw [List.drop_drop, show fa + (evNext false (ev.drop fa) + 1) = fa + evNext false (ev.drop fa) + 1 by omega] at h4
  omega
theorem schL_lt {ev : List Ev} : ∀ {bs : List Bool} {fa fb : Nat}, schOk ev bs fa fb → ∀ p ∈ schL ev bs fa fb, p < ev.length
  | [], _, _, _, p, hp => absurd hp (by simp [schL])
  | true :: r, fa, fb, h, p, hp => by
    obtain ⟨h1, h2⟩ := schOk_b h
    rw [schL, if_pos rfl, List.mem_cons] at hp
    rcases hp with z | z
    · rw [z]; exact h1
    · exact schL_lt h2 p z
  | false :: r, fa, fb, h, p, hp => by
    obtain ⟨h1, h2⟩ := schOk_a h
    rw [schL, if_neg (by decide), List.mem_cons] at hp
    rcases hp with z | z
    · rw [z]; exact h1
    · exact schL_lt h2 p z
theorem schL_len {ev : List Ev} : ∀ {bs : List Bool} {fa fb : Nat}, (schL ev bs fa fb).length = bs.length
  | [], _, _ => rfl
  | true :: r, fa, fb => by rw [schL, if_pos rfl, List.length_cons, schL_len, List.length_cons]
  | false :: r, fa, fb => by rw [schL, if_neg (by decide), List.length_cons, schL_len, List.length_cons]

set_option maxRecDepth 20000 in
set_option maxHeartbeats 4000000 in
theorem ll_Ord_sch {h0 : px_H} {bits : Int32} {p : Nat} {a : Nat} {ev : List Ev} {told : List Row} {os : Nat} {ks : Int32} {kept : List Nat} {ck : Nat} {un : List Nat} (H1 : pCase h0 a ev told os ks kept ck un) (p0 : 17 ≤ p) (p1 : p + 2 ≤ a ∨ a + 9 ≤ p) (p2 : ∀ e ∈ ev, e.1 < 65536) : ∀ (d : Nat) (i : Nat) (fa : Nat) (fb : Nat) (ps : List Nat) (g : px_H), ((evCnt false ev + evCnt true ev) ≤ i + d) → (i ≤ (evCnt false ev + evCnt true ev)) → (fa ≤ ev.length) → (fb ≤ ev.length) → (schOk ev ((bsOf bits (evCnt false ev + evCnt true ev)).drop i) fa fb) → (ps ++ schL ev ((bsOf bits (evCnt false ev + evCnt true ev)).drop i) fa fb = schL ev (bsOf bits (evCnt false ev + evCnt true ev)) 0 0) → (ps.length ≤ i) → pOrd g p ps → px_fi p 2 h0 g → px_to 22 26 [some (.ref (p)), some (.ref (a)), some (.int (bits)), some (.int (nI (evCnt false ev + evCnt true ev))), some (.int (nI fa)), some (.int (nI fb)), some (.int (nI i)), none, none] [] g (fun h1 r => r = none ∧ pOrd h1 p (schL ev (bsOf bits (evCnt false ev + evCnt true ev)) 0 0) ∧ px_fi p 2 h0 h1) := by
  intro d
  induction d using Nat.strongRecOn with
  | ind d ih =>
    intro i fa fb ps g q0 q1 q2 q3 q4 q5 q6 G0 frg
    have le := pa_len H1.2.1
    have lb := evCnt_sum ev
    refine e_iload f_22_26 rfl rfl ?_
    refine e_iload_n f_22_28 rfl rfl ?_
    refine e_icmp_ge f_22_29 rfl (fun c_29 => ?_) (fun c_29 => ?_)
    · skip
      have c_29 : (evCnt false ev + evCnt true ev) ≤ i := cv_le (by omega) (by omega) c_29
      refine e_vret f_22_110 rfl ?_
      rw [List.drop_eq_nil_of_le (by rw [bsOf_len]; omega), schL, List.append_nil] at q5
      subst q5
      exact ⟨rfl, G0, frg⟩
    · skip
      have c_29 : i < (evCnt false ev + evCnt true ev) := cv_nle (by omega) (by omega) c_29
      refine e_iload_n f_22_32 rfl rfl ?_
      refine e_iload f_22_33 rfl rfl ?_
      refine e_ishr (z := bits >>> ((nI i) &&& 31)) f_22_35 rfl rfl ?_
      refine e_iconst (v := nI 1) f_22_36 (by decide) rfl ?_
      refine e_iand (z := (bits >>> ((nI i) &&& 31)) &&& (nI 1)) f_22_37 rfl rfl ?_
      refine e_iconst (v := nI 1) f_22_38 (by decide) rfl ?_
      refine e_icmp_ne f_22_39 rfl (fun c_39 => ?_) (fun c_39 => ?_)
      · skip
        refine e_iconst (v := nI 0) f_22_46 (by decide) rfl ?_
        have hbt : bitB bits i = false := decide_eq_false c_39
        rw [bsOf_drop (by omega), hbt] at q4 q5
        obtain ⟨hp1, hok⟩ := schOk_a q4
        rw [schL, if_neg (by decide)] at q5
        show px_to 22 47 [some (.ref (p)), some (.ref (a)), some (.int (bits)), some (.int (nI (evCnt false ev + evCnt true ev))), some (.int (nI fa)), some (.int (nI fb)), some (.int (nI i)), none, none] [.int (bI false)] g _
        refine e_istore (L' := [some (.ref (p)), some (.ref (a)), some (.int (bits)), some (.int (nI (evCnt false ev + evCnt true ev))), some (.int (nI fa)), some (.int (nI fb)), some (.int (nI i)), some (.int (bI false)), none]) f_22_47 (Nat.le_of_ble_eq_true rfl) rfl rfl ?_
        refine e_aload_n f_22_49 rfl rfl ?_
        refine e_iload f_22_50 rfl rfl ?_
        refine e_if_eq f_22_52 rfl (fun c_52 => ?_) (fun c_52 => ?_)
        · skip
          have c_52 : false = false := bI_f c_52
          refine e_iload f_22_60 rfl rfl ?_
          refine e_iload f_22_62 rfl rfl ?_
          have g1 : pCase g a ev told os ks kept ck un := pCase_fi H1 frg (by omega)
          refine e_callV (As := [.int (nI fa), .int (bI false)]) (rest := []) f_22_64 rfl rfl rfl (Nat.le_of_ble_eq_true rfl) (Nat.le_of_ble_eq_true rfl) g1.1 rfl (Nat.le_of_ble_eq_true rfl) (cc_Case_nextOf (i := fa) (b := false) (a := a) (ev := ev) (told := told) (os := os) (ks := ks) (kept := kept) (ck := ck) (un := un) g1 (p2) (by omega)) rfl (fun h2 r3 q4 => ?_)
          obtain ⟨rfl, qe⟩ := q4
          have qe := qe.symm
          subst qe
          show px_to 22 67 [some (.ref (p)), some (.ref (a)), some (.int (bits)), some (.int (nI (evCnt false ev + evCnt true ev))), some (.int (nI fa)), some (.int (nI fb)), some (.int (nI i)), some (.int (bI false)), none] [.int (nI (fa + evNext false (ev.drop fa)))] g _
          refine e_istore (L' := [some (.ref (p)), some (.ref (a)), some (.int (bits)), some (.int (nI (evCnt false ev + evCnt true ev))), some (.int (nI fa)), some (.int (nI fb)), some (.int (nI i)), some (.int (bI false)), some (.int (nI (fa + evNext false (ev.drop fa))))]) f_22_67 (Nat.le_of_ble_eq_true rfl) rfl rfl ?_
          refine e_iload f_22_69 rfl rfl ?_
          refine e_aload_n f_22_71 rfl rfl ?_
          refine e_getf f_22_72 g1.1 rfl rfl ?_
          refine e_icmp_ge f_22_75 rfl (fun c_75 => ?_) (fun c_75 => ?_)
          · skip
            have c_75 : ev.length ≤ fa + evNext false (ev.drop fa) := cv_le (by omega) (by omega) c_75
            refine e_iload f_22_84 rfl rfl ?_
            refine e_if_eq f_22_86 rfl (fun c_86 => ?_) (fun c_86 => ?_)
            · skip
              have c_86 : false = false := bI_f c_86
              refine e_iload f_22_98 rfl rfl ?_
              refine e_iconst (v := nI 1) f_22_100 (by decide) rfl ?_
              refine e_iadd (z := nI (fa + evNext false (ev.drop fa) + 1)) f_22_101 (nI_add _ _) rfl ?_
              refine e_istore (L' := [some (.ref (p)), some (.ref (a)), some (.int (bits)), some (.int (nI (evCnt false ev + evCnt true ev))), some (.int (nI (fa + evNext false (ev.drop fa) + 1))), some (.int (nI fb)), some (.int (nI i)), some (.int (bI false)), some (.int (nI (fa + evNext false (ev.drop fa))))]) f_22_102 (Nat.le_of_ble_eq_true rfl) rfl rfl ?_
              refine e_iinc (y := nI (i + 1)) (L' := [some (.ref (p)), some (.ref (a)), some (.int (bits)), some (.int (nI (evCnt false ev + evCnt true ev))), some (.int (nI (fa + evNext false (ev.drop fa) + 1))), some (.int (nI fb)), some (.int (nI (i + 1))), some (.int (bI false)), some (.int (nI (fa + evNext false (ev.drop fa))))]) f_22_104 rfl (by rw [show Int32.ofInt 1 = nI 1 by decide]; exact (nI_add _ _)) rfl rfl ?_
              refine e_goto f_22_107 ?_
              refine px_to_L (L := [some (.ref (p)), some (.ref (a)), some (.int (bits)), some (.int (nI (evCnt false ev + evCnt true ev))), some (.int (nI (fa + evNext false (ev.drop fa) + 1))), some (.int (nI fb)), some (.int (nI (i + 1))), none, none]) ⟨Or.inr rfl, Or.inr rfl, Or.inr rfl, Or.inr rfl, Or.inr rfl, Or.inr rfl, Or.inr rfl, Or.inl rfl, Or.inl rfl, trivial⟩ ?_
              first | (exfalso; omega) | exact ih (d - 1) (by omega) (i + 1) (fa + evNext false (ev.drop fa) + 1) fb (ps ++ [fa + evNext false (ev.drop fa)]) g (by omega) (by omega) (by omega) (by omega) (hok) (by rw [List.append_assoc]; exact q5) (by rw [List.length_append, List.length_singleton]; omega) G0 frg
            · skip
              have c_86 : false = true := bI_t' c_86
              exact absurd c_86 (by decide)
          · skip
            have c_75 : fa + evNext false (ev.drop fa) < ev.length := cv_nle (by omega) (by omega) c_75
            refine e_aload_n f_22_78 rfl rfl ?_
            refine e_iload f_22_79 rfl rfl ?_
            refine e_callV (As := [.int (nI (fa + evNext false (ev.drop fa)))]) (rest := []) f_22_81 rfl rfl rfl (Nat.le_of_ble_eq_true rfl) (Nat.le_of_ble_eq_true rfl) G0.1 rfl (Nat.le_of_ble_eq_true rfl) (cc_Ord_add (a := p) (i := fa + evNext false (ev.drop fa)) (ps := ps) G0 (by omega) (by omega)) rfl (fun h5 r6 q7 => ?_)
            obtain ⟨rfl, g8, fx9⟩ := q7
            have fr10 : px_fi p 2 h0 h5 := fi_tr frg fx9 (by omega)
            show px_to 22 84 [some (.ref (p)), some (.ref (a)), some (.int (bits)), some (.int (nI (evCnt false ev + evCnt true ev))), some (.int (nI fa)), some (.int (nI fb)), some (.int (nI i)), some (.int (bI false)), some (.int (nI (fa + evNext false (ev.drop fa))))] [] h5 _
            refine e_iload f_22_84 rfl rfl ?_
            refine e_if_eq f_22_86 rfl (fun c_86 => ?_) (fun c_86 => ?_)
            · skip
              have c_86 : false = false := bI_f c_86
              refine e_iload f_22_98 rfl rfl ?_
              refine e_iconst (v := nI 1) f_22_100 (by decide) rfl ?_
              refine e_iadd (z := nI (fa + evNext false (ev.drop fa) + 1)) f_22_101 (nI_add _ _) rfl ?_
              refine e_istore (L' := [some (.ref (p)), some (.ref (a)), some (.int (bits)), some (.int (nI (evCnt false ev + evCnt true ev))), some (.int (nI (fa + evNext false (ev.drop fa) + 1))), some (.int (nI fb)), some (.int (nI i)), some (.int (bI false)), some (.int (nI (fa + evNext false (ev.drop fa))))]) f_22_102 (Nat.le_of_ble_eq_true rfl) rfl rfl ?_
              refine e_iinc (y := nI (i + 1)) (L' := [some (.ref (p)), some (.ref (a)), some (.int (bits)), some (.int (nI (evCnt false ev + evCnt true ev))), some (.int (nI (fa + evNext false (ev.drop fa) + 1))), some (.int (nI fb)), some (.int (nI (i + 1))), some (.int (bI false)), some (.int (nI (fa + evNext false (ev.drop fa))))]) f_22_104 rfl (by rw [show Int32.ofInt 1 = nI 1 by decide]; exact (nI_add _ _)) rfl rfl ?_
              refine e_goto f_22_107 ?_
              refine px_to_L (L := [some (.ref (p)), some (.ref (a)), some (.int (bits)), some (.int (nI (evCnt false ev + evCnt true ev))), some (.int (nI (fa + evNext false (ev.drop fa) + 1))), some (.int (nI fb)), some (.int (nI (i + 1))), none, none]) ⟨Or.inr rfl, Or.inr rfl, Or.inr rfl, Or.inr rfl, Or.inr rfl, Or.inr rfl, Or.inr rfl, Or.inl rfl, Or.inl rfl, trivial⟩ ?_
              first | (exfalso; omega) | exact ih (d - 1) (by omega) (i + 1) (fa + evNext false (ev.drop fa) + 1) fb (ps ++ [fa + evNext false (ev.drop fa)]) h5 (by omega) (by omega) (by omega) (by omega) (hok) (by rw [List.append_assoc]; exact q5) (by rw [List.length_append, List.length_singleton]; omega) g8 fr10
            · skip
              have c_86 : false = true := bI_t' c_86
              exact absurd c_86 (by decide)
        · skip
          have c_52 : false = true := bI_t' c_52
          exact absurd c_52 (by decide)
      · skip
        refine e_iconst (v := nI 1) f_22_42 (by decide) rfl ?_
        refine e_goto f_22_43 ?_
        have hbt : bitB bits i = true := decide_eq_true (Classical.not_not.mp c_39)
        rw [bsOf_drop (by omega), hbt] at q4 q5
        obtain ⟨hp1, hok⟩ := schOk_b q4
        rw [schL, if_pos rfl] at q5
        show px_to 22 47 [some (.ref (p)), some (.ref (a)), some (.int (bits)), some (.int (nI (evCnt false ev + evCnt true ev))), some (.int (nI fa)), some (.int (nI fb)), some (.int (nI i)), none, none] [.int (bI true)] g _
        refine e_istore (L' := [some (.ref (p)), some (.ref (a)), some (.int (bits)), some (.int (nI (evCnt false ev + evCnt true ev))), some (.int (nI fa)), some (.int (nI fb)), some (.int (nI i)), some (.int (bI true)), none]) f_22_47 (Nat.le_of_ble_eq_true rfl) rfl rfl ?_
        refine e_aload_n f_22_49 rfl rfl ?_
        refine e_iload f_22_50 rfl rfl ?_
        refine e_if_eq f_22_52 rfl (fun c_52 => ?_) (fun c_52 => ?_)
        · skip
          have c_52 : true = false := bI_f c_52
          exact absurd c_52 (by decide)
        · skip
          have c_52 : true = true := bI_t' c_52
          refine e_iload f_22_55 rfl rfl ?_
          refine e_goto f_22_57 ?_
          refine e_iload f_22_62 rfl rfl ?_
          have g11 : pCase g a ev told os ks kept ck un := pCase_fi H1 frg (by omega)
          refine e_callV (As := [.int (nI fb), .int (bI true)]) (rest := []) f_22_64 rfl rfl rfl (Nat.le_of_ble_eq_true rfl) (Nat.le_of_ble_eq_true rfl) g11.1 rfl (Nat.le_of_ble_eq_true rfl) (cc_Case_nextOf (i := fb) (b := true) (a := a) (ev := ev) (told := told) (os := os) (ks := ks) (kept := kept) (ck := ck) (un := un) g11 (p2) (by omega)) rfl (fun h12 r13 q14 => ?_)
          obtain ⟨rfl, qe⟩ := q14
          have qe := qe.symm
          subst qe
          show px_to 22 67 [some (.ref (p)), some (.ref (a)), some (.int (bits)), some (.int (nI (evCnt false ev + evCnt true ev))), some (.int (nI fa)), some (.int (nI fb)), some (.int (nI i)), some (.int (bI true)), none] [.int (nI (fb + evNext true (ev.drop fb)))] g _
          refine e_istore (L' := [some (.ref (p)), some (.ref (a)), some (.int (bits)), some (.int (nI (evCnt false ev + evCnt true ev))), some (.int (nI fa)), some (.int (nI fb)), some (.int (nI i)), some (.int (bI true)), some (.int (nI (fb + evNext true (ev.drop fb))))]) f_22_67 (Nat.le_of_ble_eq_true rfl) rfl rfl ?_
          refine e_iload f_22_69 rfl rfl ?_
          refine e_aload_n f_22_71 rfl rfl ?_
          refine e_getf f_22_72 g11.1 rfl rfl ?_
          refine e_icmp_ge f_22_75 rfl (fun c_75 => ?_) (fun c_75 => ?_)
          · skip
            have c_75 : ev.length ≤ fb + evNext true (ev.drop fb) := cv_le (by omega) (by omega) c_75
            refine e_iload f_22_84 rfl rfl ?_
            refine e_if_eq f_22_86 rfl (fun c_86 => ?_) (fun c_86 => ?_)
            · skip
              have c_86 : true = false := bI_f c_86
              exact absurd c_86 (by decide)
            · skip
              have c_86 : true = true := bI_t' c_86
              refine e_iload f_22_89 rfl rfl ?_
              refine e_iconst (v := nI 1) f_22_91 (by decide) rfl ?_
              refine e_iadd (z := nI (fb + evNext true (ev.drop fb) + 1)) f_22_92 (nI_add _ _) rfl ?_
              refine e_istore (L' := [some (.ref (p)), some (.ref (a)), some (.int (bits)), some (.int (nI (evCnt false ev + evCnt true ev))), some (.int (nI fa)), some (.int (nI (fb + evNext true (ev.drop fb) + 1))), some (.int (nI i)), some (.int (bI true)), some (.int (nI (fb + evNext true (ev.drop fb))))]) f_22_93 (Nat.le_of_ble_eq_true rfl) rfl rfl ?_
              refine e_goto f_22_95 ?_
              refine e_iinc (y := nI (i + 1)) (L' := [some (.ref (p)), some (.ref (a)), some (.int (bits)), some (.int (nI (evCnt false ev + evCnt true ev))), some (.int (nI fa)), some (.int (nI (fb + evNext true (ev.drop fb) + 1))), some (.int (nI (i + 1))), some (.int (bI true)), some (.int (nI (fb + evNext true (ev.drop fb))))]) f_22_104 rfl (by rw [show Int32.ofInt 1 = nI 1 by decide]; exact (nI_add _ _)) rfl rfl ?_
              refine e_goto f_22_107 ?_
              refine px_to_L (L := [some (.ref (p)), some (.ref (a)), some (.int (bits)), some (.int (nI (evCnt false ev + evCnt true ev))), some (.int (nI fa)), some (.int (nI (fb + evNext true (ev.drop fb) + 1))), some (.int (nI (i + 1))), none, none]) ⟨Or.inr rfl, Or.inr rfl, Or.inr rfl, Or.inr rfl, Or.inr rfl, Or.inr rfl, Or.inr rfl, Or.inl rfl, Or.inl rfl, trivial⟩ ?_
              first | (exfalso; omega) | exact ih (d - 1) (by omega) (i + 1) fa (fb + evNext true (ev.drop fb) + 1) (ps ++ [fb + evNext true (ev.drop fb)]) g (by omega) (by omega) (by omega) (by omega) (hok) (by rw [List.append_assoc]; exact q5) (by rw [List.length_append, List.length_singleton]; omega) G0 frg
          · skip
            have c_75 : fb + evNext true (ev.drop fb) < ev.length := cv_nle (by omega) (by omega) c_75
            refine e_aload_n f_22_78 rfl rfl ?_
            refine e_iload f_22_79 rfl rfl ?_
            refine e_callV (As := [.int (nI (fb + evNext true (ev.drop fb)))]) (rest := []) f_22_81 rfl rfl rfl (Nat.le_of_ble_eq_true rfl) (Nat.le_of_ble_eq_true rfl) G0.1 rfl (Nat.le_of_ble_eq_true rfl) (cc_Ord_add (a := p) (i := fb + evNext true (ev.drop fb)) (ps := ps) G0 (by omega) (by omega)) rfl (fun h15 r16 q17 => ?_)
            obtain ⟨rfl, g18, fx19⟩ := q17
            have fr20 : px_fi p 2 h0 h15 := fi_tr frg fx19 (by omega)
            show px_to 22 84 [some (.ref (p)), some (.ref (a)), some (.int (bits)), some (.int (nI (evCnt false ev + evCnt true ev))), some (.int (nI fa)), some (.int (nI fb)), some (.int (nI i)), some (.int (bI true)), some (.int (nI (fb + evNext true (ev.drop fb))))] [] h15 _
            refine e_iload f_22_84 rfl rfl ?_
            refine e_if_eq f_22_86 rfl (fun c_86 => ?_) (fun c_86 => ?_)
            · skip
              have c_86 : true = false := bI_f c_86
              exact absurd c_86 (by decide)
            · skip
              have c_86 : true = true := bI_t' c_86
              refine e_iload f_22_89 rfl rfl ?_
              refine e_iconst (v := nI 1) f_22_91 (by decide) rfl ?_
              refine e_iadd (z := nI (fb + evNext true (ev.drop fb) + 1)) f_22_92 (nI_add _ _) rfl ?_
              refine e_istore (L' := [some (.ref (p)), some (.ref (a)), some (.int (bits)), some (.int (nI (evCnt false ev + evCnt true ev))), some (.int (nI fa)), some (.int (nI (fb + evNext true (ev.drop fb) + 1))), some (.int (nI i)), some (.int (bI true)), some (.int (nI (fb + evNext true (ev.drop fb))))]) f_22_93 (Nat.le_of_ble_eq_true rfl) rfl rfl ?_
              refine e_goto f_22_95 ?_
              refine e_iinc (y := nI (i + 1)) (L' := [some (.ref (p)), some (.ref (a)), some (.int (bits)), some (.int (nI (evCnt false ev + evCnt true ev))), some (.int (nI fa)), some (.int (nI (fb + evNext true (ev.drop fb) + 1))), some (.int (nI (i + 1))), some (.int (bI true)), some (.int (nI (fb + evNext true (ev.drop fb))))]) f_22_104 rfl (by rw [show Int32.ofInt 1 = nI 1 by decide]; exact (nI_add _ _)) rfl rfl ?_
              refine e_goto f_22_107 ?_
              refine px_to_L (L := [some (.ref (p)), some (.ref (a)), some (.int (bits)), some (.int (nI (evCnt false ev + evCnt true ev))), some (.int (nI fa)), some (.int (nI (fb + evNext true (ev.drop fb) + 1))), some (.int (nI (i + 1))), none, none]) ⟨Or.inr rfl, Or.inr rfl, Or.inr rfl, Or.inr rfl, Or.inr rfl, Or.inr rfl, Or.inr rfl, Or.inl rfl, Or.inl rfl, trivial⟩ ?_
              first | (exfalso; omega) | exact ih (d - 1) (by omega) (i + 1) fa (fb + evNext true (ev.drop fb) + 1) (ps ++ [fb + evNext true (ev.drop fb)]) h15 (by omega) (by omega) (by omega) (by omega) (hok) (by rw [List.append_assoc]; exact q5) (by rw [List.length_append, List.length_singleton]; omega) g18 fr20

set_option maxRecDepth 20000 in
set_option maxHeartbeats 4000000 in
theorem cc_Ord_sch {h : px_H} {bits : Int32} {p : Nat} {ps : List Nat} {a : Nat} {ev : List Ev} {told : List Row} {os : Nat} {ks : Int32} {kept : List Nat} {ck : Nat} {un : List Nat} (H0 : pOrd h p ps) (H1 : pCase h a ev told os ks kept ck un) (p0 : 17 ≤ p) (p1 : p + 2 ≤ a ∨ a + 9 ≤ p) (p2 : ∀ e ∈ ev, e.1 < 65536) (p3 : schOk ev (bsOf bits (evCnt false ev + evCnt true ev)) 0 0) : px_wp 22 [.ref (p), .ref (a), .int (bits)] h (fun h1 r => r = none ∧ pOrd h1 p (schL ev (bsOf bits (evCnt false ev + evCnt true ev)) 0 0) ∧ px_fi p 2 h h1) := by
  have fr0 : px_fi p 2 h h := fi_rf _ _ _
  have le := pa_len H1.2.1
  have lb := evCnt_sum ev
  show px_to 22 0 [some (.ref (p)), some (.ref (a)), some (.int (bits)), none, none, none, none, none, none] [] h _
  refine e_aload_n f_22_0 rfl rfl ?_
  refine e_iconst (v := nI 0) f_22_1 (by decide) rfl ?_
  refine e_callV (As := [.int (nI 0)]) (rest := []) f_22_2 rfl rfl rfl (Nat.le_of_ble_eq_true rfl) (Nat.le_of_ble_eq_true rfl) H1.1 rfl (Nat.le_of_ble_eq_true rfl) (cc_Case_eventsOf (b := false) (a := a) (ev := ev) (told := told) (os := os) (ks := ks) (kept := kept) (ck := ck) (un := un) H1 (p2)) rfl (fun h1 r2 q3 => ?_)
  obtain ⟨rfl, qe⟩ := q3
  have qe := qe.symm
  subst qe
  show px_to 22 5 [some (.ref (p)), some (.ref (a)), some (.int (bits)), none, none, none, none, none, none] [.int (nI (evCnt false ev))] h _
  refine e_aload_n f_22_5 rfl rfl ?_
  refine e_iconst (v := nI 1) f_22_6 (by decide) rfl ?_
  refine e_callV (As := [.int (nI 1)]) (rest := [.int (nI (evCnt false ev))]) f_22_7 rfl rfl rfl (Nat.le_of_ble_eq_true rfl) (Nat.le_of_ble_eq_true rfl) H1.1 rfl (Nat.le_of_ble_eq_true rfl) (cc_Case_eventsOf (b := true) (a := a) (ev := ev) (told := told) (os := os) (ks := ks) (kept := kept) (ck := ck) (un := un) H1 (p2)) rfl (fun h4 r5 q6 => ?_)
  obtain ⟨rfl, qe⟩ := q6
  have qe := qe.symm
  subst qe
  show px_to 22 10 [some (.ref (p)), some (.ref (a)), some (.int (bits)), none, none, none, none, none, none] [.int (nI (evCnt true ev)), .int (nI (evCnt false ev))] h _
  refine e_iadd (z := nI (evCnt false ev + evCnt true ev)) f_22_10 (nI_add _ _) rfl ?_
  refine e_istore_n (L' := [some (.ref (p)), some (.ref (a)), some (.int (bits)), some (.int (nI (evCnt false ev + evCnt true ev))), none, none, none, none, none]) f_22_11 (Nat.le_of_ble_eq_true rfl) rfl rfl ?_
  refine e_iconst (v := nI 0) f_22_12 (by decide) rfl ?_
  refine e_istore (L' := [some (.ref (p)), some (.ref (a)), some (.int (bits)), some (.int (nI (evCnt false ev + evCnt true ev))), some (.int (nI 0)), none, none, none, none]) f_22_13 (Nat.le_of_ble_eq_true rfl) rfl rfl ?_
  refine e_iconst (v := nI 0) f_22_15 (by decide) rfl ?_
  refine e_istore (L' := [some (.ref (p)), some (.ref (a)), some (.int (bits)), some (.int (nI (evCnt false ev + evCnt true ev))), some (.int (nI 0)), some (.int (nI 0)), none, none, none]) f_22_16 (Nat.le_of_ble_eq_true rfl) rfl rfl ?_
  refine e_aload_n f_22_18 rfl rfl ?_
  refine e_iconst (v := nI 0) f_22_19 (by decide) rfl ?_
  have g7 : h.2.2 p = some (3, [.ref (p + 1), .int (nI ps.length)]) := H0.1
  have g8 : px_pa h (p + 1) 50 24 vN ps := H0.2
  refine e_putp (vs' := [.ref (p + 1), .int (nI 0)]) f_22_20 g7 (Nat.le_of_ble_eq_true rfl) (rfl) (rfl) rfl rfl (fun h9 g10 fx11 => ?_)
  have fr12 : px_fi p 2 h h9 := fi_tr fr0 fx11 (by omega)
  refine e_iconst (v := nI 0) f_22_23 (by decide) rfl ?_
  refine e_istore (L' := [some (.ref (p)), some (.ref (a)), some (.int (bits)), some (.int (nI (evCnt false ev + evCnt true ev))), some (.int (nI 0)), some (.int (nI 0)), some (.int (nI 0)), none, none]) f_22_24 (Nat.le_of_ble_eq_true rfl) rfl rfl ?_
  have g13 : px_pa h9 (p + 1) 50 24 vN ps := pa_fi g8 fx11 (by omega)
  exact ll_Ord_sch (h0 := h) H1 p0 p1 p2 (evCnt false ev + evCnt true ev) 0 0 0 [] h9 (by omega) (by omega) (by omega) (by omega) p3 rfl (by simp) ⟨g10, pa_nil g13⟩ fr12

theorem erase_step {qs : List Nat} {i gn : Nat} (h : i < qs.length) (hg : gn < qs.length) : (qs.take (i + 1)).eraseIdx gn = if i = gn then (qs.take i).eraseIdx gn else (qs.take i).eraseIdx gn ++ [qs.getD i 0] := by
  rw [take_s 0 h]
  by_cases c : i = gn
  · subst c
    rw [if_pos rfl, List.eraseIdx_append_of_length_le (by rw [List.length_take]; omega), List.length_take, Nat.min_eq_left (by omega), Nat.sub_self, show [qs.getD i 0].eraseIdx 0 = [] from rfl, List.append_nil, List.eraseIdx_of_length_le (by rw [List.length_take]; omega)]
  · rw [if_neg c]
    by_cases c2 : gn < i
    · rw [List.eraseIdx_append_of_lt_length (by rw [List.length_take]; omega)]
    · rw [List.eraseIdx_append_of_length_le (by rw [List.length_take]; omega), List.eraseIdx_of_length_le (by rw [List.length_singleton, List.length_take]; omega), List.eraseIdx_of_length_le (by rw [List.length_take]; omega)]

set_option maxRecDepth 20000 in
set_option maxHeartbeats 4000000 in
theorem ll_Ord_wo {h0 : px_H} {p q gn : Nat} {qs : List Nat} (H1 : pOrd h0 q qs) (p0 : 17 ≤ p) (p1 : p + 2 ≤ q ∨ q + 2 ≤ p) (p2 : gn < qs.length) : ∀ (d : Nat) (i : Nat) (ps : List Nat) (g : px_H), (qs.length ≤ i + d) → (i ≤ qs.length) → (ps = (qs.take i).eraseIdx gn) → (ps.length ≤ i) → pOrd g p ps → px_fi p 2 h0 g → px_to 23 13 [some (.ref (p)), some (.ref (q)), some (.int (nI gn)), some (.int (nI qs.length)), some (.int (nI i))] [] g (fun h1 r => r = none ∧ pOrd h1 p (qs.eraseIdx gn) ∧ px_fi p 2 h0 h1) := by
  intro d
  induction d using Nat.strongRecOn with
  | ind d ih =>
    intro i ps g q0 q1 q2 q3 G0 frg
    have le := pa_len H1.2
    refine e_iload f_23_13 rfl rfl ?_
    refine e_iload_n f_23_15 rfl rfl ?_
    refine e_icmp_ge f_23_16 rfl (fun c_16 => ?_) (fun c_16 => ?_)
    · skip
      have c_16 : qs.length ≤ i := cv_le (by omega) (by omega) c_16
      refine e_vret f_23_42 rfl ?_
      rw [show i = qs.length by omega, List.take_length] at q2
      subst q2
      exact ⟨rfl, G0, frg⟩
    · skip
      have c_16 : i < qs.length := cv_nle (by omega) (by omega) c_16
      refine e_iload f_23_19 rfl rfl ?_
      refine e_iload_n f_23_21 rfl rfl ?_
      refine e_icmp_eq f_23_22 rfl (fun c_22 => ?_) (fun c_22 => ?_)
      · skip
        have c_22 : i = gn := cv_eq (by omega) (by omega) c_22
        refine e_iinc (y := nI (i + 1)) (L' := [some (.ref (p)), some (.ref (q)), some (.int (nI gn)), some (.int (nI qs.length)), some (.int (nI (i + 1)))]) f_23_36 rfl (by rw [show Int32.ofInt 1 = nI 1 by decide]; exact (nI_add _ _)) rfl rfl ?_
        refine e_goto f_23_39 ?_
        first | (exfalso; omega) | exact ih (d - 1) (by omega) (i + 1) ps g (by omega) (by omega) (by rw [erase_step (by omega) p2, if_pos c_22, q2]) (by omega) G0 frg
      · skip
        have c_22 : i ≠ gn := cv_ne c_22
        refine e_aload_n f_23_25 rfl rfl ?_
        refine e_aload_n f_23_26 rfl rfl ?_
        have g1 : pOrd g q qs := pOrd_fi H1 frg (by omega)
        refine e_getf f_23_27 g1.1 rfl rfl ?_
        refine e_iload f_23_30 rfl rfl ?_
        refine e_iaload_p (xs := qs) f_23_32 g1.2 (d := 0) (by first | omega | (simp only [List.length_set]; omega)) rfl ?_
        show px_to 23 33 [some (.ref (p)), some (.ref (q)), some (.int (nI gn)), some (.int (nI qs.length)), some (.int (nI i))] [.int (nI (qs.getD i 0)), .ref (p)] g _
        refine e_callV (As := [.int (nI (qs.getD i 0))]) (rest := []) f_23_33 rfl rfl rfl (Nat.le_of_ble_eq_true rfl) (Nat.le_of_ble_eq_true rfl) G0.1 rfl (Nat.le_of_ble_eq_true rfl) (cc_Ord_add (a := p) (i := qs.getD i 0) (ps := ps) G0 (by omega) (by omega)) rfl (fun h2 r3 q4 => ?_)
        obtain ⟨rfl, g5, fx6⟩ := q4
        have fr7 : px_fi p 2 h0 h2 := fi_tr frg fx6 (by omega)
        show px_to 23 36 [some (.ref (p)), some (.ref (q)), some (.int (nI gn)), some (.int (nI qs.length)), some (.int (nI i))] [] h2 _
        refine e_iinc (y := nI (i + 1)) (L' := [some (.ref (p)), some (.ref (q)), some (.int (nI gn)), some (.int (nI qs.length)), some (.int (nI (i + 1)))]) f_23_36 rfl (by rw [show Int32.ofInt 1 = nI 1 by decide]; exact (nI_add _ _)) rfl rfl ?_
        refine e_goto f_23_39 ?_
        first | (exfalso; omega) | exact ih (d - 1) (by omega) (i + 1) (ps ++ [qs.getD i 0]) h2 (by omega) (by omega) (by rw [erase_step (by omega) p2, if_neg c_22, q2]) (by rw [List.length_append, List.length_singleton]; omega) g5 fr7

set_option maxRecDepth 20000 in
set_option maxHeartbeats 4000000 in
theorem cc_Ord_wo {h : px_H} {p : Nat} {ps : List Nat} {q : Nat} {qs : List Nat} {gn : Nat} (H0 : pOrd h p ps) (H1 : pOrd h q qs) (p0 : 17 ≤ p) (p1 : p + 2 ≤ q ∨ q + 2 ≤ p) (p2 : gn < qs.length) : px_wp 23 [.ref (p), .ref (q), .int (nI gn)] h (fun h1 r => r = none ∧ pOrd h1 p (qs.eraseIdx gn) ∧ px_fi p 2 h h1) := by
  have fr0 : px_fi p 2 h h := fi_rf _ _ _
  have le := pa_len H1.2
  show px_to 23 0 [some (.ref (p)), some (.ref (q)), some (.int (nI gn)), none, none] [] h _
  refine e_aload_n f_23_0 rfl rfl ?_
  refine e_getf f_23_1 H1.1 rfl rfl ?_
  refine e_istore_n (L' := [some (.ref (p)), some (.ref (q)), some (.int (nI gn)), some (.int (nI qs.length)), none]) f_23_4 (Nat.le_of_ble_eq_true rfl) rfl rfl ?_
  refine e_aload_n f_23_5 rfl rfl ?_
  refine e_iconst (v := nI 0) f_23_6 (by decide) rfl ?_
  have g1 : h.2.2 p = some (3, [.ref (p + 1), .int (nI ps.length)]) := H0.1
  have g2 : px_pa h (p + 1) 50 24 vN ps := H0.2
  refine e_putp (vs' := [.ref (p + 1), .int (nI 0)]) f_23_7 g1 (Nat.le_of_ble_eq_true rfl) (rfl) (rfl) rfl rfl (fun h3 g4 fx5 => ?_)
  have fr6 : px_fi p 2 h h3 := fi_tr fr0 fx5 (by omega)
  refine e_iconst (v := nI 0) f_23_10 (by decide) rfl ?_
  refine e_istore (L' := [some (.ref (p)), some (.ref (q)), some (.int (nI gn)), some (.int (nI qs.length)), some (.int (nI 0))]) f_23_11 (Nat.le_of_ble_eq_true rfl) rfl rfl ?_
  have g7 : px_pa h3 (p + 1) 50 24 vN ps := pa_fi g2 fx5 (by omega)
  exact ll_Ord_wo (h0 := h) H1 p0 p1 p2 qs.length 0 [] h3 (by omega) (by omega) (by rw [List.take_zero]; rfl) (by simp) ⟨g4, pa_nil g7⟩ fr6

set_option maxRecDepth 20000 in
set_option maxHeartbeats 4000000 in
theorem cc_Ord_addX {h : px_H} {a i k : Nat} {xs : List Nat} (H0 : h.2.2 a = some (3, [.ref (a + 1), .int (nI k)])) (H1 : px_pa h (a + 1) 50 24 vN xs) (p0 : 17 ≤ a) (p1 : k < xs.length) (p2 : k < 24) : px_wp 19 [.ref (a), .int (nI i)] h (fun h1 r => r = none ∧ h1.2.2 a = some (3, [.ref (a + 1), .int (nI (k + 1))]) ∧ px_pa h1 (a + 1) 50 24 vN (xs.set k i) ∧ px_fi a 2 h h1) := by
  have fr0 : px_fi a 2 h h := fi_rf _ _ _
  show px_to 19 0 [some (.ref (a)), some (.int (nI i))] [] h _
  refine e_aload_n f_19_0 rfl rfl ?_
  refine e_getf f_19_1 H0 rfl rfl ?_
  refine e_bipush (v := nI 24) f_19_4 (by decide) rfl ?_
  refine e_icmp_ge f_19_6 rfl (fun c_6 => ?_) (fun c_6 => ?_)
  · skip
    have c_6 : 24 ≤ k := cv_le (by omega) (by omega) c_6
    refine e_vret f_19_29 rfl ?_
    exfalso; omega
  · skip
    have c_6 : k < 24 := cv_nle (by omega) (by omega) c_6
    refine e_aload_n f_19_9 rfl rfl ?_
    refine e_getf f_19_10 H0 rfl rfl ?_
    refine e_aload_n f_19_13 rfl rfl ?_
    refine e_getf f_19_14 H0 rfl rfl ?_
    refine e_iload_n f_19_17 rfl rfl ?_
    refine e_iastore_p (xs := xs) (x := i) f_19_18 H1 (by omega) (by first | omega | (simp only [List.length_set]; omega)) (rfl) rfl (fun h1 g2 fx3 => ?_)
    have fr4 : px_fi a 2 h h1 := fi_tr fr0 fx3 (by omega)
    refine e_aload_n f_19_19 rfl rfl ?_
    refine e_dup f_19_20 rfl rfl ?_
    have g5 : h1.2.2 a = some (3, [.ref (a + 1), .int (nI k)]) := fi_at H0 fx3 (by omega)
    refine e_getf f_19_21 g5 rfl rfl ?_
    refine e_iconst (v := nI 1) f_19_24 (by decide) rfl ?_
    refine e_iadd (z := nI (k + 1)) f_19_25 (nI_add _ _) rfl ?_
    refine e_putp (vs' := [.ref (a + 1), .int (nI (k + 1))]) f_19_26 g5 (Nat.le_of_ble_eq_true rfl) (rfl) (rfl) rfl rfl (fun h6 g7 fx8 => ?_)
    have fr9 : px_fi a 2 h h6 := fi_tr fr4 fx8 (by omega)
    refine e_vret f_19_29 rfl ?_
    have g10 : px_pa h6 (a + 1) 50 24 vN (xs.set k i) := pa_fi g2 fx8 (by omega)
    exact ⟨rfl, g7, g10, fr9⟩

theorem set_keep {xs qs : List Nat} {k i v : Nat} (hk : k ≤ i) (h : xs.drop i = qs.drop i) : (xs.set k v).drop (i + 1) = qs.drop (i + 1) := by
  rw [List.drop_set_of_lt (by omega), ← List.drop_drop, h, List.drop_drop]
theorem drop_get {xs qs : List Nat} {i : Nat} (hi : i < qs.length) (hx : xs.length = qs.length) (h : xs.drop i = qs.drop i) : xs.getD i 0 = qs.getD i 0 := by
  rw [drop_step 0 (show i < xs.length by omega), drop_step 0 hi] at h
  exact (List.cons.inj h).1
theorem set_grow {xs : List Nat} {k v : Nat} (hk : k < xs.length) : (xs.set k v).take (k + 1) = xs.take k ++ [v] := by
  rw [take_s 0 (by rw [List.length_set]; exact hk), getD_set_same hk, List.take_set_of_le (Nat.le_refl _)]

set_option maxRecDepth 20000 in
set_option maxHeartbeats 4000000 in
theorem ll_Ord_woS {h0 : px_H} {p gn : Nat} {qs : List Nat} (p0 : 17 ≤ p) (p1 : gn < qs.length) (p2 : qs.length ≤ 24) : ∀ (d : Nat) (i : Nat) (k : Nat) (xs : List Nat) (g : px_H), (qs.length ≤ i + d) → (i ≤ qs.length) → (xs.length = qs.length) → (k ≤ i) → (xs.take k = (qs.take i).eraseIdx gn) → (xs.drop i = qs.drop i) → g.2.2 p = some (3, [.ref (p + 1), .int (nI k)]) → px_pa g (p + 1) 50 24 vN xs → px_fi p 2 h0 g → px_to 23 13 [some (.ref (p)), some (.ref (p)), some (.int (nI gn)), some (.int (nI qs.length)), some (.int (nI i))] [] g (fun h1 r => r = none ∧ pOrd h1 p (qs.eraseIdx gn) ∧ px_fi p 2 h0 h1) := by
  intro d
  induction d using Nat.strongRecOn with
  | ind d ih =>
    intro i k xs g q0 q1 q2 q3 q4 q5 G0 G1 frg
    refine e_iload f_23_13 rfl rfl ?_
    refine e_iload_n f_23_15 rfl rfl ?_
    refine e_icmp_ge f_23_16 rfl (fun c_16 => ?_) (fun c_16 => ?_)
    · skip
      have c_16 : qs.length ≤ i := cv_le (by omega) (by omega) c_16
      refine e_vret f_23_42 rfl ?_
      rw [show i = qs.length by omega, List.take_length] at q4
      have hk : (qs.eraseIdx gn).length = k := by rw [← q4, List.length_take]; omega
      exact ⟨rfl, ⟨by rw [hk]; exact G0, by rw [← q4]; exact pa_take G1 k⟩, frg⟩
    · skip
      have c_16 : i < qs.length := cv_nle (by omega) (by omega) c_16
      refine e_iload f_23_19 rfl rfl ?_
      refine e_iload_n f_23_21 rfl rfl ?_
      refine e_icmp_eq f_23_22 rfl (fun c_22 => ?_) (fun c_22 => ?_)
      · skip
        have c_22 : i = gn := cv_eq (by omega) (by omega) c_22
        refine e_iinc (y := nI (i + 1)) (L' := [some (.ref (p)), some (.ref (p)), some (.int (nI gn)), some (.int (nI qs.length)), some (.int (nI (i + 1)))]) f_23_36 rfl (by rw [show Int32.ofInt 1 = nI 1 by decide]; exact (nI_add _ _)) rfl rfl ?_
        refine e_goto f_23_39 ?_
        first | (exfalso; omega) | exact ih (d - 1) (by omega) (i + 1) k xs g (by omega) (by omega) (by omega) (by omega) (by rw [q4, erase_step (by omega) p1, if_pos c_22]) (by rw [← List.drop_drop, q5, List.drop_drop]) G0 G1 frg
      · skip
        have c_22 : i ≠ gn := cv_ne c_22
        refine e_aload_n f_23_25 rfl rfl ?_
        refine e_aload_n f_23_26 rfl rfl ?_
        refine e_getf f_23_27 G0 rfl rfl ?_
        refine e_iload f_23_30 rfl rfl ?_
        refine e_iaload_p (xs := xs) f_23_32 G1 (d := 0) (by first | omega | (simp only [List.length_set]; omega)) rfl ?_
        show px_to 23 33 [some (.ref (p)), some (.ref (p)), some (.int (nI gn)), some (.int (nI qs.length)), some (.int (nI i))] [.int (nI (xs.getD i 0)), .ref (p)] g _
        refine e_callV (As := [.int (nI (xs.getD i 0))]) (rest := []) f_23_33 rfl rfl rfl (Nat.le_of_ble_eq_true rfl) (Nat.le_of_ble_eq_true rfl) G0 rfl (Nat.le_of_ble_eq_true rfl) (cc_Ord_addX (a := p) (i := xs.getD i 0) (k := k) (xs := xs) G0 G1 (by omega) (by omega) (by omega)) rfl (fun h1 r2 q3 => ?_)
        obtain ⟨rfl, g4, g5, fx6⟩ := q3
        have fr7 : px_fi p 2 h0 h1 := fi_tr frg fx6 (by omega)
        show px_to 23 36 [some (.ref (p)), some (.ref (p)), some (.int (nI gn)), some (.int (nI qs.length)), some (.int (nI i))] [] h1 _
        refine e_iinc (y := nI (i + 1)) (L' := [some (.ref (p)), some (.ref (p)), some (.int (nI gn)), some (.int (nI qs.length)), some (.int (nI (i + 1)))]) f_23_36 rfl (by rw [show Int32.ofInt 1 = nI 1 by decide]; exact (nI_add _ _)) rfl rfl ?_
        refine e_goto f_23_39 ?_
        first | (exfalso; omega) | exact ih (d - 1) (by omega) (i + 1) (k + 1) (xs.set k (xs.getD i 0)) h1 (by omega) (by omega) (by rw [List.length_set]; exact q2) (by omega) (by rw [set_grow (by omega), q4, erase_step (by omega) p1, if_neg c_22, drop_get (by omega) q2 q5]) (set_keep (by omega) q5) g4 g5 fr7

set_option maxRecDepth 20000 in
set_option maxHeartbeats 4000000 in
theorem cc_Ord_woS {h : px_H} {p : Nat} {qs : List Nat} {gn : Nat} (H0 : pOrd h p qs) (p0 : 17 ≤ p) (p1 : gn < qs.length) : px_wp 23 [.ref (p), .ref (p), .int (nI gn)] h (fun h1 r => r = none ∧ pOrd h1 p (qs.eraseIdx gn) ∧ px_fi p 2 h h1) := by
  have fr0 : px_fi p 2 h h := fi_rf _ _ _
  have le := pa_len H0.2
  show px_to 23 0 [some (.ref (p)), some (.ref (p)), some (.int (nI gn)), none, none] [] h _
  refine e_aload_n f_23_0 rfl rfl ?_
  refine e_getf f_23_1 H0.1 rfl rfl ?_
  refine e_istore_n (L' := [some (.ref (p)), some (.ref (p)), some (.int (nI gn)), some (.int (nI qs.length)), none]) f_23_4 (Nat.le_of_ble_eq_true rfl) rfl rfl ?_
  refine e_aload_n f_23_5 rfl rfl ?_
  refine e_iconst (v := nI 0) f_23_6 (by decide) rfl ?_
  have g1 : h.2.2 p = some (3, [.ref (p + 1), .int (nI qs.length)]) := H0.1
  have g2 : px_pa h (p + 1) 50 24 vN qs := H0.2
  refine e_putp (vs' := [.ref (p + 1), .int (nI 0)]) f_23_7 g1 (Nat.le_of_ble_eq_true rfl) (rfl) (rfl) rfl rfl (fun h3 g4 fx5 => ?_)
  have fr6 : px_fi p 2 h h3 := fi_tr fr0 fx5 (by omega)
  refine e_iconst (v := nI 0) f_23_10 (by decide) rfl ?_
  refine e_istore (L' := [some (.ref (p)), some (.ref (p)), some (.int (nI gn)), some (.int (nI qs.length)), some (.int (nI 0))]) f_23_11 (Nat.le_of_ble_eq_true rfl) rfl rfl ?_
  have g7 : px_pa h3 (p + 1) 50 24 vN qs := pa_fi g2 fx5 (by omega)
  exact ll_Ord_woS (h0 := h) p0 p1 (pa_len H0.2) qs.length 0 0 qs h3 (by omega) (by omega) rfl (by omega) (by rw [List.take_zero]; rfl) rfl g4 g7 fr6

set_option maxRecDepth 20000 in
set_option maxHeartbeats 4000000 in
theorem ll_Case_keep {h0 : px_H} {q : Nat} {qs : List Nat} {a : Nat} {ev : List Ev} {told : List Row} {os : Nat} {ks : Int32} {kept : List Nat} {ck : Nat} {un : List Nat} (H1 : pOrd h0 q qs) (p0 : 17 ≤ a) (p1 : a + 9 ≤ q ∨ q + 2 ≤ a) : ∀ (d : Nat) (i : Nat) (g : px_H), (qs.length ≤ i + d) → (i ≤ qs.length) → g.2.2 a = some (10, [.int (nI ev.length), .ref (a + 1), .ref (a + 2), .ref (a + 3), .ref (a + 4), .ref (a + 5), .int (nI os), .int (ks), .ref (a + 7), .int (nI ck), .int (nI un.length), .ref (a + 8)]) → px_pa g (a + 1) 50 24 evS ev → px_pa g (a + 2) 50 24 evK ev → px_pa g (a + 3) 50 24 evV ev → px_pa g (a + 4) 50 24 evT ev → pRows g (a + 5) 16 told → px_pa g (a + 7) 50 24 vN (qs.take i) → px_pa g (a + 8) 50 266 vN un → px_fi a 9 h0 g → px_to 87 2 [some (.ref (a)), some (.ref (q)), some (.int (nI i))] [] g (fun h1 r => r = none ∧ pCase h1 a ev told os (nI qs.length) qs ck un ∧ px_fi a 9 h0 h1) := by
  intro d
  induction d using Nat.strongRecOn with
  | ind d ih =>
    intro i g q0 q1 G0 G1 G2 G3 G4 G5 G6 G7 frg
    have le := pa_len H1.2
    refine e_iload_n f_87_2 rfl rfl ?_
    refine e_aload_n f_87_3 rfl rfl ?_
    have g1 : pOrd g q qs := pOrd_fi H1 frg (by omega)
    refine e_getf f_87_4 g1.1 rfl rfl ?_
    refine e_icmp_ge f_87_7 rfl (fun c_7 => ?_) (fun c_7 => ?_)
    · skip
      have c_7 : qs.length ≤ i := cv_le (by omega) (by omega) c_7
      refine e_aload_n f_87_28 rfl rfl ?_
      refine e_aload_n f_87_29 rfl rfl ?_
      refine e_getf f_87_30 g1.1 rfl rfl ?_
      refine e_putp (vs' := [.int (nI ev.length), .ref (a + 1), .ref (a + 2), .ref (a + 3), .ref (a + 4), .ref (a + 5), .int (nI os), .int (nI qs.length), .ref (a + 7), .int (nI ck), .int (nI un.length), .ref (a + 8)]) f_87_33 G0 (Nat.le_of_ble_eq_true rfl) (rfl) (rfl) rfl rfl (fun h2 g3 fx4 => ?_)
      have fr5 : px_fi a 9 h0 h2 := fi_tr frg fx4 (by omega)
      refine e_vret f_87_36 rfl ?_
      have g6 : px_pa h2 (a + 1) 50 24 evS ev := pa_fi G1 fx4 (by omega)
      have g7 : px_pa h2 (a + 2) 50 24 evK ev := pa_fi G2 fx4 (by omega)
      have g8 : px_pa h2 (a + 3) 50 24 evV ev := pa_fi G3 fx4 (by omega)
      have g9 : px_pa h2 (a + 4) 50 24 evT ev := pa_fi G4 fx4 (by omega)
      have g10 : pRows h2 (a + 5) 16 told := pRows_fi G5 fx4 (by omega)
      have g11 : px_pa h2 (a + 7) 50 24 vN (qs.take i) := pa_fi G6 fx4 (by omega)
      have g12 : px_pa h2 (a + 8) 50 266 vN un := pa_fi G7 fx4 (by omega)
      exact ⟨rfl, ⟨g3, g6, g7, g8, g9, g10, pa_eq g11 (by rw [show i = qs.length by omega, List.take_length]), g12⟩, fr5⟩
    · skip
      have c_7 : i < qs.length := cv_nle (by omega) (by omega) c_7
      refine e_aload_n f_87_10 rfl rfl ?_
      refine e_getf f_87_11 G0 rfl rfl ?_
      refine e_iload_n f_87_14 rfl rfl ?_
      refine e_aload_n f_87_15 rfl rfl ?_
      refine e_getf f_87_16 g1.1 rfl rfl ?_
      refine e_iload_n f_87_19 rfl rfl ?_
      refine e_iaload_p (xs := qs) f_87_20 g1.2 (d := 0) (by first | omega | (simp only [List.length_set]; omega)) rfl ?_
      show px_to 87 21 [some (.ref (a)), some (.ref (q)), some (.int (nI i))] [.int (nI (qs.getD i 0)), .int (nI i), .ref (a + 7)] g _
      refine e_iastore_a (xs := qs.take i) (x := qs.getD i 0) f_87_21 G6 (by omega) (by rw [List.length_take]; omega) (by omega) (rfl) rfl (fun h13 g14 fx15 => ?_)
      have fr16 : px_fi a 9 h0 h13 := fi_tr frg fx15 (by omega)
      refine e_iinc (y := nI (i + 1)) (L' := [some (.ref (a)), some (.ref (q)), some (.int (nI (i + 1)))]) f_87_22 rfl (by rw [show Int32.ofInt 1 = nI 1 by decide]; exact (nI_add _ _)) rfl rfl ?_
      refine e_goto f_87_25 ?_
      have g17 : px_pa h13 (a + 7) 50 24 vN (qs.take (i + 1)) := pa_eq g14 (take_s 0 (by omega)).symm
      have g18 : h13.2.2 a = some (10, [.int (nI ev.length), .ref (a + 1), .ref (a + 2), .ref (a + 3), .ref (a + 4), .ref (a + 5), .int (nI os), .int (ks), .ref (a + 7), .int (nI ck), .int (nI un.length), .ref (a + 8)]) := fi_at G0 fx15 (by omega)
      have g19 : px_pa h13 (a + 1) 50 24 evS ev := pa_fi G1 fx15 (by omega)
      have g20 : px_pa h13 (a + 2) 50 24 evK ev := pa_fi G2 fx15 (by omega)
      have g21 : px_pa h13 (a + 3) 50 24 evV ev := pa_fi G3 fx15 (by omega)
      have g22 : px_pa h13 (a + 4) 50 24 evT ev := pa_fi G4 fx15 (by omega)
      have g23 : pRows h13 (a + 5) 16 told := pRows_fi G5 fx15 (by omega)
      have g24 : px_pa h13 (a + 8) 50 266 vN un := pa_fi G7 fx15 (by omega)
      first | (exfalso; omega) | exact ih (d - 1) (by omega) (i + 1) h13 (by omega) (by omega) g18 g19 g20 g21 g22 g23 g17 g24 fr16

set_option maxRecDepth 20000 in
set_option maxHeartbeats 4000000 in
theorem cc_Case_keep {h : px_H} {q : Nat} {qs : List Nat} {a : Nat} {ev : List Ev} {told : List Row} {os : Nat} {ks : Int32} {kept : List Nat} {ck : Nat} {un : List Nat} (H0 : pCase h a ev told os ks kept ck un) (H1 : pOrd h q qs) (p0 : 17 ≤ a) (p1 : a + 9 ≤ q ∨ q + 2 ≤ a) : px_wp 87 [.ref (a), .ref (q)] h (fun h1 r => r = none ∧ pCase h1 a ev told os (nI qs.length) qs ck un ∧ px_fi a 9 h h1) := by
  have fr0 : px_fi a 9 h h := fi_rf _ _ _
  show px_to 87 0 [some (.ref (a)), some (.ref (q)), none] [] h _
  refine e_iconst (v := nI 0) f_87_0 (by decide) rfl ?_
  refine e_istore_n (L' := [some (.ref (a)), some (.ref (q)), some (.int (nI 0))]) f_87_1 (Nat.le_of_ble_eq_true rfl) rfl rfl ?_
  have g1 : h.2.2 a = some (10, [.int (nI ev.length), .ref (a + 1), .ref (a + 2), .ref (a + 3), .ref (a + 4), .ref (a + 5), .int (nI os), .int (ks), .ref (a + 7), .int (nI ck), .int (nI un.length), .ref (a + 8)]) := H0.1
  have g2 : px_pa h (a + 1) 50 24 evS ev := H0.2.1
  have g3 : px_pa h (a + 2) 50 24 evK ev := H0.2.2.1
  have g4 : px_pa h (a + 3) 50 24 evV ev := H0.2.2.2.1
  have g5 : px_pa h (a + 4) 50 24 evT ev := H0.2.2.2.2.1
  have g6 : px_pa h (a + 7) 50 24 vN kept := H0.2.2.2.2.2.2.1
  have g7 : px_pa h (a + 8) 50 266 vN un := H0.2.2.2.2.2.2.2
  have g8 : pRows h (a + 5) 16 told := H0.2.2.2.2.2.1
  exact ll_Case_keep (h0 := h) (kept := kept) H1 p0 p1 qs.length 0 h (by omega) (by omega) g1 g2 g3 g4 g5 g8 (by rw [List.take_zero]; exact pa_nil g6) g7 fr0
