theorem chg_ok {s : St} {wy : Nat} (h : okP s) (hw : wy + 1 < ways s) : okSt (chg s wy) := by
  obtain ⟨⟨h1, h2, h3⟩, h4, h5⟩ := h
  unfold chg
  by_cases c : wy < othN s
  · rw [if_pos c]
    have hfm : s.1 = 102 ∨ s.1 = 109 := by
      unfold othN at c
      split at c
      · omega
      · split at c <;> omega
    refine ⟨h1, ?_, fun z => by dsimp only at z; omega⟩
    show (actsOf s.1).getD _ 0 < 65536
    have hb : ∀ i, (actsOf s.1).getD i 0 < 65536 := fun i => by
      unfold actsOf
      split
      · match i with
        | 0 => decide
        | 1 => decide
        | 2 => decide
        | _ + 3 => exact (by decide : 0 < 65536)
      · match i with
        | 0 => decide
        | 1 => decide
        | 2 => decide
        | 3 => decide
        | _ + 4 => exact (by decide : 0 < 65536)
    exact hb _
  · rw [if_neg c]
    refine ⟨h1, h2, fun z => ?_⟩
    dsimp only at z ⊢
    obtain ⟨n, hn0, hn1, hn2⟩ := h5 z
    have ho : othN s = 0 := by unfold othN; rw [if_neg (by omega), if_neg (by omega)]
    have hy : ways s = 2 := by unfold ways; rw [if_neg (by omega), if_neg (by omega)]
    refine ⟨n + 1, by omega, by omega, ?_⟩
    rw [if_pos (by omega), hn2]
    exact nI_add _ _
theorem mutGo_ok (st wy : Nat) : ∀ (j : List St) (i : Nat), (∀ s ∈ j, okP s) → ∀ s ∈ mutGo st wy j i, okSt s
  | [], _, _, s, hs => nomatch hs
  | x :: r, i, h, s, hs => by
    have hr := mutGo_ok st wy r (i + 1) (fun y hy => h y (List.mem_cons_of_mem _ hy)) s
    rw [mutGo] at hs
    split at hs
    · split at hs
      · rcases List.mem_cons.mp hs with z | z
        · rw [z]; exact chg_ok (h x List.mem_cons_self) (by assumption)
        · exact hr z
      · exact hr hs
    · rcases List.mem_cons.mp hs with z | z
      · rw [z]; exact (h x List.mem_cons_self).1
      · exact hr z
theorem mutJ_ok {j : List St} {k : Nat} (h : okB j) : okJ (mutJ j k) := ⟨Nat.le_trans (mutGo_len _ _ _ _) h.1.1, mutGo_ok _ _ _ _ h.2⟩
theorem killN_app {j : List St} {k : Nat} {x : CS3} : ∀ (l : List CS3) (c : Nat), killN j k (l ++ [x]) c = killN j k l c + (if killB j x k = true then 2 ^ (c + l.length) else 0)
  | [], c => by
    show (if killB j x k = true then 2 ^ c else 0) + 0 = 0 + _
    rw [List.length_nil, Nat.add_zero, Nat.add_zero, Nat.zero_add]
  | y :: r, c => by
    rw [List.cons_append, killN, killN, killN_app r (c + 1), List.length_cons, show c + 1 + r.length = c + (r.length + 1) by omega]
    omega
theorem killN_lt {j : List St} {k : Nat} : ∀ (l : List CS3) (c : Nat), killN j k l c + 2 ^ c ≤ 2 ^ (c + l.length)
  | [], c => by
    show 0 + 2 ^ c ≤ 2 ^ (c + 0)
    rw [Nat.add_zero, Nat.zero_add]
    exact Nat.le_refl _
  | y :: r, c => by
    have h := killN_lt (j := j) (k := k) r (c + 1)
    rw [killN, List.length_cons, show c + (r.length + 1) = c + 1 + r.length by omega]
    rw [Nat.pow_succ] at h
    split <;> omega
def kIn (j : List St) (l : List CS3) (x : CS3) (q : Nat) : List Int32 := (List.range 30).map (fun k => if k < jMut j then nI (killN j k l 0 + (if k < q ∧ killB j x k = true then 2 ^ l.length else 0)) else nI 0)
theorem kIn_len (j : List St) (l : List CS3) (x : CS3) (q : Nat) : (kIn j l x q).length = 30 := by unfold kIn; rw [List.length_map, List.length_range]
theorem killL_len (j : List St) (l : List CS3) : (killL j l).length = 30 := by unfold killL; rw [List.length_map, List.length_range]
theorem kIn_0 (j : List St) (l : List CS3) (x : CS3) : kIn j l x 0 = killL j l := by
  unfold kIn killL
  apply List.map_congr_left
  intro k _
  rw [if_neg (show ¬ (k < 0 ∧ killB j x k = true) from fun z => absurd z.1 (Nat.not_lt_zero _)), Nat.add_zero]
theorem kIn_end {j : List St} {l : List CS3} {x : CS3} {q : Nat} (h : jMut j ≤ q ∨ 30 ≤ q) : kIn j l x q = killL j (l ++ [x]) := by
  unfold kIn killL
  apply List.map_congr_left
  intro k hk
  have hk := List.mem_range.mp hk
  by_cases c : k < jMut j
  · rw [if_pos c, if_pos c, killN_app, Nat.zero_add]
    by_cases c2 : killB j x k = true
    · rw [if_pos ⟨by omega, c2⟩, if_pos c2]
    · rw [if_neg (fun z => c2 z.2), if_neg c2]
  · rw [if_neg c, if_neg c]
theorem killL_no {j : List St} {l : List CS3} {x : CS3} (h : ¬ vdE j x x.1 = 1) : killL j (l ++ [x]) = killL j l := by
  unfold killL
  apply List.map_congr_left
  intro k _
  have : ¬ killB j x k = true := fun z => h (of_decide_eq_true z).1
  rw [killN_app, if_neg this, Nat.add_zero]
theorem kIn_get {j : List St} {l : List CS3} {x : CS3} {q i : Nat} (h : i < jMut j) (h3 : i < 30) (hi : q ≤ i) : (kIn j l x q).getD i 0 = nI (killN j i l 0) := by
  unfold kIn
  rw [List.getD_eq_getElem?_getD, List.getElem?_map, List.getElem?_range h3]
  show (if i < jMut j then _ else _) = _
  rw [if_pos h, if_neg (fun z => by omega), Nat.add_zero]
theorem kIn_set {j : List St} {l : List CS3} {x : CS3} {q : Nat} (h : q < jMut j) (h3 : q < 30) (hb : killB j x q = true) : (kIn j l x q).set q (nI (killN j q l 0 + 1 * 2 ^ l.length)) = kIn j l x (q + 1) := by
  apply List.ext_getElem
  · rw [List.length_set, kIn_len, kIn_len]
  · intro i h1 h2
    rw [kIn_len] at h2
    rw [List.getElem_set]
    simp only [kIn, List.getElem_map, List.getElem_range]
    by_cases c : q = i
    · subst c
      rw [if_pos rfl, if_pos h, if_pos ⟨by omega, hb⟩, Nat.one_mul]
    · rw [if_neg c]
      by_cases c2 : i < q
      · by_cases c3 : killB j x i = true
        · rw [if_pos (show i < q ∧ _ from ⟨c2, c3⟩), if_pos (show i < q + 1 ∧ _ from ⟨by omega, c3⟩)]
        · rw [if_neg (show ¬ (i < q ∧ _) from fun z => c3 z.2), if_neg (show ¬ (i < q + 1 ∧ _) from fun z => c3 z.2)]
      · rw [if_neg (show ¬ (i < q ∧ _) from fun z => c2 z.1), if_neg (show ¬ (i < q + 1 ∧ _) from fun z => by omega)]
theorem kIn_no {j : List St} {l : List CS3} {x : CS3} {q : Nat} (hb : ¬ killB j x q = true) : kIn j l x q = kIn j l x (q + 1) := by
  unfold kIn
  apply List.map_congr_left
  intro i _
  by_cases c3 : killB j x i = true
  · by_cases c2 : i < q
    · rw [if_pos (show i < q ∧ _ from ⟨c2, c3⟩), if_pos (show i < q + 1 ∧ _ from ⟨by omega, c3⟩)]
    · have : i ≠ q := fun e => hb (e ▸ c3)
      rw [if_neg (show ¬ (i < q ∧ _) from fun z => c2 z.1), if_neg (show ¬ (i < q + 1 ∧ _) from fun z => by omega)]
  · rw [if_neg (show ¬ (i < q ∧ _) from fun z => c3 z.2), if_neg (show ¬ (i < q + 1 ∧ _) from fun z => c3 z.2)]
theorem killL_nil (j : List St) : killL j [] = List.replicate 30 (nI 0) := by
  unfold killL
  rw [show (List.replicate 30 (nI 0)) = (List.range 30).map (fun _ => nI 0) by decide]
  apply List.map_congr_left
  intro k _
  show (if k < jMut j then nI 0 else nI 0) = nI 0
  split <;> rfl
theorem take_c3 {cs : List CT7} {c : Nat} (h : c < cs.length) : (cs.map c3of).take (c + 1) = (cs.map c3of).take c ++ [c3of (cs.getD c ct0)] := by
  rw [take_s c30 (by rw [List.length_map]; exact h), map_c3 h]

set_option maxRecDepth 20000 in
set_option maxHeartbeats 4000000 in
theorem ll_JT_kz {P : px_H → Option Value → Prop} {h0 : px_H} {j : List St} {L S D : Nat} {pz kk ck : Bool} (HJ : h0.2.2 17 = some (11, [.ref (18), .int (nI L), .ref (S), .ref (D), .ref (175), .ref (177), .ref (249), .ref (254), .ref (256), .ref (258), .ref (261), .ref (265), .int (bI pz), .ref (267), .int (bI kk), .ref (268), .int (bI ck)])) (kx : ∀ g, px_pa g 267 50 30 Value.int (List.replicate 30 (nI 0)) → px_fi 267 1 h0 g → px_to 116 40 [some (.ref (17)), some (.int (nI (jMut j))), none, none, none] [] g P) : ∀ (d : Nat) (i : Nat) (kl : List Int32) (g : px_H), (30 ≤ i + d) → (i ≤ 30) → (kl.length = 30) → (kl.take i = List.replicate i (nI 0)) → px_pa g 267 50 30 Value.int kl → px_fi 267 1 h0 g → px_to 116 21 [some (.ref (17)), some (.int (nI (jMut j))), some (.int (nI i)), none, none] [] g P := by
  intro d
  induction d using Nat.strongRecOn with
  | ind d ih =>
    intro i kl g q0 q1 q2 q3 G0 frg
    refine e_iload_n f_116_21 rfl rfl ?_
    refine e_bipush (v := nI 30) f_116_22 (by decide) rfl ?_
    refine e_icmp_ge f_116_24 rfl (fun c_24 => ?_) (fun c_24 => ?_)
    · skip
      have c_24 : 30 ≤ i := cv_le (by omega) (by omega) c_24
      refine px_to_L (L := [some (.ref (17)), some (.int (nI (jMut j))), none, none, none]) ⟨Or.inr rfl, Or.inr rfl, Or.inl rfl, Or.inr rfl, Or.inr rfl, trivial⟩ ?_
      have e : i = 30 := by omega
      subst e
      rw [take_all q2] at q3
      subst q3
      exact kx g G0 frg
    · skip
      have c_24 : i < 30 := cv_nle (by omega) (by omega) c_24
      refine e_aload_n f_116_27 rfl rfl ?_
      have g1 : g.2.2 17 = some (11, [.ref (18), .int (nI L), .ref (S), .ref (D), .ref (175), .ref (177), .ref (249), .ref (254), .ref (256), .ref (258), .ref (261), .ref (265), .int (bI pz), .ref (267), .int (bI kk), .ref (268), .int (bI ck)]) := fi_at HJ frg (by omega)
      refine e_getf f_116_28 g1 rfl rfl ?_
      refine e_iload_n f_116_31 rfl rfl ?_
      refine e_iconst (v := nI 0) f_116_32 (by decide) rfl ?_
      refine e_iastore_p (xs := kl) (x := nI 0) f_116_33 G0 (by omega) (by first | omega | (simp only [List.length_set]; omega)) (rfl) rfl (fun h2 g3 fx4 => ?_)
      have fr5 : px_fi 267 1 h0 h2 := fi_tr frg fx4 (by omega)
      refine e_iinc (y := nI (i + 1)) (L' := [some (.ref (17)), some (.int (nI (jMut j))), some (.int (nI (i + 1))), none, none]) f_116_34 rfl (by rw [show Int32.ofInt 1 = nI 1 by decide]; exact (nI_add _ _)) rfl rfl ?_
      refine e_goto f_116_37 ?_
      first | (exfalso; omega) | exact ih (d - 1) (by omega) (i + 1) (kl.set i (nI 0)) h2 (by omega) (by omega) (by rw [List.length_set]; exact q2) (set_last (d := 0) (show i < 30 by omega) q2 q3) g3 fr5

set_option maxRecDepth 20000 in
set_option maxHeartbeats 4000000 in
theorem ll_JT_ki {P : px_H → Option Value → Prop} {h0 : px_H} {wo0 : Int32} {x0 : RO} {c : Nat} {j : List St} {cs : List CT7} {L S D : Nat} {pz kk ck : Bool} (HJ : h0.2.2 17 = some (11, [.ref (18), .int (nI L), .ref (S), .ref (D), .ref (175), .ref (177), .ref (249), .ref (254), .ref (256), .ref (258), .ref (261), .ref (265), .int (bI pz), .ref (267), .int (bI kk), .ref (268), .int (bI ck)])) (HS : h0.2.2 S = some (8, [.ref (S + 1), .ref (S + 5), .int (nI cs.length)])) (HB : pJob h0 (S + 1) j) (HR : px_rs h0 (S + 5) 56 8 (fun k => S + 9 * k + 6)) (HC : pCs h0 S cs) (H1 : pStr h0 1 ([60, 61, 62])) (H2 : pStr h0 2 ([43, 45, 42, 47])) (p2 : okB j) (p3 : ∀ t ∈ cs, okT t) (p4 : cs.length ≤ 8) (p5 : 18 < S ∧ S + 78 ≤ 175) (hc : c < cs.length) (hv1 : vdE j (c3of (cs.getD c ct0)) (cs.getD c ct0).1 = 1) (kx : ∀ wo x g, pRun g wo x → pOrA g 254 → pJud g → pJA g 261 → px_pa g 267 50 30 Value.int (killL j ((cs.map c3of).take (c + 1))) → px_fl [(177, 79), (261, 4), (267, 1)] h0 g → (wo = -3 ∨ (wo = wo0 ∧ x = x0)) → px_to 116 189 [some (.ref (17)), some (.int (nI (jMut j))), some (.int (nI c)), none, none] [] g P) : ∀ (d : Nat) (q : Nat) (wo : Int32) (x : RO) (g : px_H), (30 < q + d) → ((wo = -3 ∨ (wo = wo0 ∧ x = x0))) → (q ≤ 30) → pRun g wo x → pOrd g 254 (List.range (cs.getD c ct0).1.length) → pJud g → pJA g 261 → px_pa g 267 50 30 Value.int (kIn j ((cs.map c3of).take c) (c3of (cs.getD c ct0)) q) → px_fl [(177, 79), (261, 4), (267, 1)] h0 g → px_to 116 109 [some (.ref (17)), some (.int (nI (jMut j))), some (.int (nI c)), some (.ref (S + 9 * c + 6)), some (.int (nI q))] [] g P := by
  intro d
  induction d using Nat.strongRecOn with
  | ind d ih =>
    intro q wo x g q0 q1 q2 G0 G1 G2 G3 G4 frg
    have lj := p2.1.1
    have ljm := jMut_le j
    have hkn := kIn_len j ((cs.map c3of).take c) (c3of (cs.getD c ct0)) q
    refine e_iload f_116_109 rfl rfl ?_
    refine e_iload_n f_116_111 rfl rfl ?_
    refine e_icmp_ge f_116_112 rfl (fun c_112 => ?_) (fun c_112 => ?_)
    · skip
      have c_112 : jMut j ≤ q := cv_le (by omega) (by omega) c_112
      refine px_to_L (L := [some (.ref (17)), some (.int (nI (jMut j))), some (.int (nI c)), none, none]) ⟨Or.inr rfl, Or.inr rfl, Or.inr rfl, Or.inl rfl, Or.inl rfl, trivial⟩ ?_
      have g1 : px_pa g 267 50 30 Value.int (killL j ((cs.map c3of).take (c + 1))) := pa_eq G4 (by rw [take_c3 hc]; exact kIn_end (by omega))
      have g2 : pOrA g 254 := ⟨_, G1⟩
      exact kx wo x g G0 g2 G2 G3 g1 frg q1
    · skip
      have c_112 : q < jMut j := cv_nle (by omega) (by omega) c_112
      refine e_iload f_116_115 rfl rfl ?_
      refine e_bipush (v := nI 30) f_116_117 (by decide) rfl ?_
      refine e_icmp_ge f_116_119 rfl (fun c_119 => ?_) (fun c_119 => ?_)
      · skip
        have c_119 : 30 ≤ q := cv_le (by omega) (by omega) c_119
        refine px_to_L (L := [some (.ref (17)), some (.int (nI (jMut j))), some (.int (nI c)), none, none]) ⟨Or.inr rfl, Or.inr rfl, Or.inr rfl, Or.inl rfl, Or.inl rfl, trivial⟩ ?_
        have g3 : px_pa g 267 50 30 Value.int (killL j ((cs.map c3of).take (c + 1))) := pa_eq G4 (by rw [take_c3 hc]; exact kIn_end (by omega))
        have g4 : pOrA g 254 := ⟨_, G1⟩
        exact kx wo x g G0 g4 G2 G3 g3 frg q1
      · skip
        have c_119 : q < 30 := cv_nle (by omega) (by omega) c_119
        have gc5 : pCase h0 (S + 9 * c + 6) ((cs.getD c ct0).1) ((cs.getD c ct0).2.1) ((cs.getD c ct0).2.2.1) ((cs.getD c ct0).2.2.2.1) ((cs.getD c ct0).2.2.2.2.1) ((cs.getD c ct0).2.2.2.2.2.1) ((cs.getD c ct0).2.2.2.2.2.2) := (pCs_get (k := c) HC (by omega) (by omega)).1
        have hct : okT (cs.getD c ct0) := p3 _ (getD_mem _ (by omega))
        have hmj : okJ (mutJ j q) := mutJ_ok p2
        have hre := runO_ok (es := (evs (cs.getD c ct0).1 (List.range (cs.getD c ct0).1.length))) hmj (by rw [evs_all]; exact hct.2.1)
        refine e_aload_n f_116_122 rfl rfl ?_
        obtain ⟨hm7, fa8, fb9⟩ := fl_mid frg
        obtain ⟨hm10, fa11, fb12⟩ := fl_mid fb9
        have g6 : g.2.2 17 = some (11, [.ref (18), .int (nI L), .ref (S), .ref (D), .ref (175), .ref (177), .ref (249), .ref (254), .ref (256), .ref (258), .ref (261), .ref (265), .int (bI pz), .ref (267), .int (bI kk), .ref (268), .int (bI ck)]) := fi_at (fi_at (fi_at HJ fa8 (by omega)) fa11 (by omega)) (fl_one fb12) (by omega)
        refine e_getf f_116_123 g6 rfl rfl ?_
        refine e_aload_n f_116_126 rfl rfl ?_
        refine e_getf f_116_127 g6 rfl rfl ?_
        obtain ⟨hm14, fa15, fb16⟩ := fl_mid frg
        obtain ⟨hm17, fa18, fb19⟩ := fl_mid fb16
        have g13 : g.2.2 S = some (8, [.ref (S + 1), .ref (S + 5), .int (nI cs.length)]) := fi_at (fi_at (fi_at HS fa15 (by omega)) fa18 (by omega)) (fl_one fb19) (by omega)
        refine e_getf f_116_130 g13 rfl rfl ?_
        refine e_iload f_116_133 rfl rfl ?_
        obtain ⟨q20, g21⟩ := id G3
        obtain ⟨hm23, fa24, fb25⟩ := fl_mid frg
        obtain ⟨hm26, fa27, fb28⟩ := fl_mid fb25
        have g22 : pJob g (S + 1) j := pJob_fi (pJob_fi (pJob_fi HB fa24 (by omega)) fa27 (by omega)) (fl_one fb28) (by omega)
        obtain ⟨hm30, fa31, fb32⟩ := fl_mid frg
        obtain ⟨hm33, fa34, fb35⟩ := fl_mid fb32
        have g29 : pStr g 1 ([60, 61, 62]) := pStr_fi (pStr_fi (pStr_fi H1 fa31 (by omega)) fa34 (by omega)) (fl_one fb35) (by omega)
        obtain ⟨hm37, fa38, fb39⟩ := fl_mid frg
        obtain ⟨hm40, fa41, fb42⟩ := fl_mid fb39
        have g36 : pStr g 2 ([43, 45, 42, 47]) := pStr_fi (pStr_fi (pStr_fi H2 fa38 (by omega)) fa41 (by omega)) (fl_one fb42) (by omega)
        refine e_callV (As := [.ref (S + 1), .int (nI q)]) (rest := []) f_116_135 rfl rfl rfl (Nat.le_of_ble_eq_true rfl) (Nat.le_of_ble_eq_true rfl) g21.1 rfl (Nat.le_of_ble_eq_true rfl) (cc_Job_mut (b := 261) (q := q20) (a := S + 1) (j := j) (k := q) g21 g22 g29 g36 (by omega) (by omega) (p2.2) (by omega)) rfl (fun h43 r44 q45 => ?_)
        obtain ⟨rfl, g46, fx47⟩ := q45
        have fr48 : px_fl [(177, 79), (261, 4), (267, 1)] h0 h43 := fl_tr frg fx47 (by first | exact ⟨_, List.mem_cons_self, by omega, by omega⟩ | exact ⟨_, List.mem_cons_of_mem _ (List.mem_cons_self), by omega, by omega⟩ | exact ⟨_, List.mem_cons_of_mem _ (List.mem_cons_of_mem _ (List.mem_cons_self)), by omega, by omega⟩)
        show px_to 116 138 [some (.ref (17)), some (.int (nI (jMut j))), some (.int (nI c)), some (.ref (S + 9 * c + 6)), some (.int (nI q))] [] h43 _
        refine e_aload_n f_116_138 rfl rfl ?_
        obtain ⟨hm50, fa51, fb52⟩ := fl_mid fr48
        obtain ⟨hm53, fa54, fb55⟩ := fl_mid fb52
        have g49 : h43.2.2 17 = some (11, [.ref (18), .int (nI L), .ref (S), .ref (D), .ref (175), .ref (177), .ref (249), .ref (254), .ref (256), .ref (258), .ref (261), .ref (265), .int (bI pz), .ref (267), .int (bI kk), .ref (268), .int (bI ck)]) := fi_at (fi_at (fi_at HJ fa51 (by omega)) fa54 (by omega)) (fl_one fb55) (by omega)
        refine e_getf f_116_139 g49 rfl rfl ?_
        refine e_aload_n f_116_142 rfl rfl ?_
        refine e_getf f_116_143 g49 rfl rfl ?_
        refine e_aload_n f_116_146 rfl rfl ?_
        refine e_aload_n f_116_147 rfl rfl ?_
        refine e_getf f_116_148 g49 rfl rfl ?_
        have g56 : pRun h43 wo x := pRun_fi G0 fx47 (by omega)
        obtain ⟨jb57, gv58, la59, lb60, A61, B62, W63, sms64, tl65, A366, B367, W368, S369, sm370, hl78, g71, g72, g73, g74, g75, g76, g77⟩ := id g56
        obtain ⟨hm80, fa81, fb82⟩ := fl_mid fr48
        obtain ⟨hm83, fa84, fb85⟩ := fl_mid fb82
        have g79 : pCase h43 (S + 9 * c + 6) ((cs.getD c ct0).1) ((cs.getD c ct0).2.1) ((cs.getD c ct0).2.2.1) ((cs.getD c ct0).2.2.2.1) ((cs.getD c ct0).2.2.2.2.1) ((cs.getD c ct0).2.2.2.2.2.1) ((cs.getD c ct0).2.2.2.2.2.2) := pCase_fi (pCase_fi (pCase_fi gc5 fa81 (by omega)) fa84 (by omega)) (fl_one fb85) (by omega)
        have g86 : pOrd h43 254 (List.range (cs.getD c ct0).1.length) := pOrd_fi G1 fx47 (by omega)
        refine e_callV (As := [.ref (261), .ref (S + 9 * c + 6), .ref (254)]) (rest := []) f_116_151 rfl rfl rfl (Nat.le_of_ble_eq_true rfl) (Nat.le_of_ble_eq_true rfl) g71 rfl (Nat.le_of_ble_eq_true rfl) (cc_Run_perf (od := 254) (ps := List.range (cs.getD c ct0).1.length) (j := mutJ j q) (jb := 261) (a := S + 9 * c + 6) (ev := (cs.getD c ct0).1) (told := (cs.getD c ct0).2.1) (os := (cs.getD c ct0).2.2.1) (ks := (cs.getD c ct0).2.2.2.1) (kept := (cs.getD c ct0).2.2.2.2.1) (ck := (cs.getD c ct0).2.2.2.2.2.1) (un := (cs.getD c ct0).2.2.2.2.2.2) (jb0 := jb57) (gv := gv58) (la0 := la59) (lb0 := lb60) (z := x.2.2.1) (dn := x.2.2.2) (wo := wo) (A := A61) (B := B62) (W := W63) (S := x.1) (sms := sms64) (outs := x.2.1) (tl := tl65) (A3 := A366) (B3 := B367) (W3 := W368) (S3 := S369) (sm3 := sm370) g71 g72 g73 g74 g75 g76 g77 g46 g79 g86 (hmj) (by omega) (by omega) (by omega) (fun p hp => List.mem_range.mp hp) (hct.2.1) (hl78)) rfl (fun h87 r88 q89 => ?_)
        obtain ⟨rfl, g90, g91, g92, g93, g94, g95, g96, fx97⟩ := q89
        have fr98 : px_fl [(177, 79), (261, 4), (267, 1)] h0 h87 := fl_tr fr48 fx97 (by first | exact ⟨_, List.mem_cons_self, by omega, by omega⟩ | exact ⟨_, List.mem_cons_of_mem _ (List.mem_cons_self), by omega, by omega⟩ | exact ⟨_, List.mem_cons_of_mem _ (List.mem_cons_of_mem _ (List.mem_cons_self)), by omega, by omega⟩)
        show px_to 116 154 [some (.ref (17)), some (.int (nI (jMut j))), some (.int (nI c)), some (.ref (S + 9 * c + 6)), some (.int (nI q))] [] h87 _
        have okr99 := runS_ok (es := (evs (cs.getD c ct0).1 (List.range (cs.getD c ct0).1.length))) (tl := tl65) hmj (by rw [evs_all]; exact hct.2.1) hl78
        have er100 := runO_eq (mutJ j q) (evs (cs.getD c ct0).1 (List.range (cs.getD c ct0).1.length)) tl65
        have g101 : pRun h87 (-3) (outOf (runS (mutJ j q) (evs (cs.getD c ct0).1 (List.range (cs.getD c ct0).1.length)) tl65)) := ⟨_, _, _, _, _, _, _, _, _, _, _, _, _, _, okr99.1.2.1, g90, g91, g92, g93, g94, g95, g96⟩
        have g102 : pRun h87 (-3) (runO (mutJ j q) (evs (cs.getD c ct0).1 (List.range (cs.getD c ct0).1.length))) := by have z := g101; rw [er100] at z; exact z
        obtain ⟨jb103, gv104, la105, lb106, A107, B108, W109, sms110, tl111, A3112, B3113, W3114, S3115, sm3116, hl124, g117, g118, g119, g120, g121, g122, g123⟩ := id g102
        refine e_aload_n f_116_154 rfl rfl ?_
        obtain ⟨hm126, fa127, fb128⟩ := fl_mid fr98
        obtain ⟨hm129, fa130, fb131⟩ := fl_mid fb128
        have g125 : h87.2.2 17 = some (11, [.ref (18), .int (nI L), .ref (S), .ref (D), .ref (175), .ref (177), .ref (249), .ref (254), .ref (256), .ref (258), .ref (261), .ref (265), .int (bI pz), .ref (267), .int (bI kk), .ref (268), .int (bI ck)]) := fi_at (fi_at (fi_at HJ fa127 (by omega)) fa130 (by omega)) (fl_one fb131) (by omega)
        refine e_getf f_116_155 g125 rfl rfl ?_
        refine e_aload_n f_116_158 rfl rfl ?_
        refine e_aload_n f_116_159 rfl rfl ?_
        refine e_getf f_116_160 g125 rfl rfl ?_
        have g132 : pJud h43 := pJud_fi G2 fx47 (by omega)
        have g133 : pJud h87 := pJud_fi g132 fx97 (by omega)
        obtain ⟨g136, ⟨sa134, g137⟩, sb135, g138⟩ := g133
        obtain ⟨hm140, fa141, fb142⟩ := fl_mid fr98
        obtain ⟨hm143, fa144, fb145⟩ := fl_mid fb142
        have g139 : pCase h87 (S + 9 * c + 6) ((cs.getD c ct0).1) ((cs.getD c ct0).2.1) ((cs.getD c ct0).2.2.1) ((cs.getD c ct0).2.2.2.1) ((cs.getD c ct0).2.2.2.2.1) ((cs.getD c ct0).2.2.2.2.2.1) ((cs.getD c ct0).2.2.2.2.2.2) := pCase_fi (pCase_fi (pCase_fi gc5 fa141 (by omega)) fa144 (by omega)) (fl_one fb145) (by omega)
        refine e_callV (As := [.ref (S + 9 * c + 6), .ref (177)]) (rest := []) f_116_163 rfl rfl rfl (Nat.le_of_ble_eq_true rfl) (Nat.le_of_ble_eq_true rfl) g136 rfl (Nat.le_of_ble_eq_true rfl) (cc_Jud_vd (outs := (runO (mutJ j q) (evs (cs.getD c ct0).1 (List.range (cs.getD c ct0).1.length))).2.1) (s1 := sa134) (s2 := sb135) (jb := jb103) (gv := gv104) (la := la105) (lb := lb106) (z := ((runO (mutJ j q) (evs (cs.getD c ct0).1 (List.range (cs.getD c ct0).1.length))).2.2.1)) (dn := (runO (mutJ j q) (evs (cs.getD c ct0).1 (List.range (cs.getD c ct0).1.length))).2.2.2) (wo := (-3)) (a := S + 9 * c + 6) (ev := (cs.getD c ct0).1) (told := (cs.getD c ct0).2.1) (os := (cs.getD c ct0).2.2.1) (ks := (cs.getD c ct0).2.2.2.1) (kept := (cs.getD c ct0).2.2.2.2.1) (ck := (cs.getD c ct0).2.2.2.2.2.1) (un := (cs.getD c ct0).2.2.2.2.2.2) g136 g137 g138 g139 g121 g117 (by have := hct.2.2.2.2; dsimp only at this; omega) (hre.1) (hct.2.2.2.1) (by omega) (hre.2.2)) rfl (fun h146 r147 q148 => ?_)
        obtain ⟨rfl, g149, g150, g151, fx152⟩ := q148
        have fr153 : px_fl [(177, 79), (261, 4), (267, 1)] h0 h146 := fl_tr fr98 fx152 (by first | exact ⟨_, List.mem_cons_self, by omega, by omega⟩ | exact ⟨_, List.mem_cons_of_mem _ (List.mem_cons_self), by omega, by omega⟩ | exact ⟨_, List.mem_cons_of_mem _ (List.mem_cons_of_mem _ (List.mem_cons_self)), by omega, by omega⟩)
        show px_to 116 166 [some (.ref (17)), some (.int (nI (jMut j))), some (.int (nI c)), some (.ref (S + 9 * c + 6)), some (.int (nI q))] [.int (nI (vd ((cs.getD c ct0).2.2.1) ((runO (mutJ j q) (evs (cs.getD c ct0).1 (List.range (cs.getD c ct0).1.length))).2.2.1) ((runO (mutJ j q) (evs (cs.getD c ct0).1 (List.range (cs.getD c ct0).1.length))).2.1) ((cs.getD c ct0).2.1)))] h146 _
        have g154 : h146.2.2 177 = some (6, [.ref (jb103), .ref (182), .ref (214), .ref (246), .int (nI gv104), .int (bI la105), .int (bI lb106), .int (oI ((runO (mutJ j q) (evs (cs.getD c ct0).1 (List.range (cs.getD c ct0).1.length))).2.2.1)), .int ((runO (mutJ j q) (evs (cs.getD c ct0).1 (List.range (cs.getD c ct0).1.length))).2.2.2), .int ((-3)), .ref (248)]) := fi_at g117 fx152 (by omega)
        have g155 : h146.2.2 182 = some (2, [.int (A107), .int (B108), .int (W109), .int ((runO (mutJ j q) (evs (cs.getD c ct0).1 (List.range (cs.getD c ct0).1.length))).1), .ref (183)]) := fi_at g118 fx152 (by omega)
        have g156 : px_rs h146 183 55 6 (fun k => 182 + 5 * k + 2) := rs_fi g119 fx152 (by omega)
        have g157 : pSt h146 182 sms110 := pSt_fi g120 fx152 (by omega)
        have g158 : pRows h146 246 96 ((runO (mutJ j q) (evs (cs.getD c ct0).1 (List.range (cs.getD c ct0).1.length))).2.1) := pRows_fi g121 fx152 (by omega)
        have g159 : px_pa h146 248 50 30 Value.int tl111 := pa_fi g122 fx152 (by omega)
        have g160 : pMm h146 214 A3112 B3113 W3114 S3115 sm3116 := pMm_fi g123 fx152 (by omega)
        have g161 : pRun h146 (-3) (runO (mutJ j q) (evs (cs.getD c ct0).1 (List.range (cs.getD c ct0).1.length))) := ⟨_, _, _, _, _, _, _, _, _, _, _, _, _, _, hl124, g154, g155, g156, g157, g158, g159, g160⟩
        have hvl := vd_le (cs.getD c ct0).2.2.1 (runO (mutJ j q) (evs (cs.getD c ct0).1 (List.range (cs.getD c ct0).1.length))).2.2.1 (runO (mutJ j q) (evs (cs.getD c ct0).1 (List.range (cs.getD c ct0).1.length))).2.1 (cs.getD c ct0).2.1
        have hve : vd (cs.getD c ct0).2.2.1 (runO (mutJ j q) (evs (cs.getD c ct0).1 (List.range (cs.getD c ct0).1.length))).2.2.1 (runO (mutJ j q) (evs (cs.getD c ct0).1 (List.range (cs.getD c ct0).1.length))).2.1 (cs.getD c ct0).2.1 = vdE (mutJ j q) (c3of (cs.getD c ct0)) (cs.getD c ct0).1 := by rw [evs_all]; rfl
        refine e_iconst (v := nI 1) f_116_166 (by decide) rfl ?_
        refine e_icmp_eq f_116_167 rfl (fun c_167 => ?_) (fun c_167 => ?_)
        · skip
          have c_167 : vd ((cs.getD c ct0).2.2.1) ((runO (mutJ j q) (evs (cs.getD c ct0).1 (List.range (cs.getD c ct0).1.length))).2.2.1) ((runO (mutJ j q) (evs (cs.getD c ct0).1 (List.range (cs.getD c ct0).1.length))).2.1) ((cs.getD c ct0).2.1) = 1 := cv_eq (by omega) (by omega) c_167
          have hnb : ¬ killB j (c3of (cs.getD c ct0)) q = true := fun z => (of_decide_eq_true z).2 (hve.symm.trans c_167)
          refine e_iinc (y := nI (q + 1)) (L' := [some (.ref (17)), some (.int (nI (jMut j))), some (.int (nI c)), some (.ref (S + 9 * c + 6)), some (.int (nI (q + 1)))]) f_116_183 rfl (by rw [show Int32.ofInt 1 = nI 1 by decide]; exact (nI_add _ _)) rfl rfl ?_
          refine e_goto f_116_186 ?_
          have g162 : px_pa h43 267 50 30 Value.int (kIn j ((cs.map c3of).take c) (c3of (cs.getD c ct0)) q) := pa_fi G4 fx47 (by omega)
          have g163 : px_pa h87 267 50 30 Value.int (kIn j ((cs.map c3of).take c) (c3of (cs.getD c ct0)) q) := pa_fi g162 fx97 (by omega)
          have g164 : px_pa h146 267 50 30 Value.int (kIn j ((cs.map c3of).take c) (c3of (cs.getD c ct0)) q) := pa_fi g163 fx152 (by omega)
          have g165 : px_pa h146 267 50 30 Value.int (kIn j ((cs.map c3of).take c) (c3of (cs.getD c ct0)) (q + 1)) := pa_eq g164 (kIn_no hnb)
          have g166 : pOrd h87 254 (List.range (cs.getD c ct0).1.length) := pOrd_fi g86 fx97 (by omega)
          have g167 : pOrd h146 254 (List.range (cs.getD c ct0).1.length) := pOrd_fi g166 fx152 (by omega)
          have g168 : pJud h146 := ⟨g149, ⟨_, g150⟩, _, g151⟩
          have g169 : pJob h87 261 (mutJ j q) := pJob_fi g46 fx97 (by omega)
          have g170 : pJob h146 261 (mutJ j q) := pJob_fi g169 fx152 (by omega)
          have g171 : pJA h146 261 := ⟨_, g170⟩
          first | (exfalso; omega) | exact ih (d - 1) (by omega) (q + 1) (-3) (runO (mutJ j q) (evs (cs.getD c ct0).1 (List.range (cs.getD c ct0).1.length))) h146 (by omega) (Or.inl rfl) (by omega) g161 g167 g168 g171 g165 fr153
        · skip
          have c_167 : vd ((cs.getD c ct0).2.2.1) ((runO (mutJ j q) (evs (cs.getD c ct0).1 (List.range (cs.getD c ct0).1.length))).2.2.1) ((runO (mutJ j q) (evs (cs.getD c ct0).1 (List.range (cs.getD c ct0).1.length))).2.1) ((cs.getD c ct0).2.1) ≠ 1 := cv_ne c_167
          have hnb : killB j (c3of (cs.getD c ct0)) q = true := decide_eq_true ⟨hv1, fun z => c_167 (hve.trans z)⟩
          refine e_aload_n f_116_170 rfl rfl ?_
          obtain ⟨hm173, fa174, fb175⟩ := fl_mid fr153
          obtain ⟨hm176, fa177, fb178⟩ := fl_mid fb175
          have g172 : h146.2.2 17 = some (11, [.ref (18), .int (nI L), .ref (S), .ref (D), .ref (175), .ref (177), .ref (249), .ref (254), .ref (256), .ref (258), .ref (261), .ref (265), .int (bI pz), .ref (267), .int (bI kk), .ref (268), .int (bI ck)]) := fi_at (fi_at (fi_at HJ fa174 (by omega)) fa177 (by omega)) (fl_one fb178) (by omega)
          refine e_getf f_116_171 g172 rfl rfl ?_
          refine e_iload f_116_174 rfl rfl ?_
          refine e_dup2 f_116_176 rfl rfl rfl ?_
          have g179 : px_pa h43 267 50 30 Value.int (kIn j ((cs.map c3of).take c) (c3of (cs.getD c ct0)) q) := pa_fi G4 fx47 (by omega)
          have g180 : px_pa h87 267 50 30 Value.int (kIn j ((cs.map c3of).take c) (c3of (cs.getD c ct0)) q) := pa_fi g179 fx97 (by omega)
          have g181 : px_pa h146 267 50 30 Value.int (kIn j ((cs.map c3of).take c) (c3of (cs.getD c ct0)) q) := pa_fi g180 fx152 (by omega)
          refine e_iaload_p (xs := kIn j ((cs.map c3of).take c) (c3of (cs.getD c ct0)) q) f_116_177 g181 (d := 0) (by first | omega | (simp only [List.length_set]; omega)) rfl ?_
          show px_to 116 178 [some (.ref (17)), some (.int (nI (jMut j))), some (.int (nI c)), some (.ref (S + 9 * c + 6)), some (.int (nI q))] [.int ((kIn j ((cs.map c3of).take c) (c3of (cs.getD c ct0)) q).getD q 0), .int (nI q), .ref (267)] h146 _
          rw [kIn_get (show q < jMut j by omega) (show q < 30 by omega) (Nat.le_refl _)]
          have hkl := killN_lt (j := j) (k := q) ((cs.map c3of).take c) 0
          rw [List.length_take, List.length_map, Nat.min_eq_left (by omega), Nat.zero_add, Nat.pow_zero] at hkl
          refine e_iconst (v := nI 1) f_116_178 (by decide) rfl ?_
          refine e_iload_n f_116_179 rfl rfl ?_
          refine e_ishl (z := nI (1 * 2 ^ c)) f_116_180 (shlN _ (by omega)) rfl ?_
          refine e_ior (z := nI (killN j q ((cs.map c3of).take c) 0 + 1 * 2 ^ c)) f_116_181 (orN (by omega)) rfl ?_
          refine e_iastore_p (xs := kIn j ((cs.map c3of).take c) (c3of (cs.getD c ct0)) q) (x := nI (killN j q ((cs.map c3of).take c) 0 + 1 * 2 ^ c)) f_116_182 g181 (by omega) (by first | omega | (simp only [List.length_set]; omega)) (rfl) rfl (fun h182 g183 fx184 => ?_)
          have fr185 : px_fl [(177, 79), (261, 4), (267, 1)] h0 h182 := fl_tr fr153 fx184 (by first | exact ⟨_, List.mem_cons_self, by omega, by omega⟩ | exact ⟨_, List.mem_cons_of_mem _ (List.mem_cons_self), by omega, by omega⟩ | exact ⟨_, List.mem_cons_of_mem _ (List.mem_cons_of_mem _ (List.mem_cons_self)), by omega, by omega⟩)
          refine e_iinc (y := nI (q + 1)) (L' := [some (.ref (17)), some (.int (nI (jMut j))), some (.int (nI c)), some (.ref (S + 9 * c + 6)), some (.int (nI (q + 1)))]) f_116_183 rfl (by rw [show Int32.ofInt 1 = nI 1 by decide]; exact (nI_add _ _)) rfl rfl ?_
          refine e_goto f_116_186 ?_
          have g186 : px_pa h182 267 50 30 Value.int (kIn j ((cs.map c3of).take c) (c3of (cs.getD c ct0)) (q + 1)) := pa_eq g183 (by have z := kIn_set (j := j) (l := ((cs.map c3of).take c)) (x := (c3of (cs.getD c ct0))) (q := q) (by omega) (by omega) hnb; rw [List.length_take, List.length_map, Nat.min_eq_left (by omega)] at z; exact z)
          have g187 : pRun h182 (-3) (runO (mutJ j q) (evs (cs.getD c ct0).1 (List.range (cs.getD c ct0).1.length))) := pRun_fi g161 fx184 (by omega)
          have g188 : pOrd h87 254 (List.range (cs.getD c ct0).1.length) := pOrd_fi g86 fx97 (by omega)
          have g189 : pOrd h146 254 (List.range (cs.getD c ct0).1.length) := pOrd_fi g188 fx152 (by omega)
          have g190 : pOrd h182 254 (List.range (cs.getD c ct0).1.length) := pOrd_fi g189 fx184 (by omega)
          have g191 : h182.2.2 249 = some (1, [.ref (250), .ref (252)]) := fi_at g149 fx184 (by omega)
          have g192 : pRows h182 250 96 (if (cs.getD c ct0).2.2.1 = 126 then rsort ((runO (mutJ j q) (evs (cs.getD c ct0).1 (List.range (cs.getD c ct0).1.length))).2.1) else sa134) := pRows_fi g150 fx184 (by omega)
          have g193 : pRows h182 252 96 (if (cs.getD c ct0).2.2.1 = 126 then rsort ((cs.getD c ct0).2.1) else sb135) := pRows_fi g151 fx184 (by omega)
          have g194 : pJud h182 := ⟨g191, ⟨_, g192⟩, _, g193⟩
          have g195 : pJob h87 261 (mutJ j q) := pJob_fi g46 fx97 (by omega)
          have g196 : pJob h146 261 (mutJ j q) := pJob_fi g195 fx152 (by omega)
          have g197 : pJob h182 261 (mutJ j q) := pJob_fi g196 fx184 (by omega)
          have g198 : pJA h182 261 := ⟨_, g197⟩
          first | (exfalso; omega) | exact ih (d - 1) (by omega) (q + 1) (-3) (runO (mutJ j q) (evs (cs.getD c ct0).1 (List.range (cs.getD c ct0).1.length))) h182 (by omega) (Or.inl rfl) (by omega) g187 g190 g194 g198 g186 fr185

set_option maxRecDepth 20000 in
set_option maxHeartbeats 4000000 in
theorem ll_JT_ko {P : px_H → Option Value → Prop} {h0 : px_H} {wo0 : Int32} {x0 : RO} {j : List St} {cs : List CT7} {L S D : Nat} {pz kk ck : Bool} (HJ : h0.2.2 17 = some (11, [.ref (18), .int (nI L), .ref (S), .ref (D), .ref (175), .ref (177), .ref (249), .ref (254), .ref (256), .ref (258), .ref (261), .ref (265), .int (bI pz), .ref (267), .int (bI kk), .ref (268), .int (bI ck)])) (HS : h0.2.2 S = some (8, [.ref (S + 1), .ref (S + 5), .int (nI cs.length)])) (HB : pJob h0 (S + 1) j) (HR : px_rs h0 (S + 5) 56 8 (fun k => S + 9 * k + 6)) (HC : pCs h0 S cs) (H1 : pStr h0 1 ([60, 61, 62])) (H2 : pStr h0 2 ([43, 45, 42, 47])) (p2 : okB j) (p3 : ∀ t ∈ cs, okT t) (p4 : cs.length ≤ 8) (p5 : 18 < S ∧ S + 78 ≤ 175) (kx : ∀ wo x g, pRun g wo x → pOrA g 254 → pJud g → pJA g 261 → px_pa g 267 50 30 Value.int (killL j ((cs.map c3of).take cs.length)) → px_fl [(177, 79), (261, 4), (267, 1)] h0 g → (wo = -3 ∨ (wo = wo0 ∧ x = x0)) → px_to 116 195 [some (.ref (17)), some (.int (nI (jMut j))), none, none, none] [] g P) : ∀ (d : Nat) (c : Nat) (wo : Int32) (x : RO) (g : px_H), (cs.length ≤ c + d) → (c ≤ cs.length) → ((wo = -3 ∨ (wo = wo0 ∧ x = x0))) → pRun g wo x → pOrA g 254 → pJud g → pJA g 261 → px_pa g 267 50 30 Value.int (killL j ((cs.map c3of).take c)) → px_fl [(177, 79), (261, 4), (267, 1)] h0 g → px_to 116 42 [some (.ref (17)), some (.int (nI (jMut j))), some (.int (nI c)), none, none] [] g P := by
  intro d
  induction d using Nat.strongRecOn with
  | ind d ih =>
    intro c wo x g q0 q1 q2 G0 G1 G2 G3 G4 frg
    have lj := p2.1.1
    refine e_iload_n f_116_42 rfl rfl ?_
    refine e_aload_n f_116_43 rfl rfl ?_
    obtain ⟨hm2, fa3, fb4⟩ := fl_mid frg
    obtain ⟨hm5, fa6, fb7⟩ := fl_mid fb4
    have g1 : g.2.2 17 = some (11, [.ref (18), .int (nI L), .ref (S), .ref (D), .ref (175), .ref (177), .ref (249), .ref (254), .ref (256), .ref (258), .ref (261), .ref (265), .int (bI pz), .ref (267), .int (bI kk), .ref (268), .int (bI ck)]) := fi_at (fi_at (fi_at HJ fa3 (by omega)) fa6 (by omega)) (fl_one fb7) (by omega)
    refine e_getf f_116_44 g1 rfl rfl ?_
    obtain ⟨hm9, fa10, fb11⟩ := fl_mid frg
    obtain ⟨hm12, fa13, fb14⟩ := fl_mid fb11
    have g8 : g.2.2 S = some (8, [.ref (S + 1), .ref (S + 5), .int (nI cs.length)]) := fi_at (fi_at (fi_at HS fa10 (by omega)) fa13 (by omega)) (fl_one fb14) (by omega)
    refine e_getf f_116_47 g8 rfl rfl ?_
    refine e_icmp_ge f_116_50 rfl (fun c_50 => ?_) (fun c_50 => ?_)
    · skip
      have c_50 : cs.length ≤ c := cv_le (by omega) (by omega) c_50
      refine px_to_L (L := [some (.ref (17)), some (.int (nI (jMut j))), none, none, none]) ⟨Or.inr rfl, Or.inr rfl, Or.inl rfl, Or.inr rfl, Or.inr rfl, trivial⟩ ?_
      have e : c = cs.length := by omega
      subst e
      exact kx wo x g G0 G1 G2 G3 G4 frg q2
    · skip
      have c_50 : c < cs.length := cv_nle (by omega) (by omega) c_50
      have gc15 : pCase h0 (S + 9 * c + 6) ((cs.getD c ct0).1) ((cs.getD c ct0).2.1) ((cs.getD c ct0).2.2.1) ((cs.getD c ct0).2.2.2.1) ((cs.getD c ct0).2.2.2.2.1) ((cs.getD c ct0).2.2.2.2.2.1) ((cs.getD c ct0).2.2.2.2.2.2) := (pCs_get (k := c) HC (by omega) (by omega)).1
      have hct : okT (cs.getD c ct0) := p3 _ (getD_mem _ (by omega))
      have hc : c < cs.length := by omega
      have hre := runO_ok (es := (evs (cs.getD c ct0).1 (List.range (cs.getD c ct0).1.length))) p2.1 (by rw [evs_all]; exact hct.2.1)
      refine e_aload_n f_116_53 rfl rfl ?_
      refine e_getf f_116_54 g1 rfl rfl ?_
      refine e_getf f_116_57 g8 rfl rfl ?_
      refine e_iload_n f_116_60 rfl rfl ?_
      obtain ⟨hm17, fa18, fb19⟩ := fl_mid frg
      obtain ⟨hm20, fa21, fb22⟩ := fl_mid fb19
      have g16 : px_rs g (S + 5) 56 8 (fun k => S + 9 * k + 6) := rs_fi (rs_fi (rs_fi HR fa18 (by omega)) fa21 (by omega)) (fl_one fb22) (by omega)
      refine e_aaload_r f_116_61 (by decide) g16 (by first | omega | (simp only [List.length_set]; omega)) (by decide) rfl ?_
      show px_to 116 62 [some (.ref (17)), some (.int (nI (jMut j))), some (.int (nI c)), none, none] [.ref (S + 9 * c + 6)] g _
      refine e_astore_n (L' := [some (.ref (17)), some (.int (nI (jMut j))), some (.int (nI c)), some (.ref (S + 9 * c + 6)), none]) f_116_62 (Nat.le_of_ble_eq_true rfl) rfl rfl ?_
      refine e_aload_n f_116_63 rfl rfl ?_
      refine e_getf f_116_64 g1 rfl rfl ?_
      refine e_aload_n f_116_67 rfl rfl ?_
      obtain ⟨ps23, g24⟩ := G1
      obtain ⟨hm26, fa27, fb28⟩ := fl_mid frg
      obtain ⟨hm29, fa30, fb31⟩ := fl_mid fb28
      have g25 : pCase g (S + 9 * c + 6) ((cs.getD c ct0).1) ((cs.getD c ct0).2.1) ((cs.getD c ct0).2.2.1) ((cs.getD c ct0).2.2.2.1) ((cs.getD c ct0).2.2.2.2.1) ((cs.getD c ct0).2.2.2.2.2.1) ((cs.getD c ct0).2.2.2.2.2.2) := pCase_fi (pCase_fi (pCase_fi gc15 fa27 (by omega)) fa30 (by omega)) (fl_one fb31) (by omega)
      refine e_callV (As := [.ref (S + 9 * c + 6)]) (rest := []) f_116_68 rfl rfl rfl (Nat.le_of_ble_eq_true rfl) (Nat.le_of_ble_eq_true rfl) g24.1 rfl (Nat.le_of_ble_eq_true rfl) (cc_Ord_all (p := 254) (ps := ps23) (a := S + 9 * c + 6) (ev := (cs.getD c ct0).1) (told := (cs.getD c ct0).2.1) (os := (cs.getD c ct0).2.2.1) (ks := (cs.getD c ct0).2.2.2.1) (kept := (cs.getD c ct0).2.2.2.2.1) (ck := (cs.getD c ct0).2.2.2.2.2.1) (un := (cs.getD c ct0).2.2.2.2.2.2) g24 g25 (by omega) (by omega)) rfl (fun h32 r33 q34 => ?_)
      obtain ⟨rfl, g35, fx36⟩ := q34
      have fr37 : px_fl [(177, 79), (261, 4), (267, 1)] h0 h32 := fl_tr frg fx36 (by first | exact ⟨_, List.mem_cons_self, by omega, by omega⟩ | exact ⟨_, List.mem_cons_of_mem _ (List.mem_cons_self), by omega, by omega⟩ | exact ⟨_, List.mem_cons_of_mem _ (List.mem_cons_of_mem _ (List.mem_cons_self)), by omega, by omega⟩)
      show px_to 116 71 [some (.ref (17)), some (.int (nI (jMut j))), some (.int (nI c)), some (.ref (S + 9 * c + 6)), none] [] h32 _
      refine e_aload_n f_116_71 rfl rfl ?_
      obtain ⟨hm39, fa40, fb41⟩ := fl_mid fr37
      obtain ⟨hm42, fa43, fb44⟩ := fl_mid fb41
      have g38 : h32.2.2 17 = some (11, [.ref (18), .int (nI L), .ref (S), .ref (D), .ref (175), .ref (177), .ref (249), .ref (254), .ref (256), .ref (258), .ref (261), .ref (265), .int (bI pz), .ref (267), .int (bI kk), .ref (268), .int (bI ck)]) := fi_at (fi_at (fi_at HJ fa40 (by omega)) fa43 (by omega)) (fl_one fb44) (by omega)
      refine e_getf f_116_72 g38 rfl rfl ?_
      refine e_aload_n f_116_75 rfl rfl ?_
      refine e_getf f_116_76 g38 rfl rfl ?_
      obtain ⟨hm46, fa47, fb48⟩ := fl_mid fr37
      obtain ⟨hm49, fa50, fb51⟩ := fl_mid fb48
      have g45 : h32.2.2 S = some (8, [.ref (S + 1), .ref (S + 5), .int (nI cs.length)]) := fi_at (fi_at (fi_at HS fa47 (by omega)) fa50 (by omega)) (fl_one fb51) (by omega)
      refine e_getf f_116_79 g45 rfl rfl ?_
      refine e_aload_n f_116_82 rfl rfl ?_
      refine e_aload_n f_116_83 rfl rfl ?_
      refine e_getf f_116_84 g38 rfl rfl ?_
      have g52 : pRun h32 wo x := pRun_fi G0 fx36 (by omega)
      obtain ⟨jb53, gv54, la55, lb56, A57, B58, W59, sms60, tl61, A362, B363, W364, S365, sm366, hl74, g67, g68, g69, g70, g71, g72, g73⟩ := id g52
      obtain ⟨hm76, fa77, fb78⟩ := fl_mid fr37
      obtain ⟨hm79, fa80, fb81⟩ := fl_mid fb78
      have g75 : pJob h32 (S + 1) j := pJob_fi (pJob_fi (pJob_fi HB fa77 (by omega)) fa80 (by omega)) (fl_one fb81) (by omega)
      obtain ⟨hm83, fa84, fb85⟩ := fl_mid fr37
      obtain ⟨hm86, fa87, fb88⟩ := fl_mid fb85
      have g82 : pCase h32 (S + 9 * c + 6) ((cs.getD c ct0).1) ((cs.getD c ct0).2.1) ((cs.getD c ct0).2.2.1) ((cs.getD c ct0).2.2.2.1) ((cs.getD c ct0).2.2.2.2.1) ((cs.getD c ct0).2.2.2.2.2.1) ((cs.getD c ct0).2.2.2.2.2.2) := pCase_fi (pCase_fi (pCase_fi gc15 fa84 (by omega)) fa87 (by omega)) (fl_one fb88) (by omega)
      refine e_callV (As := [.ref (S + 1), .ref (S + 9 * c + 6), .ref (254)]) (rest := []) f_116_87 rfl rfl rfl (Nat.le_of_ble_eq_true rfl) (Nat.le_of_ble_eq_true rfl) g67 rfl (Nat.le_of_ble_eq_true rfl) (cc_Run_perf (od := 254) (ps := List.range ((cs.getD c ct0).1).length) (j := j) (jb := S + 1) (a := S + 9 * c + 6) (ev := (cs.getD c ct0).1) (told := (cs.getD c ct0).2.1) (os := (cs.getD c ct0).2.2.1) (ks := (cs.getD c ct0).2.2.2.1) (kept := (cs.getD c ct0).2.2.2.2.1) (ck := (cs.getD c ct0).2.2.2.2.2.1) (un := (cs.getD c ct0).2.2.2.2.2.2) (jb0 := jb53) (gv := gv54) (la0 := la55) (lb0 := lb56) (z := x.2.2.1) (dn := x.2.2.2) (wo := wo) (A := A57) (B := B58) (W := W59) (S := x.1) (sms := sms60) (outs := x.2.1) (tl := tl61) (A3 := A362) (B3 := B363) (W3 := W364) (S3 := S365) (sm3 := sm366) g67 g68 g69 g70 g71 g72 g73 g75 g82 g35 (p2.1) (by omega) (by omega) (by omega) (fun p hp => List.mem_range.mp hp) (hct.2.1) (hl74)) rfl (fun h89 r90 q91 => ?_)
      obtain ⟨rfl, g92, g93, g94, g95, g96, g97, g98, fx99⟩ := q91
      have fr100 : px_fl [(177, 79), (261, 4), (267, 1)] h0 h89 := fl_tr fr37 fx99 (by first | exact ⟨_, List.mem_cons_self, by omega, by omega⟩ | exact ⟨_, List.mem_cons_of_mem _ (List.mem_cons_self), by omega, by omega⟩ | exact ⟨_, List.mem_cons_of_mem _ (List.mem_cons_of_mem _ (List.mem_cons_self)), by omega, by omega⟩)
      show px_to 116 90 [some (.ref (17)), some (.int (nI (jMut j))), some (.int (nI c)), some (.ref (S + 9 * c + 6)), none] [] h89 _
      have okr101 := runS_ok (es := (evs (cs.getD c ct0).1 (List.range (cs.getD c ct0).1.length))) (tl := tl61) p2.1 (by rw [evs_all]; exact hct.2.1) hl74
      have er102 := runO_eq j (evs (cs.getD c ct0).1 (List.range (cs.getD c ct0).1.length)) tl61
      have g103 : pRun h89 (-3) (outOf (runS j (evs (cs.getD c ct0).1 (List.range (cs.getD c ct0).1.length)) tl61)) := ⟨_, _, _, _, _, _, _, _, _, _, _, _, _, _, okr101.1.2.1, g92, g93, g94, g95, g96, g97, g98⟩
      have g104 : pRun h89 (-3) (runO j (evs (cs.getD c ct0).1 (List.range (cs.getD c ct0).1.length))) := by have z := g103; rw [er102] at z; exact z
      obtain ⟨jb105, gv106, la107, lb108, A109, B110, W111, sms112, tl113, A3114, B3115, W3116, S3117, sm3118, hl126, g119, g120, g121, g122, g123, g124, g125⟩ := id g104
      refine e_aload_n f_116_90 rfl rfl ?_
      obtain ⟨hm128, fa129, fb130⟩ := fl_mid fr100
      obtain ⟨hm131, fa132, fb133⟩ := fl_mid fb130
      have g127 : h89.2.2 17 = some (11, [.ref (18), .int (nI L), .ref (S), .ref (D), .ref (175), .ref (177), .ref (249), .ref (254), .ref (256), .ref (258), .ref (261), .ref (265), .int (bI pz), .ref (267), .int (bI kk), .ref (268), .int (bI ck)]) := fi_at (fi_at (fi_at HJ fa129 (by omega)) fa132 (by omega)) (fl_one fb133) (by omega)
      refine e_getf f_116_91 g127 rfl rfl ?_
      refine e_aload_n f_116_94 rfl rfl ?_
      refine e_aload_n f_116_95 rfl rfl ?_
      refine e_getf f_116_96 g127 rfl rfl ?_
      have g134 : pJud h32 := pJud_fi G2 fx36 (by omega)
      have g135 : pJud h89 := pJud_fi g134 fx99 (by omega)
      obtain ⟨g138, ⟨sa136, g139⟩, sb137, g140⟩ := g135
      obtain ⟨hm142, fa143, fb144⟩ := fl_mid fr100
      obtain ⟨hm145, fa146, fb147⟩ := fl_mid fb144
      have g141 : pCase h89 (S + 9 * c + 6) ((cs.getD c ct0).1) ((cs.getD c ct0).2.1) ((cs.getD c ct0).2.2.1) ((cs.getD c ct0).2.2.2.1) ((cs.getD c ct0).2.2.2.2.1) ((cs.getD c ct0).2.2.2.2.2.1) ((cs.getD c ct0).2.2.2.2.2.2) := pCase_fi (pCase_fi (pCase_fi gc15 fa143 (by omega)) fa146 (by omega)) (fl_one fb147) (by omega)
      refine e_callV (As := [.ref (S + 9 * c + 6), .ref (177)]) (rest := []) f_116_99 rfl rfl rfl (Nat.le_of_ble_eq_true rfl) (Nat.le_of_ble_eq_true rfl) g138 rfl (Nat.le_of_ble_eq_true rfl) (cc_Jud_vd (outs := (runO j (evs (cs.getD c ct0).1 (List.range (cs.getD c ct0).1.length))).2.1) (s1 := sa136) (s2 := sb137) (jb := jb105) (gv := gv106) (la := la107) (lb := lb108) (z := ((runO j (evs (cs.getD c ct0).1 (List.range (cs.getD c ct0).1.length))).2.2.1)) (dn := (runO j (evs (cs.getD c ct0).1 (List.range (cs.getD c ct0).1.length))).2.2.2) (wo := (-3)) (a := S + 9 * c + 6) (ev := (cs.getD c ct0).1) (told := (cs.getD c ct0).2.1) (os := (cs.getD c ct0).2.2.1) (ks := (cs.getD c ct0).2.2.2.1) (kept := (cs.getD c ct0).2.2.2.2.1) (ck := (cs.getD c ct0).2.2.2.2.2.1) (un := (cs.getD c ct0).2.2.2.2.2.2) g138 g139 g140 g141 g123 g119 (by have := hct.2.2.2.2; dsimp only at this; omega) (hre.1) (hct.2.2.2.1) (by omega) (hre.2.2)) rfl (fun h148 r149 q150 => ?_)
      obtain ⟨rfl, g151, g152, g153, fx154⟩ := q150
      have fr155 : px_fl [(177, 79), (261, 4), (267, 1)] h0 h148 := fl_tr fr100 fx154 (by first | exact ⟨_, List.mem_cons_self, by omega, by omega⟩ | exact ⟨_, List.mem_cons_of_mem _ (List.mem_cons_self), by omega, by omega⟩ | exact ⟨_, List.mem_cons_of_mem _ (List.mem_cons_of_mem _ (List.mem_cons_self)), by omega, by omega⟩)
      show px_to 116 102 [some (.ref (17)), some (.int (nI (jMut j))), some (.int (nI c)), some (.ref (S + 9 * c + 6)), none] [.int (nI (vd ((cs.getD c ct0).2.2.1) ((runO j (evs (cs.getD c ct0).1 (List.range (cs.getD c ct0).1.length))).2.2.1) ((runO j (evs (cs.getD c ct0).1 (List.range (cs.getD c ct0).1.length))).2.1) ((cs.getD c ct0).2.1)))] h148 _
      have g156 : h148.2.2 177 = some (6, [.ref (jb105), .ref (182), .ref (214), .ref (246), .int (nI gv106), .int (bI la107), .int (bI lb108), .int (oI ((runO j (evs (cs.getD c ct0).1 (List.range (cs.getD c ct0).1.length))).2.2.1)), .int ((runO j (evs (cs.getD c ct0).1 (List.range (cs.getD c ct0).1.length))).2.2.2), .int ((-3)), .ref (248)]) := fi_at g119 fx154 (by omega)
      have g157 : h148.2.2 182 = some (2, [.int (A109), .int (B110), .int (W111), .int ((runO j (evs (cs.getD c ct0).1 (List.range (cs.getD c ct0).1.length))).1), .ref (183)]) := fi_at g120 fx154 (by omega)
      have g158 : px_rs h148 183 55 6 (fun k => 182 + 5 * k + 2) := rs_fi g121 fx154 (by omega)
      have g159 : pSt h148 182 sms112 := pSt_fi g122 fx154 (by omega)
      have g160 : pRows h148 246 96 ((runO j (evs (cs.getD c ct0).1 (List.range (cs.getD c ct0).1.length))).2.1) := pRows_fi g123 fx154 (by omega)
      have g161 : px_pa h148 248 50 30 Value.int tl113 := pa_fi g124 fx154 (by omega)
      have g162 : pMm h148 214 A3114 B3115 W3116 S3117 sm3118 := pMm_fi g125 fx154 (by omega)
      have g163 : pRun h148 (-3) (runO j (evs (cs.getD c ct0).1 (List.range (cs.getD c ct0).1.length))) := ⟨_, _, _, _, _, _, _, _, _, _, _, _, _, _, hl126, g156, g157, g158, g159, g160, g161, g162⟩
      have hvl := vd_le (cs.getD c ct0).2.2.1 (runO j (evs (cs.getD c ct0).1 (List.range (cs.getD c ct0).1.length))).2.2.1 (runO j (evs (cs.getD c ct0).1 (List.range (cs.getD c ct0).1.length))).2.1 (cs.getD c ct0).2.1
      have hve : vd (cs.getD c ct0).2.2.1 (runO j (evs (cs.getD c ct0).1 (List.range (cs.getD c ct0).1.length))).2.2.1 (runO j (evs (cs.getD c ct0).1 (List.range (cs.getD c ct0).1.length))).2.1 (cs.getD c ct0).2.1 = vdE j (c3of (cs.getD c ct0)) (cs.getD c ct0).1 := by rw [evs_all]; rfl
      refine e_iconst (v := nI 1) f_116_102 (by decide) rfl ?_
      refine e_icmp_ne f_116_103 rfl (fun c_103 => ?_) (fun c_103 => ?_)
      · skip
        have c_103 : vd ((cs.getD c ct0).2.2.1) ((runO j (evs (cs.getD c ct0).1 (List.range (cs.getD c ct0).1.length))).2.2.1) ((runO j (evs (cs.getD c ct0).1 (List.range (cs.getD c ct0).1.length))).2.1) ((cs.getD c ct0).2.1) ≠ 1 := cv_ne c_103
        refine e_iinc (y := nI (c + 1)) (L' := [some (.ref (17)), some (.int (nI (jMut j))), some (.int (nI (c + 1))), some (.ref (S + 9 * c + 6)), none]) f_116_189 rfl (by rw [show Int32.ofInt 1 = nI 1 by decide]; exact (nI_add _ _)) rfl rfl ?_
        refine e_goto f_116_192 ?_
        have g164 : px_pa h32 267 50 30 Value.int (killL j ((cs.map c3of).take c)) := pa_fi G4 fx36 (by omega)
        have g165 : px_pa h89 267 50 30 Value.int (killL j ((cs.map c3of).take c)) := pa_fi g164 fx99 (by omega)
        have g166 : px_pa h148 267 50 30 Value.int (killL j ((cs.map c3of).take c)) := pa_fi g165 fx154 (by omega)
        have g167 : px_pa h148 267 50 30 Value.int (killL j ((cs.map c3of).take (c + 1))) := pa_eq g166 (by rw [take_c3 hc]; exact (killL_no (fun z => c_103 (hve.trans z))).symm)
        refine px_to_L (L := [some (.ref (17)), some (.int (nI (jMut j))), some (.int (nI (c + 1))), none, none]) ⟨Or.inr rfl, Or.inr rfl, Or.inr rfl, Or.inl rfl, Or.inr rfl, trivial⟩ ?_
        have g168 : pOrd h89 254 (List.range ((cs.getD c ct0).1).length) := pOrd_fi g35 fx99 (by omega)
        have g169 : pOrd h148 254 (List.range ((cs.getD c ct0).1).length) := pOrd_fi g168 fx154 (by omega)
        have g170 : pOrA h148 254 := ⟨_, g169⟩
        have g171 : pJud h148 := ⟨g151, ⟨_, g152⟩, _, g153⟩
        have g172 : pJA h32 261 := pJA_fi G3 fx36 (by omega)
        have g173 : pJA h89 261 := pJA_fi g172 fx99 (by omega)
        have g174 : pJA h148 261 := pJA_fi g173 fx154 (by omega)
        first | (exfalso; omega) | exact ih (d - 1) (by omega) (c + 1) (-3) (runO j (evs (cs.getD c ct0).1 (List.range (cs.getD c ct0).1.length))) h148 (by omega) (by omega) (Or.inl rfl) g163 g170 g171 g174 g167 fr155
      · skip
        have c_103 : vd ((cs.getD c ct0).2.2.1) ((runO j (evs (cs.getD c ct0).1 (List.range (cs.getD c ct0).1.length))).2.2.1) ((runO j (evs (cs.getD c ct0).1 (List.range (cs.getD c ct0).1.length))).2.1) ((cs.getD c ct0).2.1) = 1 := cv_nne (by omega) (by omega) c_103
        refine e_iconst (v := nI 0) f_116_106 (by decide) rfl ?_
        refine e_istore (L' := [some (.ref (17)), some (.int (nI (jMut j))), some (.int (nI c)), some (.ref (S + 9 * c + 6)), some (.int (nI 0))]) f_116_107 (Nat.le_of_ble_eq_true rfl) rfl rfl ?_
        obtain ⟨hm176, fa177, fb178⟩ := fl_mid fr155
        obtain ⟨hm179, fa180, fb181⟩ := fl_mid fb178
        have g175 : h148.2.2 17 = some (11, [.ref (18), .int (nI L), .ref (S), .ref (D), .ref (175), .ref (177), .ref (249), .ref (254), .ref (256), .ref (258), .ref (261), .ref (265), .int (bI pz), .ref (267), .int (bI kk), .ref (268), .int (bI ck)]) := fi_at (fi_at (fi_at HJ fa177 (by omega)) fa180 (by omega)) (fl_one fb181) (by omega)
        obtain ⟨hm183, fa184, fb185⟩ := fl_mid fr155
        obtain ⟨hm186, fa187, fb188⟩ := fl_mid fb185
        have g182 : h148.2.2 S = some (8, [.ref (S + 1), .ref (S + 5), .int (nI cs.length)]) := fi_at (fi_at (fi_at HS fa184 (by omega)) fa187 (by omega)) (fl_one fb188) (by omega)
        obtain ⟨hm190, fa191, fb192⟩ := fl_mid fr155
        obtain ⟨hm193, fa194, fb195⟩ := fl_mid fb192
        have g189 : pJob h148 (S + 1) j := pJob_fi (pJob_fi (pJob_fi HB fa191 (by omega)) fa194 (by omega)) (fl_one fb195) (by omega)
        obtain ⟨hm197, fa198, fb199⟩ := fl_mid fr155
        obtain ⟨hm200, fa201, fb202⟩ := fl_mid fb199
        have g196 : px_rs h148 (S + 5) 56 8 (fun k => S + 9 * k + 6) := rs_fi (rs_fi (rs_fi HR fa198 (by omega)) fa201 (by omega)) (fl_one fb202) (by omega)
        obtain ⟨hm204, fa205, fb206⟩ := fl_mid fr155
        obtain ⟨hm207, fa208, fb209⟩ := fl_mid fb206
        have g203 : pCs h148 S cs := pCs_fi (pCs_fi (pCs_fi HC fa205 (by omega)) fa208 (by omega)) (fl_one fb209) (by omega)
        obtain ⟨hm211, fa212, fb213⟩ := fl_mid fr155
        obtain ⟨hm214, fa215, fb216⟩ := fl_mid fb213
        have g210 : pStr h148 1 ([60, 61, 62]) := pStr_fi (pStr_fi (pStr_fi H1 fa212 (by omega)) fa215 (by omega)) (fl_one fb216) (by omega)
        obtain ⟨hm218, fa219, fb220⟩ := fl_mid fr155
        obtain ⟨hm221, fa222, fb223⟩ := fl_mid fb220
        have g217 : pStr h148 2 ([43, 45, 42, 47]) := pStr_fi (pStr_fi (pStr_fi H2 fa219 (by omega)) fa222 (by omega)) (fl_one fb223) (by omega)
        have g224 : px_pa h32 267 50 30 Value.int (killL j ((cs.map c3of).take c)) := pa_fi G4 fx36 (by omega)
        have g225 : px_pa h89 267 50 30 Value.int (killL j ((cs.map c3of).take c)) := pa_fi g224 fx99 (by omega)
        have g226 : px_pa h148 267 50 30 Value.int (killL j ((cs.map c3of).take c)) := pa_fi g225 fx154 (by omega)
        have g227 : px_pa h148 267 50 30 Value.int (kIn j ((cs.map c3of).take c) (c3of (cs.getD c ct0)) 0) := pa_eq g226 (kIn_0 _ _ _).symm
        have g228 : pOrd h89 254 (List.range ((cs.getD c ct0).1).length) := pOrd_fi g35 fx99 (by omega)
        have g229 : pOrd h148 254 (List.range ((cs.getD c ct0).1).length) := pOrd_fi g228 fx154 (by omega)
        have g230 : pJud h148 := ⟨g151, ⟨_, g152⟩, _, g153⟩
        have g231 : pJA h32 261 := pJA_fi G3 fx36 (by omega)
        have g232 : pJA h89 261 := pJA_fi g231 fx99 (by omega)
        have g233 : pJA h148 261 := pJA_fi g232 fx154 (by omega)
        refine ll_JT_ki (h0 := h148) (wo0 := wo0) (x0 := x0) (c := c) g175 g182 g189 g196 g203 g210 g217 p2 p3 p4 p5 hc (hve.symm.trans c_103) (fun wo1 x1 g1 z0 z1 z2 z3 z4 zf hw1 => ?_) 31 0 _ _ h148 (by omega) (Or.inl rfl) (by omega) g163 g229 g230 g233 g227 (fl_rf _ _)
        obtain ⟨hm234, fa235, fb236⟩ := fl_mid zf
        have fr237 : px_fl [(177, 79), (261, 4), (267, 1)] h0 hm234 := fl_tr fr155 fa235 (by first | exact ⟨_, List.mem_cons_self, by omega, by omega⟩ | exact ⟨_, List.mem_cons_of_mem _ (List.mem_cons_self), by omega, by omega⟩ | exact ⟨_, List.mem_cons_of_mem _ (List.mem_cons_of_mem _ (List.mem_cons_self)), by omega, by omega⟩)
        obtain ⟨hm238, fa239, fb240⟩ := fl_mid fb236
        have fr241 : px_fl [(177, 79), (261, 4), (267, 1)] h0 hm238 := fl_tr fr237 fa239 (by first | exact ⟨_, List.mem_cons_self, by omega, by omega⟩ | exact ⟨_, List.mem_cons_of_mem _ (List.mem_cons_self), by omega, by omega⟩ | exact ⟨_, List.mem_cons_of_mem _ (List.mem_cons_of_mem _ (List.mem_cons_self)), by omega, by omega⟩)
        have fb242 := fl_one fb240
        have fr243 : px_fl [(177, 79), (261, 4), (267, 1)] h0 g1 := fl_tr fr241 fb242 (by first | exact ⟨_, List.mem_cons_self, by omega, by omega⟩ | exact ⟨_, List.mem_cons_of_mem _ (List.mem_cons_self), by omega, by omega⟩ | exact ⟨_, List.mem_cons_of_mem _ (List.mem_cons_of_mem _ (List.mem_cons_self)), by omega, by omega⟩)
        refine e_iinc (y := nI (c + 1)) (L' := [some (.ref (17)), some (.int (nI (jMut j))), some (.int (nI (c + 1))), none, none]) f_116_189 rfl (by rw [show Int32.ofInt 1 = nI 1 by decide]; exact (nI_add _ _)) rfl rfl ?_
        refine e_goto f_116_192 ?_
        first | (exfalso; omega) | exact ih (d - 1) (by omega) (c + 1) wo1 x1 g1 (by omega) (by omega) (hw1) z0 z1 z2 z3 z4 fr243

set_option maxRecDepth 20000 in
set_option maxHeartbeats 4000000 in
theorem cc_JT_kil {h : px_H} {wo : Int32} {x : RO} {kl : List Int32} {j : List St} {cs : List CT7} {L S D : Nat} {pz kk ck : Bool} (H0 : pRun h wo x) (H1 : pOrA h 254) (H2 : pJud h) (H3 : pJA h 261) (H4 : h.2.2 17 = some (11, [.ref (18), .int (nI L), .ref (S), .ref (D), .ref (175), .ref (177), .ref (249), .ref (254), .ref (256), .ref (258), .ref (261), .ref (265), .int (bI pz), .ref (267), .int (bI kk), .ref (268), .int (bI ck)])) (H5 : px_pa h 267 50 30 Value.int kl) (H6 : h.2.2 S = some (8, [.ref (S + 1), .ref (S + 5), .int (nI cs.length)])) (H7 : pJob h (S + 1) j) (H8 : px_rs h (S + 5) 56 8 (fun k => S + 9 * k + 6)) (H9 : pCs h S cs) (H10 : pStr h 1 ([60, 61, 62])) (H11 : pStr h 2 ([43, 45, 42, 47])) (p0 : (kk = true → kl = killL j (cs.map c3of))) (p1 : kl.length = 30) (p2 : okB j) (p3 : ∀ t ∈ cs, okT t) (p4 : cs.length ≤ 8) (p5 : 18 < S ∧ S + 78 ≤ 175) : px_wp 116 [.ref (17)] h (fun h1 r => r = none ∧ pRunE h1 wo x ∧ pOrA h1 254 ∧ pJud h1 ∧ pJA h1 261 ∧ h1.2.2 17 = some (11, [.ref (18), .int (nI L), .ref (S), .ref (D), .ref (175), .ref (177), .ref (249), .ref (254), .ref (256), .ref (258), .ref (261), .ref (265), .int (bI pz), .ref (267), .int (bI true), .ref (268), .int (bI ck)]) ∧ px_pa h1 267 50 30 Value.int (killL j (cs.map c3of)) ∧ px_fl [(17, 1), (177, 79), (261, 4), (267, 1)] h h1) := by
  have fr0 : px_fl [(17, 1), (177, 79), (261, 4), (267, 1)] h h := fl_rf _ _
  show px_to 116 0 [some (.ref (17)), none, none, none, none] [] h _
  refine e_aload_n f_116_0 rfl rfl ?_
  refine e_getf f_116_1 H4 rfl rfl ?_
  refine e_if_eq f_116_4 rfl (fun c_4 => ?_) (fun c_4 => ?_)
  · skip
    have c_4 : kk = false := bI_f c_4
    refine e_aload_n f_116_8 rfl rfl ?_
    refine e_getf f_116_9 H4 rfl rfl ?_
    refine e_getf f_116_12 H6 rfl rfl ?_
    refine e_callV (As := []) (rest := []) f_116_15 rfl rfl rfl (Nat.le_of_ble_eq_true rfl) (Nat.le_of_ble_eq_true rfl) H7.1 rfl (Nat.le_of_ble_eq_true rfl) (cc_Job_mutants (a := S + 1) (j := j) H7 (fun s hs => by have := (p2.2 s hs).1.1; omega)) rfl (fun h1 r2 q3 => ?_)
    obtain ⟨rfl, qe⟩ := q3
    have qe := qe.symm
    subst qe
    show px_to 116 18 [some (.ref (17)), none, none, none, none] [.int (nI (jMut j))] h _
    refine e_istore_n (L' := [some (.ref (17)), some (.int (nI (jMut j))), none, none, none]) f_116_18 (Nat.le_of_ble_eq_true rfl) rfl rfl ?_
    refine e_iconst (v := nI 0) f_116_19 (by decide) rfl ?_
    refine e_istore_n (L' := [some (.ref (17)), some (.int (nI (jMut j))), some (.int (nI 0)), none, none]) f_116_20 (Nat.le_of_ble_eq_true rfl) rfl rfl ?_
    refine ll_JT_kz (h0 := h) (j := j) H4 (fun g1 z0 zf => ?_) 30 0 kl h (by omega) (by omega) p1 rfl H5 (fi_rf _ _ _)
    have fr4 : px_fl [(17, 1), (177, 79), (261, 4), (267, 1)] h g1 := fl_tr fr0 zf (by first | exact ⟨_, List.mem_cons_self, by omega, by omega⟩ | exact ⟨_, List.mem_cons_of_mem _ (List.mem_cons_self), by omega, by omega⟩ | exact ⟨_, List.mem_cons_of_mem _ (List.mem_cons_of_mem _ (List.mem_cons_self)), by omega, by omega⟩ | exact ⟨_, List.mem_cons_of_mem _ (List.mem_cons_of_mem _ (List.mem_cons_of_mem _ (List.mem_cons_self))), by omega, by omega⟩)
    refine e_iconst (v := nI 0) f_116_40 (by decide) rfl ?_
    refine e_istore_n (L' := [some (.ref (17)), some (.int (nI (jMut j))), some (.int (nI 0)), none, none]) f_116_41 (Nat.le_of_ble_eq_true rfl) rfl rfl ?_
    have g5 : g1.2.2 17 = some (11, [.ref (18), .int (nI L), .ref (S), .ref (D), .ref (175), .ref (177), .ref (249), .ref (254), .ref (256), .ref (258), .ref (261), .ref (265), .int (bI pz), .ref (267), .int (bI kk), .ref (268), .int (bI ck)]) := fi_at H4 zf (by omega)
    obtain ⟨hm7, fa8, fb9⟩ := fl_mid fr4
    obtain ⟨hm10, fa11, fb12⟩ := fl_mid fb9
    obtain ⟨hm13, fa14, fb15⟩ := fl_mid fb12
    have g6 : g1.2.2 S = some (8, [.ref (S + 1), .ref (S + 5), .int (nI cs.length)]) := fi_at (fi_at (fi_at (fi_at H6 fa8 (by omega)) fa11 (by omega)) fa14 (by omega)) (fl_one fb15) (by omega)
    obtain ⟨hm17, fa18, fb19⟩ := fl_mid fr4
    obtain ⟨hm20, fa21, fb22⟩ := fl_mid fb19
    obtain ⟨hm23, fa24, fb25⟩ := fl_mid fb22
    have g16 : pJob g1 (S + 1) j := pJob_fi (pJob_fi (pJob_fi (pJob_fi H7 fa18 (by omega)) fa21 (by omega)) fa24 (by omega)) (fl_one fb25) (by omega)
    obtain ⟨hm27, fa28, fb29⟩ := fl_mid fr4
    obtain ⟨hm30, fa31, fb32⟩ := fl_mid fb29
    obtain ⟨hm33, fa34, fb35⟩ := fl_mid fb32
    have g26 : px_rs g1 (S + 5) 56 8 (fun k => S + 9 * k + 6) := rs_fi (rs_fi (rs_fi (rs_fi H8 fa28 (by omega)) fa31 (by omega)) fa34 (by omega)) (fl_one fb35) (by omega)
    obtain ⟨hm37, fa38, fb39⟩ := fl_mid fr4
    obtain ⟨hm40, fa41, fb42⟩ := fl_mid fb39
    obtain ⟨hm43, fa44, fb45⟩ := fl_mid fb42
    have g36 : pCs g1 S cs := pCs_fi (pCs_fi (pCs_fi (pCs_fi H9 fa38 (by omega)) fa41 (by omega)) fa44 (by omega)) (fl_one fb45) (by omega)
    obtain ⟨hm47, fa48, fb49⟩ := fl_mid fr4
    obtain ⟨hm50, fa51, fb52⟩ := fl_mid fb49
    obtain ⟨hm53, fa54, fb55⟩ := fl_mid fb52
    have g46 : pStr g1 1 ([60, 61, 62]) := pStr_fi (pStr_fi (pStr_fi (pStr_fi H10 fa48 (by omega)) fa51 (by omega)) fa54 (by omega)) (fl_one fb55) (by omega)
    obtain ⟨hm57, fa58, fb59⟩ := fl_mid fr4
    obtain ⟨hm60, fa61, fb62⟩ := fl_mid fb59
    obtain ⟨hm63, fa64, fb65⟩ := fl_mid fb62
    have g56 : pStr g1 2 ([43, 45, 42, 47]) := pStr_fi (pStr_fi (pStr_fi (pStr_fi H11 fa58 (by omega)) fa61 (by omega)) fa64 (by omega)) (fl_one fb65) (by omega)
    have g66 : px_pa g1 267 50 30 Value.int (killL j ((cs.map c3of).take 0)) := pa_eq z0 (by rw [List.take_zero, killL_nil])
    have g67 : pRun g1 wo x := pRun_fi H0 zf (by omega)
    have g68 : pOrA g1 254 := pOrA_fi H1 zf (by omega)
    have g69 : pJud g1 := pJud_fi H2 zf (by omega)
    have g70 : pJA g1 261 := pJA_fi H3 zf (by omega)
    refine ll_JT_ko (h0 := g1) (wo0 := wo) (x0 := x) g5 g6 g16 g26 g36 g46 g56 p2 p3 p4 p5 (fun wo1 x1 g2 y0 y1 y2 y3 y4 yf hw1 => ?_) cs.length 0 _ _ g1 (by omega) (by omega) (Or.inr ⟨rfl, rfl⟩) g67 g68 g69 g70 g66 (fl_rf _ _)
    obtain ⟨hm71, fa72, fb73⟩ := fl_mid yf
    have fr74 : px_fl [(17, 1), (177, 79), (261, 4), (267, 1)] h hm71 := fl_tr fr4 fa72 (by first | exact ⟨_, List.mem_cons_self, by omega, by omega⟩ | exact ⟨_, List.mem_cons_of_mem _ (List.mem_cons_self), by omega, by omega⟩ | exact ⟨_, List.mem_cons_of_mem _ (List.mem_cons_of_mem _ (List.mem_cons_self)), by omega, by omega⟩ | exact ⟨_, List.mem_cons_of_mem _ (List.mem_cons_of_mem _ (List.mem_cons_of_mem _ (List.mem_cons_self))), by omega, by omega⟩)
    obtain ⟨hm75, fa76, fb77⟩ := fl_mid fb73
    have fr78 : px_fl [(17, 1), (177, 79), (261, 4), (267, 1)] h hm75 := fl_tr fr74 fa76 (by first | exact ⟨_, List.mem_cons_self, by omega, by omega⟩ | exact ⟨_, List.mem_cons_of_mem _ (List.mem_cons_self), by omega, by omega⟩ | exact ⟨_, List.mem_cons_of_mem _ (List.mem_cons_of_mem _ (List.mem_cons_self)), by omega, by omega⟩ | exact ⟨_, List.mem_cons_of_mem _ (List.mem_cons_of_mem _ (List.mem_cons_of_mem _ (List.mem_cons_self))), by omega, by omega⟩)
    have fb79 := fl_one fb77
    have fr80 : px_fl [(17, 1), (177, 79), (261, 4), (267, 1)] h g2 := fl_tr fr78 fb79 (by first | exact ⟨_, List.mem_cons_self, by omega, by omega⟩ | exact ⟨_, List.mem_cons_of_mem _ (List.mem_cons_self), by omega, by omega⟩ | exact ⟨_, List.mem_cons_of_mem _ (List.mem_cons_of_mem _ (List.mem_cons_self)), by omega, by omega⟩ | exact ⟨_, List.mem_cons_of_mem _ (List.mem_cons_of_mem _ (List.mem_cons_of_mem _ (List.mem_cons_self))), by omega, by omega⟩)
    refine e_aload_n f_116_195 rfl rfl ?_
    refine e_iconst (v := nI 1) f_116_196 (by decide) rfl ?_
    show px_to 116 197 [some (.ref (17)), some (.int (nI (jMut j))), none, none, none] [.int (bI true), .ref (17)] g2 _
    have g81 : hm71.2.2 17 = some (11, [.ref (18), .int (nI L), .ref (S), .ref (D), .ref (175), .ref (177), .ref (249), .ref (254), .ref (256), .ref (258), .ref (261), .ref (265), .int (bI pz), .ref (267), .int (bI kk), .ref (268), .int (bI ck)]) := fi_at g5 fa72 (by omega)
    have g82 : hm75.2.2 17 = some (11, [.ref (18), .int (nI L), .ref (S), .ref (D), .ref (175), .ref (177), .ref (249), .ref (254), .ref (256), .ref (258), .ref (261), .ref (265), .int (bI pz), .ref (267), .int (bI kk), .ref (268), .int (bI ck)]) := fi_at g81 fa76 (by omega)
    have g83 : g2.2.2 17 = some (11, [.ref (18), .int (nI L), .ref (S), .ref (D), .ref (175), .ref (177), .ref (249), .ref (254), .ref (256), .ref (258), .ref (261), .ref (265), .int (bI pz), .ref (267), .int (bI kk), .ref (268), .int (bI ck)]) := fi_at g82 fb79 (by omega)
    refine e_putp (vs' := [.ref (18), .int (nI L), .ref (S), .ref (D), .ref (175), .ref (177), .ref (249), .ref (254), .ref (256), .ref (258), .ref (261), .ref (265), .int (bI pz), .ref (267), .int (bI true), .ref (268), .int (bI ck)]) f_116_197 g83 (Nat.le_of_ble_eq_true rfl) (nw_bI _) (rfl) rfl rfl (fun h84 g85 fx86 => ?_)
    have fr87 : px_fl [(17, 1), (177, 79), (261, 4), (267, 1)] h h84 := fl_tr fr80 fx86 (by first | exact ⟨_, List.mem_cons_self, by omega, by omega⟩ | exact ⟨_, List.mem_cons_of_mem _ (List.mem_cons_self), by omega, by omega⟩ | exact ⟨_, List.mem_cons_of_mem _ (List.mem_cons_of_mem _ (List.mem_cons_self)), by omega, by omega⟩ | exact ⟨_, List.mem_cons_of_mem _ (List.mem_cons_of_mem _ (List.mem_cons_of_mem _ (List.mem_cons_self))), by omega, by omega⟩)
    refine e_vret f_116_200 rfl ?_
    have g88 : pRun h84 wo1 x1 := pRun_fi y0 fx86 (by omega)
    have g89 : pOrA h84 254 := pOrA_fi y1 fx86 (by omega)
    have g90 : pJud h84 := pJud_fi y2 fx86 (by omega)
    have g91 : pJA h84 261 := pJA_fi y3 fx86 (by omega)
    have g92 : px_pa h84 267 50 30 Value.int (killL j ((cs.map c3of).take cs.length)) := pa_fi y4 fx86 (by omega)
    exact ⟨rfl, ⟨_, _, g88, hw1⟩, g89, g90, g91, g85, pa_eq g92 (by rw [List.take_of_length_le (by rw [List.length_map]; exact Nat.le_refl _)]), fr87⟩
  · skip
    have c_4 : kk = true := bI_t' c_4
    refine e_vret f_116_7 rfl ?_
    have e0 := p0 c_4
    subst c_4
    rw [← e0]
    exact ⟨rfl, ⟨_, _, H0, Or.inr ⟨rfl, rfl⟩⟩, H1, H2, H3, H4, H5, fr0⟩
