def keyL : List Nat := [97, 98, 99, 100]
def evSigns : List Nat := [114, 82, 104, 72, 107, 120]
def ordL : List Nat := [61, 126, 33]
theorem ix_key {c : Nat} (h : c ∈ keyL) : ixf keyL c 0 = nI (c - 97) := by
  have h2 : c = 97 ∨ c = 98 ∨ c = 99 ∨ c = 100 := by simpa [keyL] using h
  rcases h2 with e | e | e | e <;> subst e <;> decide
theorem key_lt {c : Nat} (h : c ∈ keyL) : 97 ≤ c ∧ c ≤ 100 := by
  have h2 : c = 97 ∨ c = 98 ∨ c = 99 ∨ c = 100 := by simpa [keyL] using h
  omega
/-- a row: did it go well, the place, the row -/
def rdRow (tx : List Nat) (p : Nat) : Bool × Nat × Row :=
  if sgn tx p ∈ keyL then
    (if (rdI tx (skp tx p + 1)).1 = true then ((rdT tx (rdI tx (skp tx p + 1)).2.2).1, (rdT tx (rdI tx (skp tx p + 1)).2.2).2.2, (sgn tx p - 97, (rdI tx (skp tx p + 1)).2.1, (rdT tx (rdI tx (skp tx p + 1)).2.2).2.1))
    else (false, (rdI tx (skp tx p + 1)).2.2, (0, 0, 0)))
  else (false, skp tx p, (0, 0, 0))
def rdEv (tx : List Nat) (s p : Nat) : Bool × Nat × Ev :=
  if s = 114 ∨ s = 82 then ((rdRow tx p).1, (rdRow tx p).2.1, (s, nI (rdRow tx p).2.2.1, (rdRow tx p).2.2.2.1, nI (rdRow tx p).2.2.2.2))
  else if s = 107 ∨ s = 120 then (true, p, (s, -3, nI 0, -3))
  else ((rdT tx p).1, (rdT tx p).2.2, (s, -3, nI 0, nI (rdT tx p).2.1))
def rdEvs (tx : List Nat) : Nat → Nat → List Ev → Bool × Nat × List Ev
  | 0, p, l => (true, p, l)
  | f + 1, p, l => if sgn tx p ∈ evSigns then
      (if (rdEv tx (sgn tx p) (skp tx p + 1)).1 = true then rdEvs tx f (rdEv tx (sgn tx p) (skp tx p + 1)).2.1 (l ++ [(rdEv tx (sgn tx p) (skp tx p + 1)).2.2])
      else (false, (rdEv tx (sgn tx p) (skp tx p + 1)).2.1, l))
    else (true, skp tx p, l)
def rdTold (tx : List Nat) : Nat → Nat → List Row → Bool × Nat × List Row
  | 0, p, l => (true, p, l)
  | f + 1, p, l => if sgn tx p ∈ keyL then
      (if (rdRow tx p).1 = true then rdTold tx f (rdRow tx p).2.1 (l ++ [(rdRow tx p).2.2])
      else (false, (rdRow tx p).2.1, l))
    else (true, skp tx p, l)
theorem rdRow_le {tx : List Nat} {p : Nat} (h : p ≤ tx.length) : (rdRow tx p).2.1 ≤ tx.length := by
  unfold rdRow
  split
  · have h1 : skp tx p + 1 ≤ tx.length := sgn_next (by assumption) (by decide)
    split
    · exact rdT_le (rdI_le h1)
    · exact rdI_le h1
  · exact skp_le h
theorem rdRow_ok {tx : List Nat} {p : Nat} : (rdRow tx p).2.2.1 < 4 ∧ (rdRow tx p).2.2.2.2 ≤ 999 := by
  unfold rdRow
  split
  · rename_i c
    have h1 := key_lt c
    split
    · exact ⟨by dsimp only; omega, rdT_b⟩
    · exact ⟨by show 0 < 4; decide, by show 0 ≤ 999; decide⟩
  · exact ⟨by show 0 < 4; decide, by show 0 ≤ 999; decide⟩
theorem rdEv_le {tx : List Nat} {s p : Nat} (h : p ≤ tx.length) : (rdEv tx s p).2.1 ≤ tx.length := by
  unfold rdEv
  split
  · exact rdRow_le h
  · split
    · exact h
    · exact rdT_le h
theorem rdEv_ok {tx : List Nat} {s p : Nat} (hs : s ∈ evSigns) : okEv (rdEv tx s p).2.2 := by
  have hs2 : s = 114 ∨ s = 82 ∨ s = 104 ∨ s = 72 ∨ s = 107 ∨ s = 120 := by simpa [evSigns] using hs
  have h1 := rdRow_ok (tx := tx) (p := p)
  unfold rdEv
  split
  · exact ⟨hs2, fun _ => ⟨_, h1.1, rfl⟩, fun _ => ⟨_, h1.2, rfl⟩⟩
  · split
    · exact ⟨hs2, fun z => by dsimp only at z; omega, fun z => by dsimp only at z; omega⟩
    · exact ⟨hs2, fun z => by dsimp only at z; omega, fun _ => ⟨_, rdT_b, rfl⟩⟩
theorem rdEvs_le {tx : List Nat} : ∀ (f p : Nat) (l : List Ev), p ≤ tx.length → (rdEvs tx f p l).2.1 ≤ tx.length
  | 0, _, _, h => h
  | f + 1, p, l, h => by
    rw [rdEvs]
    split
    · have h1 : skp tx p + 1 ≤ tx.length := sgn_next (by assumption) (by decide)
      split
      · exact rdEvs_le f _ _ (rdEv_le h1)
      · exact rdEv_le h1
    · exact skp_le h
theorem rdEvs_ok {tx : List Nat} : ∀ (f p : Nat) (l : List Ev), l.length + f ≤ 24 → (∀ e ∈ l, okEv e) → (rdEvs tx f p l).2.2.length ≤ 24 ∧ ∀ e ∈ (rdEvs tx f p l).2.2, okEv e
  | 0, _, l, hl, h => ⟨by show l.length ≤ 24; omega, h⟩
  | f + 1, p, l, hl, h => by
    rw [rdEvs]
    split
    · split
      · refine rdEvs_ok f _ _ (by rw [List.length_append, List.length_singleton]; omega) (fun e he => ?_)
        rw [List.mem_append, List.mem_singleton] at he
        rcases he with z | z
        · exact h e z
        · rw [z]; exact rdEv_ok (by assumption)
      · exact ⟨by show l.length ≤ 24; omega, h⟩
    · exact ⟨by show l.length ≤ 24; omega, h⟩
theorem rdTold_le {tx : List Nat} : ∀ (f p : Nat) (l : List Row), p ≤ tx.length → (rdTold tx f p l).2.1 ≤ tx.length
  | 0, _, _, h => h
  | f + 1, p, l, h => by
    rw [rdTold]
    split
    · split
      · exact rdTold_le f _ _ (rdRow_le h)
      · exact rdRow_le h
    · exact skp_le h
theorem rdTold_ok {tx : List Nat} : ∀ (f p : Nat) (l : List Row), l.length + f ≤ 16 → (∀ r ∈ l, rwOk r) → (rdTold tx f p l).2.2.length ≤ 16 ∧ ∀ r ∈ (rdTold tx f p l).2.2, rwOk r
  | 0, _, l, hl, h => ⟨by show l.length ≤ 16; omega, h⟩
  | f + 1, p, l, hl, h => by
    rw [rdTold]
    split
    · split
      · refine rdTold_ok f _ _ (by rw [List.length_append, List.length_singleton]; omega) (fun e he => ?_)
        rw [List.mem_append, List.mem_singleton] at he
        rcases he with z | z
        · exact h e z
        · rw [z]; have := rdRow_ok (tx := tx) (p := p); exact ⟨this.1, by omega⟩
      · exact ⟨by show l.length ≤ 16; omega, h⟩
    · exact ⟨by show l.length ≤ 16; omega, h⟩

set_option maxRecDepth 20000 in
set_option maxHeartbeats 4000000 in
theorem cc_Rd_ev {h : px_H} {s : Nat} {tx : List Nat} {p : Nat} {a : Nat} {ev : List Ev} {told : List Row} {os : Nat} {ks : Int32} {kept : List Nat} {ck : Nat} {un : List Nat} (H0 : pRd h tx p) (H1 : pCase h a ev told os ks kept ck un) (H2 : px_pa h 18 52 500 vN tx) (H3 : pStr h 7 keyL) (p0 : p ≤ tx.length) (p1 : okTx tx) (p2 : s ∈ evSigns) (p3 : ev.length < 24) (p4 : 18 < a ∧ (a + 9 ≤ 175 ∨ 176 ≤ a)) : px_wp 32 [.ref (175), .ref (a), .int (nI s)] h (fun h1 r => r = some (.int (bI ((rdEv tx s p).1))) ∧ pRd h1 tx ((rdEv tx s p).2.1) ∧ pCase h1 a (if (rdEv tx s p).1 = true then ev ++ [(rdEv tx s p).2.2] else ev) told os ks kept ck un ∧ px_fj a 9 175 1 h h1) := by
  have fr0 : px_fj a 9 175 1 h h := fj_rf _ _ _ _ _
  have le := pa_len H2
  have hsl : sgn tx p < 127 := tx_lt p1 _
  have hsk := skp_le p0
  have hs2 : s = 114 ∨ s = 82 ∨ s = 104 ∨ s = 72 ∨ s = 107 ∨ s = 120 := by simpa [evSigns] using p2
  show px_to 32 0 [some (.ref (175)), some (.ref (a)), some (.int (nI s)), none, none, none] [] h _
  refine e_bipush (v := (-3)) f_32_0 (by decide) rfl ?_
  refine e_istore_n (L' := [some (.ref (175)), some (.ref (a)), some (.int (nI s)), some (.int ((-3))), none, none]) f_32_2 (Nat.le_of_ble_eq_true rfl) rfl rfl ?_
  refine e_iconst (v := nI 0) f_32_3 (by decide) rfl ?_
  refine e_istore (L' := [some (.ref (175)), some (.ref (a)), some (.int (nI s)), some (.int ((-3))), some (.int (nI 0)), none]) f_32_4 (Nat.le_of_ble_eq_true rfl) rfl rfl ?_
  refine e_bipush (v := (-3)) f_32_6 (by decide) rfl ?_
  refine e_istore (L' := [some (.ref (175)), some (.ref (a)), some (.int (nI s)), some (.int ((-3))), some (.int (nI 0)), some (.int ((-3)))]) f_32_8 (Nat.le_of_ble_eq_true rfl) rfl rfl ?_
  refine e_iload_n f_32_10 rfl rfl ?_
  refine e_bipush (v := nI 114) f_32_11 (by decide) rfl ?_
  refine e_icmp_eq f_32_13 rfl (fun c_13 => ?_) (fun c_13 => ?_)
  · skip
    have c_13 : s = 114 := cv_eq (by omega) (by omega) c_13
    refine e_ldc f_32_22 rfl ?_
    refine e_aload_n f_32_24 rfl rfl ?_
    obtain ⟨n1, g2⟩ := H0
    refine e_callV (As := []) (rest := [.ref (7)]) f_32_25 rfl rfl rfl (Nat.le_of_ble_eq_true rfl) (Nat.le_of_ble_eq_true rfl) g2 rfl (Nat.le_of_ble_eq_true rfl) (cc_Rd_next (tx := tx) (p := p) (n := n1) g2 H2 (by omega) (p1)) rfl (fun h3 r4 q5 => ?_)
    obtain ⟨rfl, g6, fx7⟩ := q5
    have fr8 : px_fj a 9 175 1 h h3 := fj_tr fr0 fx7 (by omega)
    show px_to 32 28 [some (.ref (175)), some (.ref (a)), some (.int (nI s)), some (.int ((-3))), some (.int (nI 0)), some (.int ((-3)))] [.int (nI (sgn tx p)), .ref (7)] h3 _
    obtain ⟨hm10, fa11, fb12⟩ := fj_mid fr8
    have g9 : pStr h3 7 keyL := pStr_fi (pStr_fi H3 fa11 (by omega)) fb12 (by omega)
    refine e_callV (As := [.int (nI (sgn tx p))]) (rest := []) f_32_28 rfl rfl rfl (Nat.le_of_ble_eq_true rfl) (Nat.le_of_ble_eq_true rfl) g9.1 rfl (Nat.le_of_ble_eq_true rfl) (cc_Str_ix (c := sgn tx p) (k := 7) (bs := keyL) g9 (by omega) (by decide) (by decide)) rfl (fun h13 r14 q15 => ?_)
    obtain ⟨rfl, qe⟩ := q15
    have qe := qe.symm
    subst qe
    show px_to 32 31 [some (.ref (175)), some (.ref (a)), some (.int (nI s)), some (.int ((-3))), some (.int (nI 0)), some (.int ((-3)))] [.int (ixf keyL (sgn tx p) 0)] h3 _
    refine e_istore_n (L' := [some (.ref (175)), some (.ref (a)), some (.int (nI s)), some (.int (ixf keyL (sgn tx p) 0)), some (.int (nI 0)), some (.int ((-3)))]) f_32_31 (Nat.le_of_ble_eq_true rfl) rfl rfl ?_
    refine e_iload_n f_32_32 rfl rfl ?_
    refine e_if_ge f_32_33 rfl (fun c_33 => ?_) (fun c_33 => ?_)
    · skip
      have hin : sgn tx p ∈ keyL := ix_in (by decide) c_33
      have hkl := key_lt hin
      have hsl2 : skp tx p + 1 ≤ tx.length := sgn_next hin (by decide)
      rw [ix_key hin]
      refine e_aload_n f_32_38 rfl rfl ?_
      refine e_dup f_32_39 rfl rfl ?_
      refine e_getf f_32_40 g6 rfl rfl ?_
      refine e_iconst (v := nI 1) f_32_43 (by decide) rfl ?_
      refine e_iadd (z := nI (skp tx p + 1)) f_32_44 (nI_add _ _) rfl ?_
      refine e_putp (vs' := [.ref (18), .int (nI tx.length), .int (n1), .int (nI (skp tx p + 1))]) f_32_45 g6 (Nat.le_of_ble_eq_true rfl) (rfl) (rfl) rfl rfl (fun h16 g17 fx18 => ?_)
      have fr19 : px_fj a 9 175 1 h h16 := fj_tr fr8 fx18 (by omega)
      refine e_aload_n f_32_48 rfl rfl ?_
      obtain ⟨hm21, fa22, fb23⟩ := fj_mid fr19
      have g20 : px_pa h16 18 52 500 vN tx := pa_fi (pa_fi H2 fa22 (by omega)) fb23 (by omega)
      refine e_callV (As := []) (rest := []) f_32_49 rfl rfl rfl (Nat.le_of_ble_eq_true rfl) (Nat.le_of_ble_eq_true rfl) g17 rfl (Nat.le_of_ble_eq_true rfl) (cc_Rd_int (tx := tx) (p := skp tx p + 1) (n := n1) g17 g20 (hsl2) (p1)) rfl (fun h24 r25 q26 => ?_)
      obtain ⟨rfl, g27, fx28⟩ := q26
      have fr29 : px_fj a 9 175 1 h h24 := fj_tr fr19 fx28 (by omega)
      show px_to 32 52 [some (.ref (175)), some (.ref (a)), some (.int (nI s)), some (.int (nI (sgn tx p - 97))), some (.int (nI 0)), some (.int ((-3)))] [.int (bI ((rdI tx (skp tx p + 1)).1))] h24 _
      refine e_if_ne f_32_52 rfl (fun c_52 => ?_) (fun c_52 => ?_)
      · skip
        have c_52 : ((rdI tx (skp tx p + 1)).1) = true := bI_t c_52
        refine e_aload_n f_32_57 rfl rfl ?_
        refine e_getf f_32_58 g27 rfl rfl ?_
        refine e_istore (L' := [some (.ref (175)), some (.ref (a)), some (.int (nI s)), some (.int (nI (sgn tx p - 97))), some (.int ((rdI tx (skp tx p + 1)).2.1)), some (.int ((-3)))]) f_32_61 (Nat.le_of_ble_eq_true rfl) rfl rfl ?_
        refine e_iload_n f_32_63 rfl rfl ?_
        refine e_bipush (v := nI 107) f_32_64 (by decide) rfl ?_
        refine e_icmp_eq f_32_66 rfl (fun c_66 => ?_) (fun c_66 => ?_)
        · skip
          have c_66 : s = 107 := cv_eq (by omega) (by omega) c_66
          exfalso; omega
        · skip
          have c_66 : s ≠ 107 := cv_ne c_66
          refine e_iload_n f_32_69 rfl rfl ?_
          refine e_bipush (v := nI 120) f_32_70 (by decide) rfl ?_
          refine e_icmp_eq f_32_72 rfl (fun c_72 => ?_) (fun c_72 => ?_)
          · skip
            have c_72 : s = 120 := cv_eq (by omega) (by omega) c_72
            exfalso; omega
          · skip
            have c_72 : s ≠ 120 := cv_ne c_72
            refine e_aload_n f_32_75 rfl rfl ?_
            obtain ⟨hm31, fa32, fb33⟩ := fj_mid fr29
            have g30 : px_pa h24 18 52 500 vN tx := pa_fi (pa_fi H2 fa32 (by omega)) fb33 (by omega)
            refine e_callV (As := []) (rest := []) f_32_76 rfl rfl rfl (Nat.le_of_ble_eq_true rfl) (Nat.le_of_ble_eq_true rfl) g27 rfl (Nat.le_of_ble_eq_true rfl) (cc_Rd_time (tx := tx) (p := (rdI tx (skp tx p + 1)).2.2) (n := (rdI tx (skp tx p + 1)).2.1) g27 g30 (by first | exact rdI_le hsl2 | exact p0) (p1)) rfl (fun h34 r35 q36 => ?_)
            obtain ⟨rfl, g37, fx38⟩ := q36
            have fr39 : px_fj a 9 175 1 h h34 := fj_tr fr29 fx38 (by omega)
            show px_to 32 79 [some (.ref (175)), some (.ref (a)), some (.int (nI s)), some (.int (nI (sgn tx p - 97))), some (.int ((rdI tx (skp tx p + 1)).2.1)), some (.int ((-3)))] [.int (bI ((rdT tx ((rdI tx (skp tx p + 1)).2.2)).1))] h34 _
            refine e_if_ne f_32_79 rfl (fun c_79 => ?_) (fun c_79 => ?_)
            · skip
              have c_79 : ((rdT tx ((rdI tx (skp tx p + 1)).2.2)).1) = true := bI_t c_79
              refine e_aload_n f_32_84 rfl rfl ?_
              refine e_getf f_32_85 g37 rfl rfl ?_
              refine e_istore (L' := [some (.ref (175)), some (.ref (a)), some (.int (nI s)), some (.int (nI (sgn tx p - 97))), some (.int ((rdI tx (skp tx p + 1)).2.1)), some (.int (nI (rdT tx ((rdI tx (skp tx p + 1)).2.2)).2.1))]) f_32_88 (Nat.le_of_ble_eq_true rfl) rfl rfl ?_
              refine e_aload_n f_32_90 rfl rfl ?_
              refine e_iload_n f_32_91 rfl rfl ?_
              refine e_iload_n f_32_92 rfl rfl ?_
              refine e_iload f_32_93 rfl rfl ?_
              refine e_iload f_32_95 rfl rfl ?_
              have g40 : pCase h3 a ev told os ks kept ck un := pCase_fi H1 fx7 (by omega)
              have g41 : pCase h16 a ev told os ks kept ck un := pCase_fi g40 fx18 (by omega)
              have g42 : pCase h24 a ev told os ks kept ck un := pCase_fi g41 fx28 (by omega)
              have g43 : pCase h34 a ev told os ks kept ck un := pCase_fi g42 fx38 (by omega)
              refine e_callV (As := [.int (nI s), .int (nI (sgn tx p - 97)), .int ((rdI tx (skp tx p + 1)).2.1), .int (nI (rdT tx ((rdI tx (skp tx p + 1)).2.2)).2.1)]) (rest := []) f_32_97 rfl rfl rfl (Nat.le_of_ble_eq_true rfl) (Nat.le_of_ble_eq_true rfl) g43.1 rfl (Nat.le_of_ble_eq_true rfl) (cc_Case_addEvent (s := s) (x := nI (sgn tx p - 97)) (y := (rdI tx (skp tx p + 1)).2.1) (z := nI (rdT tx ((rdI tx (skp tx p + 1)).2.2)).2.1) (a := a) (ev := ev) (told := told) (os := os) (ks := ks) (kept := kept) (ck := ck) (un := un) g43 (by omega) (by omega)) rfl (fun h44 r45 q46 => ?_)
              obtain ⟨rfl, g47, fx48⟩ := q46
              have fr49 : px_fj a 9 175 1 h h44 := fj_tr fr39 fx48 (by omega)
              show px_to 32 100 [some (.ref (175)), some (.ref (a)), some (.int (nI s)), some (.int (nI (sgn tx p - 97))), some (.int ((rdI tx (skp tx p + 1)).2.1)), some (.int (nI (rdT tx ((rdI tx (skp tx p + 1)).2.2)).2.1))] [] h44 _
              refine e_iconst (v := nI 1) f_32_100 (by decide) rfl ?_
              refine e_iret f_32_101 rfl (rfl) ?_
              have g50 : h44.2.2 175 = some (4, [.ref (18), .int (nI tx.length), .int (nI (rdT tx ((rdI tx (skp tx p + 1)).2.2)).2.1), .int (nI ((rdT tx ((rdI tx (skp tx p + 1)).2.2)).2.2))]) := fi_at g37 fx48 (by omega)
              have g51 : pRd h44 tx ((rdT tx ((rdI tx (skp tx p + 1)).2.2)).2.2) := ⟨_, g50⟩
              have hrR : s = 114 ∨ s = 82 := by omega
              have er : rdRow tx p = ((rdT tx (rdI tx (skp tx p + 1)).2.2).1, (rdT tx (rdI tx (skp tx p + 1)).2.2).2.2, (sgn tx p - 97, (rdI tx (skp tx p + 1)).2.1, (rdT tx (rdI tx (skp tx p + 1)).2.2).2.1)) := by unfold rdRow; rw [if_pos hin, if_pos c_52]
              have ev2 : rdEv tx s p = ((rdRow tx p).1, (rdRow tx p).2.1, (s, nI (rdRow tx p).2.2.1, (rdRow tx p).2.2.2.1, nI (rdRow tx p).2.2.2.2)) := by unfold rdEv; rw [if_pos hrR]
              rw [er] at ev2
              dsimp only at ev2
              rw [ev2]
              dsimp only
              rw [c_79]
              exact ⟨rfl, g51, g47, fr49⟩
            · skip
              have c_79 : ((rdT tx ((rdI tx (skp tx p + 1)).2.2)).1) = false := bI_f' c_79
              refine e_iconst (v := nI 0) f_32_82 (by decide) rfl ?_
              refine e_iret f_32_83 rfl (rfl) ?_
              have g52 : pRd h34 tx ((rdT tx ((rdI tx (skp tx p + 1)).2.2)).2.2) := ⟨_, g37⟩
              have g53 : pCase h3 a ev told os ks kept ck un := pCase_fi H1 fx7 (by omega)
              have g54 : pCase h16 a ev told os ks kept ck un := pCase_fi g53 fx18 (by omega)
              have g55 : pCase h24 a ev told os ks kept ck un := pCase_fi g54 fx28 (by omega)
              have g56 : pCase h34 a ev told os ks kept ck un := pCase_fi g55 fx38 (by omega)
              have hrR : s = 114 ∨ s = 82 := by omega
              have er : rdRow tx p = ((rdT tx (rdI tx (skp tx p + 1)).2.2).1, (rdT tx (rdI tx (skp tx p + 1)).2.2).2.2, (sgn tx p - 97, (rdI tx (skp tx p + 1)).2.1, (rdT tx (rdI tx (skp tx p + 1)).2.2).2.1)) := by unfold rdRow; rw [if_pos hin, if_pos c_52]
              have ev2 : rdEv tx s p = ((rdRow tx p).1, (rdRow tx p).2.1, (s, nI (rdRow tx p).2.2.1, (rdRow tx p).2.2.2.1, nI (rdRow tx p).2.2.2.2)) := by unfold rdEv; rw [if_pos hrR]
              rw [er] at ev2
              dsimp only at ev2
              rw [ev2]
              dsimp only
              rw [c_79]
              exact ⟨rfl, g52, g56, fr39⟩
      · skip
        have c_52 : ((rdI tx (skp tx p + 1)).1) = false := bI_f' c_52
        refine e_iconst (v := nI 0) f_32_55 (by decide) rfl ?_
        refine e_iret f_32_56 rfl (rfl) ?_
        have g57 : pRd h24 tx ((rdI tx (skp tx p + 1)).2.2) := ⟨_, g27⟩
        have g58 : pCase h3 a ev told os ks kept ck un := pCase_fi H1 fx7 (by omega)
        have g59 : pCase h16 a ev told os ks kept ck un := pCase_fi g58 fx18 (by omega)
        have g60 : pCase h24 a ev told os ks kept ck un := pCase_fi g59 fx28 (by omega)
        have hrR : s = 114 ∨ s = 82 := by omega
        have er : rdRow tx p = (false, (rdI tx (skp tx p + 1)).2.2, (0, 0, 0)) := by unfold rdRow; rw [if_pos hin, if_neg (by rw [c_52]; decide)]
        have ev2 : rdEv tx s p = ((rdRow tx p).1, (rdRow tx p).2.1, (s, nI (rdRow tx p).2.2.1, (rdRow tx p).2.2.2.1, nI (rdRow tx p).2.2.2.2)) := by unfold rdEv; rw [if_pos hrR]
        rw [er] at ev2
        dsimp only at ev2
        rw [ev2]
        exact ⟨rfl, g57, g60, fr29⟩
    · skip
      have hin : sgn tx p ∉ keyL := ix_out (by decide) c_33
      refine e_iconst (v := nI 0) f_32_36 (by decide) rfl ?_
      refine e_iret f_32_37 rfl (rfl) ?_
      have g61 : pRd h3 tx (skp tx p) := ⟨_, g6⟩
      have g62 : pCase h3 a ev told os ks kept ck un := pCase_fi H1 fx7 (by omega)
      have hrR : s = 114 ∨ s = 82 := by omega
      have er : rdRow tx p = (false, skp tx p, (0, 0, 0)) := by unfold rdRow; rw [if_neg hin]
      have ev2 : rdEv tx s p = ((rdRow tx p).1, (rdRow tx p).2.1, (s, nI (rdRow tx p).2.2.1, (rdRow tx p).2.2.2.1, nI (rdRow tx p).2.2.2.2)) := by unfold rdEv; rw [if_pos hrR]
      rw [er] at ev2
      dsimp only at ev2
      rw [ev2]
      exact ⟨rfl, g61, g62, fr8⟩
  · skip
    have c_13 : s ≠ 114 := cv_ne c_13
    refine e_iload_n f_32_16 rfl rfl ?_
    refine e_bipush (v := nI 82) f_32_17 (by decide) rfl ?_
    refine e_icmp_ne f_32_19 rfl (fun c_19 => ?_) (fun c_19 => ?_)
    · skip
      have c_19 : s ≠ 82 := cv_ne c_19
      refine e_iload_n f_32_63 rfl rfl ?_
      refine e_bipush (v := nI 107) f_32_64 (by decide) rfl ?_
      refine e_icmp_eq f_32_66 rfl (fun c_66 => ?_) (fun c_66 => ?_)
      · skip
        have c_66 : s = 107 := cv_eq (by omega) (by omega) c_66
        refine e_aload_n f_32_90 rfl rfl ?_
        refine e_iload_n f_32_91 rfl rfl ?_
        refine e_iload_n f_32_92 rfl rfl ?_
        refine e_iload f_32_93 rfl rfl ?_
        refine e_iload f_32_95 rfl rfl ?_
        refine e_callV (As := [.int (nI s), .int ((-3)), .int (nI 0), .int ((-3))]) (rest := []) f_32_97 rfl rfl rfl (Nat.le_of_ble_eq_true rfl) (Nat.le_of_ble_eq_true rfl) H1.1 rfl (Nat.le_of_ble_eq_true rfl) (cc_Case_addEvent (s := s) (x := (-3)) (y := nI 0) (z := (-3)) (a := a) (ev := ev) (told := told) (os := os) (ks := ks) (kept := kept) (ck := ck) (un := un) H1 (by omega) (by omega)) rfl (fun h63 r64 q65 => ?_)
        obtain ⟨rfl, g66, fx67⟩ := q65
        have fr68 : px_fj a 9 175 1 h h63 := fj_tr fr0 fx67 (by omega)
        show px_to 32 100 [some (.ref (175)), some (.ref (a)), some (.int (nI s)), some (.int ((-3))), some (.int (nI 0)), some (.int ((-3)))] [] h63 _
        refine e_iconst (v := nI 1) f_32_100 (by decide) rfl ?_
        refine e_iret f_32_101 rfl (rfl) ?_
        have g69 : pRd h63 tx p := pRd_fi H0 fx67 (by omega)
        have ev2 : rdEv tx s p = (true, p, (s, -3, nI 0, -3)) := by unfold rdEv; rw [if_neg (by omega), if_pos (by omega)]
        rw [ev2]
        dsimp only
        exact ⟨rfl, g69, g66, fr68⟩
      · skip
        have c_66 : s ≠ 107 := cv_ne c_66
        refine e_iload_n f_32_69 rfl rfl ?_
        refine e_bipush (v := nI 120) f_32_70 (by decide) rfl ?_
        refine e_icmp_eq f_32_72 rfl (fun c_72 => ?_) (fun c_72 => ?_)
        · skip
          have c_72 : s = 120 := cv_eq (by omega) (by omega) c_72
          refine e_aload_n f_32_90 rfl rfl ?_
          refine e_iload_n f_32_91 rfl rfl ?_
          refine e_iload_n f_32_92 rfl rfl ?_
          refine e_iload f_32_93 rfl rfl ?_
          refine e_iload f_32_95 rfl rfl ?_
          refine e_callV (As := [.int (nI s), .int ((-3)), .int (nI 0), .int ((-3))]) (rest := []) f_32_97 rfl rfl rfl (Nat.le_of_ble_eq_true rfl) (Nat.le_of_ble_eq_true rfl) H1.1 rfl (Nat.le_of_ble_eq_true rfl) (cc_Case_addEvent (s := s) (x := (-3)) (y := nI 0) (z := (-3)) (a := a) (ev := ev) (told := told) (os := os) (ks := ks) (kept := kept) (ck := ck) (un := un) H1 (by omega) (by omega)) rfl (fun h70 r71 q72 => ?_)
          obtain ⟨rfl, g73, fx74⟩ := q72
          have fr75 : px_fj a 9 175 1 h h70 := fj_tr fr0 fx74 (by omega)
          show px_to 32 100 [some (.ref (175)), some (.ref (a)), some (.int (nI s)), some (.int ((-3))), some (.int (nI 0)), some (.int ((-3)))] [] h70 _
          refine e_iconst (v := nI 1) f_32_100 (by decide) rfl ?_
          refine e_iret f_32_101 rfl (rfl) ?_
          have g76 : pRd h70 tx p := pRd_fi H0 fx74 (by omega)
          have ev2 : rdEv tx s p = (true, p, (s, -3, nI 0, -3)) := by unfold rdEv; rw [if_neg (by omega), if_pos (by omega)]
          rw [ev2]
          dsimp only
          exact ⟨rfl, g76, g73, fr75⟩
        · skip
          have c_72 : s ≠ 120 := cv_ne c_72
          refine e_aload_n f_32_75 rfl rfl ?_
          obtain ⟨n77, g78⟩ := H0
          refine e_callV (As := []) (rest := []) f_32_76 rfl rfl rfl (Nat.le_of_ble_eq_true rfl) (Nat.le_of_ble_eq_true rfl) g78 rfl (Nat.le_of_ble_eq_true rfl) (cc_Rd_time (tx := tx) (p := p) (n := n77) g78 H2 (by first | exact rdI_le hsl2 | exact p0) (p1)) rfl (fun h79 r80 q81 => ?_)
          obtain ⟨rfl, g82, fx83⟩ := q81
          have fr84 : px_fj a 9 175 1 h h79 := fj_tr fr0 fx83 (by omega)
          show px_to 32 79 [some (.ref (175)), some (.ref (a)), some (.int (nI s)), some (.int ((-3))), some (.int (nI 0)), some (.int ((-3)))] [.int (bI ((rdT tx p).1))] h79 _
          refine e_if_ne f_32_79 rfl (fun c_79 => ?_) (fun c_79 => ?_)
          · skip
            have c_79 : ((rdT tx p).1) = true := bI_t c_79
            refine e_aload_n f_32_84 rfl rfl ?_
            refine e_getf f_32_85 g82 rfl rfl ?_
            refine e_istore (L' := [some (.ref (175)), some (.ref (a)), some (.int (nI s)), some (.int ((-3))), some (.int (nI 0)), some (.int (nI (rdT tx p).2.1))]) f_32_88 (Nat.le_of_ble_eq_true rfl) rfl rfl ?_
            refine e_aload_n f_32_90 rfl rfl ?_
            refine e_iload_n f_32_91 rfl rfl ?_
            refine e_iload_n f_32_92 rfl rfl ?_
            refine e_iload f_32_93 rfl rfl ?_
            refine e_iload f_32_95 rfl rfl ?_
            have g85 : pCase h79 a ev told os ks kept ck un := pCase_fi H1 fx83 (by omega)
            refine e_callV (As := [.int (nI s), .int ((-3)), .int (nI 0), .int (nI (rdT tx p).2.1)]) (rest := []) f_32_97 rfl rfl rfl (Nat.le_of_ble_eq_true rfl) (Nat.le_of_ble_eq_true rfl) g85.1 rfl (Nat.le_of_ble_eq_true rfl) (cc_Case_addEvent (s := s) (x := (-3)) (y := nI 0) (z := nI (rdT tx p).2.1) (a := a) (ev := ev) (told := told) (os := os) (ks := ks) (kept := kept) (ck := ck) (un := un) g85 (by omega) (by omega)) rfl (fun h86 r87 q88 => ?_)
            obtain ⟨rfl, g89, fx90⟩ := q88
            have fr91 : px_fj a 9 175 1 h h86 := fj_tr fr84 fx90 (by omega)
            show px_to 32 100 [some (.ref (175)), some (.ref (a)), some (.int (nI s)), some (.int ((-3))), some (.int (nI 0)), some (.int (nI (rdT tx p).2.1))] [] h86 _
            refine e_iconst (v := nI 1) f_32_100 (by decide) rfl ?_
            refine e_iret f_32_101 rfl (rfl) ?_
            have g92 : h86.2.2 175 = some (4, [.ref (18), .int (nI tx.length), .int (nI (rdT tx p).2.1), .int (nI ((rdT tx p).2.2))]) := fi_at g82 fx90 (by omega)
            have g93 : pRd h86 tx ((rdT tx p).2.2) := ⟨_, g92⟩
            have ev2 : rdEv tx s p = ((rdT tx p).1, (rdT tx p).2.2, (s, -3, nI 0, nI (rdT tx p).2.1)) := by unfold rdEv; rw [if_neg (by omega), if_neg (by omega)]
            rw [ev2]
            dsimp only
            rw [c_79]
            exact ⟨rfl, g93, g89, fr91⟩
          · skip
            have c_79 : ((rdT tx p).1) = false := bI_f' c_79
            refine e_iconst (v := nI 0) f_32_82 (by decide) rfl ?_
            refine e_iret f_32_83 rfl (rfl) ?_
            have g94 : pRd h79 tx ((rdT tx p).2.2) := ⟨_, g82⟩
            have g95 : pCase h79 a ev told os ks kept ck un := pCase_fi H1 fx83 (by omega)
            have ev2 : rdEv tx s p = ((rdT tx p).1, (rdT tx p).2.2, (s, -3, nI 0, nI (rdT tx p).2.1)) := by unfold rdEv; rw [if_neg (by omega), if_neg (by omega)]
            rw [ev2]
            dsimp only
            rw [c_79]
            exact ⟨rfl, g94, g95, fr84⟩
    · skip
      have c_19 : s = 82 := cv_nne (by omega) (by omega) c_19
      refine e_ldc f_32_22 rfl ?_
      refine e_aload_n f_32_24 rfl rfl ?_
      obtain ⟨n96, g97⟩ := H0
      refine e_callV (As := []) (rest := [.ref (7)]) f_32_25 rfl rfl rfl (Nat.le_of_ble_eq_true rfl) (Nat.le_of_ble_eq_true rfl) g97 rfl (Nat.le_of_ble_eq_true rfl) (cc_Rd_next (tx := tx) (p := p) (n := n96) g97 H2 (by omega) (p1)) rfl (fun h98 r99 q100 => ?_)
      obtain ⟨rfl, g101, fx102⟩ := q100
      have fr103 : px_fj a 9 175 1 h h98 := fj_tr fr0 fx102 (by omega)
      show px_to 32 28 [some (.ref (175)), some (.ref (a)), some (.int (nI s)), some (.int ((-3))), some (.int (nI 0)), some (.int ((-3)))] [.int (nI (sgn tx p)), .ref (7)] h98 _
      obtain ⟨hm105, fa106, fb107⟩ := fj_mid fr103
      have g104 : pStr h98 7 keyL := pStr_fi (pStr_fi H3 fa106 (by omega)) fb107 (by omega)
      refine e_callV (As := [.int (nI (sgn tx p))]) (rest := []) f_32_28 rfl rfl rfl (Nat.le_of_ble_eq_true rfl) (Nat.le_of_ble_eq_true rfl) g104.1 rfl (Nat.le_of_ble_eq_true rfl) (cc_Str_ix (c := sgn tx p) (k := 7) (bs := keyL) g104 (by omega) (by decide) (by decide)) rfl (fun h108 r109 q110 => ?_)
      obtain ⟨rfl, qe⟩ := q110
      have qe := qe.symm
      subst qe
      show px_to 32 31 [some (.ref (175)), some (.ref (a)), some (.int (nI s)), some (.int ((-3))), some (.int (nI 0)), some (.int ((-3)))] [.int (ixf keyL (sgn tx p) 0)] h98 _
      refine e_istore_n (L' := [some (.ref (175)), some (.ref (a)), some (.int (nI s)), some (.int (ixf keyL (sgn tx p) 0)), some (.int (nI 0)), some (.int ((-3)))]) f_32_31 (Nat.le_of_ble_eq_true rfl) rfl rfl ?_
      refine e_iload_n f_32_32 rfl rfl ?_
      refine e_if_ge f_32_33 rfl (fun c_33 => ?_) (fun c_33 => ?_)
      · skip
        have hin : sgn tx p ∈ keyL := ix_in (by decide) c_33
        have hkl := key_lt hin
        have hsl2 : skp tx p + 1 ≤ tx.length := sgn_next hin (by decide)
        rw [ix_key hin]
        refine e_aload_n f_32_38 rfl rfl ?_
        refine e_dup f_32_39 rfl rfl ?_
        refine e_getf f_32_40 g101 rfl rfl ?_
        refine e_iconst (v := nI 1) f_32_43 (by decide) rfl ?_
        refine e_iadd (z := nI (skp tx p + 1)) f_32_44 (nI_add _ _) rfl ?_
        refine e_putp (vs' := [.ref (18), .int (nI tx.length), .int (n96), .int (nI (skp tx p + 1))]) f_32_45 g101 (Nat.le_of_ble_eq_true rfl) (rfl) (rfl) rfl rfl (fun h111 g112 fx113 => ?_)
        have fr114 : px_fj a 9 175 1 h h111 := fj_tr fr103 fx113 (by omega)
        refine e_aload_n f_32_48 rfl rfl ?_
        obtain ⟨hm116, fa117, fb118⟩ := fj_mid fr114
        have g115 : px_pa h111 18 52 500 vN tx := pa_fi (pa_fi H2 fa117 (by omega)) fb118 (by omega)
        refine e_callV (As := []) (rest := []) f_32_49 rfl rfl rfl (Nat.le_of_ble_eq_true rfl) (Nat.le_of_ble_eq_true rfl) g112 rfl (Nat.le_of_ble_eq_true rfl) (cc_Rd_int (tx := tx) (p := skp tx p + 1) (n := n96) g112 g115 (hsl2) (p1)) rfl (fun h119 r120 q121 => ?_)
        obtain ⟨rfl, g122, fx123⟩ := q121
        have fr124 : px_fj a 9 175 1 h h119 := fj_tr fr114 fx123 (by omega)
        show px_to 32 52 [some (.ref (175)), some (.ref (a)), some (.int (nI s)), some (.int (nI (sgn tx p - 97))), some (.int (nI 0)), some (.int ((-3)))] [.int (bI ((rdI tx (skp tx p + 1)).1))] h119 _
        refine e_if_ne f_32_52 rfl (fun c_52 => ?_) (fun c_52 => ?_)
        · skip
          have c_52 : ((rdI tx (skp tx p + 1)).1) = true := bI_t c_52
          refine e_aload_n f_32_57 rfl rfl ?_
          refine e_getf f_32_58 g122 rfl rfl ?_
          refine e_istore (L' := [some (.ref (175)), some (.ref (a)), some (.int (nI s)), some (.int (nI (sgn tx p - 97))), some (.int ((rdI tx (skp tx p + 1)).2.1)), some (.int ((-3)))]) f_32_61 (Nat.le_of_ble_eq_true rfl) rfl rfl ?_
          refine e_iload_n f_32_63 rfl rfl ?_
          refine e_bipush (v := nI 107) f_32_64 (by decide) rfl ?_
          refine e_icmp_eq f_32_66 rfl (fun c_66 => ?_) (fun c_66 => ?_)
          · skip
            have c_66 : s = 107 := cv_eq (by omega) (by omega) c_66
            exfalso; omega
          · skip
            have c_66 : s ≠ 107 := cv_ne c_66
            refine e_iload_n f_32_69 rfl rfl ?_
            refine e_bipush (v := nI 120) f_32_70 (by decide) rfl ?_
            refine e_icmp_eq f_32_72 rfl (fun c_72 => ?_) (fun c_72 => ?_)
            · skip
              have c_72 : s = 120 := cv_eq (by omega) (by omega) c_72
              exfalso; omega
            · skip
              have c_72 : s ≠ 120 := cv_ne c_72
              refine e_aload_n f_32_75 rfl rfl ?_
              obtain ⟨hm126, fa127, fb128⟩ := fj_mid fr124
              have g125 : px_pa h119 18 52 500 vN tx := pa_fi (pa_fi H2 fa127 (by omega)) fb128 (by omega)
              refine e_callV (As := []) (rest := []) f_32_76 rfl rfl rfl (Nat.le_of_ble_eq_true rfl) (Nat.le_of_ble_eq_true rfl) g122 rfl (Nat.le_of_ble_eq_true rfl) (cc_Rd_time (tx := tx) (p := (rdI tx (skp tx p + 1)).2.2) (n := (rdI tx (skp tx p + 1)).2.1) g122 g125 (by first | exact rdI_le hsl2 | exact p0) (p1)) rfl (fun h129 r130 q131 => ?_)
              obtain ⟨rfl, g132, fx133⟩ := q131
              have fr134 : px_fj a 9 175 1 h h129 := fj_tr fr124 fx133 (by omega)
              show px_to 32 79 [some (.ref (175)), some (.ref (a)), some (.int (nI s)), some (.int (nI (sgn tx p - 97))), some (.int ((rdI tx (skp tx p + 1)).2.1)), some (.int ((-3)))] [.int (bI ((rdT tx ((rdI tx (skp tx p + 1)).2.2)).1))] h129 _
              refine e_if_ne f_32_79 rfl (fun c_79 => ?_) (fun c_79 => ?_)
              · skip
                have c_79 : ((rdT tx ((rdI tx (skp tx p + 1)).2.2)).1) = true := bI_t c_79
                refine e_aload_n f_32_84 rfl rfl ?_
                refine e_getf f_32_85 g132 rfl rfl ?_
                refine e_istore (L' := [some (.ref (175)), some (.ref (a)), some (.int (nI s)), some (.int (nI (sgn tx p - 97))), some (.int ((rdI tx (skp tx p + 1)).2.1)), some (.int (nI (rdT tx ((rdI tx (skp tx p + 1)).2.2)).2.1))]) f_32_88 (Nat.le_of_ble_eq_true rfl) rfl rfl ?_
                refine e_aload_n f_32_90 rfl rfl ?_
                refine e_iload_n f_32_91 rfl rfl ?_
                refine e_iload_n f_32_92 rfl rfl ?_
                refine e_iload f_32_93 rfl rfl ?_
                refine e_iload f_32_95 rfl rfl ?_
                have g135 : pCase h98 a ev told os ks kept ck un := pCase_fi H1 fx102 (by omega)
                have g136 : pCase h111 a ev told os ks kept ck un := pCase_fi g135 fx113 (by omega)
                have g137 : pCase h119 a ev told os ks kept ck un := pCase_fi g136 fx123 (by omega)
                have g138 : pCase h129 a ev told os ks kept ck un := pCase_fi g137 fx133 (by omega)
                refine e_callV (As := [.int (nI s), .int (nI (sgn tx p - 97)), .int ((rdI tx (skp tx p + 1)).2.1), .int (nI (rdT tx ((rdI tx (skp tx p + 1)).2.2)).2.1)]) (rest := []) f_32_97 rfl rfl rfl (Nat.le_of_ble_eq_true rfl) (Nat.le_of_ble_eq_true rfl) g138.1 rfl (Nat.le_of_ble_eq_true rfl) (cc_Case_addEvent (s := s) (x := nI (sgn tx p - 97)) (y := (rdI tx (skp tx p + 1)).2.1) (z := nI (rdT tx ((rdI tx (skp tx p + 1)).2.2)).2.1) (a := a) (ev := ev) (told := told) (os := os) (ks := ks) (kept := kept) (ck := ck) (un := un) g138 (by omega) (by omega)) rfl (fun h139 r140 q141 => ?_)
                obtain ⟨rfl, g142, fx143⟩ := q141
                have fr144 : px_fj a 9 175 1 h h139 := fj_tr fr134 fx143 (by omega)
                show px_to 32 100 [some (.ref (175)), some (.ref (a)), some (.int (nI s)), some (.int (nI (sgn tx p - 97))), some (.int ((rdI tx (skp tx p + 1)).2.1)), some (.int (nI (rdT tx ((rdI tx (skp tx p + 1)).2.2)).2.1))] [] h139 _
                refine e_iconst (v := nI 1) f_32_100 (by decide) rfl ?_
                refine e_iret f_32_101 rfl (rfl) ?_
                have g145 : h139.2.2 175 = some (4, [.ref (18), .int (nI tx.length), .int (nI (rdT tx ((rdI tx (skp tx p + 1)).2.2)).2.1), .int (nI ((rdT tx ((rdI tx (skp tx p + 1)).2.2)).2.2))]) := fi_at g132 fx143 (by omega)
                have g146 : pRd h139 tx ((rdT tx ((rdI tx (skp tx p + 1)).2.2)).2.2) := ⟨_, g145⟩
                have hrR : s = 114 ∨ s = 82 := by omega
                have er : rdRow tx p = ((rdT tx (rdI tx (skp tx p + 1)).2.2).1, (rdT tx (rdI tx (skp tx p + 1)).2.2).2.2, (sgn tx p - 97, (rdI tx (skp tx p + 1)).2.1, (rdT tx (rdI tx (skp tx p + 1)).2.2).2.1)) := by unfold rdRow; rw [if_pos hin, if_pos c_52]
                have ev2 : rdEv tx s p = ((rdRow tx p).1, (rdRow tx p).2.1, (s, nI (rdRow tx p).2.2.1, (rdRow tx p).2.2.2.1, nI (rdRow tx p).2.2.2.2)) := by unfold rdEv; rw [if_pos hrR]
                rw [er] at ev2
                dsimp only at ev2
                rw [ev2]
                dsimp only
                rw [c_79]
                exact ⟨rfl, g146, g142, fr144⟩
              · skip
                have c_79 : ((rdT tx ((rdI tx (skp tx p + 1)).2.2)).1) = false := bI_f' c_79
                refine e_iconst (v := nI 0) f_32_82 (by decide) rfl ?_
                refine e_iret f_32_83 rfl (rfl) ?_
                have g147 : pRd h129 tx ((rdT tx ((rdI tx (skp tx p + 1)).2.2)).2.2) := ⟨_, g132⟩
                have g148 : pCase h98 a ev told os ks kept ck un := pCase_fi H1 fx102 (by omega)
                have g149 : pCase h111 a ev told os ks kept ck un := pCase_fi g148 fx113 (by omega)
                have g150 : pCase h119 a ev told os ks kept ck un := pCase_fi g149 fx123 (by omega)
                have g151 : pCase h129 a ev told os ks kept ck un := pCase_fi g150 fx133 (by omega)
                have hrR : s = 114 ∨ s = 82 := by omega
                have er : rdRow tx p = ((rdT tx (rdI tx (skp tx p + 1)).2.2).1, (rdT tx (rdI tx (skp tx p + 1)).2.2).2.2, (sgn tx p - 97, (rdI tx (skp tx p + 1)).2.1, (rdT tx (rdI tx (skp tx p + 1)).2.2).2.1)) := by unfold rdRow; rw [if_pos hin, if_pos c_52]
                have ev2 : rdEv tx s p = ((rdRow tx p).1, (rdRow tx p).2.1, (s, nI (rdRow tx p).2.2.1, (rdRow tx p).2.2.2.1, nI (rdRow tx p).2.2.2.2)) := by unfold rdEv; rw [if_pos hrR]
                rw [er] at ev2
                dsimp only at ev2
                rw [ev2]
                dsimp only
                rw [c_79]
                exact ⟨rfl, g147, g151, fr134⟩
        · skip
          have c_52 : ((rdI tx (skp tx p + 1)).1) = false := bI_f' c_52
          refine e_iconst (v := nI 0) f_32_55 (by decide) rfl ?_
          refine e_iret f_32_56 rfl (rfl) ?_
          have g152 : pRd h119 tx ((rdI tx (skp tx p + 1)).2.2) := ⟨_, g122⟩
          have g153 : pCase h98 a ev told os ks kept ck un := pCase_fi H1 fx102 (by omega)
          have g154 : pCase h111 a ev told os ks kept ck un := pCase_fi g153 fx113 (by omega)
          have g155 : pCase h119 a ev told os ks kept ck un := pCase_fi g154 fx123 (by omega)
          have hrR : s = 114 ∨ s = 82 := by omega
          have er : rdRow tx p = (false, (rdI tx (skp tx p + 1)).2.2, (0, 0, 0)) := by unfold rdRow; rw [if_pos hin, if_neg (by rw [c_52]; decide)]
          have ev2 : rdEv tx s p = ((rdRow tx p).1, (rdRow tx p).2.1, (s, nI (rdRow tx p).2.2.1, (rdRow tx p).2.2.2.1, nI (rdRow tx p).2.2.2.2)) := by unfold rdEv; rw [if_pos hrR]
          rw [er] at ev2
          dsimp only at ev2
          rw [ev2]
          exact ⟨rfl, g152, g155, fr124⟩
      · skip
        have hin : sgn tx p ∉ keyL := ix_out (by decide) c_33
        refine e_iconst (v := nI 0) f_32_36 (by decide) rfl ?_
        refine e_iret f_32_37 rfl (rfl) ?_
        have g156 : pRd h98 tx (skp tx p) := ⟨_, g101⟩
        have g157 : pCase h98 a ev told os ks kept ck un := pCase_fi H1 fx102 (by omega)
        have hrR : s = 114 ∨ s = 82 := by omega
        have er : rdRow tx p = (false, skp tx p, (0, 0, 0)) := by unfold rdRow; rw [if_neg hin]
        have ev2 : rdEv tx s p = ((rdRow tx p).1, (rdRow tx p).2.1, (s, nI (rdRow tx p).2.2.1, (rdRow tx p).2.2.2.1, nI (rdRow tx p).2.2.2.2)) := by unfold rdEv; rw [if_pos hrR]
        rw [er] at ev2
        dsimp only at ev2
        rw [ev2]
        exact ⟨rfl, g156, g157, fr103⟩

set_option maxRecDepth 20000 in
set_option maxHeartbeats 4000000 in
theorem ll_Rd_evs {h0 : px_H} {tx : List Nat} {y : Bool × Nat × List Ev} {a : Nat} {told : List Row} {os : Nat} {ks : Int32} {kept : List Nat} {ck : Nat} {un : List Nat} (HT : px_pa h0 18 52 500 vN tx) (H6 : pStr h0 6 evSigns) (H7 : pStr h0 7 keyL) (p1 : okTx tx) (p3 : 18 < a ∧ (a + 9 ≤ 175 ∨ 176 ≤ a)) : ∀ (d : Nat) (i : Nat) (p : Nat) (ev : List Ev) (g : px_H), (24 ≤ i + d) → (i ≤ 24) → (p ≤ tx.length) → (ev.length = i) → (rdEvs tx (24 - i) p ev = y) → pRd g tx p → pCase g a ev told os ks kept ck un → px_fj a 9 175 1 h0 g → px_to 31 2 [some (.ref (175)), some (.ref (a)), some (.int (nI i)), none] [] g (fun h1 r => r = some (.int (bI y.1)) ∧ pRd h1 tx y.2.1 ∧ pCase h1 a y.2.2 told os ks kept ck un ∧ px_fj a 9 175 1 h0 h1) := by
  intro d
  induction d using Nat.strongRecOn with
  | ind d ih =>
    intro i p ev g q0 q1 q2 q3 q4 G0 G1 frg
    have le := pa_len HT
    have hsl : sgn tx p < 127 := tx_lt p1 _
    have hsk := skp_le q2
    refine e_iload_n f_31_2 rfl rfl ?_
    refine e_bipush (v := nI 24) f_31_3 (by decide) rfl ?_
    refine e_icmp_ge f_31_5 rfl (fun c_5 => ?_) (fun c_5 => ?_)
    · skip
      have c_5 : 24 ≤ i := cv_le (by omega) (by omega) c_5
      refine e_iconst (v := nI 1) f_31_51 (by decide) rfl ?_
      refine e_iret f_31_52 rfl (rfl) ?_
      rw [show 24 - i = 0 by omega, rdEvs] at q4
      subst q4
      exact ⟨rfl, G0, G1, frg⟩
    · skip
      have c_5 : i < 24 := cv_nle (by omega) (by omega) c_5
      refine e_aload_n f_31_8 rfl rfl ?_
      obtain ⟨n1, g2⟩ := G0
      obtain ⟨hm4, fa5, fb6⟩ := fj_mid frg
      have g3 : px_pa g 18 52 500 vN tx := pa_fi (pa_fi HT fa5 (by omega)) fb6 (by omega)
      refine e_callV (As := []) (rest := []) f_31_9 rfl rfl rfl (Nat.le_of_ble_eq_true rfl) (Nat.le_of_ble_eq_true rfl) g2 rfl (Nat.le_of_ble_eq_true rfl) (cc_Rd_next (tx := tx) (p := p) (n := n1) g2 g3 (by omega) (p1)) rfl (fun h7 r8 q9 => ?_)
      obtain ⟨rfl, g10, fx11⟩ := q9
      have fr12 : px_fj a 9 175 1 h0 h7 := fj_tr frg fx11 (by omega)
      show px_to 31 12 [some (.ref (175)), some (.ref (a)), some (.int (nI i)), none] [.int (nI (sgn tx p))] h7 _
      refine e_istore_n (L' := [some (.ref (175)), some (.ref (a)), some (.int (nI i)), some (.int (nI (sgn tx p)))]) f_31_12 (Nat.le_of_ble_eq_true rfl) rfl rfl ?_
      refine e_ldc f_31_13 rfl ?_
      refine e_iload_n f_31_15 rfl rfl ?_
      obtain ⟨hm14, fa15, fb16⟩ := fj_mid fr12
      have g13 : pStr h7 6 evSigns := pStr_fi (pStr_fi H6 fa15 (by omega)) fb16 (by omega)
      refine e_callV (As := [.int (nI (sgn tx p))]) (rest := []) f_31_16 rfl rfl rfl (Nat.le_of_ble_eq_true rfl) (Nat.le_of_ble_eq_true rfl) g13.1 rfl (Nat.le_of_ble_eq_true rfl) (cc_Str_ix (c := sgn tx p) (k := 6) (bs := evSigns) g13 (by omega) (by decide) (by decide)) rfl (fun h17 r18 q19 => ?_)
      obtain ⟨rfl, qe⟩ := q19
      have qe := qe.symm
      subst qe
      show px_to 31 19 [some (.ref (175)), some (.ref (a)), some (.int (nI i)), some (.int (nI (sgn tx p)))] [.int (ixf evSigns (sgn tx p) 0)] h7 _
      refine e_if_ge f_31_19 rfl (fun c_19 => ?_) (fun c_19 => ?_)
      · skip
        have hin : sgn tx p ∈ evSigns := ix_in (by decide) c_19
        have hsl2 : skp tx p + 1 ≤ tx.length := sgn_next hin (by decide)
        refine e_aload_n f_31_24 rfl rfl ?_
        refine e_dup f_31_25 rfl rfl ?_
        refine e_getf f_31_26 g10 rfl rfl ?_
        refine e_iconst (v := nI 1) f_31_29 (by decide) rfl ?_
        refine e_iadd (z := nI (skp tx p + 1)) f_31_30 (nI_add _ _) rfl ?_
        refine e_putp (vs' := [.ref (18), .int (nI tx.length), .int (n1), .int (nI (skp tx p + 1))]) f_31_31 g10 (Nat.le_of_ble_eq_true rfl) (rfl) (rfl) rfl rfl (fun h20 g21 fx22 => ?_)
        have fr23 : px_fj a 9 175 1 h0 h20 := fj_tr fr12 fx22 (by omega)
        refine e_aload_n f_31_34 rfl rfl ?_
        refine e_aload_n f_31_35 rfl rfl ?_
        refine e_iload_n f_31_36 rfl rfl ?_
        have g24 : pRd h20 tx (skp tx p + 1) := ⟨_, g21⟩
        have g25 : pCase h7 a ev told os ks kept ck un := pCase_fi G1 fx11 (by omega)
        have g26 : pCase h20 a ev told os ks kept ck un := pCase_fi g25 fx22 (by omega)
        obtain ⟨hm28, fa29, fb30⟩ := fj_mid fr23
        have g27 : px_pa h20 18 52 500 vN tx := pa_fi (pa_fi HT fa29 (by omega)) fb30 (by omega)
        obtain ⟨hm32, fa33, fb34⟩ := fj_mid fr23
        have g31 : pStr h20 7 keyL := pStr_fi (pStr_fi H7 fa33 (by omega)) fb34 (by omega)
        refine e_callV (As := [.ref (a), .int (nI (sgn tx p))]) (rest := []) f_31_37 rfl rfl rfl (Nat.le_of_ble_eq_true rfl) (Nat.le_of_ble_eq_true rfl) g21 rfl (Nat.le_of_ble_eq_true rfl) (cc_Rd_ev (s := sgn tx p) (tx := tx) (p := skp tx p + 1) (a := a) (ev := ev) (told := told) (os := os) (ks := ks) (kept := kept) (ck := ck) (un := un) g24 g26 g27 g31 (hsl2) (p1) (hin) (by omega) (by omega)) rfl (fun h35 r36 q37 => ?_)
        obtain ⟨rfl, g38, g39, fx40⟩ := q37
        obtain ⟨hm41, fa42, fb43⟩ := fj_mid fx40
        have fr44 : px_fj a 9 175 1 h0 hm41 := fj_tr fr23 fa42 (by omega)
        have fr45 : px_fj a 9 175 1 h0 h35 := fj_tr fr44 fb43 (by omega)
        show px_to 31 40 [some (.ref (175)), some (.ref (a)), some (.int (nI i)), some (.int (nI (sgn tx p)))] [.int (bI ((rdEv tx (sgn tx p) (skp tx p + 1)).1))] h35 _
        refine e_if_ne f_31_40 rfl (fun c_40 => ?_) (fun c_40 => ?_)
        · skip
          have c_40 : ((rdEv tx (sgn tx p) (skp tx p + 1)).1) = true := bI_t c_40
          refine e_iinc (y := nI (i + 1)) (L' := [some (.ref (175)), some (.ref (a)), some (.int (nI (i + 1))), some (.int (nI (sgn tx p)))]) f_31_45 rfl (by rw [show Int32.ofInt 1 = nI 1 by decide]; exact (nI_add _ _)) rfl rfl ?_
          refine e_goto f_31_48 ?_
          rw [show 24 - i = (24 - (i + 1)) + 1 by omega, rdEvs, if_pos hin, if_pos c_40] at q4
          have g46 : pCase h35 a (ev ++ [(rdEv tx (sgn tx p) (skp tx p + 1)).2.2]) told os ks kept ck un := by have z := g39; rw [if_pos c_40] at z; exact z
          refine px_to_L (L := [some (.ref (175)), some (.ref (a)), some (.int (nI (i + 1))), none]) ⟨Or.inr rfl, Or.inr rfl, Or.inr rfl, Or.inl rfl, trivial⟩ ?_
          first | (exfalso; omega) | exact ih (d - 1) (by omega) (i + 1) ((rdEv tx (sgn tx p) (skp tx p + 1)).2.1) (ev ++ [(rdEv tx (sgn tx p) (skp tx p + 1)).2.2]) h35 (by omega) (by omega) (rdEv_le hsl2) (by rw [List.length_append, List.length_singleton]; omega) (q4) g38 g46 fr45
        · skip
          have c_40 : ((rdEv tx (sgn tx p) (skp tx p + 1)).1) = false := bI_f' c_40
          refine e_iconst (v := nI 0) f_31_43 (by decide) rfl ?_
          refine e_iret f_31_44 rfl (rfl) ?_
          have g47 : pCase h35 a ev told os ks kept ck un := by have z := g39; rw [if_neg (by rw [c_40]; decide)] at z; exact z
          rw [show 24 - i = (24 - (i + 1)) + 1 by omega, rdEvs, if_pos hin, if_neg (by rw [c_40]; decide)] at q4
          subst q4
          exact ⟨rfl, g38, g47, fr45⟩
      · skip
        have hin : sgn tx p ∉ evSigns := ix_out (by decide) c_19
        refine e_iconst (v := nI 1) f_31_22 (by decide) rfl ?_
        refine e_iret f_31_23 rfl (rfl) ?_
        have g48 : pRd h7 tx (skp tx p) := ⟨_, g10⟩
        have g49 : pCase h7 a ev told os ks kept ck un := pCase_fi G1 fx11 (by omega)
        rw [show 24 - i = (24 - (i + 1)) + 1 by omega, rdEvs, if_neg hin] at q4
        subst q4
        exact ⟨rfl, g48, g49, fr12⟩

set_option maxRecDepth 20000 in
set_option maxHeartbeats 4000000 in
theorem cc_Rd_evs {h : px_H} {tx : List Nat} {p : Nat} {a : Nat} {ev : List Ev} {told : List Row} {os : Nat} {ks : Int32} {kept : List Nat} {ck : Nat} {un : List Nat} (H0 : pRd h tx p) (H1 : pCase h a ev told os ks kept ck un) (H2 : px_pa h 18 52 500 vN tx) (H3 : pStr h 6 evSigns) (H4 : pStr h 7 keyL) (p0 : p ≤ tx.length) (p1 : okTx tx) (p2 : ev = []) (p3 : 18 < a ∧ (a + 9 ≤ 175 ∨ 176 ≤ a)) : px_wp 31 [.ref (175), .ref (a)] h (fun h1 r => r = some (.int (bI ((rdEvs tx 24 p []).1))) ∧ pRd h1 tx ((rdEvs tx 24 p []).2.1) ∧ pCase h1 a ((rdEvs tx 24 p []).2.2) told os ks kept ck un ∧ px_fj a 9 175 1 h h1) := by
  have fr0 : px_fj a 9 175 1 h h := fj_rf _ _ _ _ _
  show px_to 31 0 [some (.ref (175)), some (.ref (a)), none, none] [] h _
  refine e_iconst (v := nI 0) f_31_0 (by decide) rfl ?_
  refine e_istore_n (L' := [some (.ref (175)), some (.ref (a)), some (.int (nI 0)), none]) f_31_1 (Nat.le_of_ble_eq_true rfl) rfl rfl ?_
  subst p2
  exact ll_Rd_evs (h0 := h) H2 H3 H4 p1 p3 24 0 p [] h (by omega) (by omega) p0 rfl rfl H0 H1 fr0

set_option maxRecDepth 20000 in
set_option maxHeartbeats 4000000 in
theorem ll_Rd_told {h0 : px_H} {tx : List Nat} {y : Bool × Nat × List Row} {a : Nat} {ev : List Ev} {os : Nat} {ks : Int32} {kept : List Nat} {ck : Nat} {un : List Nat} (HT : px_pa h0 18 52 500 vN tx) (H7 : pStr h0 7 keyL) (p1 : okTx tx) (p3 : 18 < a ∧ (a + 9 ≤ 175 ∨ 176 ≤ a)) : ∀ (d : Nat) (i : Nat) (p : Nat) (told : List Row) (g : px_H), (16 ≤ i + d) → (i ≤ 16) → (p ≤ tx.length) → (told.length = i) → (rdTold tx (16 - i) p told = y) → pRd g tx p → pCase g a ev told os ks kept ck un → px_fj a 9 175 1 h0 g → px_to 33 2 [some (.ref (175)), some (.ref (a)), some (.int (nI i)), none, none] [] g (fun h1 r => r = some (.int (bI y.1)) ∧ pRd h1 tx y.2.1 ∧ pCase h1 a ev y.2.2 os ks kept ck un ∧ px_fj a 9 175 1 h0 h1) := by
  intro d
  induction d using Nat.strongRecOn with
  | ind d ih =>
    intro i p told g q0 q1 q2 q3 q4 G0 G1 frg
    have le := pa_len HT
    have hsl : sgn tx p < 127 := tx_lt p1 _
    have hsk := skp_le q2
    refine e_iload_n f_33_2 rfl rfl ?_
    refine e_bipush (v := nI 16) f_33_3 (by decide) rfl ?_
    refine e_icmp_ge f_33_5 rfl (fun c_5 => ?_) (fun c_5 => ?_)
    · skip
      have c_5 : 16 ≤ i := cv_le (by omega) (by omega) c_5
      refine e_iconst (v := nI 1) f_33_78 (by decide) rfl ?_
      refine e_iret f_33_79 rfl (rfl) ?_
      rw [show 16 - i = 0 by omega, rdTold] at q4
      subst q4
      exact ⟨rfl, G0, G1, frg⟩
    · skip
      have c_5 : i < 16 := cv_nle (by omega) (by omega) c_5
      refine e_ldc f_33_8 rfl ?_
      refine e_aload_n f_33_10 rfl rfl ?_
      obtain ⟨n1, g2⟩ := G0
      obtain ⟨hm4, fa5, fb6⟩ := fj_mid frg
      have g3 : px_pa g 18 52 500 vN tx := pa_fi (pa_fi HT fa5 (by omega)) fb6 (by omega)
      refine e_callV (As := []) (rest := [.ref (7)]) f_33_11 rfl rfl rfl (Nat.le_of_ble_eq_true rfl) (Nat.le_of_ble_eq_true rfl) g2 rfl (Nat.le_of_ble_eq_true rfl) (cc_Rd_next (tx := tx) (p := p) (n := n1) g2 g3 (by omega) (p1)) rfl (fun h7 r8 q9 => ?_)
      obtain ⟨rfl, g10, fx11⟩ := q9
      have fr12 : px_fj a 9 175 1 h0 h7 := fj_tr frg fx11 (by omega)
      show px_to 33 14 [some (.ref (175)), some (.ref (a)), some (.int (nI i)), none, none] [.int (nI (sgn tx p)), .ref (7)] h7 _
      obtain ⟨hm14, fa15, fb16⟩ := fj_mid fr12
      have g13 : pStr h7 7 keyL := pStr_fi (pStr_fi H7 fa15 (by omega)) fb16 (by omega)
      refine e_callV (As := [.int (nI (sgn tx p))]) (rest := []) f_33_14 rfl rfl rfl (Nat.le_of_ble_eq_true rfl) (Nat.le_of_ble_eq_true rfl) g13.1 rfl (Nat.le_of_ble_eq_true rfl) (cc_Str_ix (c := sgn tx p) (k := 7) (bs := keyL) g13 (by omega) (by decide) (by decide)) rfl (fun h17 r18 q19 => ?_)
      obtain ⟨rfl, qe⟩ := q19
      have qe := qe.symm
      subst qe
      show px_to 33 17 [some (.ref (175)), some (.ref (a)), some (.int (nI i)), none, none] [.int (ixf keyL (sgn tx p) 0)] h7 _
      refine e_istore_n (L' := [some (.ref (175)), some (.ref (a)), some (.int (nI i)), some (.int (ixf keyL (sgn tx p) 0)), none]) f_33_17 (Nat.le_of_ble_eq_true rfl) rfl rfl ?_
      refine e_iload_n f_33_18 rfl rfl ?_
      refine e_if_ge f_33_19 rfl (fun c_19 => ?_) (fun c_19 => ?_)
      · skip
        have hin : sgn tx p ∈ keyL := ix_in (by decide) c_19
        have hkl := key_lt hin
        have hsl2 : skp tx p + 1 ≤ tx.length := sgn_next hin (by decide)
        rw [ix_key hin]
        refine e_aload_n f_33_24 rfl rfl ?_
        refine e_dup f_33_25 rfl rfl ?_
        refine e_getf f_33_26 g10 rfl rfl ?_
        refine e_iconst (v := nI 1) f_33_29 (by decide) rfl ?_
        refine e_iadd (z := nI (skp tx p + 1)) f_33_30 (nI_add _ _) rfl ?_
        refine e_putp (vs' := [.ref (18), .int (nI tx.length), .int (n1), .int (nI (skp tx p + 1))]) f_33_31 g10 (Nat.le_of_ble_eq_true rfl) (rfl) (rfl) rfl rfl (fun h20 g21 fx22 => ?_)
        have fr23 : px_fj a 9 175 1 h0 h20 := fj_tr fr12 fx22 (by omega)
        refine e_aload_n f_33_34 rfl rfl ?_
        obtain ⟨hm25, fa26, fb27⟩ := fj_mid fr23
        have g24 : px_pa h20 18 52 500 vN tx := pa_fi (pa_fi HT fa26 (by omega)) fb27 (by omega)
        refine e_callV (As := []) (rest := []) f_33_35 rfl rfl rfl (Nat.le_of_ble_eq_true rfl) (Nat.le_of_ble_eq_true rfl) g21 rfl (Nat.le_of_ble_eq_true rfl) (cc_Rd_int (tx := tx) (p := skp tx p + 1) (n := n1) g21 g24 (hsl2) (p1)) rfl (fun h28 r29 q30 => ?_)
        obtain ⟨rfl, g31, fx32⟩ := q30
        have fr33 : px_fj a 9 175 1 h0 h28 := fj_tr fr23 fx32 (by omega)
        show px_to 33 38 [some (.ref (175)), some (.ref (a)), some (.int (nI i)), some (.int (nI (sgn tx p - 97))), none] [.int (bI ((rdI tx (skp tx p + 1)).1))] h28 _
        refine e_if_ne f_33_38 rfl (fun c_38 => ?_) (fun c_38 => ?_)
        · skip
          have c_38 : ((rdI tx (skp tx p + 1)).1) = true := bI_t c_38
          refine e_aload_n f_33_43 rfl rfl ?_
          refine e_getf f_33_44 g31 rfl rfl ?_
          refine e_istore (L' := [some (.ref (175)), some (.ref (a)), some (.int (nI i)), some (.int (nI (sgn tx p - 97))), some (.int ((rdI tx (skp tx p + 1)).2.1))]) f_33_47 (Nat.le_of_ble_eq_true rfl) rfl rfl ?_
          refine e_aload_n f_33_49 rfl rfl ?_
          obtain ⟨hm35, fa36, fb37⟩ := fj_mid fr33
          have g34 : px_pa h28 18 52 500 vN tx := pa_fi (pa_fi HT fa36 (by omega)) fb37 (by omega)
          refine e_callV (As := []) (rest := []) f_33_50 rfl rfl rfl (Nat.le_of_ble_eq_true rfl) (Nat.le_of_ble_eq_true rfl) g31 rfl (Nat.le_of_ble_eq_true rfl) (cc_Rd_time (tx := tx) (p := (rdI tx (skp tx p + 1)).2.2) (n := (rdI tx (skp tx p + 1)).2.1) g31 g34 (rdI_le hsl2) (p1)) rfl (fun h38 r39 q40 => ?_)
          obtain ⟨rfl, g41, fx42⟩ := q40
          have fr43 : px_fj a 9 175 1 h0 h38 := fj_tr fr33 fx42 (by omega)
          show px_to 33 53 [some (.ref (175)), some (.ref (a)), some (.int (nI i)), some (.int (nI (sgn tx p - 97))), some (.int ((rdI tx (skp tx p + 1)).2.1))] [.int (bI ((rdT tx ((rdI tx (skp tx p + 1)).2.2)).1))] h38 _
          refine e_if_ne f_33_53 rfl (fun c_53 => ?_) (fun c_53 => ?_)
          · skip
            have c_53 : ((rdT tx ((rdI tx (skp tx p + 1)).2.2)).1) = true := bI_t c_53
            have g44 : pCase h7 a ev told os ks kept ck un := pCase_fi G1 fx11 (by omega)
            have g45 : pCase h20 a ev told os ks kept ck un := pCase_fi g44 fx22 (by omega)
            have g46 : pCase h28 a ev told os ks kept ck un := pCase_fi g45 fx32 (by omega)
            have g47 : pCase h38 a ev told os ks kept ck un := pCase_fi g46 fx42 (by omega)
            have g48 : h38.2.2 a = some (10, [.int (nI ev.length), .ref (a + 1), .ref (a + 2), .ref (a + 3), .ref (a + 4), .ref (a + 5), .int (nI os), .int (ks), .ref (a + 7), .int (nI ck), .int (nI un.length), .ref (a + 8)]) := g47.1
            have g49 : px_pa h38 (a + 1) 50 24 evS ev := g47.2.1
            have g50 : px_pa h38 (a + 2) 50 24 evK ev := g47.2.2.1
            have g51 : px_pa h38 (a + 3) 50 24 evV ev := g47.2.2.2.1
            have g52 : px_pa h38 (a + 4) 50 24 evT ev := g47.2.2.2.2.1
            have g53 : px_pa h38 (a + 7) 50 24 vN kept := g47.2.2.2.2.2.2.1
            have g54 : px_pa h38 (a + 8) 50 266 vN un := g47.2.2.2.2.2.2.2
            have g55 : pRows h38 (a + 5) 16 told := g47.2.2.2.2.2.1
            refine e_aload_n f_33_58 rfl rfl ?_
            refine e_getf f_33_59 g48 rfl rfl ?_
            refine e_iload_n f_33_62 rfl rfl ?_
            refine e_iload f_33_63 rfl rfl ?_
            refine e_aload_n f_33_65 rfl rfl ?_
            refine e_getf f_33_66 g41 rfl rfl ?_
            refine e_callV (As := [.int (nI (sgn tx p - 97)), .int ((rdI tx (skp tx p + 1)).2.1), .int (nI (rdT tx ((rdI tx (skp tx p + 1)).2.2)).2.1)]) (rest := []) f_33_69 rfl rfl rfl (Nat.le_of_ble_eq_true rfl) (Nat.le_of_ble_eq_true rfl) g55.1 rfl (Nat.le_of_ble_eq_true rfl) (cc_Rows_add (a := a + 5) (cap := 16) (k := sgn tx p - 97) (t := (rdT tx (rdI tx (skp tx p + 1)).2.2).2.1) (v := (rdI tx (skp tx p + 1)).2.1) (rs := told) g55 (by omega)) rfl (fun h56 r57 q58 => ?_)
            obtain ⟨rfl, g59, fx60⟩ := q58
            have fr61 : px_fj a 9 175 1 h0 h56 := fj_tr fr43 fx60 (by omega)
            show px_to 33 72 [some (.ref (175)), some (.ref (a)), some (.int (nI i)), some (.int (nI (sgn tx p - 97))), some (.int ((rdI tx (skp tx p + 1)).2.1))] [] h56 _
            refine e_iinc (y := nI (i + 1)) (L' := [some (.ref (175)), some (.ref (a)), some (.int (nI (i + 1))), some (.int (nI (sgn tx p - 97))), some (.int ((rdI tx (skp tx p + 1)).2.1))]) f_33_72 rfl (by rw [show Int32.ofInt 1 = nI 1 by decide]; exact (nI_add _ _)) rfl rfl ?_
            refine e_goto f_33_75 ?_
            have er : rdRow tx p = ((rdT tx (rdI tx (skp tx p + 1)).2.2).1, (rdT tx (rdI tx (skp tx p + 1)).2.2).2.2, (sgn tx p - 97, (rdI tx (skp tx p + 1)).2.1, (rdT tx (rdI tx (skp tx p + 1)).2.2).2.1)) := by unfold rdRow; rw [if_pos hin, if_pos c_38]
            have e1 : (rdRow tx p).1 = true := by rw [er]; exact c_53
            rw [show 16 - i = (16 - (i + 1)) + 1 by omega, rdTold, if_pos hin, if_pos e1] at q4
            have g62 : pRows h56 (a + 5) 16 (told ++ [(rdRow tx p).2.2]) := by have z := g59; unfold radd at z; rw [if_pos (by omega)] at z; rw [er]; exact z
            have g63 : h56.2.2 a = some (10, [.int (nI ev.length), .ref (a + 1), .ref (a + 2), .ref (a + 3), .ref (a + 4), .ref (a + 5), .int (nI os), .int (ks), .ref (a + 7), .int (nI ck), .int (nI un.length), .ref (a + 8)]) := fi_at g48 fx60 (by omega)
            have g64 : px_pa h56 (a + 1) 50 24 evS ev := pa_fi g49 fx60 (by omega)
            have g65 : px_pa h56 (a + 2) 50 24 evK ev := pa_fi g50 fx60 (by omega)
            have g66 : px_pa h56 (a + 3) 50 24 evV ev := pa_fi g51 fx60 (by omega)
            have g67 : px_pa h56 (a + 4) 50 24 evT ev := pa_fi g52 fx60 (by omega)
            have g68 : px_pa h56 (a + 7) 50 24 vN kept := pa_fi g53 fx60 (by omega)
            have g69 : px_pa h56 (a + 8) 50 266 vN un := pa_fi g54 fx60 (by omega)
            have g70 : pCase h56 a ev (told ++ [(rdRow tx p).2.2]) os ks kept ck un := ⟨g63, g64, g65, g66, g67, g62, g68, g69⟩
            have g71 : h56.2.2 175 = some (4, [.ref (18), .int (nI tx.length), .int (nI (rdT tx ((rdI tx (skp tx p + 1)).2.2)).2.1), .int (nI ((rdT tx ((rdI tx (skp tx p + 1)).2.2)).2.2))]) := fi_at g41 fx60 (by omega)
            have g72 : h56.2.2 175 = some (4, [.ref (18), .int (nI tx.length), .int (nI (rdT tx ((rdI tx (skp tx p + 1)).2.2)).2.1), .int (nI ((rdRow tx p).2.1))]) := by rw [er]; exact g71
            refine px_to_L (L := [some (.ref (175)), some (.ref (a)), some (.int (nI (i + 1))), none, none]) ⟨Or.inr rfl, Or.inr rfl, Or.inr rfl, Or.inl rfl, Or.inl rfl, trivial⟩ ?_
            have g73 : pRd h56 tx ((rdRow tx p).2.1) := ⟨_, g72⟩
            first | (exfalso; omega) | exact ih (d - 1) (by omega) (i + 1) ((rdRow tx p).2.1) (told ++ [(rdRow tx p).2.2]) h56 (by omega) (by omega) (rdRow_le q2) (by rw [List.length_append, List.length_singleton]; omega) (q4) g73 g70 fr61
          · skip
            have c_53 : ((rdT tx ((rdI tx (skp tx p + 1)).2.2)).1) = false := bI_f' c_53
            refine e_iconst (v := nI 0) f_33_56 (by decide) rfl ?_
            refine e_iret f_33_57 rfl (rfl) ?_
            have g74 : pRd h38 tx ((rdT tx ((rdI tx (skp tx p + 1)).2.2)).2.2) := ⟨_, g41⟩
            have g75 : pCase h7 a ev told os ks kept ck un := pCase_fi G1 fx11 (by omega)
            have g76 : pCase h20 a ev told os ks kept ck un := pCase_fi g75 fx22 (by omega)
            have g77 : pCase h28 a ev told os ks kept ck un := pCase_fi g76 fx32 (by omega)
            have g78 : pCase h38 a ev told os ks kept ck un := pCase_fi g77 fx42 (by omega)
            have er : rdRow tx p = ((rdT tx (rdI tx (skp tx p + 1)).2.2).1, (rdT tx (rdI tx (skp tx p + 1)).2.2).2.2, (sgn tx p - 97, (rdI tx (skp tx p + 1)).2.1, (rdT tx (rdI tx (skp tx p + 1)).2.2).2.1)) := by unfold rdRow; rw [if_pos hin, if_pos c_38]
            rw [c_53] at er
            rw [show 16 - i = (16 - (i + 1)) + 1 by omega, rdTold, if_pos hin, if_neg (by rw [er]; exact Bool.false_ne_true), er] at q4
            subst q4
            exact ⟨rfl, g74, g78, fr43⟩
        · skip
          have c_38 : ((rdI tx (skp tx p + 1)).1) = false := bI_f' c_38
          refine e_iconst (v := nI 0) f_33_41 (by decide) rfl ?_
          refine e_iret f_33_42 rfl (rfl) ?_
          have g79 : pRd h28 tx ((rdI tx (skp tx p + 1)).2.2) := ⟨_, g31⟩
          have g80 : pCase h7 a ev told os ks kept ck un := pCase_fi G1 fx11 (by omega)
          have g81 : pCase h20 a ev told os ks kept ck un := pCase_fi g80 fx22 (by omega)
          have g82 : pCase h28 a ev told os ks kept ck un := pCase_fi g81 fx32 (by omega)
          have er : rdRow tx p = (false, (rdI tx (skp tx p + 1)).2.2, (0, 0, 0)) := by unfold rdRow; rw [if_pos hin, if_neg (by rw [c_38]; decide)]
          rw [show 16 - i = (16 - (i + 1)) + 1 by omega, rdTold, if_pos hin, if_neg (by rw [er]; exact Bool.false_ne_true), er] at q4
          subst q4
          exact ⟨rfl, g79, g82, fr33⟩
      · skip
        have hin : sgn tx p ∉ keyL := ix_out (by decide) c_19
        refine e_iconst (v := nI 1) f_33_22 (by decide) rfl ?_
        refine e_iret f_33_23 rfl (rfl) ?_
        have g83 : pRd h7 tx (skp tx p) := ⟨_, g10⟩
        have g84 : pCase h7 a ev told os ks kept ck un := pCase_fi G1 fx11 (by omega)
        rw [show 16 - i = (16 - (i + 1)) + 1 by omega, rdTold, if_neg hin] at q4
        subst q4
        exact ⟨rfl, g83, g84, fr12⟩

set_option maxRecDepth 20000 in
set_option maxHeartbeats 4000000 in
theorem cc_Rd_told {h : px_H} {tx : List Nat} {p : Nat} {a : Nat} {ev : List Ev} {told : List Row} {os : Nat} {ks : Int32} {kept : List Nat} {ck : Nat} {un : List Nat} (H0 : pRd h tx p) (H1 : pCase h a ev told os ks kept ck un) (H2 : px_pa h 18 52 500 vN tx) (H3 : pStr h 7 keyL) (p0 : p ≤ tx.length) (p1 : okTx tx) (p2 : told = []) (p3 : 18 < a ∧ (a + 9 ≤ 175 ∨ 176 ≤ a)) : px_wp 33 [.ref (175), .ref (a)] h (fun h1 r => r = some (.int (bI ((rdTold tx 16 p []).1))) ∧ pRd h1 tx ((rdTold tx 16 p []).2.1) ∧ pCase h1 a ev ((rdTold tx 16 p []).2.2) os ks kept ck un ∧ px_fj a 9 175 1 h h1) := by
  have fr0 : px_fj a 9 175 1 h h := fj_rf _ _ _ _ _
  show px_to 33 0 [some (.ref (175)), some (.ref (a)), none, none, none] [] h _
  refine e_iconst (v := nI 0) f_33_0 (by decide) rfl ?_
  refine e_istore_n (L' := [some (.ref (175)), some (.ref (a)), some (.int (nI 0)), none, none]) f_33_1 (Nat.le_of_ble_eq_true rfl) rfl rfl ?_
  subst p2
  exact ll_Rd_told (h0 := h) H2 H3 p1 p3 16 0 p [] h (by omega) (by omega) p0 rfl rfl H0 H1 fr0

set_option maxRecDepth 20000 in
set_option maxHeartbeats 4000000 in
theorem cc_Rd_ord {h : px_H} {n : Int32} {tx : List Nat} {p : Nat} {a : Nat} {ev : List Ev} {told : List Row} {os : Nat} {ks : Int32} {kept : List Nat} {ck : Nat} {un : List Nat} (H0 : h.2.2 175 = some (4, [.ref (18), .int (nI tx.length), .int (n), .int (nI p)])) (H1 : pCase h a ev told os ks kept ck un) (H2 : px_pa h 18 52 500 vN tx) (H3 : pStr h 8 ordL) (p0 : p ≤ tx.length) (p1 : okTx tx) (p2 : 18 < a ∧ (a + 9 ≤ 175 ∨ 176 ≤ a)) : px_wp 34 [.ref (175), .ref (a)] h (fun h1 r => r = some (.int (bI (decide (sgn tx p ∈ ordL)))) ∧ h1.2.2 175 = some (4, [.ref (18), .int (nI tx.length), .int (n), .int (nI (if sgn tx p ∈ ordL then skp tx p + 1 else skp tx p))]) ∧ pCase h1 a ev told (if sgn tx p ∈ ordL then sgn tx p else os) ks kept ck un ∧ px_fj a 9 175 1 h h1) := by
  have fr0 : px_fj a 9 175 1 h h := fj_rf _ _ _ _ _
  have le := pa_len H2
  have hsl : sgn tx p < 127 := tx_lt p1 _
  have hsk := skp_le p0
  show px_to 34 0 [some (.ref (175)), some (.ref (a)), none] [] h _
  refine e_aload_n f_34_0 rfl rfl ?_
  refine e_callV (As := []) (rest := []) f_34_1 rfl rfl rfl (Nat.le_of_ble_eq_true rfl) (Nat.le_of_ble_eq_true rfl) H0 rfl (Nat.le_of_ble_eq_true rfl) (cc_Rd_next (tx := tx) (p := p) (n := n) H0 H2 (by omega) (p1)) rfl (fun h1 r2 q3 => ?_)
  obtain ⟨rfl, g4, fx5⟩ := q3
  have fr6 : px_fj a 9 175 1 h h1 := fj_tr fr0 fx5 (by omega)
  show px_to 34 4 [some (.ref (175)), some (.ref (a)), none] [.int (nI (sgn tx p))] h1 _
  refine e_istore_n (L' := [some (.ref (175)), some (.ref (a)), some (.int (nI (sgn tx p)))]) f_34_4 (Nat.le_of_ble_eq_true rfl) rfl rfl ?_
  refine e_ldc f_34_5 rfl ?_
  refine e_iload_n f_34_7 rfl rfl ?_
  obtain ⟨hm8, fa9, fb10⟩ := fj_mid fr6
  have g7 : pStr h1 8 ordL := pStr_fi (pStr_fi H3 fa9 (by omega)) fb10 (by omega)
  refine e_callV (As := [.int (nI (sgn tx p))]) (rest := []) f_34_8 rfl rfl rfl (Nat.le_of_ble_eq_true rfl) (Nat.le_of_ble_eq_true rfl) g7.1 rfl (Nat.le_of_ble_eq_true rfl) (cc_Str_ix (c := sgn tx p) (k := 8) (bs := ordL) g7 (by omega) (by decide) (by decide)) rfl (fun h11 r12 q13 => ?_)
  obtain ⟨rfl, qe⟩ := q13
  have qe := qe.symm
  subst qe
  show px_to 34 11 [some (.ref (175)), some (.ref (a)), some (.int (nI (sgn tx p)))] [.int (ixf ordL (sgn tx p) 0)] h1 _
  refine e_if_ge f_34_11 rfl (fun c_11 => ?_) (fun c_11 => ?_)
  · skip
    have hin : sgn tx p ∈ ordL := ix_in (by decide) c_11
    have hsl2 : skp tx p + 1 ≤ tx.length := sgn_next hin (by decide)
    refine e_aload_n f_34_16 rfl rfl ?_
    refine e_dup f_34_17 rfl rfl ?_
    refine e_getf f_34_18 g4 rfl rfl ?_
    refine e_iconst (v := nI 1) f_34_21 (by decide) rfl ?_
    refine e_iadd (z := nI (skp tx p + 1)) f_34_22 (nI_add _ _) rfl ?_
    refine e_putp (vs' := [.ref (18), .int (nI tx.length), .int (n), .int (nI (skp tx p + 1))]) f_34_23 g4 (Nat.le_of_ble_eq_true rfl) (rfl) (rfl) rfl rfl (fun h14 g15 fx16 => ?_)
    have fr17 : px_fj a 9 175 1 h h14 := fj_tr fr6 fx16 (by omega)
    have g18 : pCase h1 a ev told os ks kept ck un := pCase_fi H1 fx5 (by omega)
    have g19 : pCase h14 a ev told os ks kept ck un := pCase_fi g18 fx16 (by omega)
    have g20 : h14.2.2 a = some (10, [.int (nI ev.length), .ref (a + 1), .ref (a + 2), .ref (a + 3), .ref (a + 4), .ref (a + 5), .int (nI os), .int (ks), .ref (a + 7), .int (nI ck), .int (nI un.length), .ref (a + 8)]) := g19.1
    have g21 : px_pa h14 (a + 1) 50 24 evS ev := g19.2.1
    have g22 : px_pa h14 (a + 2) 50 24 evK ev := g19.2.2.1
    have g23 : px_pa h14 (a + 3) 50 24 evV ev := g19.2.2.2.1
    have g24 : px_pa h14 (a + 4) 50 24 evT ev := g19.2.2.2.2.1
    have g25 : px_pa h14 (a + 7) 50 24 vN kept := g19.2.2.2.2.2.2.1
    have g26 : px_pa h14 (a + 8) 50 266 vN un := g19.2.2.2.2.2.2.2
    have g27 : pRows h14 (a + 5) 16 told := g19.2.2.2.2.2.1
    refine e_aload_n f_34_26 rfl rfl ?_
    refine e_iload_n f_34_27 rfl rfl ?_
    refine e_putp (vs' := [.int (nI ev.length), .ref (a + 1), .ref (a + 2), .ref (a + 3), .ref (a + 4), .ref (a + 5), .int (nI (sgn tx p)), .int (ks), .ref (a + 7), .int (nI ck), .int (nI un.length), .ref (a + 8)]) f_34_28 g20 (Nat.le_of_ble_eq_true rfl) (rfl) (rfl) rfl rfl (fun h28 g29 fx30 => ?_)
    have fr31 : px_fj a 9 175 1 h h28 := fj_tr fr17 fx30 (by omega)
    refine e_iconst (v := nI 1) f_34_31 (by decide) rfl ?_
    refine e_iret f_34_32 rfl (rfl) ?_
    have g32 : px_pa h28 (a + 1) 50 24 evS ev := pa_fi g21 fx30 (by omega)
    have g33 : px_pa h28 (a + 2) 50 24 evK ev := pa_fi g22 fx30 (by omega)
    have g34 : px_pa h28 (a + 3) 50 24 evV ev := pa_fi g23 fx30 (by omega)
    have g35 : px_pa h28 (a + 4) 50 24 evT ev := pa_fi g24 fx30 (by omega)
    have g36 : pRows h28 (a + 5) 16 told := pRows_fi g27 fx30 (by omega)
    have g37 : px_pa h28 (a + 7) 50 24 vN kept := pa_fi g25 fx30 (by omega)
    have g38 : px_pa h28 (a + 8) 50 266 vN un := pa_fi g26 fx30 (by omega)
    have g39 : pCase h28 a ev told (sgn tx p) ks kept ck un := ⟨g29, g32, g33, g34, g35, g36, g37, g38⟩
    have g40 : h28.2.2 175 = some (4, [.ref (18), .int (nI tx.length), .int (n), .int (nI (skp tx p + 1))]) := fi_at g15 fx30 (by omega)
    rw [if_pos hin, if_pos hin]
    exact ⟨congrArg (fun z => some (Value.int z)) (b1 (decide_eq_true hin)), g40, g39, fr31⟩
  · skip
    have hin : sgn tx p ∉ ordL := ix_out (by decide) c_11
    refine e_iconst (v := nI 0) f_34_14 (by decide) rfl ?_
    refine e_iret f_34_15 rfl (rfl) ?_
    have g41 : pCase h1 a ev told os ks kept ck un := pCase_fi H1 fx5 (by omega)
    rw [if_neg hin, if_neg hin]
    exact ⟨congrArg (fun z => some (Value.int z)) (b0 (decide_eq_false hin)), g4, g41, fr6⟩
