def pMD (h : px_H) (tx : List Nat) (j : List St) (xs : List CS3) : Prop := ∃ (gp : gP) (gq : gQ) (gh : gH) (gw : gW) (gu : gU) (gv : gV) (jn : List St) (sl : List Int32) (sl2 : List Int32) (lh : List Row) (lg : List Row) (lo : List Row) (lt : List Row) (cv : List Int32) (pl : List Nat) (ke : List Nat), h.2.2 269 = some (12, mB (nI tx.length, nI j.length, nI xs.length) gp gq gh gw gu gv) ∧ px_pa h 270 52 500 vN tx ∧ px_pa h 271 52 6 stS j ∧ px_pa h 272 52 6 stA j ∧ px_pa h 273 50 6 stN j ∧ pMA h xs ∧ px_pa h 284 52 6 stS jn ∧ px_pa h 285 52 6 stA jn ∧ px_pa h 286 50 6 stN jn ∧ px_pa h 287 50 3070 Value.int sl ∧ px_pa h 288 50 3070 Value.int sl2 ∧ px_pa h 289 54 100 rK lh ∧ px_pa h 290 50 100 rV lh ∧ px_pa h 291 50 100 rT lh ∧ px_pa h 292 54 100 rK lg ∧ px_pa h 293 50 100 rV lg ∧ px_pa h 294 50 100 rT lg ∧ px_pa h 295 50 30 Value.int cv ∧ px_pa h 296 50 24 vN pl ∧ px_pa h 297 54 100 rK lo ∧ px_pa h 298 50 100 rV lo ∧ px_pa h 299 50 100 rT lo ∧ px_pa h 300 54 100 rK lt ∧ px_pa h 301 50 100 rV lt ∧ px_pa h 302 50 100 rT lt ∧ px_pa h 303 50 24 vN ke ∧ (okTx tx ∧ okB j ∧ (xs.length ≤ 8 ∧ ∀ x ∈ xs, okC3 x) ∧ (sl.length = 3070 ∧ sl2.length = 3070 ∧ cv.length = 30) ∧ gq.2.2.2.2.2.2 = false)

set_option maxRecDepth 20000 in
set_option maxHeartbeats 4000000 in
theorem cc_Md_mutOf {h : px_H} {i : Nat} {j : List St} {ga : gA} {gp : gP} {gq : gQ} {gh : gH} {gw : gW} {gu : gU} {gv : gV} (H0 : h.2.2 269 = some (12, mB ga gp gq gh gw gu gv)) (H1 : px_pa h 271 52 6 stS j) (p0 : i < j.length) (p1 : (j.getD i (0, 0, 0)).1 < 65536) : px_wp 194 [.ref (269), .int (nI i)] h (fun h1 r => r = some (.int (nI (ways (j.getD i (0, 0, 0))))) ∧ h1 = h) := by
  show px_to 194 0 [some (.ref (269)), some (.int (nI i))] [] h _
  refine e_aload_n f_194_0 rfl rfl ?_
  refine e_getf f_194_1 H0 rfl rfl ?_
  refine e_iload_n f_194_4 rfl rfl ?_
  refine e_caload_p (xs := j) f_194_5 H1 (d := (0, 0, 0)) (by first | omega | (simp only [List.length_set]; omega)) rfl ?_
  show px_to 194 6 [some (.ref (269)), some (.int (nI i))] [.int (nI ((j.getD i (0, 0, 0)).1))] h _
  by_cases c_6_100 : (j.getD i (0, 0, 0)).1 = 100
  · skip
    refine e_sw_l f_194_6 (t := 50) (by rw [c_6_100]; rfl) ?_
    refine e_iconst (v := nI 1) f_194_50 (by decide) rfl ?_
    refine e_iret f_194_51 rfl (rfl) ?_
    exact ⟨congrArg (fun z => some (Value.int (nI z))) (by unfold ways; (repeat' split) <;> omega), rfl⟩
  · skip
    by_cases c_6_102 : (j.getD i (0, 0, 0)).1 = 102
    · skip
      refine e_sw_l f_194_6 (t := 48) (by rw [c_6_102]; rfl) ?_
      refine e_iconst (v := nI 5) f_194_48 (by decide) rfl ?_
      refine e_iret f_194_49 rfl (rfl) ?_
      exact ⟨congrArg (fun z => some (Value.int (nI z))) (by unfold ways; (repeat' split) <;> omega), rfl⟩
    · skip
      by_cases c_6_109 : (j.getD i (0, 0, 0)).1 = 109
      · skip
        refine e_sw_l f_194_6 (t := 48) (by rw [c_6_109]; rfl) ?_
        refine e_iconst (v := nI 5) f_194_48 (by decide) rfl ?_
        refine e_iret f_194_49 rfl (rfl) ?_
        exact ⟨congrArg (fun z => some (Value.int (nI z))) (by unfold ways; (repeat' split) <;> omega), rfl⟩
      · skip
        by_cases c_6_115 : (j.getD i (0, 0, 0)).1 = 115
        · skip
          refine e_sw_l f_194_6 (t := 50) (by rw [c_6_115]; rfl) ?_
          refine e_iconst (v := nI 1) f_194_50 (by decide) rfl ?_
          refine e_iret f_194_51 rfl (rfl) ?_
          exact ⟨congrArg (fun z => some (Value.int (nI z))) (by unfold ways; (repeat' split) <;> omega), rfl⟩
        · skip
          refine e_sw_l f_194_6 (t := 52) (lsw_df (List.forall_mem_cons.mpr ⟨lsw_neN (by omega) c_6_100, List.forall_mem_cons.mpr ⟨lsw_neN (by omega) c_6_102, List.forall_mem_cons.mpr ⟨lsw_neN (by omega) c_6_109, List.forall_mem_cons.mpr ⟨lsw_neN (by omega) c_6_115, by simp⟩⟩⟩⟩) rfl) ?_
          refine e_iconst (v := nI 2) f_194_52 (by decide) rfl ?_
          refine e_iret f_194_53 rfl (rfl) ?_
          exact ⟨congrArg (fun z => some (Value.int (nI z))) (by unfold ways; (repeat' split) <;> omega), rfl⟩

set_option maxRecDepth 20000 in
set_option maxHeartbeats 4000000 in
theorem ll_Md_muts {P : px_H → Option Value → Prop} {h : px_H} {n : Nat} {L cn : Int32} {j : List St} {gp : gP} {gq : gQ} {gh : gH} {gw : gW} {gu : gU} {gv : gV} (H0 : h.2.2 269 = some (12, mB (L, nI j.length, cn) gp gq gh gw gu gv)) (H1 : px_pa h 271 52 6 stS j) (p0 : ∀ s ∈ j, s.1 < 65536) (hk : ∀ {r}, r = some (.int (nI n)) → P h r) : ∀ (d : Nat) (i : Nat) (acc : Nat), (j.length ≤ i + d) → (i ≤ j.length) → (acc + jMut (j.drop i) = n) → px_to 195 4 [some (.ref (269)), some (.int (nI acc)), some (.int (nI i))] [] h P := by
  intro d
  induction d using Nat.strongRecOn with
  | ind d ih =>
    intro i acc q0 q1 q2
    have lj := pa_len H1
    refine e_iload_n f_195_4 rfl rfl ?_
    refine e_aload_n f_195_5 rfl rfl ?_
    refine e_getf f_195_6 H0 rfl rfl ?_
    show px_to 195 9 [some (.ref (269)), some (.int (nI acc)), some (.int (nI i))] [.int (nI j.length), .int (nI i)] h _
    refine e_icmp_ge f_195_9 rfl (fun c_9 => ?_) (fun c_9 => ?_)
    · skip
      have c_9 : j.length ≤ i := cv_le (by omega) (by omega) c_9
      refine e_iload_n f_195_26 rfl rfl ?_
      refine e_iret f_195_27 rfl (rfl) ?_
      rw [List.drop_eq_nil_of_le (by omega), jMut] at q2
      exact hk (by rw [← q2]; rfl)
    · skip
      have c_9 : i < j.length := cv_nle (by omega) (by omega) c_9
      refine e_iload_n f_195_12 rfl rfl ?_
      refine e_aload_n f_195_13 rfl rfl ?_
      refine e_iload_n f_195_14 rfl rfl ?_
      refine e_callV (As := [.int (nI i)]) (rest := [.int (nI acc)]) f_195_15 rfl rfl rfl (Nat.le_of_ble_eq_true rfl) (Nat.le_of_ble_eq_true rfl) H0 rfl (Nat.le_of_ble_eq_true rfl) (cc_Md_mutOf (i := i) (j := j) (ga := (L, nI j.length, cn)) (gp := gp) (gq := gq) (gh := gh) (gw := gw) (gu := gu) (gv := gv) H0 H1 (by omega) (p0 _ (getD_mem _ (by omega)))) rfl (fun h1 r2 q3 => ?_)
      obtain ⟨rfl, qe⟩ := q3
      have qe := qe.symm
      subst qe
      show px_to 195 18 [some (.ref (269)), some (.int (nI acc)), some (.int (nI i))] [.int (nI (ways (j.getD i (0, 0, 0)))), .int (nI acc)] h _
      refine e_iadd (z := nI (acc + ways (j.getD i (0, 0, 0)))) f_195_18 (nI_add _ _) rfl ?_
      refine e_istore_n (L' := [some (.ref (269)), some (.int (nI (acc + ways (j.getD i (0, 0, 0))))), some (.int (nI i))]) f_195_19 (Nat.le_of_ble_eq_true rfl) rfl rfl ?_
      refine e_iinc (y := nI (i + 1)) (L' := [some (.ref (269)), some (.int (nI (acc + ways (j.getD i (0, 0, 0))))), some (.int (nI (i + 1)))]) f_195_20 rfl (by rw [show Int32.ofInt 1 = nI 1 by decide]; exact (nI_add _ _)) rfl rfl ?_
      refine e_goto f_195_23 ?_
      first | (exfalso; omega) | exact ih (d - 1) (by omega) (i + 1) (acc + ways (j.getD i (0, 0, 0)))  (by omega) (by omega) (by rw [drop_step (0, 0, 0) (show i < j.length by omega), jMut] at q2; omega)  

set_option maxRecDepth 20000 in
set_option maxHeartbeats 4000000 in
theorem cc_Md_muts {h : px_H} {L cn : Int32} {j : List St} {gp : gP} {gq : gQ} {gh : gH} {gw : gW} {gu : gU} {gv : gV} (H0 : h.2.2 269 = some (12, mB (L, nI j.length, cn) gp gq gh gw gu gv)) (H1 : px_pa h 271 52 6 stS j) (p0 : ∀ s ∈ j, s.1 < 65536) : px_wp 195 [.ref (269)] h (fun h1 r => r = some (.int (nI (jMut j))) ∧ h1 = h) := by
  have lj := pa_len H1
  show px_to 195 0 [some (.ref (269)), none, none] [] h _
  refine e_iconst (v := nI 0) f_195_0 (by decide) rfl ?_
  refine e_istore_n (L' := [some (.ref (269)), some (.int (nI 0)), none]) f_195_1 (Nat.le_of_ble_eq_true rfl) rfl rfl ?_
  refine e_iconst (v := nI 0) f_195_2 (by decide) rfl ?_
  refine e_istore_n (L' := [some (.ref (269)), some (.int (nI 0)), some (.int (nI 0))]) f_195_3 (Nat.le_of_ble_eq_true rfl) rfl rfl ?_
  exact ll_Md_muts H0 H1 p0 (fun e => ⟨e, rfl⟩) j.length 0 0 (by omega) (by omega) (Nat.zero_add _)

set_option maxRecDepth 20000 in
set_option maxHeartbeats 4000000 in
theorem cc_MD_count {h : px_H} {tx : List Nat} {j : List St} {xs : List CS3} {w : Int32} (H0 : pMD h tx j xs)  : px_wp 203 [.ref (269), .int (w)] h (fun h1 r => r = some (.int (aCount tx j xs w)) ∧ pMD h1 tx j xs ∧ px_fi 269 35 h h1) := by
  have fr0 : px_fi 269 35 h h := fi_rf _ _ _
  show px_to 203 0 [some (.ref (269)), some (.int (w))] [] h _
  obtain ⟨gp, gq, gh, gw, gu, gv, jn, sl, sl2, lh, lg, lo, lt, cv, pl, ke, g1, g2, g3, g4, g5, g6, g7, g8, g9, g10, g11, g12, g13, g14, g15, g16, g17, g18, g19, g20, g21, g22, g23, g24, g25, g26, ok⟩ := id H0
  have h8 : xs.length ≤ 8 := ok.2.2.1.1
  have hj6 : j.length ≤ 6 := ok.2.1.1.1
  have htl : tx.length ≤ 500 := pa_len g2
  refine e_iload_n f_203_0 rfl rfl ?_
  by_cases c_1_0 : w = nI 0
  · skip
    refine e_sw_t f_203_1 (t := 32) (by rw [c_1_0]; rfl) ?_
    refine e_aload_n f_203_32 rfl rfl ?_
    refine e_getf f_203_33 g1 rfl rfl ?_
    show px_to 203 36 [some (.ref (269)), some (.int (w))] [.int (nI j.length)] h _
    refine e_iret f_203_36 rfl (rfl) ?_
    have g27 : pMD h tx j xs := ⟨gp, gq, gh, gw, gu, gv, jn, sl, sl2, lh, lg, lo, lt, cv, pl, ke, g1, g2, g3, g4, g5, g6, g7, g8, g9, g10, g11, g12, g13, g14, g15, g16, g17, g18, g19, g20, g21, g22, g23, g24, g25, g26, ok⟩
    exact ⟨congrArg (fun z => some (Value.int z)) (show nI j.length = _ from by unfold aCount; rw [if_pos c_1_0]), g27, fr0⟩
  · skip
    by_cases c_1_1 : w = nI 1
    · skip
      refine e_sw_t f_203_1 (t := 37) (by rw [c_1_1]; rfl) ?_
      refine e_aload_n f_203_37 rfl rfl ?_
      refine e_getf f_203_38 g1 rfl rfl ?_
      show px_to 203 41 [some (.ref (269)), some (.int (w))] [.int (nI xs.length)] h _
      refine e_iret f_203_41 rfl (rfl) ?_
      have g28 : pMD h tx j xs := ⟨gp, gq, gh, gw, gu, gv, jn, sl, sl2, lh, lg, lo, lt, cv, pl, ke, g1, g2, g3, g4, g5, g6, g7, g8, g9, g10, g11, g12, g13, g14, g15, g16, g17, g18, g19, g20, g21, g22, g23, g24, g25, g26, ok⟩
      exact ⟨congrArg (fun z => some (Value.int z)) (show nI xs.length = _ from by unfold aCount; rw [if_neg c_1_0, if_pos c_1_1]), g28, fr0⟩
    · skip
      by_cases c_1_2 : w = nI 2
      · skip
        refine e_sw_t f_203_1 (t := 42) (by rw [c_1_2]; rfl) ?_
        refine e_aload_n f_203_42 rfl rfl ?_
        refine e_getf f_203_43 g1 rfl rfl ?_
        show px_to 203 46 [some (.ref (269)), some (.int (w))] [.int (nI tx.length)] h _
        refine e_iret f_203_46 rfl (rfl) ?_
        have g29 : pMD h tx j xs := ⟨gp, gq, gh, gw, gu, gv, jn, sl, sl2, lh, lg, lo, lt, cv, pl, ke, g1, g2, g3, g4, g5, g6, g7, g8, g9, g10, g11, g12, g13, g14, g15, g16, g17, g18, g19, g20, g21, g22, g23, g24, g25, g26, ok⟩
        exact ⟨congrArg (fun z => some (Value.int z)) (show nI tx.length = _ from by unfold aCount; rw [if_neg c_1_0, if_neg c_1_1, if_pos c_1_2]), g29, fr0⟩
      · skip
        by_cases c_1_3 : w = nI 3
        · skip
          refine e_sw_t f_203_1 (t := 47) (by rw [c_1_3]; rfl) ?_
          refine e_aload_n f_203_47 rfl rfl ?_
          refine e_callV (As := []) (rest := []) f_203_48 rfl rfl rfl (Nat.le_of_ble_eq_true rfl) (Nat.le_of_ble_eq_true rfl) g1 rfl (Nat.le_of_ble_eq_true rfl) (cc_Md_muts (L := nI tx.length) (cn := nI xs.length) (j := j) (gp := gp) (gq := gq) (gh := gh) (gw := gw) (gu := gu) (gv := gv) g1 g3 (fun s hs => by have := (ok.2.1.2 s hs).1.1; omega)) rfl (fun h30 r31 q32 => ?_)
          obtain ⟨rfl, qe⟩ := q32
          have qe := qe.symm
          subst qe
          show px_to 203 51 [some (.ref (269)), some (.int (w))] [.int (nI (jMut j))] h _
          refine e_iret f_203_51 rfl (rfl) ?_
          have g33 : pMD h tx j xs := ⟨gp, gq, gh, gw, gu, gv, jn, sl, sl2, lh, lg, lo, lt, cv, pl, ke, g1, g2, g3, g4, g5, g6, g7, g8, g9, g10, g11, g12, g13, g14, g15, g16, g17, g18, g19, g20, g21, g22, g23, g24, g25, g26, ok⟩
          exact ⟨congrArg (fun z => some (Value.int z)) (show nI (jMut j) = _ from by unfold aCount; rw [if_neg c_1_0, if_neg c_1_1, if_neg c_1_2, if_pos c_1_3]), g33, fr0⟩
        · skip
          refine e_sw_t f_203_1 (t := 52) (tsw_df (by have z0 := ne_toInt c_1_0 (by decide); have z1 := ne_toInt c_1_1 (by decide); have z2 := ne_toInt c_1_2 (by decide); have z3 := ne_toInt c_1_3 (by decide); omega) rfl) ?_
          refine e_iconst (v := (-1)) f_203_52 (by decide) rfl ?_
          refine e_iret f_203_53 rfl (rfl) ?_
          have g34 : pMD h tx j xs := ⟨gp, gq, gh, gw, gu, gv, jn, sl, sl2, lh, lg, lo, lt, cv, pl, ke, g1, g2, g3, g4, g5, g6, g7, g8, g9, g10, g11, g12, g13, g14, g15, g16, g17, g18, g19, g20, g21, g22, g23, g24, g25, g26, ok⟩
          exact ⟨congrArg (fun z => some (Value.int z)) (show (-1) = _ from by unfold aCount; rw [if_neg c_1_0, if_neg c_1_1, if_neg c_1_2, if_neg c_1_3]), g34, fr0⟩

theorem in_hasC {c : Int32} {n : Nat} (h : n < 1000) : decide (nI 0 ≤ c ∧ c ≤ nI n - nI 1) = hasC c n := by
  unfold hasC
  apply decide_eq_decide.mpr
  rw [show nI 0 = 0 from nI_0]
  rcases Nat.eq_zero_or_pos n with e | e
  · subst e
    constructor
    · intro z
      exfalso
      have h1 := Int32.le_iff_toInt_le.mp z.1
      have h2 := Int32.le_iff_toInt_le.mp z.2
      rw [show (0 : Int32).toInt = 0 by decide] at h1
      rw [show (nI 0 - nI 1).toInt = -1 by decide] at h2
      omega
    · intro z
      exfalso
      have h1 := Int32.le_iff_toInt_le.mp z.1
      have h2 := Int32.lt_iff_toInt_lt.mp z.2
      rw [show (0 : Int32).toInt = 0 by decide] at h1
      rw [show (nI 0).toInt = 0 by decide] at h2
      omega
  · rw [pk_sub e, Int32.le_iff_toInt_le, Int32.le_iff_toInt_le, Int32.lt_iff_toInt_lt, nI_toInt (by omega), nI_toInt (by omega)]
    omega

set_option maxRecDepth 20000 in
set_option maxHeartbeats 4000000 in
theorem cc_Md_isCase {h : px_H} {c L sn : Int32} {xs : List CS3} {gp : gP} {gq : gQ} {gh : gH} {gw : gW} {gu : gU} {gv : gV} (H0 : h.2.2 269 = some (12, mB (L, sn, nI xs.length) gp gq gh gw gu gv)) (p0 : xs.length ≤ 8) : px_wp 167 [.ref (269), .int (c)] h (fun h1 r => r = some (.int (bI (hasC c xs.length))) ∧ h1 = h) := by
  show px_to 167 0 [some (.ref (269)), some (.int (c))] [] h _
  refine e_iload_n f_167_0 rfl rfl ?_
  refine e_iconst (v := nI 0) f_167_1 (by decide) rfl ?_
  refine e_aload_n f_167_2 rfl rfl ?_
  refine e_getf f_167_3 H0 rfl rfl ?_
  show px_to 167 6 [some (.ref (269)), some (.int (c))] [.int (nI xs.length), .int (nI 0), .int (c)] h _
  refine e_iconst (v := nI 1) f_167_6 (by decide) rfl ?_
  refine e_isub (z := (nI xs.length) - (nI 1)) f_167_7 rfl rfl ?_
  refine e_callS (As := [.int (c), .int (nI 0), .int ((nI xs.length) - (nI 1))]) (rest := []) f_167_8 rfl rfl rfl (Nat.le_of_ble_eq_true rfl) (Nat.le_of_ble_eq_true rfl) (cc_Md_in (v := c) (lo := nI 0) (hi := (nI xs.length) - (nI 1))  ) rfl (fun h1 r2 q3 => ?_)
  obtain ⟨rfl, qe⟩ := q3
  have qe := qe.symm
  subst qe
  show px_to 167 11 [some (.ref (269)), some (.int (c))] [.int (bI (decide (nI 0 ≤ c ∧ c ≤ (nI xs.length) - (nI 1))))] h _
  refine e_iret f_167_11 rfl (nw_bI _) ?_
  exact ⟨congrArg (fun z => some (Value.int (bI z))) (in_hasC (by omega)), rfl⟩

theorem in3 {s : Int32} : decide (nI 0 ≤ s ∧ s ≤ nI 3) = hasC s 4 := by
  rw [show nI 3 = nI 4 - nI 1 by decide]
  exact in_hasC (by decide)
theorem in4 {s : Int32} : decide (nI 0 ≤ s ∧ s ≤ nI 4) = hasC s 5 := by
  rw [show nI 4 = nI 5 - nI 1 by decide]
  exact in_hasC (by decide)
theorem in2 {s : Int32} : decide (nI 0 ≤ s ∧ s ≤ nI 2) = hasC s 3 := by
  rw [show nI 2 = nI 3 - nI 1 by decide]
  exact in_hasC (by decide)

set_option maxRecDepth 20000 in
set_option maxHeartbeats 4000000 in
theorem cc_Md_isAsk {h : px_H} {c s L sn : Int32} {xs : List CS3} {gp : gP} {gq : gQ} {gh : gH} {gw : gW} {gu : gU} {gv : gV} (H0 : h.2.2 269 = some (12, mB (L, sn, nI xs.length) gp gq gh gw gu gv)) (p0 : xs.length ≤ 8) : px_wp 178 [.ref (269), .int (c), .int (s)] h (fun h1 r => r = some (.int (bI (hasC c xs.length && hasC s 4))) ∧ h1 = h) := by
  show px_to 178 0 [some (.ref (269)), some (.int (c)), some (.int (s))] [] h _
  refine e_aload_n f_178_0 rfl rfl ?_
  refine e_iload_n f_178_1 rfl rfl ?_
  refine e_callV (As := [.int (c)]) (rest := []) f_178_2 rfl rfl rfl (Nat.le_of_ble_eq_true rfl) (Nat.le_of_ble_eq_true rfl) H0 rfl (Nat.le_of_ble_eq_true rfl) (cc_Md_isCase (c := c) (L := L) (sn := sn) (xs := xs) (gp := gp) (gq := gq) (gh := gh) (gw := gw) (gu := gu) (gv := gv) H0 (by omega)) rfl (fun h1 r2 q3 => ?_)
  obtain ⟨rfl, qe⟩ := q3
  have qe := qe.symm
  subst qe
  show px_to 178 5 [some (.ref (269)), some (.int (c)), some (.int (s))] [.int (bI (hasC c xs.length))] h _
  refine e_if_eq f_178_5 rfl (fun c_5 => ?_) (fun c_5 => ?_)
  · skip
    have c_5 : (hasC c xs.length) = false := bI_f c_5
    refine e_iconst (v := nI 0) f_178_21 (by decide) rfl ?_
    refine e_iret f_178_22 rfl (rfl) ?_
    exact ⟨congrArg (fun z => some (Value.int z)) (b0 (by rw [← in3, c_5]; rfl)), rfl⟩
  · skip
    have c_5 : (hasC c xs.length) = true := bI_t' c_5
    refine e_iload_n f_178_8 rfl rfl ?_
    refine e_iconst (v := nI 0) f_178_9 (by decide) rfl ?_
    refine e_iconst (v := nI 3) f_178_10 (by decide) rfl ?_
    refine e_callS (As := [.int (s), .int (nI 0), .int (nI 3)]) (rest := []) f_178_11 rfl rfl rfl (Nat.le_of_ble_eq_true rfl) (Nat.le_of_ble_eq_true rfl) (cc_Md_in (v := s) (lo := nI 0) (hi := nI 3)  ) rfl (fun h4 r5 q6 => ?_)
    obtain ⟨rfl, qe⟩ := q6
    have qe := qe.symm
    subst qe
    show px_to 178 14 [some (.ref (269)), some (.int (c)), some (.int (s))] [.int (bI (decide (nI 0 ≤ s ∧ s ≤ nI 3)))] h _
    refine e_if_eq f_178_14 rfl (fun c_14 => ?_) (fun c_14 => ?_)
    · skip
      have c_14 : (decide (nI 0 ≤ s ∧ s ≤ nI 3)) = false := bI_f c_14
      refine e_iconst (v := nI 0) f_178_21 (by decide) rfl ?_
      refine e_iret f_178_22 rfl (rfl) ?_
      exact ⟨congrArg (fun z => some (Value.int z)) (b0 (by rw [← in3, c_5, c_14]; rfl)), rfl⟩
    · skip
      have c_14 : (decide (nI 0 ≤ s ∧ s ≤ nI 3)) = true := bI_t' c_14
      refine e_iconst (v := nI 1) f_178_17 (by decide) rfl ?_
      refine e_goto f_178_18 ?_
      refine e_iret f_178_22 rfl (rfl) ?_
      exact ⟨congrArg (fun z => some (Value.int z)) (b1 (by rw [← in3, c_5, c_14]; rfl)), rfl⟩

set_option maxRecDepth 20000 in
set_option maxHeartbeats 4000000 in
theorem cc_MD_event {h : px_H} {tx : List Nat} {j : List St} {xs : List CS3} {c : Int32} {i : Int32} {w : Int32} (H0 : pMD h tx j xs)  : px_wp 204 [.ref (269), .int (c), .int (i), .int (w)] h (fun h1 r => r = some (.int (aEvent xs c i w)) ∧ pMD h1 tx j xs ∧ px_fi 269 35 h h1) := by
  have fr0 : px_fi 269 35 h h := fi_rf _ _ _
  show px_to 204 0 [some (.ref (269)), some (.int (c)), some (.int (i)), some (.int (w)), none] [] h _
  obtain ⟨gp, gq, gh, gw, gu, gv, jn, sl, sl2, lh, lg, lo, lt, cv, pl, ke, g1, g2, g3, g4, g5, g6, g7, g8, g9, g10, g11, g12, g13, g14, g15, g16, g17, g18, g19, g20, g21, g22, g23, g24, g25, g26, ok⟩ := id H0
  have h8 : xs.length ≤ 8 := ok.2.2.1.1
  have hj6 : j.length ≤ 6 := ok.2.1.1.1
  have htl : tx.length ≤ 500 := pa_len g2
  refine e_aload_n f_204_0 rfl rfl ?_
  refine e_iload_n f_204_1 rfl rfl ?_
  refine e_callV (As := [.int (c)]) (rest := []) f_204_2 rfl rfl rfl (Nat.le_of_ble_eq_true rfl) (Nat.le_of_ble_eq_true rfl) g1 rfl (Nat.le_of_ble_eq_true rfl) (cc_Md_isCase (c := c) (L := nI tx.length) (sn := nI j.length) (xs := xs) (gp := gp) (gq := gq) (gh := gh) (gw := gw) (gu := gu) (gv := gv) g1 (by omega)) rfl (fun h27 r28 q29 => ?_)
  obtain ⟨rfl, qe⟩ := q29
  have qe := qe.symm
  subst qe
  show px_to 204 5 [some (.ref (269)), some (.int (c)), some (.int (i)), some (.int (w)), none] [.int (bI (hasC c xs.length))] h _
  refine e_if_eq f_204_5 rfl (fun c_5 => ?_) (fun c_5 => ?_)
  · skip
    have c_5 : (hasC c xs.length) = false := bI_f c_5
    refine e_iconst (v := (-1)) f_204_24 (by decide) rfl ?_
    refine e_iret f_204_25 rfl (rfl) ?_
    have g30 : pMD h tx j xs := ⟨gp, gq, gh, gw, gu, gv, jn, sl, sl2, lh, lg, lo, lt, cv, pl, ke, g1, g2, g3, g4, g5, g6, g7, g8, g9, g10, g11, g12, g13, g14, g15, g16, g17, g18, g19, g20, g21, g22, g23, g24, g25, g26, ok⟩
    exact ⟨congrArg (fun z => some (Value.int z)) (show (-1) = _ from (onC_no c_5).symm), g30, fr0⟩
  · skip
    have c_5 : (hasC c xs.length) = true := bI_t' c_5
    obtain ⟨k, hk, hkc⟩ := hasC_t (by omega) c_5
    subst hkc
    have hcx : okC3 (xs.getD k c30) := ok.2.2.1.2 _ (getD_mem _ hk)
    obtain ⟨em31, es32, om33, ro34, wn35, g36, g37, g38, g39, g40, g41, g42, g43, g44, g45, hA46⟩ := id g6
    obtain ⟨hA1, hA2, hA3, hA4, hA5⟩ := hA46.2 k hk
    have hAl := hA46.1
    have hel := hcx.1
    refine e_iload_n f_204_8 rfl rfl ?_
    refine e_iconst (v := nI 0) f_204_9 (by decide) rfl ?_
    refine e_aload_n f_204_10 rfl rfl ?_
    refine e_getf f_204_11 g1 rfl rfl ?_
    refine e_iload_n f_204_14 rfl rfl ?_
    refine e_iaload_p (xs := em31) f_204_15 g36 (d := 0) (by first | omega | (simp only [List.length_set]; omega)) rfl ?_
    show px_to 204 16 [some (.ref (269)), some (.int (nI k)), some (.int (i)), some (.int (w)), none] [.int (nI (em31.getD k 0)), .int (nI 0), .int (i)] h _
    rw [hA1]
    refine e_iconst (v := nI 1) f_204_16 (by decide) rfl ?_
    refine e_isub (z := (nI ((xs.getD k c30).1.length)) - (nI 1)) f_204_17 rfl rfl ?_
    refine e_callS (As := [.int (i), .int (nI 0), .int ((nI ((xs.getD k c30).1.length)) - (nI 1))]) (rest := []) f_204_18 rfl rfl rfl (Nat.le_of_ble_eq_true rfl) (Nat.le_of_ble_eq_true rfl) (cc_Md_in (v := i) (lo := nI 0) (hi := (nI ((xs.getD k c30).1.length)) - (nI 1))  ) rfl (fun h47 r48 q49 => ?_)
    obtain ⟨rfl, qe⟩ := q49
    have qe := qe.symm
    subst qe
    show px_to 204 21 [some (.ref (269)), some (.int (nI k)), some (.int (i)), some (.int (w)), none] [.int (bI (decide (nI 0 ≤ i ∧ i ≤ (nI ((xs.getD k c30).1.length)) - (nI 1))))] h _
    refine e_if_ne f_204_21 rfl (fun c_21 => ?_) (fun c_21 => ?_)
    · skip
      have c_21 : (decide (nI 0 ≤ i ∧ i ≤ (nI ((xs.getD k c30).1.length)) - (nI 1))) = true := bI_t c_21
      have c21 : hasC i (xs.getD k c30).1.length = true := by rw [← in_hasC (by omega)]; exact c_21
      obtain ⟨ki, hki, hkic⟩ := hasC_t (by omega) c21
      subst hkic
      have hev := hA2 ki hki
      refine e_bipush (v := nI 24) f_204_26 (by decide) rfl ?_
      refine e_iload_n f_204_28 rfl rfl ?_
      refine e_imul (z := nI (24 * k)) f_204_29 (pk_mul _ _) rfl ?_
      refine e_iload_n f_204_30 rfl rfl ?_
      refine e_iadd (z := nI (24 * k + ki)) f_204_31 (nI_add _ _) rfl ?_
      refine e_istore (L' := [some (.ref (269)), some (.int (nI k)), some (.int (nI ki)), some (.int (w)), some (.int (nI (24 * k + ki)))]) f_204_32 (Nat.le_of_ble_eq_true rfl) rfl rfl ?_
      refine e_iload_n f_204_34 rfl rfl ?_
      by_cases c_35_0 : w = nI 0
      · skip
        refine e_sw_t f_204_35 (t := 64) (by rw [c_35_0]; rfl) ?_
        refine e_aload_n f_204_64 rfl rfl ?_
        refine e_getf f_204_65 g1 rfl rfl ?_
        refine e_iload f_204_68 rfl rfl ?_
        refine e_caload_p (xs := es32) f_204_70 g37 (d := (0, 0, 0, 0)) (by first | omega | (simp only [List.length_set]; omega)) rfl ?_
        show px_to 204 71 [some (.ref (269)), some (.int (nI k)), some (.int (nI ki)), some (.int (w)), some (.int (nI (24 * k + ki)))] [.int (nI ((es32.getD (24 * k + ki) (0, 0, 0, 0)).1))] h _
        refine e_iret f_204_71 rfl (rfl) ?_
        have g50 : pMA h xs := ⟨_, _, _, _, _, g36, g37, g38, g39, g40, g41, g42, g43, g44, g45, hA46⟩
        have g51 : pMD h tx j xs := ⟨gp, gq, gh, gw, gu, gv, jn, sl, sl2, lh, lg, lo, lt, cv, pl, ke, g1, g2, g3, g4, g5, g50, g7, g8, g9, g10, g11, g12, g13, g14, g15, g16, g17, g18, g19, g20, g21, g22, g23, g24, g25, g26, ok⟩
        exact ⟨congrArg (fun z => some (Value.int z)) (show nI ((es32.getD (24 * k + ki) (0, 0, 0, 0)).1) = _ from by unfold aEvent; rw [onC_k h8 hk, if_pos (hasC_nI (by omega) hki), nN_nI (by omega)]; unfold evO; rw [if_pos c_35_0]; rw [hev]), g51, fr0⟩
      · skip
        by_cases c_35_1 : w = nI 1
        · skip
          refine e_sw_t f_204_35 (t := 72) (by rw [c_35_1]; rfl) ?_
          refine e_aload_n f_204_72 rfl rfl ?_
          refine e_getf f_204_73 g1 rfl rfl ?_
          refine e_iload f_204_76 rfl rfl ?_
          refine e_baload_p (xs := es32) f_204_78 g38 (d := (0, 0, 0, 0)) (by first | omega | (simp only [List.length_set]; omega)) rfl ?_
          show px_to 204 79 [some (.ref (269)), some (.int (nI k)), some (.int (nI ki)), some (.int (w)), some (.int (nI (24 * k + ki)))] [.int ((es32.getD (24 * k + ki) (0, 0, 0, 0)).2.1)] h _
          refine e_iret f_204_79 rfl (rfl) ?_
          have g52 : pMA h xs := ⟨_, _, _, _, _, g36, g37, g38, g39, g40, g41, g42, g43, g44, g45, hA46⟩
          have g53 : pMD h tx j xs := ⟨gp, gq, gh, gw, gu, gv, jn, sl, sl2, lh, lg, lo, lt, cv, pl, ke, g1, g2, g3, g4, g5, g52, g7, g8, g9, g10, g11, g12, g13, g14, g15, g16, g17, g18, g19, g20, g21, g22, g23, g24, g25, g26, ok⟩
          exact ⟨congrArg (fun z => some (Value.int z)) (show (es32.getD (24 * k + ki) (0, 0, 0, 0)).2.1 = _ from by unfold aEvent; rw [onC_k h8 hk, if_pos (hasC_nI (by omega) hki), nN_nI (by omega)]; unfold evO; rw [if_neg c_35_0, if_pos c_35_1]; rw [hev]), g53, fr0⟩
        · skip
          by_cases c_35_2 : w = nI 2
          · skip
            refine e_sw_t f_204_35 (t := 80) (by rw [c_35_2]; rfl) ?_
            refine e_aload_n f_204_80 rfl rfl ?_
            refine e_getf f_204_81 g1 rfl rfl ?_
            refine e_iload f_204_84 rfl rfl ?_
            refine e_saload_p (xs := es32) f_204_86 g39 (d := (0, 0, 0, 0)) (by first | omega | (simp only [List.length_set]; omega)) rfl ?_
            show px_to 204 87 [some (.ref (269)), some (.int (nI k)), some (.int (nI ki)), some (.int (w)), some (.int (nI (24 * k + ki)))] [.int ((es32.getD (24 * k + ki) (0, 0, 0, 0)).2.2.1)] h _
            refine e_iret f_204_87 rfl (rfl) ?_
            have g54 : pMA h xs := ⟨_, _, _, _, _, g36, g37, g38, g39, g40, g41, g42, g43, g44, g45, hA46⟩
            have g55 : pMD h tx j xs := ⟨gp, gq, gh, gw, gu, gv, jn, sl, sl2, lh, lg, lo, lt, cv, pl, ke, g1, g2, g3, g4, g5, g54, g7, g8, g9, g10, g11, g12, g13, g14, g15, g16, g17, g18, g19, g20, g21, g22, g23, g24, g25, g26, ok⟩
            exact ⟨congrArg (fun z => some (Value.int z)) (show (es32.getD (24 * k + ki) (0, 0, 0, 0)).2.2.1 = _ from by unfold aEvent; rw [onC_k h8 hk, if_pos (hasC_nI (by omega) hki), nN_nI (by omega)]; unfold evO; rw [if_neg c_35_0, if_neg c_35_1, if_pos c_35_2]; rw [hev]), g55, fr0⟩
          · skip
            by_cases c_35_3 : w = nI 3
            · skip
              refine e_sw_t f_204_35 (t := 88) (by rw [c_35_3]; rfl) ?_
              refine e_aload_n f_204_88 rfl rfl ?_
              refine e_getf f_204_89 g1 rfl rfl ?_
              refine e_iload f_204_92 rfl rfl ?_
              refine e_saload_p (xs := es32) f_204_94 g40 (d := (0, 0, 0, 0)) (by first | omega | (simp only [List.length_set]; omega)) rfl ?_
              show px_to 204 95 [some (.ref (269)), some (.int (nI k)), some (.int (nI ki)), some (.int (w)), some (.int (nI (24 * k + ki)))] [.int ((es32.getD (24 * k + ki) (0, 0, 0, 0)).2.2.2)] h _
              refine e_iret f_204_95 rfl (rfl) ?_
              have g56 : pMA h xs := ⟨_, _, _, _, _, g36, g37, g38, g39, g40, g41, g42, g43, g44, g45, hA46⟩
              have g57 : pMD h tx j xs := ⟨gp, gq, gh, gw, gu, gv, jn, sl, sl2, lh, lg, lo, lt, cv, pl, ke, g1, g2, g3, g4, g5, g56, g7, g8, g9, g10, g11, g12, g13, g14, g15, g16, g17, g18, g19, g20, g21, g22, g23, g24, g25, g26, ok⟩
              exact ⟨congrArg (fun z => some (Value.int z)) (show (es32.getD (24 * k + ki) (0, 0, 0, 0)).2.2.2 = _ from by unfold aEvent; rw [onC_k h8 hk, if_pos (hasC_nI (by omega) hki), nN_nI (by omega)]; unfold evO; rw [if_neg c_35_0, if_neg c_35_1, if_neg c_35_2, if_pos c_35_3]; rw [hev]), g57, fr0⟩
            · skip
              refine e_sw_t f_204_35 (t := 96) (tsw_df (by have z0 := ne_toInt c_35_0 (by decide); have z1 := ne_toInt c_35_1 (by decide); have z2 := ne_toInt c_35_2 (by decide); have z3 := ne_toInt c_35_3 (by decide); omega) rfl) ?_
              refine e_iconst (v := (-1)) f_204_96 (by decide) rfl ?_
              refine e_iret f_204_97 rfl (rfl) ?_
              have g58 : pMA h xs := ⟨_, _, _, _, _, g36, g37, g38, g39, g40, g41, g42, g43, g44, g45, hA46⟩
              have g59 : pMD h tx j xs := ⟨gp, gq, gh, gw, gu, gv, jn, sl, sl2, lh, lg, lo, lt, cv, pl, ke, g1, g2, g3, g4, g5, g58, g7, g8, g9, g10, g11, g12, g13, g14, g15, g16, g17, g18, g19, g20, g21, g22, g23, g24, g25, g26, ok⟩
              exact ⟨congrArg (fun z => some (Value.int z)) (show (-1) = _ from by unfold aEvent; rw [onC_k h8 hk, if_pos (hasC_nI (by omega) hki), nN_nI (by omega)]; unfold evO; rw [if_neg c_35_0, if_neg c_35_1, if_neg c_35_2, if_neg c_35_3]), g59, fr0⟩
    · skip
      have c_21 : (decide (nI 0 ≤ i ∧ i ≤ (nI ((xs.getD k c30).1.length)) - (nI 1))) = false := bI_f' c_21
      have c21 : hasC i (xs.getD k c30).1.length = false := by rw [← in_hasC (by omega)]; exact c_21
      refine e_iconst (v := (-1)) f_204_24 (by decide) rfl ?_
      refine e_iret f_204_25 rfl (rfl) ?_
      have g60 : pMA h xs := ⟨_, _, _, _, _, g36, g37, g38, g39, g40, g41, g42, g43, g44, g45, hA46⟩
      have g61 : pMD h tx j xs := ⟨gp, gq, gh, gw, gu, gv, jn, sl, sl2, lh, lg, lo, lt, cv, pl, ke, g1, g2, g3, g4, g5, g60, g7, g8, g9, g10, g11, g12, g13, g14, g15, g16, g17, g18, g19, g20, g21, g22, g23, g24, g25, g26, ok⟩
      exact ⟨congrArg (fun z => some (Value.int z)) (show (-1) = _ from by unfold aEvent; rw [onC_k h8 hk, if_neg (by rw [c21]; decide)]), g61, fr0⟩

set_option maxRecDepth 20000 in
set_option maxHeartbeats 4000000 in
theorem cc_MD_step {h : px_H} {tx : List Nat} {j : List St} {xs : List CS3} {k : Int32} {w : Int32} (H0 : pMD h tx j xs)  : px_wp 205 [.ref (269), .int (k), .int (w)] h (fun h1 r => r = some (.int (aStep j k w)) ∧ pMD h1 tx j xs ∧ px_fi 269 35 h h1) := by
  have fr0 : px_fi 269 35 h h := fi_rf _ _ _
  show px_to 205 0 [some (.ref (269)), some (.int (k)), some (.int (w))] [] h _
  obtain ⟨gp, gq, gh, gw, gu, gv, jn, sl, sl2, lh, lg, lo, lt, cv, pl, ke, g1, g2, g3, g4, g5, g6, g7, g8, g9, g10, g11, g12, g13, g14, g15, g16, g17, g18, g19, g20, g21, g22, g23, g24, g25, g26, ok⟩ := id H0
  have h8 : xs.length ≤ 8 := ok.2.2.1.1
  have hj6 : j.length ≤ 6 := ok.2.1.1.1
  have htl : tx.length ≤ 500 := pa_len g2
  refine e_iload_n f_205_0 rfl rfl ?_
  refine e_iconst (v := nI 0) f_205_1 (by decide) rfl ?_
  refine e_aload_n f_205_2 rfl rfl ?_
  refine e_getf f_205_3 g1 rfl rfl ?_
  show px_to 205 6 [some (.ref (269)), some (.int (k)), some (.int (w))] [.int (nI j.length), .int (nI 0), .int (k)] h _
  refine e_iconst (v := nI 1) f_205_6 (by decide) rfl ?_
  refine e_isub (z := (nI j.length) - (nI 1)) f_205_7 rfl rfl ?_
  refine e_callS (As := [.int (k), .int (nI 0), .int ((nI j.length) - (nI 1))]) (rest := []) f_205_8 rfl rfl rfl (Nat.le_of_ble_eq_true rfl) (Nat.le_of_ble_eq_true rfl) (cc_Md_in (v := k) (lo := nI 0) (hi := (nI j.length) - (nI 1))  ) rfl (fun h27 r28 q29 => ?_)
  obtain ⟨rfl, qe⟩ := q29
  have qe := qe.symm
  subst qe
  show px_to 205 11 [some (.ref (269)), some (.int (k)), some (.int (w))] [.int (bI (decide (nI 0 ≤ k ∧ k ≤ (nI j.length) - (nI 1))))] h _
  refine e_if_ne f_205_11 rfl (fun c_11 => ?_) (fun c_11 => ?_)
  · skip
    have c_11 : (decide (nI 0 ≤ k ∧ k ≤ (nI j.length) - (nI 1))) = true := bI_t c_11
    have c11 : hasC k j.length = true := by rw [← in_hasC (by omega)]; exact c_11
    obtain ⟨ki, hki, hkic⟩ := hasC_t (by omega) c11
    subst hkic
    have hsk := (ok.2.1.2 _ (getD_mem (0, 0, 0) hki)).1
    refine e_iload_n f_205_16 rfl rfl ?_
    by_cases c_17_0 : w = nI 0
    · skip
      refine e_sw_t f_205_17 (t := 44) (by rw [c_17_0]; rfl) ?_
      refine e_aload_n f_205_44 rfl rfl ?_
      refine e_getf f_205_45 g1 rfl rfl ?_
      refine e_iload_n f_205_48 rfl rfl ?_
      refine e_caload_p (xs := j) f_205_49 g3 (d := (0, 0, 0)) (by first | omega | (simp only [List.length_set]; omega)) rfl ?_
      show px_to 205 50 [some (.ref (269)), some (.int (nI ki)), some (.int (w))] [.int (nI ((j.getD ki (0, 0, 0)).1))] h _
      refine e_iret f_205_50 rfl (rfl) ?_
      have g30 : pMD h tx j xs := ⟨gp, gq, gh, gw, gu, gv, jn, sl, sl2, lh, lg, lo, lt, cv, pl, ke, g1, g2, g3, g4, g5, g6, g7, g8, g9, g10, g11, g12, g13, g14, g15, g16, g17, g18, g19, g20, g21, g22, g23, g24, g25, g26, ok⟩
      exact ⟨congrArg (fun z => some (Value.int z)) (show nI ((j.getD ki (0, 0, 0)).1) = _ from by unfold aStep; rw [if_pos (hasC_nI (by omega) hki), nN_nI (by omega)]; unfold stO; rw [if_pos c_17_0]), g30, fr0⟩
    · skip
      by_cases c_17_1 : w = nI 1
      · skip
        refine e_sw_t f_205_17 (t := 51) (by rw [c_17_1]; rfl) ?_
        refine e_aload_n f_205_51 rfl rfl ?_
        refine e_getf f_205_52 g1 rfl rfl ?_
        refine e_iload_n f_205_55 rfl rfl ?_
        refine e_iaload_p (xs := j) f_205_56 g5 (d := (0, 0, 0)) (by first | omega | (simp only [List.length_set]; omega)) rfl ?_
        show px_to 205 57 [some (.ref (269)), some (.int (nI ki)), some (.int (w))] [.int ((j.getD ki (0, 0, 0)).2.2)] h _
        refine e_iret f_205_57 rfl (rfl) ?_
        have g31 : pMD h tx j xs := ⟨gp, gq, gh, gw, gu, gv, jn, sl, sl2, lh, lg, lo, lt, cv, pl, ke, g1, g2, g3, g4, g5, g6, g7, g8, g9, g10, g11, g12, g13, g14, g15, g16, g17, g18, g19, g20, g21, g22, g23, g24, g25, g26, ok⟩
        exact ⟨congrArg (fun z => some (Value.int z)) (show (j.getD ki (0, 0, 0)).2.2 = _ from by unfold aStep; rw [if_pos (hasC_nI (by omega) hki), nN_nI (by omega)]; unfold stO; rw [if_neg c_17_0, if_pos c_17_1]), g31, fr0⟩
      · skip
        by_cases c_17_2 : w = nI 2
        · skip
          refine e_sw_t f_205_17 (t := 58) (by rw [c_17_2]; rfl) ?_
          refine e_aload_n f_205_58 rfl rfl ?_
          refine e_getf f_205_59 g1 rfl rfl ?_
          refine e_iload_n f_205_62 rfl rfl ?_
          refine e_caload_p (xs := j) f_205_63 g4 (d := (0, 0, 0)) (by first | omega | (simp only [List.length_set]; omega)) rfl ?_
          show px_to 205 64 [some (.ref (269)), some (.int (nI ki)), some (.int (w))] [.int (nI ((j.getD ki (0, 0, 0)).2.1))] h _
          refine e_iret f_205_64 rfl (rfl) ?_
          have g32 : pMD h tx j xs := ⟨gp, gq, gh, gw, gu, gv, jn, sl, sl2, lh, lg, lo, lt, cv, pl, ke, g1, g2, g3, g4, g5, g6, g7, g8, g9, g10, g11, g12, g13, g14, g15, g16, g17, g18, g19, g20, g21, g22, g23, g24, g25, g26, ok⟩
          exact ⟨congrArg (fun z => some (Value.int z)) (show nI ((j.getD ki (0, 0, 0)).2.1) = _ from by unfold aStep; rw [if_pos (hasC_nI (by omega) hki), nN_nI (by omega)]; unfold stO; rw [if_neg c_17_0, if_neg c_17_1, if_pos c_17_2]), g32, fr0⟩
        · skip
          refine e_sw_t f_205_17 (t := 65) (tsw_df (by have z0 := ne_toInt c_17_0 (by decide); have z1 := ne_toInt c_17_1 (by decide); have z2 := ne_toInt c_17_2 (by decide); omega) rfl) ?_
          refine e_iconst (v := (-1)) f_205_65 (by decide) rfl ?_
          refine e_iret f_205_66 rfl (rfl) ?_
          have g33 : pMD h tx j xs := ⟨gp, gq, gh, gw, gu, gv, jn, sl, sl2, lh, lg, lo, lt, cv, pl, ke, g1, g2, g3, g4, g5, g6, g7, g8, g9, g10, g11, g12, g13, g14, g15, g16, g17, g18, g19, g20, g21, g22, g23, g24, g25, g26, ok⟩
          exact ⟨congrArg (fun z => some (Value.int z)) (show (-1) = _ from by unfold aStep; rw [if_pos (hasC_nI (by omega) hki), nN_nI (by omega)]; unfold stO; rw [if_neg c_17_0, if_neg c_17_1, if_neg c_17_2]), g33, fr0⟩
  · skip
    have c_11 : (decide (nI 0 ≤ k ∧ k ≤ (nI j.length) - (nI 1))) = false := bI_f' c_11
    have c11 : hasC k j.length = false := by rw [← in_hasC (by omega)]; exact c_11
    refine e_iconst (v := (-1)) f_205_14 (by decide) rfl ?_
    refine e_iret f_205_15 rfl (rfl) ?_
    have g34 : pMD h tx j xs := ⟨gp, gq, gh, gw, gu, gv, jn, sl, sl2, lh, lg, lo, lt, cv, pl, ke, g1, g2, g3, g4, g5, g6, g7, g8, g9, g10, g11, g12, g13, g14, g15, g16, g17, g18, g19, g20, g21, g22, g23, g24, g25, g26, ok⟩
    exact ⟨congrArg (fun z => some (Value.int z)) (show (-1) = _ from by unfold aStep; rw [if_neg (by rw [c11]; decide)]), g34, fr0⟩

theorem sshr_low {x : Int64} {i : Nat} (hi : i < 8) : ((x >>> ((nI (8 * i)).toInt64 &&& 63)) &&& 255).toInt32 = nI (byt x i) := by
  rw [wb_c (8 * i) (by omega)]
  have e : (x >>> lN (8 * i)) &&& 255 = lN (byt x i) := by
    apply Int64.toBitVec_inj.mp
    rw [Int64.toBitVec_and, Int64.toBitVec_shiftRight]
    apply BitVec.eq_of_toNat_eq
    rw [BitVec.toNat_and]
    have h1 : ((lN (8 * i)).toBitVec.smod 64).toNat = 8 * i := by
      rw [wb_tb, wb_sm (8 * i) (by omega), BitVec.toNat_ofNat]
      omega
    apply Nat.eq_of_testBit_eq
    intro b
    show ((x.toBitVec.sshiftRight ((lN (8 * i)).toBitVec.smod 64).toNat).toNat &&& 255).testBit b = ((lN (byt x i)).toBitVec.toNat).testBit b
    rw [h1, wb_tb, BitVec.toNat_ofNat, Nat.mod_eq_of_lt (show byt x i < 2 ^ 64 by have := byt_lt x i; omega)]
    unfold byt
    rw [show (255 : Nat) = 2 ^ 8 - 1 by decide, Nat.and_two_pow_sub_one_eq_mod, show (256 : Nat) = 2 ^ 8 by decide, Nat.testBit_mod_two_pow, Nat.testBit_mod_two_pow, ← Nat.shiftRight_eq_div_pow, Nat.testBit_shiftRight]
    by_cases hb : b < 8
    · rw [decide_eq_true hb, Bool.true_and, Bool.true_and]
      rw [BitVec.testBit_toNat, BitVec.getLsbD_sshiftRight, BitVec.testBit_toNat]
      simp only [show ¬ (64 ≤ b) by omega, show 8 * i + b < 64 by omega]
      simp
    · rw [decide_eq_false hb, Bool.false_and, Bool.false_and]
  rw [e, l2i_lN]

set_option maxRecDepth 20000 in
set_option maxHeartbeats 4000000 in
theorem ll_MD_tyA {P : px_H → Option Value → Prop} {h : px_H} {x : Int64} {kn : Nat} (h8 : kn ≤ 8) (kf : ∀ q, q < kn → gdS (byt x q) = false → P h (some (.int (-1)))) (kx : (∀ q, q < kn → gdS (byt x q) = true) → px_to 119 51 [some (.ref (269)), some (.long (x)), none, some (.int (nI kn)), none] [] h P) : ∀ (d : Nat) (i : Nat), (kn ≤ i + d) → (i ≤ kn) → (∀ q, q < i → gdS (byt x q) = true) → px_to 119 15 [some (.ref (269)), some (.long (x)), none, some (.int (nI kn)), some (.int (nI i))] [] h P := by
  intro d
  induction d using Nat.strongRecOn with
  | ind d ih =>
    intro i q0 q1 q2
    refine e_iload f_119_15 rfl rfl ?_
    refine e_iload_n f_119_17 rfl rfl ?_
    refine e_icmp_ge f_119_18 rfl (fun c_18 => ?_) (fun c_18 => ?_)
    · skip
      have c_18 : kn ≤ i := cv_le (by omega) (by omega) c_18
      refine px_to_L (L := [some (.ref (269)), some (.long (x)), none, some (.int (nI kn)), none]) ⟨Or.inr rfl, Or.inr rfl, Or.inr rfl, Or.inr rfl, Or.inl rfl, trivial⟩ ?_
      exact kx (fun q hq => q2 q (by omega))
    · skip
      have c_18 : i < kn := cv_nle (by omega) (by omega) c_18
      refine e_lload_n f_119_21 rfl rfl ?_
      refine e_bipush (v := nI 8) f_119_22 (by decide) rfl ?_
      refine e_iload f_119_24 rfl rfl ?_
      refine e_imul (z := nI (8 * i)) f_119_26 (pk_mul _ _) rfl ?_
      refine e_lshr (z := x >>> ((nI (8 * i)).toInt64 &&& 63)) f_119_27 rfl rfl ?_
      refine e_ldc2 f_119_28 rfl ?_
      refine e_land (z := (x >>> ((nI (8 * i)).toInt64 &&& 63)) &&& 255) f_119_31 rfl rfl ?_
      refine e_l2i (z := nI (byt x i)) f_119_32 (sshr_low (by omega)) rfl ?_
      refine e_bipush (v := nI 32) f_119_33 (by decide) rfl ?_
      refine e_bipush (v := nI 126) f_119_35 (by decide) rfl ?_
      refine e_callS (As := [.int (nI (byt x i)), .int (nI 32), .int (nI 126)]) (rest := []) f_119_37 rfl rfl rfl (Nat.le_of_ble_eq_true rfl) (Nat.le_of_ble_eq_true rfl) (cc_Md_in (v := nI (byt x i)) (lo := nI 32) (hi := nI 126)  ) rfl (fun h1 r2 q3 => ?_)
      obtain ⟨rfl, qe⟩ := q3
      have qe := qe.symm
      subst qe
      show px_to 119 40 [some (.ref (269)), some (.long (x)), none, some (.int (nI kn)), some (.int (nI i))] [.int (bI (decide (nI 32 ≤ nI (byt x i) ∧ nI (byt x i) ≤ nI 126)))] h _
      refine e_if_ne f_119_40 rfl (fun c_40 => ?_) (fun c_40 => ?_)
      · skip
        have c_40 : (decide (nI 32 ≤ nI (byt x i) ∧ nI (byt x i) ≤ nI 126)) = true := bI_t c_40
        have hbl := byt_lt x i
        have hgd : gdS (byt x i) = true := by have z := of_decide_eq_true c_40; rw [nI_leI (by omega) (by omega), nI_leI (by omega) (by omega)] at z; exact decide_eq_true z
        refine e_iinc (y := nI (i + 1)) (L' := [some (.ref (269)), some (.long (x)), none, some (.int (nI kn)), some (.int (nI (i + 1)))]) f_119_45 rfl (by rw [show Int32.ofInt 1 = nI 1 by decide]; exact (nI_add _ _)) rfl rfl ?_
        refine e_goto f_119_48 ?_
        first | (exfalso; omega) | exact ih (d - 1) (by omega) (i + 1)  (by omega) (by omega) (fun q hq => by rcases Nat.lt_or_ge q i with z | z; exact q2 q z; rw [show q = i by omega]; exact hgd)  
      · skip
        have c_40 : (decide (nI 32 ≤ nI (byt x i) ∧ nI (byt x i) ≤ nI 126)) = false := bI_f' c_40
        have hbl := byt_lt x i
        have hgd : gdS (byt x i) = false := by have z := of_decide_eq_false c_40; rw [nI_leI (by omega) (by omega), nI_leI (by omega) (by omega)] at z; exact decide_eq_false z
        refine e_iconst (v := (-1)) f_119_43 (by decide) rfl ?_
        refine e_iret f_119_44 rfl (rfl) ?_
        exact kf i (by omega) hgd

set_option maxRecDepth 20000 in
set_option maxHeartbeats 4000000 in
theorem ll_MD_tyB {P : px_H → Option Value → Prop} {h0 : px_H} {x : Int64} {kn : Nat} {sn cn : Int32} {tx : List Nat} {gp : gP} {gq : gQ} {gh : gH} {gw : gW} {gu : gU} {gv : gV} (h8 : kn ≤ 8) (h5 : tx.length + kn ≤ 500) (kx : ∀ g, g.2.2 269 = some (12, mB (nI (tx.length + kn), sn, cn) gp gq gh gw gu gv) → px_pa g 270 52 500 vN (tx ++ (bys x kn).take kn) → px_fi 269 2 h0 g → px_to 119 113 [some (.ref (269)), some (.long (x)), none, some (.int (nI kn)), none] [] g P) : ∀ (d : Nat) (i : Nat) (g : px_H), (kn ≤ i + d) → (i ≤ kn) → g.2.2 269 = some (12, mB (nI (tx.length + i), sn, cn) gp gq gh gw gu gv) → px_pa g 270 52 500 vN (tx ++ (bys x kn).take i) → px_fi 269 2 h0 g → px_to 119 69 [some (.ref (269)), some (.long (x)), none, some (.int (nI kn)), some (.int (nI i))] [] g P := by
  intro d
  induction d using Nat.strongRecOn with
  | ind d ih =>
    intro i g q0 q1 G0 G1 frg
    refine e_iload f_119_69 rfl rfl ?_
    refine e_iload_n f_119_71 rfl rfl ?_
    refine e_icmp_ge f_119_72 rfl (fun c_72 => ?_) (fun c_72 => ?_)
    · skip
      have c_72 : kn ≤ i := cv_le (by omega) (by omega) c_72
      refine px_to_L (L := [some (.ref (269)), some (.long (x)), none, some (.int (nI kn)), none]) ⟨Or.inr rfl, Or.inr rfl, Or.inr rfl, Or.inr rfl, Or.inl rfl, trivial⟩ ?_
      have e : i = kn := by omega
      subst e
      exact kx g G0 G1 frg
    · skip
      have c_72 : i < kn := cv_nle (by omega) (by omega) c_72
      refine e_aload_n f_119_75 rfl rfl ?_
      refine e_getf f_119_76 G0 rfl rfl ?_
      refine e_aload_n f_119_79 rfl rfl ?_
      refine e_getf f_119_80 G0 rfl rfl ?_
      show px_to 119 83 [some (.ref (269)), some (.long (x)), none, some (.int (nI kn)), some (.int (nI i))] [.int (nI (tx.length + i)), .ref (270)] g _
      refine e_lload_n f_119_83 rfl rfl ?_
      refine e_bipush (v := nI 8) f_119_84 (by decide) rfl ?_
      refine e_iload f_119_86 rfl rfl ?_
      refine e_imul (z := nI (8 * i)) f_119_88 (pk_mul _ _) rfl ?_
      refine e_lshr (z := x >>> ((nI (8 * i)).toInt64 &&& 63)) f_119_89 rfl rfl ?_
      refine e_ldc2 f_119_90 rfl ?_
      refine e_land (z := (x >>> ((nI (8 * i)).toInt64 &&& 63)) &&& 255) f_119_93 rfl rfl ?_
      refine e_l2i (z := nI (byt x i)) f_119_94 (sshr_low (by omega)) rfl ?_
      refine e_i2c (z := nI (byt x i)) f_119_95 (i2c_id (by have := byt_lt x i; omega)) rfl ?_
      refine e_castore_a (xs := tx ++ (bys x kn).take i) (x := byt x i) f_119_96 G1 (by omega) (by rw [List.length_append, List.length_take, bys_len]; omega) (by omega) (nw_ch (by have := byt_lt x i; omega)) rfl (fun h1 g2 fx3 => ?_)
      have fr4 : px_fi 269 2 h0 h1 := fi_tr frg fx3 (by omega)
      refine e_aload_n f_119_97 rfl rfl ?_
      refine e_dup f_119_98 rfl rfl ?_
      have g5 : h1.2.2 269 = some (12, mB (nI (tx.length + i), sn, cn) gp gq gh gw gu gv) := fi_at G0 fx3 (by omega)
      refine e_getf f_119_99 g5 rfl rfl ?_
      show px_to 119 102 [some (.ref (269)), some (.long (x)), none, some (.int (nI kn)), some (.int (nI i))] [.int (nI (tx.length + i)), .ref (269)] h1 _
      refine e_iconst (v := nI 1) f_119_102 (by decide) rfl ?_
      refine e_iadd (z := nI (tx.length + i + 1)) f_119_103 (nI_add _ _) rfl ?_
      refine e_putp (vs' := mB (nI (tx.length + i + 1), sn, cn) gp gq gh gw gu gv) f_119_104 g5 (Nat.le_of_ble_eq_true rfl) (rfl) (rfl) rfl rfl (fun h6 g7 fx8 => ?_)
      have fr9 : px_fi 269 2 h0 h6 := fi_tr fr4 fx8 (by omega)
      refine e_iinc (y := nI (i + 1)) (L' := [some (.ref (269)), some (.long (x)), none, some (.int (nI kn)), some (.int (nI (i + 1)))]) f_119_107 rfl (by rw [show Int32.ofInt 1 = nI 1 by decide]; exact (nI_add _ _)) rfl rfl ?_
      refine e_goto f_119_110 ?_
      have g10 : px_pa h6 270 52 500 vN ((tx ++ (bys x kn).take i) ++ [byt x i]) := pa_fi g2 fx8 (by omega)
      have g11 : px_pa h6 270 52 500 vN (tx ++ (bys x kn).take (i + 1)) := pa_eq g10 (by rw [List.append_assoc, take_s 0 (show i < (bys x kn).length by rw [bys_len]; omega), bys_get (show i < kn by omega)])
      first | (exfalso; omega) | exact ih (d - 1) (by omega) (i + 1) h6 (by omega) (by omega) g7 g11 fr9

set_option maxRecDepth 20000 in
set_option maxHeartbeats 4000000 in
theorem cc_MD_type {h : px_H} {tx : List Nat} {j : List St} {xs : List CS3} {x : Int64} {n : Int32} (H0 : pMD h tx j xs)  : px_wp 119 [.ref (269), .long (x), .int (n)] h (fun h1 r => r = some (.int ((aType tx x n).1)) ∧ pMD h1 ((aType tx x n).2) j xs ∧ px_fi 269 35 h h1) := by
  have fr0 : px_fi 269 35 h h := fi_rf _ _ _
  show px_to 119 0 [some (.ref (269)), some (.long (x)), none, some (.int (n)), none] [] h _
  obtain ⟨gp, gq, gh, gw, gu, gv, jn, sl, sl2, lh, lg, lo, lt, cv, pl, ke, g1, g2, g3, g4, g5, g6, g7, g8, g9, g10, g11, g12, g13, g14, g15, g16, g17, g18, g19, g20, g21, g22, g23, g24, g25, g26, ok⟩ := id H0
  have h8 : xs.length ≤ 8 := ok.2.2.1.1
  have hj6 : j.length ≤ 6 := ok.2.1.1.1
  have htl : tx.length ≤ 500 := pa_len g2
  refine e_iload_n f_119_0 rfl rfl ?_
  refine e_iconst (v := nI 1) f_119_1 (by decide) rfl ?_
  refine e_bipush (v := nI 8) f_119_2 (by decide) rfl ?_
  refine e_callS (As := [.int (n), .int (nI 1), .int (nI 8)]) (rest := []) f_119_4 rfl rfl rfl (Nat.le_of_ble_eq_true rfl) (Nat.le_of_ble_eq_true rfl) (cc_Md_in (v := n) (lo := nI 1) (hi := nI 8)  ) rfl (fun h27 r28 q29 => ?_)
  obtain ⟨rfl, qe⟩ := q29
  have qe := qe.symm
  subst qe
  show px_to 119 7 [some (.ref (269)), some (.long (x)), none, some (.int (n)), none] [.int (bI (decide (nI 1 ≤ n ∧ n ≤ nI 8)))] h _
  refine e_if_ne f_119_7 rfl (fun c_7 => ?_) (fun c_7 => ?_)
  · skip
    have c_7 : (decide (nI 1 ≤ n ∧ n ≤ nI 8)) = true := bI_t c_7
    have c7 := of_decide_eq_true c_7
    obtain ⟨kn, hn1, hn8, hnc⟩ := rng_1 (Int32.not_lt.mpr c7.1) c7.2
    subst hnc
    refine e_iconst (v := nI 0) f_119_12 (by decide) rfl ?_
    refine e_istore (L' := [some (.ref (269)), some (.long (x)), none, some (.int (nI kn)), some (.int (nI 0))]) f_119_13 (Nat.le_of_ble_eq_true rfl) rfl rfl ?_
    refine ll_MD_tyA (by omega) (fun q hq hb => ?_) (fun hall => ?_) kn 0 (by omega) (by omega) (fun q hq => absurd hq (Nat.not_lt_zero _))
    · skip
      have ea : aType tx x (nI kn) = (-1, tx) := by unfold aType; rw [if_pos (in18 hn1 hn8), nN_nI (by omega), if_neg (by rw [bys_bad hq hb]; decide)]
      rw [ea]
      have g30 : pMD h tx j xs := ⟨gp, gq, gh, gw, gu, gv, jn, sl, sl2, lh, lg, lo, lt, cv, pl, ke, g1, g2, g3, g4, g5, g6, g7, g8, g9, g10, g11, g12, g13, g14, g15, g16, g17, g18, g19, g20, g21, g22, g23, g24, g25, g26, ok⟩
      exact ⟨congrArg (fun z => some (Value.int z)) (show (-1) = _ from rfl), g30, fr0⟩
    have hall2 := bys_all hall
    refine e_aload_n f_119_51 rfl rfl ?_
    refine e_getf f_119_52 g1 rfl rfl ?_
    show px_to 119 55 [some (.ref (269)), some (.long (x)), none, some (.int (nI kn)), none] [.int (nI tx.length)] h _
    refine e_iload_n f_119_55 rfl rfl ?_
    refine e_iadd (z := nI (tx.length + kn)) f_119_56 (nI_add _ _) rfl ?_
    refine e_sipush (v := nI 500) f_119_57 (by decide) rfl ?_
    refine e_icmp_le f_119_60 rfl (fun c_60 => ?_) (fun c_60 => ?_)
    · skip
      have c_60 : tx.length + kn ≤ 500 := cv_le (by omega) (by omega) c_60
      refine e_iconst (v := nI 0) f_119_66 (by decide) rfl ?_
      refine e_istore (L' := [some (.ref (269)), some (.long (x)), none, some (.int (nI kn)), some (.int (nI 0))]) f_119_67 (Nat.le_of_ble_eq_true rfl) rfl rfl ?_
      refine ll_MD_tyB (h0 := h) (x := x) (kn := kn) (tx := tx) (by omega) (by omega) (fun g1 z0 z1 zf => ?_) kn 0 h (by omega) (by omega) g1 (by rw [List.take_zero, List.append_nil]; exact g2) (fi_rf _ _ _)
      have fr31 : px_fi 269 35 h g1 := fi_tr fr0 zf (by omega)
      refine e_aload_n f_119_113 rfl rfl ?_
      refine e_getf f_119_114 z0 rfl rfl ?_
      show px_to 119 117 [some (.ref (269)), some (.long (x)), none, some (.int (nI kn)), none] [.int (nI (tx.length + kn))] g1 _
      refine e_iret f_119_117 rfl (rfl) ?_
      have ea : aType tx x (nI kn) = (nI (tx.length + kn), tx ++ bys x kn) := by unfold aType; rw [if_pos (in18 hn1 hn8), nN_nI (by omega), if_pos hall2, if_pos (by omega)]
      rw [ea]
      have g32 : px_pa g1 270 52 500 vN (tx ++ bys x kn) := pa_eq z1 (by rw [take_all (bys_len x kn)])
      have g33 : g1.2.2 269 = some (12, mB (nI ((tx ++ bys x kn).length), nI j.length, nI xs.length) gp gq gh gw gu gv) := by rw [List.length_append, bys_len]; exact z0
      have ok2 : okTx (tx ++ bys x kn) := fun c hc => by rw [List.mem_append] at hc; exact hc.elim (ok.1 c) (bys_ok hall2 c)
      have g34 : px_pa g1 271 52 6 stS j := pa_fi g3 zf (by omega)
      have g35 : px_pa g1 272 52 6 stA j := pa_fi g4 zf (by omega)
      have g36 : px_pa g1 273 50 6 stN j := pa_fi g5 zf (by omega)
      have g37 : pMA g1 xs := pMA_fi g6 zf (by omega)
      have g38 : px_pa g1 284 52 6 stS jn := pa_fi g7 zf (by omega)
      have g39 : px_pa g1 285 52 6 stA jn := pa_fi g8 zf (by omega)
      have g40 : px_pa g1 286 50 6 stN jn := pa_fi g9 zf (by omega)
      have g41 : px_pa g1 287 50 3070 Value.int sl := pa_fi g10 zf (by omega)
      have g42 : px_pa g1 288 50 3070 Value.int sl2 := pa_fi g11 zf (by omega)
      have g43 : px_pa g1 289 54 100 rK lh := pa_fi g12 zf (by omega)
      have g44 : px_pa g1 290 50 100 rV lh := pa_fi g13 zf (by omega)
      have g45 : px_pa g1 291 50 100 rT lh := pa_fi g14 zf (by omega)
      have g46 : px_pa g1 292 54 100 rK lg := pa_fi g15 zf (by omega)
      have g47 : px_pa g1 293 50 100 rV lg := pa_fi g16 zf (by omega)
      have g48 : px_pa g1 294 50 100 rT lg := pa_fi g17 zf (by omega)
      have g49 : px_pa g1 295 50 30 Value.int cv := pa_fi g18 zf (by omega)
      have g50 : px_pa g1 296 50 24 vN pl := pa_fi g19 zf (by omega)
      have g51 : px_pa g1 297 54 100 rK lo := pa_fi g20 zf (by omega)
      have g52 : px_pa g1 298 50 100 rV lo := pa_fi g21 zf (by omega)
      have g53 : px_pa g1 299 50 100 rT lo := pa_fi g22 zf (by omega)
      have g54 : px_pa g1 300 54 100 rK lt := pa_fi g23 zf (by omega)
      have g55 : px_pa g1 301 50 100 rV lt := pa_fi g24 zf (by omega)
      have g56 : px_pa g1 302 50 100 rT lt := pa_fi g25 zf (by omega)
      have g57 : px_pa g1 303 50 24 vN ke := pa_fi g26 zf (by omega)
      have g58 : pMD g1 (tx ++ bys x kn) j xs := ⟨gp, gq, gh, gw, gu, gv, jn, sl, sl2, lh, lg, lo, lt, cv, pl, ke, g33, g32, g34, g35, g36, g37, g38, g39, g40, g41, g42, g43, g44, g45, g46, g47, g48, g49, g50, g51, g52, g53, g54, g55, g56, g57, ⟨ok2, ok.2⟩⟩
      exact ⟨congrArg (fun z => some (Value.int z)) (show nI (tx.length + kn) = _ from rfl), g58, fr31⟩
    · skip
      have c_60 : 500 < tx.length + kn := cv_nle (by omega) (by omega) c_60
      refine e_bipush (v := (-2)) f_119_63 (by decide) rfl ?_
      refine e_iret f_119_65 rfl (rfl) ?_
      have ea : aType tx x (nI kn) = (-2, tx) := by unfold aType; rw [if_pos (in18 hn1 hn8), nN_nI (by omega), if_pos hall2, if_neg (by omega)]
      rw [ea]
      have g59 : pMD h tx j xs := ⟨gp, gq, gh, gw, gu, gv, jn, sl, sl2, lh, lg, lo, lt, cv, pl, ke, g1, g2, g3, g4, g5, g6, g7, g8, g9, g10, g11, g12, g13, g14, g15, g16, g17, g18, g19, g20, g21, g22, g23, g24, g25, g26, ok⟩
      exact ⟨congrArg (fun z => some (Value.int z)) (show (-2) = _ from rfl), g59, fr0⟩
  · skip
    have c_7 : (decide (nI 1 ≤ n ∧ n ≤ nI 8)) = false := bI_f' c_7
    refine e_iconst (v := (-1)) f_119_10 (by decide) rfl ?_
    refine e_iret f_119_11 rfl (rfl) ?_
    have ea : aType tx x n = (-1, tx) := by unfold aType; rw [if_neg (of_decide_eq_false c_7)]
    rw [ea]
    have g60 : pMD h tx j xs := ⟨gp, gq, gh, gw, gu, gv, jn, sl, sl2, lh, lg, lo, lt, cv, pl, ke, g1, g2, g3, g4, g5, g6, g7, g8, g9, g10, g11, g12, g13, g14, g15, g16, g17, g18, g19, g20, g21, g22, g23, g24, g25, g26, ok⟩
    exact ⟨congrArg (fun z => some (Value.int z)) (show (-1) = _ from rfl), g60, fr0⟩
