def pMS (h : px_H) (tx : List Nat) (sn cn : Int32) (p : Nat) (kp : Bool) (wr : Int32) (rs rc tm : Nat) (gq : gQ) (gh : gH) (gw : gW) (gu : gU) (gv : gV) (X : Int32 → Int32 → Int32 → Prop) : Prop := ∃ rd ky vl mo : Int32, h.2.2 269 = some (12, mB (nI tx.length, sn, cn) (nI p, kp, wr, rd, nI rs, nI rc, nI tm, ky, vl, mo) gq gh gw gu gv) ∧ X ky vl mo
theorem pMS_fi {h h1 : px_H} {tx : List Nat} {sn cn : Int32} {p : Nat} {kp : Bool} {wr : Int32} {rs rc tm : Nat} {gq : gQ} {gh : gH} {gw : gW} {gu : gU} {gv : gV} {X : Int32 → Int32 → Int32 → Prop} {lo n : Nat} (q : pMS h tx sn cn p kp wr rs rc tm gq gh gw gu gv X) (f : px_fi lo n h h1) (d : 270 ≤ lo ∨ lo + n ≤ 269) : pMS h1 tx sn cn p kp wr rs rc tm gq gh gw gu gv X := by
  obtain ⟨a, b, c, e, z, y⟩ := q
  exact ⟨a, b, c, e, fi_at z f (by omega), y⟩
theorem skp_idem {tx : List Nat} {p : Nat} (h : p ≤ tx.length) : skp tx (skp tx p) = skp tx p := by
  have h1 : ∀ l : List Nat, sk (l.drop (sk l)) = 0 := fun l => by
    induction l with
    | nil => rfl
    | cons c r ih =>
      rw [sk]
      split
      · rw [List.drop_succ_cons]; exact ih
      · rename_i c2
        rw [List.drop_zero, sk, if_neg c2]
  have h2 := h1 (tx.drop p)
  rw [List.drop_drop] at h2
  unfold skp
  rw [h2]
  omega
theorem sgn_idem {tx : List Nat} {p : Nat} (h : p ≤ tx.length) : sgn tx (skp tx p) = sgn tx p := by unfold sgn; rw [skp_idem h]

set_option maxRecDepth 20000 in
set_option maxHeartbeats 4000000 in
theorem cc_Md_row {h : px_H} {tx : List Nat} {sn cn : Int32} {p rs rc tm : Nat} {kp : Bool} {wr rd ky vl mo : Int32} {gq : gQ} {gh : gH} {gw : gW} {gu : gU} {gv : gV} (H0 : h.2.2 269 = some (12, mB (nI tx.length, sn, cn) (nI p, kp, wr, rd, nI rs, nI rc, nI tm, ky, vl, mo) gq gh gw gu gv)) (H1 : px_pa h 270 52 500 vN tx) (p0 : p ≤ tx.length) (p1 : okTx tx) : px_wp 134 [.ref (269)] h (fun h1 r => r = some (.int (bI ((rdRow tx p).1))) ∧ pMS h1 tx sn cn ((rdRow tx p).2.1) kp (if (rdRow tx p).1 = true then wr else nI (rdRow tx p).2.1) rs rc tm gq gh gw gu gv (fun ky vl mo => (rdRow tx p).1 = true → ky = nI (rdRow tx p).2.2.1 ∧ vl = (rdRow tx p).2.2.2.1 ∧ mo = nI (rdRow tx p).2.2.2.2) ∧ px_fi 269 1 h h1) := by
  have fr0 : px_fi 269 1 h h := fi_rf _ _ _
  have le := pa_len H1
  have hsl : sgn tx p < 127 := tx_lt p1 _
  have hsk := skp_le p0
  show px_to 134 0 [some (.ref (269))] [] h _
  refine e_aload_n f_134_0 rfl rfl ?_
  refine e_bipush (v := nI 97) f_134_1 (by decide) rfl ?_
  refine e_bipush (v := nI 98) f_134_3 (by decide) rfl ?_
  refine e_bipush (v := nI 99) f_134_5 (by decide) rfl ?_
  refine e_bipush (v := nI 100) f_134_7 (by decide) rfl ?_
  refine e_callV (As := [.int (nI 97), .int (nI 98), .int (nI 99), .int (nI 100)]) (rest := []) f_134_9 rfl rfl rfl (Nat.le_of_ble_eq_true rfl) (Nat.le_of_ble_eq_true rfl) H0 rfl (Nat.le_of_ble_eq_true rfl) (cc_Md_one (a1 := 97) (a2 := 98) (a3 := 99) (a4 := 100) (tx := tx) (sn := sn) (cn := cn) (p := p) (kp := kp) (wr := wr) (rd := rd) (rs := rs) (rc := rc) (tm := tm) (ky := ky) (vl := vl) (mo := mo) (gq := gq) (gh := gh) (gw := gw) (gu := gu) (gv := gv) H0 H1 (by omega) (p1) (by decide)) rfl (fun h1 r2 q3 => ?_)
  obtain ⟨rfl, g4, fx5⟩ := q3
  have fr6 : px_fi 269 1 h h1 := fi_tr fr0 fx5 (by omega)
  show px_to 134 12 [some (.ref (269))] [.int (bI (decide (sgn tx p ∈ [97, 98, 99, 100])))] h1 _
  refine e_if_ne f_134_12 rfl (fun c_12 => ?_) (fun c_12 => ?_)
  · skip
    have c_12 : (decide (sgn tx p ∈ [97, 98, 99, 100])) = true := bI_t c_12
    have hin : sgn tx p ∈ keyL := of_decide_eq_true c_12
    have hkl := key_lt hin
    have hsl2 : skp tx p + 1 ≤ tx.length := sgn_next hin (by decide)
    have g7 : h1.2.2 269 = some (12, mB (nI tx.length, sn, cn) (nI (skp tx p + 1), kp, wr, nI (sgn tx p), nI rs, nI rc, nI tm, ky, vl, mo) gq gh gw gu gv) := by have z := g4; rw [if_pos (show sgn tx p ∈ [97, 98, 99, 100] from hin), if_pos (show sgn tx p ∈ [97, 98, 99, 100] from hin), if_pos (show sgn tx p ∈ [97, 98, 99, 100] from hin)] at z; exact z
    refine e_aload_n f_134_17 rfl rfl ?_
    refine e_aload_n f_134_18 rfl rfl ?_
    refine e_getf f_134_19 g7 rfl rfl ?_
    show px_to 134 22 [some (.ref (269))] [.int (nI (sgn tx p)), .ref (269)] h1 _
    refine e_bipush (v := nI 97) f_134_22 (by decide) rfl ?_
    refine e_isub (z := nI (sgn tx p - 97)) f_134_24 (pk_sub (by omega)) rfl ?_
    refine e_putp (vs' := mB (nI tx.length, sn, cn) (nI (skp tx p + 1), kp, wr, nI (sgn tx p), nI rs, nI rc, nI tm, nI (sgn tx p - 97), vl, mo) gq gh gw gu gv) f_134_25 g7 (Nat.le_of_ble_eq_true rfl) (rfl) (rfl) rfl rfl (fun h8 g9 fx10 => ?_)
    have fr11 : px_fi 269 1 h h8 := fi_tr fr6 fx10 (by omega)
    refine e_aload_n f_134_28 rfl rfl ?_
    have g12 : px_pa h8 270 52 500 vN tx := pa_fi H1 fr11 (by omega)
    refine e_callV (As := []) (rest := []) f_134_29 rfl rfl rfl (Nat.le_of_ble_eq_true rfl) (Nat.le_of_ble_eq_true rfl) g9 rfl (Nat.le_of_ble_eq_true rfl) (cc_Md_whole (tx := tx) (sn := sn) (cn := cn) (p := skp tx p + 1) (kp := kp) (wr := wr) (rd := nI (sgn tx p)) (rs := rs) (rc := rc) (tm := tm) (ky := nI (sgn tx p - 97)) (vl := vl) (mo := mo) (gq := gq) (gh := gh) (gw := gw) (gu := gu) (gv := gv) g9 g12 (hsl2) (p1)) rfl (fun h13 r14 q15 => ?_)
    obtain ⟨rfl, g16, fx17⟩ := q15
    have fr18 : px_fi 269 1 h h13 := fi_tr fr11 fx17 (by omega)
    show px_to 134 32 [some (.ref (269))] [.int (bI ((rdI tx (skp tx p + 1)).1))] h13 _
    refine e_if_ne f_134_32 rfl (fun c_32 => ?_) (fun c_32 => ?_)
    · skip
      have c_32 : ((rdI tx (skp tx p + 1)).1) = true := bI_t c_32
      have g19 : h13.2.2 269 = some (12, mB (nI tx.length, sn, cn) (nI ((rdI tx (skp tx p + 1)).2.2), kp, wr, (rdI tx (skp tx p + 1)).2.1, nI rs, nI rc, nI tm, nI (sgn tx p - 97), vl, mo) gq gh gw gu gv) := by have z := g16; rw [c_32, if_pos rfl, if_pos rfl] at z; exact z
      refine e_aload_n f_134_37 rfl rfl ?_
      refine e_aload_n f_134_38 rfl rfl ?_
      refine e_getf f_134_39 g19 rfl rfl ?_
      show px_to 134 42 [some (.ref (269))] [.int ((rdI tx (skp tx p + 1)).2.1), .ref (269)] h13 _
      refine e_putp (vs' := mB (nI tx.length, sn, cn) (nI ((rdI tx (skp tx p + 1)).2.2), kp, wr, (rdI tx (skp tx p + 1)).2.1, nI rs, nI rc, nI tm, nI (sgn tx p - 97), (rdI tx (skp tx p + 1)).2.1, mo) gq gh gw gu gv) f_134_42 g19 (Nat.le_of_ble_eq_true rfl) (rfl) (rfl) rfl rfl (fun h20 g21 fx22 => ?_)
      have fr23 : px_fi 269 1 h h20 := fi_tr fr18 fx22 (by omega)
      refine e_aload_n f_134_45 rfl rfl ?_
      have g24 : px_pa h20 270 52 500 vN tx := pa_fi H1 fr23 (by omega)
      refine e_callV (As := []) (rest := []) f_134_46 rfl rfl rfl (Nat.le_of_ble_eq_true rfl) (Nat.le_of_ble_eq_true rfl) g21 rfl (Nat.le_of_ble_eq_true rfl) (cc_Md_time (tx := tx) (sn := sn) (cn := cn) (p := (rdI tx (skp tx p + 1)).2.2) (kp := kp) (wr := wr) (rd := (rdI tx (skp tx p + 1)).2.1) (rs := rs) (rc := rc) (tm := tm) (ky := nI (sgn tx p - 97)) (vl := (rdI tx (skp tx p + 1)).2.1) (mo := mo) (gq := gq) (gh := gh) (gw := gw) (gu := gu) (gv := gv) g21 g24 (rdI_le hsl2) (p1)) rfl (fun h25 r26 q27 => ?_)
      obtain ⟨rfl, g28, fx29⟩ := q27
      have fr30 : px_fi 269 1 h h25 := fi_tr fr23 fx29 (by omega)
      show px_to 134 49 [some (.ref (269))] [.int (bI ((rdT tx ((rdI tx (skp tx p + 1)).2.2)).1))] h25 _
      refine e_if_ne f_134_49 rfl (fun c_49 => ?_) (fun c_49 => ?_)
      · skip
        have c_49 : ((rdT tx ((rdI tx (skp tx p + 1)).2.2)).1) = true := bI_t c_49
        have g31 : h25.2.2 269 = some (12, mB (nI tx.length, sn, cn) (nI ((rdT tx ((rdI tx (skp tx p + 1)).2.2)).2.2), kp, wr, nI (rdT tx (rdI tx (skp tx p + 1)).2.2).2.1, nI rs, nI rc, nI tm, nI (sgn tx p - 97), (rdI tx (skp tx p + 1)).2.1, mo) gq gh gw gu gv) := by have z := g28; rw [c_49, if_pos rfl, if_pos rfl] at z; exact z
        refine e_aload_n f_134_54 rfl rfl ?_
        refine e_aload_n f_134_55 rfl rfl ?_
        refine e_getf f_134_56 g31 rfl rfl ?_
        show px_to 134 59 [some (.ref (269))] [.int (nI (rdT tx (rdI tx (skp tx p + 1)).2.2).2.1), .ref (269)] h25 _
        refine e_putp (vs' := mB (nI tx.length, sn, cn) (nI ((rdT tx ((rdI tx (skp tx p + 1)).2.2)).2.2), kp, wr, nI (rdT tx (rdI tx (skp tx p + 1)).2.2).2.1, nI rs, nI rc, nI tm, nI (sgn tx p - 97), (rdI tx (skp tx p + 1)).2.1, nI (rdT tx (rdI tx (skp tx p + 1)).2.2).2.1) gq gh gw gu gv) f_134_59 g31 (Nat.le_of_ble_eq_true rfl) (rfl) (rfl) rfl rfl (fun h32 g33 fx34 => ?_)
        have fr35 : px_fi 269 1 h h32 := fi_tr fr30 fx34 (by omega)
        refine e_iconst (v := nI 1) f_134_62 (by decide) rfl ?_
        refine e_iret f_134_63 rfl (rfl) ?_
        have er : rdRow tx p = (true, (rdT tx (rdI tx (skp tx p + 1)).2.2).2.2, (sgn tx p - 97, (rdI tx (skp tx p + 1)).2.1, (rdT tx (rdI tx (skp tx p + 1)).2.2).2.1)) := by unfold rdRow; rw [if_pos hin, if_pos c_32, c_49]
        rw [er]
        dsimp only
        rw [if_pos rfl]
        exact ⟨rfl, ⟨_, _, _, _, g33, fun _ => ⟨rfl, rfl, rfl⟩⟩, fr35⟩
      · skip
        have c_49 : ((rdT tx ((rdI tx (skp tx p + 1)).2.2)).1) = false := bI_f' c_49
        refine e_iconst (v := nI 0) f_134_52 (by decide) rfl ?_
        refine e_iret f_134_53 rfl (rfl) ?_
        have g36 : h25.2.2 269 = some (12, mB (nI tx.length, sn, cn) (nI ((rdT tx ((rdI tx (skp tx p + 1)).2.2)).2.2), kp, nI (rdT tx (rdI tx (skp tx p + 1)).2.2).2.2, (rdI tx (skp tx p + 1)).2.1, nI rs, nI rc, nI tm, nI (sgn tx p - 97), (rdI tx (skp tx p + 1)).2.1, mo) gq gh gw gu gv) := by have z := g28; rw [c_49, if_neg (by decide), if_neg (by decide)] at z; exact z
        have er : rdRow tx p = (false, (rdT tx (rdI tx (skp tx p + 1)).2.2).2.2, (sgn tx p - 97, (rdI tx (skp tx p + 1)).2.1, (rdT tx (rdI tx (skp tx p + 1)).2.2).2.1)) := by unfold rdRow; rw [if_pos hin, if_pos c_32, c_49]
        rw [er]
        dsimp only
        rw [if_neg (by decide)]
        exact ⟨rfl, ⟨_, _, _, _, g36, fun e => absurd e (by decide)⟩, fr30⟩
    · skip
      have c_32 : ((rdI tx (skp tx p + 1)).1) = false := bI_f' c_32
      refine e_iconst (v := nI 0) f_134_35 (by decide) rfl ?_
      refine e_iret f_134_36 rfl (rfl) ?_
      have g37 : h13.2.2 269 = some (12, mB (nI tx.length, sn, cn) (nI ((rdI tx (skp tx p + 1)).2.2), kp, nI (rdI tx (skp tx p + 1)).2.2, nI (sgn tx p), nI rs, nI rc, nI tm, nI (sgn tx p - 97), vl, mo) gq gh gw gu gv) := by have z := g16; rw [c_32, if_neg (by decide), if_neg (by decide)] at z; exact z
      have er : rdRow tx p = (false, (rdI tx (skp tx p + 1)).2.2, (0, 0, 0)) := by unfold rdRow; rw [if_pos hin, if_neg (by rw [c_32]; decide)]
      rw [er]
      dsimp only
      rw [if_neg (by decide)]
      exact ⟨rfl, ⟨_, _, _, _, g37, fun e => absurd e (by decide)⟩, fr18⟩
  · skip
    have c_12 : (decide (sgn tx p ∈ [97, 98, 99, 100])) = false := bI_f' c_12
    have hin : sgn tx p ∉ keyL := of_decide_eq_false c_12
    refine e_iconst (v := nI 0) f_134_15 (by decide) rfl ?_
    refine e_iret f_134_16 rfl (rfl) ?_
    have g38 : h1.2.2 269 = some (12, mB (nI tx.length, sn, cn) (nI (skp tx p), kp, nI (skp tx p), if sgn tx p ∈ [97, 98, 99, 100] then nI (sgn tx p) else rd, nI rs, nI rc, nI tm, ky, vl, mo) gq gh gw gu gv) := by have z := g4; rw [if_neg (show sgn tx p ∉ [97, 98, 99, 100] from hin), if_neg (show sgn tx p ∉ [97, 98, 99, 100] from hin)] at z; exact z
    have er : rdRow tx p = (false, skp tx p, (0, 0, 0)) := by unfold rdRow; rw [if_neg hin]
    rw [er]
    dsimp only
    rw [if_neg (by decide)]
    exact ⟨rfl, ⟨_, _, _, _, g38, fun e => absurd e (by decide)⟩, fr6⟩

set_option maxRecDepth 20000 in
set_option maxHeartbeats 4000000 in
theorem cc_Md_isSt {h : px_H} {s : Nat} {tx : List Nat} {sn cn : Int32} {p rs rc tm : Nat} {kp : Bool} {wr rd ky vl mo : Int32} {gq : gQ} {gh : gH} {gw : gW} {gu : gU} {gv : gV} (H0 : h.2.2 269 = some (12, mB (nI tx.length, sn, cn) (nI p, kp, wr, rd, nI rs, nI rc, nI tm, ky, vl, mo) gq gh gw gu gv)) (p0 : s < 128) (p1 : tm ≤ 2) (p2 : rs ≤ 6) : px_wp 131 [.ref (269), .int (nI s)] h (fun h1 r => r = some (.int (bI (decide ((s ∈ stepSigns ∧ ¬ (s = 116 ∧ tm = 2)) ∧ rs < 6)))) ∧ h1 = h) := by
  show px_to 131 0 [some (.ref (269)), some (.int (nI s)), none] [] h _
  refine e_iload_n f_131_0 rfl rfl ?_
  refine e_bipush (v := nI 102) f_131_1 (by decide) rfl ?_
  refine e_icmp_eq f_131_3 rfl (fun c_3 => ?_) (fun c_3 => ?_)
  · skip
    have c_3 : s = 102 := cv_eq (by omega) (by omega) c_3
    refine e_iconst (v := nI 1) f_131_50 (by decide) rfl ?_
    refine e_goto f_131_51 ?_
    refine e_istore_n (L' := [some (.ref (269)), some (.int (nI s)), some (.int (nI 1))]) f_131_55 (Nat.le_of_ble_eq_true rfl) rfl rfl ?_
    refine e_iload_n f_131_56 rfl rfl ?_
    refine e_if_eq_f f_131_57 (by decide) rfl ?_
    refine e_aload_n f_131_60 rfl rfl ?_
    refine e_getf f_131_61 H0 rfl rfl ?_
    show px_to 131 64 [some (.ref (269)), some (.int (nI s)), some (.int (nI 1))] [.int (nI rs)] h _
    refine e_bipush (v := nI 6) f_131_64 (by decide) rfl ?_
    refine e_icmp_ge f_131_66 rfl (fun c_66 => ?_) (fun c_66 => ?_)
    · skip
      have c_66 : 6 ≤ rs := cv_le (by omega) (by omega) c_66
      refine e_iconst (v := nI 0) f_131_73 (by decide) rfl ?_
      refine e_iret f_131_74 rfl (rfl) ?_
      exact ⟨congrArg (fun z => some (Value.int z)) (b0 (decide_eq_false (fun z => by have z1 := z.1.1; simp only [stepSigns, List.mem_cons, List.not_mem_nil, or_false] at z1; have z2 := z.1.2; have z3 := z.2; omega))), rfl⟩
    · skip
      have c_66 : rs < 6 := cv_nle (by omega) (by omega) c_66
      refine e_iconst (v := nI 1) f_131_69 (by decide) rfl ?_
      refine e_goto f_131_70 ?_
      refine e_iret f_131_74 rfl (rfl) ?_
      exact ⟨congrArg (fun z => some (Value.int z)) (b1 (decide_eq_true ⟨⟨by simp only [stepSigns, List.mem_cons, List.not_mem_nil, or_false]; omega, by omega⟩, by omega⟩)), rfl⟩
  · skip
    have c_3 : s ≠ 102 := cv_ne c_3
    refine e_iload_n f_131_6 rfl rfl ?_
    refine e_bipush (v := nI 109) f_131_7 (by decide) rfl ?_
    refine e_icmp_eq f_131_9 rfl (fun c_9 => ?_) (fun c_9 => ?_)
    · skip
      have c_9 : s = 109 := cv_eq (by omega) (by omega) c_9
      refine e_iconst (v := nI 1) f_131_50 (by decide) rfl ?_
      refine e_goto f_131_51 ?_
      refine e_istore_n (L' := [some (.ref (269)), some (.int (nI s)), some (.int (nI 1))]) f_131_55 (Nat.le_of_ble_eq_true rfl) rfl rfl ?_
      refine e_iload_n f_131_56 rfl rfl ?_
      refine e_if_eq_f f_131_57 (by decide) rfl ?_
      refine e_aload_n f_131_60 rfl rfl ?_
      refine e_getf f_131_61 H0 rfl rfl ?_
      show px_to 131 64 [some (.ref (269)), some (.int (nI s)), some (.int (nI 1))] [.int (nI rs)] h _
      refine e_bipush (v := nI 6) f_131_64 (by decide) rfl ?_
      refine e_icmp_ge f_131_66 rfl (fun c_66 => ?_) (fun c_66 => ?_)
      · skip
        have c_66 : 6 ≤ rs := cv_le (by omega) (by omega) c_66
        refine e_iconst (v := nI 0) f_131_73 (by decide) rfl ?_
        refine e_iret f_131_74 rfl (rfl) ?_
        exact ⟨congrArg (fun z => some (Value.int z)) (b0 (decide_eq_false (fun z => by have z1 := z.1.1; simp only [stepSigns, List.mem_cons, List.not_mem_nil, or_false] at z1; have z2 := z.1.2; have z3 := z.2; omega))), rfl⟩
      · skip
        have c_66 : rs < 6 := cv_nle (by omega) (by omega) c_66
        refine e_iconst (v := nI 1) f_131_69 (by decide) rfl ?_
        refine e_goto f_131_70 ?_
        refine e_iret f_131_74 rfl (rfl) ?_
        exact ⟨congrArg (fun z => some (Value.int z)) (b1 (decide_eq_true ⟨⟨by simp only [stepSigns, List.mem_cons, List.not_mem_nil, or_false]; omega, by omega⟩, by omega⟩)), rfl⟩
    · skip
      have c_9 : s ≠ 109 := cv_ne c_9
      refine e_iload_n f_131_12 rfl rfl ?_
      refine e_bipush (v := nI 113) f_131_13 (by decide) rfl ?_
      refine e_icmp_eq f_131_15 rfl (fun c_15 => ?_) (fun c_15 => ?_)
      · skip
        have c_15 : s = 113 := cv_eq (by omega) (by omega) c_15
        refine e_iconst (v := nI 1) f_131_50 (by decide) rfl ?_
        refine e_goto f_131_51 ?_
        refine e_istore_n (L' := [some (.ref (269)), some (.int (nI s)), some (.int (nI 1))]) f_131_55 (Nat.le_of_ble_eq_true rfl) rfl rfl ?_
        refine e_iload_n f_131_56 rfl rfl ?_
        refine e_if_eq_f f_131_57 (by decide) rfl ?_
        refine e_aload_n f_131_60 rfl rfl ?_
        refine e_getf f_131_61 H0 rfl rfl ?_
        show px_to 131 64 [some (.ref (269)), some (.int (nI s)), some (.int (nI 1))] [.int (nI rs)] h _
        refine e_bipush (v := nI 6) f_131_64 (by decide) rfl ?_
        refine e_icmp_ge f_131_66 rfl (fun c_66 => ?_) (fun c_66 => ?_)
        · skip
          have c_66 : 6 ≤ rs := cv_le (by omega) (by omega) c_66
          refine e_iconst (v := nI 0) f_131_73 (by decide) rfl ?_
          refine e_iret f_131_74 rfl (rfl) ?_
          exact ⟨congrArg (fun z => some (Value.int z)) (b0 (decide_eq_false (fun z => by have z1 := z.1.1; simp only [stepSigns, List.mem_cons, List.not_mem_nil, or_false] at z1; have z2 := z.1.2; have z3 := z.2; omega))), rfl⟩
        · skip
          have c_66 : rs < 6 := cv_nle (by omega) (by omega) c_66
          refine e_iconst (v := nI 1) f_131_69 (by decide) rfl ?_
          refine e_goto f_131_70 ?_
          refine e_iret f_131_74 rfl (rfl) ?_
          exact ⟨congrArg (fun z => some (Value.int z)) (b1 (decide_eq_true ⟨⟨by simp only [stepSigns, List.mem_cons, List.not_mem_nil, or_false]; omega, by omega⟩, by omega⟩)), rfl⟩
      · skip
        have c_15 : s ≠ 113 := cv_ne c_15
        refine e_iload_n f_131_18 rfl rfl ?_
        refine e_bipush (v := nI 100) f_131_19 (by decide) rfl ?_
        refine e_icmp_eq f_131_21 rfl (fun c_21 => ?_) (fun c_21 => ?_)
        · skip
          have c_21 : s = 100 := cv_eq (by omega) (by omega) c_21
          refine e_iconst (v := nI 1) f_131_50 (by decide) rfl ?_
          refine e_goto f_131_51 ?_
          refine e_istore_n (L' := [some (.ref (269)), some (.int (nI s)), some (.int (nI 1))]) f_131_55 (Nat.le_of_ble_eq_true rfl) rfl rfl ?_
          refine e_iload_n f_131_56 rfl rfl ?_
          refine e_if_eq_f f_131_57 (by decide) rfl ?_
          refine e_aload_n f_131_60 rfl rfl ?_
          refine e_getf f_131_61 H0 rfl rfl ?_
          show px_to 131 64 [some (.ref (269)), some (.int (nI s)), some (.int (nI 1))] [.int (nI rs)] h _
          refine e_bipush (v := nI 6) f_131_64 (by decide) rfl ?_
          refine e_icmp_ge f_131_66 rfl (fun c_66 => ?_) (fun c_66 => ?_)
          · skip
            have c_66 : 6 ≤ rs := cv_le (by omega) (by omega) c_66
            refine e_iconst (v := nI 0) f_131_73 (by decide) rfl ?_
            refine e_iret f_131_74 rfl (rfl) ?_
            exact ⟨congrArg (fun z => some (Value.int z)) (b0 (decide_eq_false (fun z => by have z1 := z.1.1; simp only [stepSigns, List.mem_cons, List.not_mem_nil, or_false] at z1; have z2 := z.1.2; have z3 := z.2; omega))), rfl⟩
          · skip
            have c_66 : rs < 6 := cv_nle (by omega) (by omega) c_66
            refine e_iconst (v := nI 1) f_131_69 (by decide) rfl ?_
            refine e_goto f_131_70 ?_
            refine e_iret f_131_74 rfl (rfl) ?_
            exact ⟨congrArg (fun z => some (Value.int z)) (b1 (decide_eq_true ⟨⟨by simp only [stepSigns, List.mem_cons, List.not_mem_nil, or_false]; omega, by omega⟩, by omega⟩)), rfl⟩
        · skip
          have c_21 : s ≠ 100 := cv_ne c_21
          refine e_iload_n f_131_24 rfl rfl ?_
          refine e_bipush (v := nI 115) f_131_25 (by decide) rfl ?_
          refine e_icmp_eq f_131_27 rfl (fun c_27 => ?_) (fun c_27 => ?_)
          · skip
            have c_27 : s = 115 := cv_eq (by omega) (by omega) c_27
            refine e_iconst (v := nI 1) f_131_50 (by decide) rfl ?_
            refine e_goto f_131_51 ?_
            refine e_istore_n (L' := [some (.ref (269)), some (.int (nI s)), some (.int (nI 1))]) f_131_55 (Nat.le_of_ble_eq_true rfl) rfl rfl ?_
            refine e_iload_n f_131_56 rfl rfl ?_
            refine e_if_eq_f f_131_57 (by decide) rfl ?_
            refine e_aload_n f_131_60 rfl rfl ?_
            refine e_getf f_131_61 H0 rfl rfl ?_
            show px_to 131 64 [some (.ref (269)), some (.int (nI s)), some (.int (nI 1))] [.int (nI rs)] h _
            refine e_bipush (v := nI 6) f_131_64 (by decide) rfl ?_
            refine e_icmp_ge f_131_66 rfl (fun c_66 => ?_) (fun c_66 => ?_)
            · skip
              have c_66 : 6 ≤ rs := cv_le (by omega) (by omega) c_66
              refine e_iconst (v := nI 0) f_131_73 (by decide) rfl ?_
              refine e_iret f_131_74 rfl (rfl) ?_
              exact ⟨congrArg (fun z => some (Value.int z)) (b0 (decide_eq_false (fun z => by have z1 := z.1.1; simp only [stepSigns, List.mem_cons, List.not_mem_nil, or_false] at z1; have z2 := z.1.2; have z3 := z.2; omega))), rfl⟩
            · skip
              have c_66 : rs < 6 := cv_nle (by omega) (by omega) c_66
              refine e_iconst (v := nI 1) f_131_69 (by decide) rfl ?_
              refine e_goto f_131_70 ?_
              refine e_iret f_131_74 rfl (rfl) ?_
              exact ⟨congrArg (fun z => some (Value.int z)) (b1 (decide_eq_true ⟨⟨by simp only [stepSigns, List.mem_cons, List.not_mem_nil, or_false]; omega, by omega⟩, by omega⟩)), rfl⟩
          · skip
            have c_27 : s ≠ 115 := cv_ne c_27
            refine e_iload_n f_131_30 rfl rfl ?_
            refine e_bipush (v := nI 119) f_131_31 (by decide) rfl ?_
            refine e_icmp_eq f_131_33 rfl (fun c_33 => ?_) (fun c_33 => ?_)
            · skip
              have c_33 : s = 119 := cv_eq (by omega) (by omega) c_33
              refine e_iconst (v := nI 1) f_131_50 (by decide) rfl ?_
              refine e_goto f_131_51 ?_
              refine e_istore_n (L' := [some (.ref (269)), some (.int (nI s)), some (.int (nI 1))]) f_131_55 (Nat.le_of_ble_eq_true rfl) rfl rfl ?_
              refine e_iload_n f_131_56 rfl rfl ?_
              refine e_if_eq_f f_131_57 (by decide) rfl ?_
              refine e_aload_n f_131_60 rfl rfl ?_
              refine e_getf f_131_61 H0 rfl rfl ?_
              show px_to 131 64 [some (.ref (269)), some (.int (nI s)), some (.int (nI 1))] [.int (nI rs)] h _
              refine e_bipush (v := nI 6) f_131_64 (by decide) rfl ?_
              refine e_icmp_ge f_131_66 rfl (fun c_66 => ?_) (fun c_66 => ?_)
              · skip
                have c_66 : 6 ≤ rs := cv_le (by omega) (by omega) c_66
                refine e_iconst (v := nI 0) f_131_73 (by decide) rfl ?_
                refine e_iret f_131_74 rfl (rfl) ?_
                exact ⟨congrArg (fun z => some (Value.int z)) (b0 (decide_eq_false (fun z => by have z1 := z.1.1; simp only [stepSigns, List.mem_cons, List.not_mem_nil, or_false] at z1; have z2 := z.1.2; have z3 := z.2; omega))), rfl⟩
              · skip
                have c_66 : rs < 6 := cv_nle (by omega) (by omega) c_66
                refine e_iconst (v := nI 1) f_131_69 (by decide) rfl ?_
                refine e_goto f_131_70 ?_
                refine e_iret f_131_74 rfl (rfl) ?_
                exact ⟨congrArg (fun z => some (Value.int z)) (b1 (decide_eq_true ⟨⟨by simp only [stepSigns, List.mem_cons, List.not_mem_nil, or_false]; omega, by omega⟩, by omega⟩)), rfl⟩
            · skip
              have c_33 : s ≠ 119 := cv_ne c_33
              refine e_iload_n f_131_36 rfl rfl ?_
              refine e_bipush (v := nI 116) f_131_37 (by decide) rfl ?_
              refine e_icmp_ne f_131_39 rfl (fun c_39 => ?_) (fun c_39 => ?_)
              · skip
                have c_39 : s ≠ 116 := cv_ne c_39
                refine e_iconst (v := nI 0) f_131_54 (by decide) rfl ?_
                refine e_istore_n (L' := [some (.ref (269)), some (.int (nI s)), some (.int (nI 0))]) f_131_55 (Nat.le_of_ble_eq_true rfl) rfl rfl ?_
                refine e_iload_n f_131_56 rfl rfl ?_
                refine e_if_eq_t f_131_57 (by decide) ?_
                refine e_iconst (v := nI 0) f_131_73 (by decide) rfl ?_
                refine e_iret f_131_74 rfl (rfl) ?_
                exact ⟨congrArg (fun z => some (Value.int z)) (b0 (decide_eq_false (fun z => by have z1 := z.1.1; simp only [stepSigns, List.mem_cons, List.not_mem_nil, or_false] at z1; have z2 := z.1.2; have z3 := z.2; omega))), rfl⟩
              · skip
                have c_39 : s = 116 := cv_nne (by omega) (by omega) c_39
                refine e_aload_n f_131_42 rfl rfl ?_
                refine e_getf f_131_43 H0 rfl rfl ?_
                show px_to 131 46 [some (.ref (269)), some (.int (nI s)), none] [.int (nI tm)] h _
                refine e_iconst (v := nI 2) f_131_46 (by decide) rfl ?_
                refine e_icmp_ge f_131_47 rfl (fun c_47 => ?_) (fun c_47 => ?_)
                · skip
                  have c_47 : 2 ≤ tm := cv_le (by omega) (by omega) c_47
                  refine e_iconst (v := nI 0) f_131_54 (by decide) rfl ?_
                  refine e_istore_n (L' := [some (.ref (269)), some (.int (nI s)), some (.int (nI 0))]) f_131_55 (Nat.le_of_ble_eq_true rfl) rfl rfl ?_
                  refine e_iload_n f_131_56 rfl rfl ?_
                  refine e_if_eq_t f_131_57 (by decide) ?_
                  refine e_iconst (v := nI 0) f_131_73 (by decide) rfl ?_
                  refine e_iret f_131_74 rfl (rfl) ?_
                  exact ⟨congrArg (fun z => some (Value.int z)) (b0 (decide_eq_false (fun z => by have z1 := z.1.1; simp only [stepSigns, List.mem_cons, List.not_mem_nil, or_false] at z1; have z2 := z.1.2; have z3 := z.2; omega))), rfl⟩
                · skip
                  have c_47 : tm < 2 := cv_nle (by omega) (by omega) c_47
                  refine e_iconst (v := nI 1) f_131_50 (by decide) rfl ?_
                  refine e_goto f_131_51 ?_
                  refine e_istore_n (L' := [some (.ref (269)), some (.int (nI s)), some (.int (nI 1))]) f_131_55 (Nat.le_of_ble_eq_true rfl) rfl rfl ?_
                  refine e_iload_n f_131_56 rfl rfl ?_
                  refine e_if_eq_f f_131_57 (by decide) rfl ?_
                  refine e_aload_n f_131_60 rfl rfl ?_
                  refine e_getf f_131_61 H0 rfl rfl ?_
                  show px_to 131 64 [some (.ref (269)), some (.int (nI s)), some (.int (nI 1))] [.int (nI rs)] h _
                  refine e_bipush (v := nI 6) f_131_64 (by decide) rfl ?_
                  refine e_icmp_ge f_131_66 rfl (fun c_66 => ?_) (fun c_66 => ?_)
                  · skip
                    have c_66 : 6 ≤ rs := cv_le (by omega) (by omega) c_66
                    refine e_iconst (v := nI 0) f_131_73 (by decide) rfl ?_
                    refine e_iret f_131_74 rfl (rfl) ?_
                    exact ⟨congrArg (fun z => some (Value.int z)) (b0 (decide_eq_false (fun z => by have z1 := z.1.1; simp only [stepSigns, List.mem_cons, List.not_mem_nil, or_false] at z1; have z2 := z.1.2; have z3 := z.2; omega))), rfl⟩
                  · skip
                    have c_66 : rs < 6 := cv_nle (by omega) (by omega) c_66
                    refine e_iconst (v := nI 1) f_131_69 (by decide) rfl ?_
                    refine e_goto f_131_70 ?_
                    refine e_iret f_131_74 rfl (rfl) ?_
                    exact ⟨congrArg (fun z => some (Value.int z)) (b1 (decide_eq_true ⟨⟨by simp only [stepSigns, List.mem_cons, List.not_mem_nil, or_false]; omega, by omega⟩, by omega⟩)), rfl⟩

set_option maxRecDepth 20000 in
set_option maxHeartbeats 4000000 in
theorem cc_Md_isEv {h : px_H} {s : Nat}  (p0 : s < 128) : px_wp 133 [.int (nI s)] h (fun h1 r => r = some (.int (bI (decide (s ∈ evSigns)))) ∧ h1 = h) := by
  show px_to 133 0 [some (.int (nI s))] [] h _
  refine e_iload_n f_133_0 rfl rfl ?_
  refine e_bipush (v := nI 114) f_133_1 (by decide) rfl ?_
  refine e_icmp_eq f_133_3 rfl (fun c_3 => ?_) (fun c_3 => ?_)
  · skip
    have c_3 : s = 114 := cv_eq (by omega) (by omega) c_3
    refine e_iconst (v := nI 1) f_133_36 (by decide) rfl ?_
    refine e_goto f_133_37 ?_
    refine e_iret f_133_41 rfl (rfl) ?_
    exact ⟨congrArg (fun z => some (Value.int z)) (b1 (decide_eq_true (by simp only [evSigns, List.mem_cons, List.not_mem_nil, or_false]; omega))), rfl⟩
  · skip
    have c_3 : s ≠ 114 := cv_ne c_3
    refine e_iload_n f_133_6 rfl rfl ?_
    refine e_bipush (v := nI 82) f_133_7 (by decide) rfl ?_
    refine e_icmp_eq f_133_9 rfl (fun c_9 => ?_) (fun c_9 => ?_)
    · skip
      have c_9 : s = 82 := cv_eq (by omega) (by omega) c_9
      refine e_iconst (v := nI 1) f_133_36 (by decide) rfl ?_
      refine e_goto f_133_37 ?_
      refine e_iret f_133_41 rfl (rfl) ?_
      exact ⟨congrArg (fun z => some (Value.int z)) (b1 (decide_eq_true (by simp only [evSigns, List.mem_cons, List.not_mem_nil, or_false]; omega))), rfl⟩
    · skip
      have c_9 : s ≠ 82 := cv_ne c_9
      refine e_iload_n f_133_12 rfl rfl ?_
      refine e_bipush (v := nI 104) f_133_13 (by decide) rfl ?_
      refine e_icmp_eq f_133_15 rfl (fun c_15 => ?_) (fun c_15 => ?_)
      · skip
        have c_15 : s = 104 := cv_eq (by omega) (by omega) c_15
        refine e_iconst (v := nI 1) f_133_36 (by decide) rfl ?_
        refine e_goto f_133_37 ?_
        refine e_iret f_133_41 rfl (rfl) ?_
        exact ⟨congrArg (fun z => some (Value.int z)) (b1 (decide_eq_true (by simp only [evSigns, List.mem_cons, List.not_mem_nil, or_false]; omega))), rfl⟩
      · skip
        have c_15 : s ≠ 104 := cv_ne c_15
        refine e_iload_n f_133_18 rfl rfl ?_
        refine e_bipush (v := nI 72) f_133_19 (by decide) rfl ?_
        refine e_icmp_eq f_133_21 rfl (fun c_21 => ?_) (fun c_21 => ?_)
        · skip
          have c_21 : s = 72 := cv_eq (by omega) (by omega) c_21
          refine e_iconst (v := nI 1) f_133_36 (by decide) rfl ?_
          refine e_goto f_133_37 ?_
          refine e_iret f_133_41 rfl (rfl) ?_
          exact ⟨congrArg (fun z => some (Value.int z)) (b1 (decide_eq_true (by simp only [evSigns, List.mem_cons, List.not_mem_nil, or_false]; omega))), rfl⟩
        · skip
          have c_21 : s ≠ 72 := cv_ne c_21
          refine e_iload_n f_133_24 rfl rfl ?_
          refine e_bipush (v := nI 107) f_133_25 (by decide) rfl ?_
          refine e_icmp_eq f_133_27 rfl (fun c_27 => ?_) (fun c_27 => ?_)
          · skip
            have c_27 : s = 107 := cv_eq (by omega) (by omega) c_27
            refine e_iconst (v := nI 1) f_133_36 (by decide) rfl ?_
            refine e_goto f_133_37 ?_
            refine e_iret f_133_41 rfl (rfl) ?_
            exact ⟨congrArg (fun z => some (Value.int z)) (b1 (decide_eq_true (by simp only [evSigns, List.mem_cons, List.not_mem_nil, or_false]; omega))), rfl⟩
          · skip
            have c_27 : s ≠ 107 := cv_ne c_27
            refine e_iload_n f_133_30 rfl rfl ?_
            refine e_bipush (v := nI 120) f_133_31 (by decide) rfl ?_
            refine e_icmp_ne f_133_33 rfl (fun c_33 => ?_) (fun c_33 => ?_)
            · skip
              have c_33 : s ≠ 120 := cv_ne c_33
              refine e_iconst (v := nI 0) f_133_40 (by decide) rfl ?_
              refine e_iret f_133_41 rfl (rfl) ?_
              exact ⟨congrArg (fun z => some (Value.int z)) (b0 (decide_eq_false (fun z => by simp only [evSigns, List.mem_cons, List.not_mem_nil, or_false] at z; omega))), rfl⟩
            · skip
              have c_33 : s = 120 := cv_nne (by omega) (by omega) c_33
              refine e_iconst (v := nI 1) f_133_36 (by decide) rfl ?_
              refine e_goto f_133_37 ?_
              refine e_iret f_133_41 rfl (rfl) ?_
              exact ⟨congrArg (fun z => some (Value.int z)) (b1 (decide_eq_true (by simp only [evSigns, List.mem_cons, List.not_mem_nil, or_false]; omega))), rfl⟩

set_option maxRecDepth 20000 in
set_option maxHeartbeats 4000000 in
theorem cc_Md_ks0 {h : px_H} {s ac : Nat} {nu : Int32} {jl : List St} {tx : List Nat} {sn cn : Int32} {p rs rc tm : Nat} {kp : Bool} {wr rd ky vl mo : Int32} {gq : gQ} {gh : gH} {gw : gW} {gu : gU} {gv : gV} (H0 : h.2.2 269 = some (12, mB (nI tx.length, sn, cn) (nI p, false, wr, rd, nI rs, nI rc, nI tm, ky, vl, mo) gq gh gw gu gv)) (p0 : s < 65536) (p1 : ac < 65536) (p2 : jl.length = rs) (p3 : rs < 6) : px_wp 129 [.ref (269), .int (nI s), .int (nI ac), .int (nu)] h (fun h1 r => r = none ∧ h1.2.2 269 = some (12, mB (nI tx.length, sn, cn) (nI p, false, wr, rd, nI (rs + 1), nI rc, nI tm, ky, vl, mo) gq gh gw gu gv) ∧ px_fi 269 1 h h1) := by
  have fr0 : px_fi 269 1 h h := fi_rf _ _ _
  show px_to 129 0 [some (.ref (269)), some (.int (nI s)), some (.int (nI ac)), some (.int (nu))] [] h _
  refine e_aload_n f_129_0 rfl rfl ?_
  refine e_getf f_129_1 H0 rfl rfl ?_
  show px_to 129 4 [some (.ref (269)), some (.int (nI s)), some (.int (nI ac)), some (.int (nu))] [.int (bI false)] h _
  refine e_if_eq_t f_129_4 (by decide) ?_
  refine e_aload_n f_129_38 rfl rfl ?_
  refine e_dup f_129_39 rfl rfl ?_
  refine e_getf f_129_40 H0 rfl rfl ?_
  show px_to 129 43 [some (.ref (269)), some (.int (nI s)), some (.int (nI ac)), some (.int (nu))] [.int (nI rs), .ref (269)] h _
  refine e_iconst (v := nI 1) f_129_43 (by decide) rfl ?_
  refine e_iadd (z := nI (rs + 1)) f_129_44 (nI_add _ _) rfl ?_
  refine e_putp (vs' := mB (nI tx.length, sn, cn) (nI p, false, wr, rd, nI (rs + 1), nI rc, nI tm, ky, vl, mo) gq gh gw gu gv) f_129_45 H0 (Nat.le_of_ble_eq_true rfl) (rfl) (rfl) rfl rfl (fun h1 g2 fx3 => ?_)
  have fr4 : px_fi 269 1 h h1 := fi_tr fr0 fx3 (by omega)
  refine e_vret f_129_48 rfl ?_
  first | (exfalso; omega) | exact ⟨rfl, g2, fr4⟩

set_option maxRecDepth 20000 in
set_option maxHeartbeats 4000000 in
theorem cc_Md_ks1 {h : px_H} {s ac : Nat} {nu : Int32} {jl : List St} {tx : List Nat} {sn cn : Int32} {p rs rc tm : Nat} {kp : Bool} {wr rd ky vl mo : Int32} {gq : gQ} {gh : gH} {gw : gW} {gu : gU} {gv : gV} (H0 : h.2.2 269 = some (12, mB (nI tx.length, sn, cn) (nI p, true, wr, rd, nI rs, nI rc, nI tm, ky, vl, mo) gq gh gw gu gv)) (H1 : px_pa h 271 52 6 stS jl) (H2 : px_pa h 272 52 6 stA jl) (H3 : px_pa h 273 50 6 stN jl) (p0 : s < 65536) (p1 : ac < 65536) (p2 : jl.length = rs) (p3 : rs < 6) : px_wp 129 [.ref (269), .int (nI s), .int (nI ac), .int (nu)] h (fun h1 r => r = none ∧ h1.2.2 269 = some (12, mB (nI tx.length, sn, cn) (nI p, true, wr, rd, nI (rs + 1), nI rc, nI tm, ky, vl, mo) gq gh gw gu gv) ∧ px_pa h1 271 52 6 stS (jl ++ [(s, ac, nu)]) ∧ px_pa h1 272 52 6 stA (jl ++ [(s, ac, nu)]) ∧ px_pa h1 273 50 6 stN (jl ++ [(s, ac, nu)]) ∧ px_fj 269 1 271 3 h h1) := by
  have fr0 : px_fj 269 1 271 3 h h := fj_rf _ _ _ _ _
  show px_to 129 0 [some (.ref (269)), some (.int (nI s)), some (.int (nI ac)), some (.int (nu))] [] h _
  refine e_aload_n f_129_0 rfl rfl ?_
  refine e_getf f_129_1 H0 rfl rfl ?_
  show px_to 129 4 [some (.ref (269)), some (.int (nI s)), some (.int (nI ac)), some (.int (nu))] [.int (bI true)] h _
  refine e_if_eq_f f_129_4 (by decide) rfl ?_
  refine e_aload_n f_129_7 rfl rfl ?_
  refine e_getf f_129_8 H0 rfl rfl ?_
  refine e_aload_n f_129_11 rfl rfl ?_
  refine e_getf f_129_12 H0 rfl rfl ?_
  show px_to 129 15 [some (.ref (269)), some (.int (nI s)), some (.int (nI ac)), some (.int (nu))] [.int (nI rs), .ref (271)] h _
  refine e_iload_n f_129_15 rfl rfl ?_
  refine e_castore_a (xs := jl) (x := (s, ac, nu)) f_129_16 H1 (by omega) (by omega) (by omega) (nw_ch p0) rfl (fun h1 g2 fx3 => ?_)
  have fr4 : px_fj 269 1 271 3 h h1 := fj_tr fr0 fx3 (by omega)
  refine e_aload_n f_129_17 rfl rfl ?_
  have g5 : h1.2.2 269 = some (12, mB (nI tx.length, sn, cn) (nI p, true, wr, rd, nI rs, nI rc, nI tm, ky, vl, mo) gq gh gw gu gv) := fi_at H0 fx3 (by omega)
  refine e_getf f_129_18 g5 rfl rfl ?_
  refine e_aload_n f_129_21 rfl rfl ?_
  refine e_getf f_129_22 g5 rfl rfl ?_
  show px_to 129 25 [some (.ref (269)), some (.int (nI s)), some (.int (nI ac)), some (.int (nu))] [.int (nI rs), .ref (272)] h1 _
  refine e_iload_n f_129_25 rfl rfl ?_
  refine e_i2c (z := nI ac) f_129_26 (i2c_id p1) rfl ?_
  have g6 : px_pa h1 272 52 6 stA jl := pa_fi H2 fx3 (by omega)
  refine e_castore_a (xs := jl) (x := (s, ac, nu)) f_129_27 g6 (by omega) (by omega) (by omega) (nw_ch p1) rfl (fun h7 g8 fx9 => ?_)
  have fr10 : px_fj 269 1 271 3 h h7 := fj_tr fr4 fx9 (by omega)
  refine e_aload_n f_129_28 rfl rfl ?_
  have g11 : h7.2.2 269 = some (12, mB (nI tx.length, sn, cn) (nI p, true, wr, rd, nI rs, nI rc, nI tm, ky, vl, mo) gq gh gw gu gv) := fi_at g5 fx9 (by omega)
  refine e_getf f_129_29 g11 rfl rfl ?_
  refine e_aload_n f_129_32 rfl rfl ?_
  refine e_getf f_129_33 g11 rfl rfl ?_
  show px_to 129 36 [some (.ref (269)), some (.int (nI s)), some (.int (nI ac)), some (.int (nu))] [.int (nI rs), .ref (273)] h7 _
  refine e_iload_n f_129_36 rfl rfl ?_
  have g12 : px_pa h1 273 50 6 stN jl := pa_fi H3 fx3 (by omega)
  have g13 : px_pa h7 273 50 6 stN jl := pa_fi g12 fx9 (by omega)
  refine e_iastore_a (xs := jl) (x := (s, ac, nu)) f_129_37 g13 (by omega) (by omega) (by omega) (rfl) rfl (fun h14 g15 fx16 => ?_)
  have fr17 : px_fj 269 1 271 3 h h14 := fj_tr fr10 fx16 (by omega)
  refine e_aload_n f_129_38 rfl rfl ?_
  refine e_dup f_129_39 rfl rfl ?_
  have g18 : h14.2.2 269 = some (12, mB (nI tx.length, sn, cn) (nI p, true, wr, rd, nI rs, nI rc, nI tm, ky, vl, mo) gq gh gw gu gv) := fi_at g11 fx16 (by omega)
  refine e_getf f_129_40 g18 rfl rfl ?_
  show px_to 129 43 [some (.ref (269)), some (.int (nI s)), some (.int (nI ac)), some (.int (nu))] [.int (nI rs), .ref (269)] h14 _
  refine e_iconst (v := nI 1) f_129_43 (by decide) rfl ?_
  refine e_iadd (z := nI (rs + 1)) f_129_44 (nI_add _ _) rfl ?_
  refine e_putp (vs' := mB (nI tx.length, sn, cn) (nI p, true, wr, rd, nI (rs + 1), nI rc, nI tm, ky, vl, mo) gq gh gw gu gv) f_129_45 g18 (Nat.le_of_ble_eq_true rfl) (rfl) (rfl) rfl rfl (fun h19 g20 fx21 => ?_)
  have fr22 : px_fj 269 1 271 3 h h19 := fj_tr fr17 fx21 (by omega)
  refine e_vret f_129_48 rfl ?_
  have g23 : px_pa h7 271 52 6 stS (jl ++ [(s, ac, nu)]) := pa_fi g2 fx9 (by omega)
  have g24 : px_pa h14 271 52 6 stS (jl ++ [(s, ac, nu)]) := pa_fi g23 fx16 (by omega)
  have g25 : px_pa h19 271 52 6 stS (jl ++ [(s, ac, nu)]) := pa_fi g24 fx21 (by omega)
  have g26 : px_pa h14 272 52 6 stA (jl ++ [(s, ac, nu)]) := pa_fi g8 fx16 (by omega)
  have g27 : px_pa h19 272 52 6 stA (jl ++ [(s, ac, nu)]) := pa_fi g26 fx21 (by omega)
  have g28 : px_pa h19 273 50 6 stN (jl ++ [(s, ac, nu)]) := pa_fi g15 fx21 (by omega)
  first | (exfalso; omega) | exact ⟨rfl, g20, g25, g27, g28, fr22⟩
