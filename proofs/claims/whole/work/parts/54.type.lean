theorem l2i_lN (m : Nat) : (lN m).toInt32 = nI m := by
  apply Int32.toBitVec_inj.mp
  show (BitVec.ofNat 64 m).signExtend 32 = BitVec.ofNat 32 m
  apply BitVec.eq_of_toNat_eq
  rw [BitVec.signExtend_eq_setWidth_of_le _ (by decide), BitVec.toNat_setWidth, BitVec.toNat_ofNat, BitVec.toNat_ofNat]
  omega
theorem and255N (m : Nat) : nI m &&& nI 255 = nI (m % 256) := by
  apply Int32.toBitVec_inj.mp
  rw [Int32.toBitVec_and]
  apply BitVec.eq_of_toNat_eq
  rw [BitVec.toNat_and]
  show (BitVec.ofNat 32 m).toNat &&& (BitVec.ofNat 32 255).toNat = (BitVec.ofNat 32 (m % 256)).toNat
  rw [BitVec.toNat_ofNat, BitVec.toNat_ofNat, BitVec.toNat_ofNat, show 255 % 2 ^ 32 = 2 ^ 8 - 1 by decide, Nat.and_two_pow_sub_one_eq_mod]
  omega
theorem and255L (m : Nat) : lN m &&& 255 = lN (m % 256) := by
  apply Int64.toBitVec_inj.mp
  rw [Int64.toBitVec_and]
  apply BitVec.eq_of_toNat_eq
  rw [BitVec.toNat_and]
  show (BitVec.ofNat 64 m).toNat &&& (BitVec.ofNat 64 255).toNat = (BitVec.ofNat 64 (m % 256)).toNat
  rw [BitVec.toNat_ofNat, BitVec.toNat_ofNat, BitVec.toNat_ofNat, show 255 % 2 ^ 64 = 2 ^ 8 - 1 by decide, Nat.and_two_pow_sub_one_eq_mod]
  omega
/-- byte i of a long -/
def byt (x : Int64) (i : Nat) : Nat := x.toBitVec.toNat / 2 ^ (8 * i) % 256
theorem byt_lt (x : Int64) (i : Nat) : byt x i < 256 := Nat.mod_lt _ (by decide)
theorem lN_self (x : Int64) : x = lN x.toBitVec.toNat := wb_inj (by rw [wb_tb]; simp)
theorem byt_u {x : Int64} {i : Nat} (hi : i < 8) : (x.toUInt64 >>> ((nI (8 * i)).toInt64.toUInt64 &&& Int64.toUInt64 63)).toInt64 = lN (x.toBitVec.toNat / 2 ^ (8 * i)) := by
  have h := wb_shr (n := x.toBitVec.toNat) (k := 8 * i) x.toBitVec.isLt (by omega)
  rw [← lN_self x] at h
  exact h
theorem byt_a {x : Int64} {i : Nat} (hi : i < 8) : ((x.toUInt64 >>> ((nI (8 * i)).toInt64.toUInt64 &&& Int64.toUInt64 63)).toInt64).toInt32 &&& nI 255 = nI (byt x i) := by
  rw [byt_u hi, l2i_lN, and255N]
  rfl
theorem byt_b {x : Int64} {i : Nat} (hi : i < 8) : ((x.toUInt64 >>> ((nI (8 * i)).toInt64.toUInt64 &&& Int64.toUInt64 63)).toInt64 &&& 255).toInt32 = nI (byt x i) := by
  rw [byt_u hi, and255L, l2i_lN]
  rfl
def bys (x : Int64) (n : Nat) : List Nat := (List.range n).map (byt x)
theorem bys_len (x : Int64) (n : Nat) : (bys x n).length = n := by unfold bys; rw [List.length_map, List.length_range]
theorem bys_get {x : Int64} {n i : Nat} (h : i < n) : (bys x n).getD i 0 = byt x i := by
  unfold bys
  rw [List.getD_eq_getElem?_getD, List.getElem?_map, List.getElem?_range h]
  rfl
def gdS (c : Nat) : Bool := decide (32 ≤ c ∧ c ≤ 126)
def aType (tx : List Nat) (x : Int64) (n : Int32) : Int32 × List Nat := if nI 1 ≤ n ∧ n ≤ nI 8 then (if (bys x (nN n)).all gdS = true then (if tx.length + nN n ≤ 500 then (nI (tx.length + nN n), tx ++ bys x (nN n)) else (-2, tx)) else (-1, tx)) else (-1, tx)
theorem bys_all {x : Int64} {n : Nat} (h : ∀ q, q < n → gdS (byt x q) = true) : (bys x n).all gdS = true := by
  unfold bys
  rw [List.all_map, List.all_eq_true]
  exact fun q hq => h q (List.mem_range.mp hq)
theorem bys_bad {x : Int64} {n q : Nat} (hq : q < n) (h : gdS (byt x q) = false) : (bys x n).all gdS = false := by
  apply Bool.eq_false_iff.mpr
  intro e
  unfold bys at e
  rw [List.all_map, List.all_eq_true] at e
  have := e q (List.mem_range.mpr hq)
  rw [show (gdS ∘ byt x) q = gdS (byt x q) from rfl, h] at this
  exact absurd this (by decide)
theorem bys_ok {x : Int64} {n : Nat} (h : (bys x n).all gdS = true) : okTx (bys x n) := fun c hc => of_decide_eq_true (List.all_eq_true.mp h c hc)
theorem rng_1 {n : Int32} (h1 : ¬ n < nI 1) (h2 : n ≤ nI 8) : ∃ k, 1 ≤ k ∧ k ≤ 8 ∧ n = nI k := by
  have h3 := Int32.le_iff_toInt_le.mp (Int32.not_lt.mp h1)
  have h4 := Int32.le_iff_toInt_le.mp h2
  rw [nI_toInt (by omega)] at h3 h4
  refine ⟨n.toInt.toNat, by omega, by omega, Int32.toInt_inj.mp ?_⟩
  rw [nI_toInt (by omega)]
  omega
theorem in18 {k : Nat} (h1 : 1 ≤ k) (h2 : k ≤ 8) : nI 1 ≤ nI k ∧ nI k ≤ nI 8 := ⟨(nI_leI (by omega) (by omega)).mpr h1, (nI_leI (by omega) (by omega)).mpr h2⟩

set_option maxRecDepth 20000 in
set_option maxHeartbeats 4000000 in
theorem ll_JT_tyA {P : px_H → Option Value → Prop} {h : px_H} {x : Int64} {kn : Nat} (h8 : kn ≤ 8) (kf : ∀ q, q < kn → gdS (byt x q) = false → P h (some (.int (-1)))) (kx : (∀ q, q < kn → gdS (byt x q) = true) → px_to 90 58 [some (.ref (17)), some (.long (x)), none, some (.int (nI kn)), none, none] [] h P) : ∀ (d : Nat) (i : Nat), (kn ≤ i + d) → (i ≤ kn) → (∀ q, q < i → gdS (byt x q) = true) → px_to 90 16 [some (.ref (17)), some (.long (x)), none, some (.int (nI kn)), some (.int (nI i)), none] [] h P := by
  intro d
  induction d using Nat.strongRecOn with
  | ind d ih =>
    intro i q0 q1 q2
    refine e_iload f_90_16 rfl rfl ?_
    refine e_iload_n f_90_18 rfl rfl ?_
    refine e_icmp_ge f_90_19 rfl (fun c_19 => ?_) (fun c_19 => ?_)
    · skip
      have c_19 : kn ≤ i := cv_le (by omega) (by omega) c_19
      refine px_to_L (L := [some (.ref (17)), some (.long (x)), none, some (.int (nI kn)), none, none]) ⟨Or.inr rfl, Or.inr rfl, Or.inr rfl, Or.inr rfl, Or.inl rfl, Or.inr rfl, trivial⟩ ?_
      exact kx (fun q hq => q2 q (by omega))
    · skip
      have c_19 : i < kn := cv_nle (by omega) (by omega) c_19
      refine e_lload_n f_90_22 rfl rfl ?_
      refine e_bipush (v := nI 8) f_90_23 (by decide) rfl ?_
      refine e_iload f_90_25 rfl rfl ?_
      refine e_imul (z := nI (8 * i)) f_90_27 (pk_mul _ _) rfl ?_
      refine e_lushr (z := (x.toUInt64 >>> ((nI (8 * i)).toInt64.toUInt64 &&& Int64.toUInt64 63)).toInt64) f_90_28 rfl rfl ?_
      refine e_l2i (z := ((x.toUInt64 >>> ((nI (8 * i)).toInt64.toUInt64 &&& Int64.toUInt64 63)).toInt64).toInt32) f_90_29 rfl rfl ?_
      refine e_sipush (v := nI 255) f_90_30 (by decide) rfl ?_
      refine e_iand (z := nI (byt x i)) f_90_33 (byt_a (by omega)) rfl ?_
      refine e_istore (L' := [some (.ref (17)), some (.long (x)), none, some (.int (nI kn)), some (.int (nI i)), some (.int (nI (byt x i)))]) f_90_34 (Nat.le_of_ble_eq_true rfl) rfl rfl ?_
      have hbl := byt_lt x i
      refine e_iload f_90_36 rfl rfl ?_
      refine e_bipush (v := nI 32) f_90_38 (by decide) rfl ?_
      refine e_icmp_lt f_90_40 rfl (fun c_40 => ?_) (fun c_40 => ?_)
      · skip
        have c_40 : byt x i < 32 := cv_lt (by omega) (by omega) c_40
        refine e_iconst (v := (-1)) f_90_50 (by decide) rfl ?_
        refine e_iret f_90_51 rfl (rfl) ?_
        exact kf i (by omega) (decide_eq_false (fun z => by omega))
      · skip
        have c_40 : 32 ≤ byt x i := cv_nlt (by omega) (by omega) c_40
        refine e_iload f_90_43 rfl rfl ?_
        refine e_bipush (v := nI 126) f_90_45 (by decide) rfl ?_
        refine e_icmp_le f_90_47 rfl (fun c_47 => ?_) (fun c_47 => ?_)
        · skip
          have c_47 : byt x i ≤ 126 := cv_le (by omega) (by omega) c_47
          refine e_iinc (y := nI (i + 1)) (L' := [some (.ref (17)), some (.long (x)), none, some (.int (nI kn)), some (.int (nI (i + 1))), some (.int (nI (byt x i)))]) f_90_52 rfl (by rw [show Int32.ofInt 1 = nI 1 by decide]; exact (nI_add _ _)) rfl rfl ?_
          refine e_goto f_90_55 ?_
          refine px_to_L (L := [some (.ref (17)), some (.long (x)), none, some (.int (nI kn)), some (.int (nI (i + 1))), none]) ⟨Or.inr rfl, Or.inr rfl, Or.inr rfl, Or.inr rfl, Or.inr rfl, Or.inl rfl, trivial⟩ ?_
          first | (exfalso; omega) | exact ih (d - 1) (by omega) (i + 1)  (by omega) (by omega) (fun q hq => by rcases Nat.lt_or_ge q i with z | z; exact q2 q z; rw [show q = i by omega]; exact decide_eq_true ⟨by omega, by omega⟩)  
        · skip
          have c_47 : 126 < byt x i := cv_nle (by omega) (by omega) c_47
          refine e_iconst (v := (-1)) f_90_50 (by decide) rfl ?_
          refine e_iret f_90_51 rfl (rfl) ?_
          exact kf i (by omega) (decide_eq_false (fun z => by omega))

set_option maxRecDepth 20000 in
set_option maxHeartbeats 4000000 in
theorem ll_JT_tyB {P : px_H → Option Value → Prop} {h0 : px_H} {x : Int64} {kn S D : Nat} {pz kk ck : Bool} {tx : List Nat} (h8 : kn ≤ 8) (h5 : tx.length + kn ≤ 500) (kx : ∀ g, g.2.2 17 = some (11, [.ref (18), .int (nI tx.length), .ref (S), .ref (D), .ref (175), .ref (177), .ref (249), .ref (254), .ref (256), .ref (258), .ref (261), .ref (265), .int (bI pz), .ref (267), .int (bI kk), .ref (268), .int (bI ck)]) → px_pa g 18 52 500 vN (tx ++ (bys x kn).take kn) → px_fi 17 2 h0 g → px_to 90 113 [some (.ref (17)), some (.long (x)), none, some (.int (nI kn)), none, none] [] g P) : ∀ (d : Nat) (i : Nat) (g : px_H), (kn ≤ i + d) → (i ≤ kn) → g.2.2 17 = some (11, [.ref (18), .int (nI tx.length), .ref (S), .ref (D), .ref (175), .ref (177), .ref (249), .ref (254), .ref (256), .ref (258), .ref (261), .ref (265), .int (bI pz), .ref (267), .int (bI kk), .ref (268), .int (bI ck)]) → px_pa g 18 52 500 vN (tx ++ (bys x kn).take i) → px_fi 17 2 h0 g → px_to 90 76 [some (.ref (17)), some (.long (x)), none, some (.int (nI kn)), some (.int (nI i)), none] [] g P := by
  intro d
  induction d using Nat.strongRecOn with
  | ind d ih =>
    intro i g q0 q1 G0 G1 frg
    refine e_iload f_90_76 rfl rfl ?_
    refine e_iload_n f_90_78 rfl rfl ?_
    refine e_icmp_ge f_90_79 rfl (fun c_79 => ?_) (fun c_79 => ?_)
    · skip
      have c_79 : kn ≤ i := cv_le (by omega) (by omega) c_79
      refine px_to_L (L := [some (.ref (17)), some (.long (x)), none, some (.int (nI kn)), none, none]) ⟨Or.inr rfl, Or.inr rfl, Or.inr rfl, Or.inr rfl, Or.inl rfl, Or.inr rfl, trivial⟩ ?_
      have e : i = kn := by omega
      subst e
      exact kx g G0 G1 frg
    · skip
      have c_79 : i < kn := cv_nle (by omega) (by omega) c_79
      refine e_aload_n f_90_82 rfl rfl ?_
      refine e_getf f_90_83 G0 rfl rfl ?_
      refine e_aload_n f_90_86 rfl rfl ?_
      refine e_getf f_90_87 G0 rfl rfl ?_
      refine e_iload f_90_90 rfl rfl ?_
      refine e_iadd (z := nI (tx.length + i)) f_90_92 (nI_add _ _) rfl ?_
      refine e_lload_n f_90_93 rfl rfl ?_
      refine e_bipush (v := nI 8) f_90_94 (by decide) rfl ?_
      refine e_iload f_90_96 rfl rfl ?_
      refine e_imul (z := nI (8 * i)) f_90_98 (pk_mul _ _) rfl ?_
      refine e_lushr (z := (x.toUInt64 >>> ((nI (8 * i)).toInt64.toUInt64 &&& Int64.toUInt64 63)).toInt64) f_90_99 rfl rfl ?_
      refine e_ldc2 f_90_100 rfl ?_
      refine e_land (z := ((x.toUInt64 >>> ((nI (8 * i)).toInt64.toUInt64 &&& Int64.toUInt64 63)).toInt64) &&& 255) f_90_103 rfl rfl ?_
      refine e_l2i (z := nI (byt x i)) f_90_104 (byt_b (by omega)) rfl ?_
      refine e_i2c (z := nI (byt x i)) f_90_105 (i2c_id (by have := byt_lt x i; omega)) rfl ?_
      refine e_castore_a (xs := tx ++ (bys x kn).take i) (x := byt x i) f_90_106 G1 (by omega) (by rw [List.length_append, List.length_take, bys_len]; omega) (by omega) (nw_ch (by have := byt_lt x i; omega)) rfl (fun h1 g2 fx3 => ?_)
      have fr4 : px_fi 17 2 h0 h1 := fi_tr frg fx3 (by omega)
      refine e_iinc (y := nI (i + 1)) (L' := [some (.ref (17)), some (.long (x)), none, some (.int (nI kn)), some (.int (nI (i + 1))), none]) f_90_107 rfl (by rw [show Int32.ofInt 1 = nI 1 by decide]; exact (nI_add _ _)) rfl rfl ?_
      refine e_goto f_90_110 ?_
      have g5 : px_pa h1 18 52 500 vN (tx ++ (bys x kn).take (i + 1)) := pa_eq g2 (by rw [List.append_assoc, take_s 0 (show i < (bys x kn).length by rw [bys_len]; omega), bys_get (show i < kn by omega)])
      have g6 : h1.2.2 17 = some (11, [.ref (18), .int (nI tx.length), .ref (S), .ref (D), .ref (175), .ref (177), .ref (249), .ref (254), .ref (256), .ref (258), .ref (261), .ref (265), .int (bI pz), .ref (267), .int (bI kk), .ref (268), .int (bI ck)]) := fi_at G0 fx3 (by omega)
      first | (exfalso; omega) | exact ih (d - 1) (by omega) (i + 1) h1 (by omega) (by omega) g6 g5 fr4

set_option maxRecDepth 20000 in
set_option maxHeartbeats 4000000 in
theorem cc_JT_type {h : px_H} {tx : List Nat} {j : List St} {xs : List CS3} {x : Int64} {n : Int32} (H0 : pJT h tx j xs)  : px_wp 90 [.ref (17), .long (x), .int (n)] h (fun h1 r => r = some (.int ((aType tx x n).1)) ∧ pJT h1 ((aType tx x n).2) j xs ∧ px_fi 17 252 h h1) := by
  have fr0 : px_fi 17 252 h h := fi_rf _ _ _
  show px_to 90 0 [some (.ref (17)), some (.long (x)), none, some (.int (n)), none, none] [] h _
  obtain ⟨cs, S, D, pz, kk, ck, wo, xr, kl, cv, g1, g2, g3, g4, g5, g6, g7, g8, g9, g10, g11, g12, g13, g14, g15, g16, g17, g18, g19, g20, g21, g22, g23, g24, g25, hx, ok⟩ := id H0
  subst hx
  have h8 := ok.2.2.2.1.1
  have hS : 18 < S ∧ S + 78 ≤ 175 := by have := ok.1; omega
  have hD : 18 < D ∧ D + 78 ≤ 175 := by have := ok.1; omega
  have hSD : D + 78 ≤ S ∨ S + 78 ≤ D := by have := ok.1; omega
  have h8m : (cs.map c3of).length ≤ 8 := by rw [List.length_map]; exact h8
  have htl : tx.length ≤ 500 := pa_len g2
  refine e_iload_n f_90_0 rfl rfl ?_
  refine e_iconst (v := nI 1) f_90_1 (by decide) rfl ?_
  refine e_icmp_lt f_90_2 rfl (fun c_2 => ?_) (fun c_2 => ?_)
  · skip
    refine e_iconst (v := (-1)) f_90_11 (by decide) rfl ?_
    refine e_iret f_90_12 rfl (rfl) ?_
    have ea : aType tx x n = (-1, tx) := by unfold aType; rw [if_neg (fun z => Int32.not_le.mpr c_2 z.1)]
    rw [ea]
    have g26 : pJT h tx j (cs.map c3of) := ⟨cs, S, D, pz, kk, ck, wo, xr, kl, cv, g1, g2, g3, g4, g5, g6, g7, g8, g9, g10, g11, g12, g13, g14, g15, g16, g17, g18, g19, g20, g21, g22, g23, g24, g25, rfl, ok⟩
    exact ⟨congrArg (fun z => some (Value.int z)) (show (-1) = _ from rfl), g26, fr0⟩
  · skip
    refine e_iload_n f_90_5 rfl rfl ?_
    refine e_bipush (v := nI 8) f_90_6 (by decide) rfl ?_
    refine e_icmp_le f_90_8 rfl (fun c_8 => ?_) (fun c_8 => ?_)
    · skip
      obtain ⟨kn, hn1, hn8, hnc⟩ := rng_1 c_2 c_8
      subst hnc
      refine e_iconst (v := nI 0) f_90_13 (by decide) rfl ?_
      refine e_istore (L' := [some (.ref (17)), some (.long (x)), none, some (.int (nI kn)), some (.int (nI 0)), none]) f_90_14 (Nat.le_of_ble_eq_true rfl) rfl rfl ?_
      refine ll_JT_tyA (by omega) (fun q hq hb => ?_) (fun hall => ?_) kn 0 (by omega) (by omega) (fun q hq => absurd hq (Nat.not_lt_zero _))
      · skip
        have ea : aType tx x (nI kn) = (-1, tx) := by unfold aType; rw [if_pos (in18 hn1 hn8), nN_nI (by omega), if_neg (by rw [bys_bad hq hb]; decide)]
        rw [ea]
        have g27 : pJT h tx j (cs.map c3of) := ⟨cs, S, D, pz, kk, ck, wo, xr, kl, cv, g1, g2, g3, g4, g5, g6, g7, g8, g9, g10, g11, g12, g13, g14, g15, g16, g17, g18, g19, g20, g21, g22, g23, g24, g25, rfl, ok⟩
        exact ⟨congrArg (fun z => some (Value.int z)) (show (-1) = _ from rfl), g27, fr0⟩
      have hall2 := bys_all hall
      refine e_aload_n f_90_58 rfl rfl ?_
      refine e_getf f_90_59 g1 rfl rfl ?_
      refine e_iload_n f_90_62 rfl rfl ?_
      refine e_iadd (z := nI (tx.length + kn)) f_90_63 (nI_add _ _) rfl ?_
      refine e_sipush (v := nI 500) f_90_64 (by decide) rfl ?_
      refine e_icmp_le f_90_67 rfl (fun c_67 => ?_) (fun c_67 => ?_)
      · skip
        have c_67 : tx.length + kn ≤ 500 := cv_le (by omega) (by omega) c_67
        refine e_iconst (v := nI 0) f_90_73 (by decide) rfl ?_
        refine e_istore (L' := [some (.ref (17)), some (.long (x)), none, some (.int (nI kn)), some (.int (nI 0)), none]) f_90_74 (Nat.le_of_ble_eq_true rfl) rfl rfl ?_
        refine ll_JT_tyB (h0 := h) (x := x) (kn := kn) (by omega) (by omega) (fun g1 z0 z1 zf => ?_) kn 0 h (by omega) (by omega) g1 (by rw [List.take_zero, List.append_nil]; exact g2) (fi_rf _ _ _)
        have fr28 : px_fi 17 252 h g1 := fi_tr fr0 zf (by omega)
        refine e_aload_n f_90_113 rfl rfl ?_
        refine e_dup f_90_114 rfl rfl ?_
        refine e_getf f_90_115 z0 rfl rfl ?_
        refine e_iload_n f_90_118 rfl rfl ?_
        refine e_iadd (z := nI (tx.length + kn)) f_90_119 (nI_add _ _) rfl ?_
        refine e_putp (vs' := [.ref (18), .int (nI (tx.length + kn)), .ref (S), .ref (D), .ref (175), .ref (177), .ref (249), .ref (254), .ref (256), .ref (258), .ref (261), .ref (265), .int (bI pz), .ref (267), .int (bI kk), .ref (268), .int (bI ck)]) f_90_120 z0 (Nat.le_of_ble_eq_true rfl) (rfl) (rfl) rfl rfl (fun h29 g30 fx31 => ?_)
        have fr32 : px_fi 17 252 h h29 := fi_tr fr28 fx31 (by omega)
        refine e_aload_n f_90_123 rfl rfl ?_
        refine e_getf f_90_124 g30 rfl rfl ?_
        refine e_iret f_90_127 rfl (rfl) ?_
        have ea : aType tx x (nI kn) = (nI (tx.length + kn), tx ++ bys x kn) := by unfold aType; rw [if_pos (in18 hn1 hn8), nN_nI (by omega), if_pos hall2, if_pos (by omega)]
        rw [ea]
        have et : tx ++ (bys x kn).take kn = tx ++ bys x kn := by rw [take_all (bys_len x kn)]
        have g33 : px_pa h29 18 52 500 vN (tx ++ (bys x kn).take kn) := pa_fi z1 fx31 (by omega)
        have g34 : px_pa h29 18 52 500 vN (tx ++ bys x kn) := pa_eq g33 et
        have g35 : h29.2.2 17 = some (11, [.ref (18), .int (nI ((tx ++ bys x kn).length)), .ref (S), .ref (D), .ref (175), .ref (177), .ref (249), .ref (254), .ref (256), .ref (258), .ref (261), .ref (265), .int (bI pz), .ref (267), .int (bI kk), .ref (268), .int (bI ck)]) := by rw [List.length_append, bys_len]; exact g30
        have ok2 : okJT (tx ++ bys x kn) j cs S D kk ck wo xr kl cv := ⟨ok.1, fun c hc => by rw [List.mem_append] at hc; exact hc.elim (ok.2.1 c) (bys_ok hall2 c), ok.2.2⟩
        have g36 : g1.2.2 S = some (8, [.ref (S + 1), .ref (S + 5), .int (nI cs.length)]) := fi_at g3 zf (by omega)
        have g37 : h29.2.2 S = some (8, [.ref (S + 1), .ref (S + 5), .int (nI cs.length)]) := fi_at g36 fx31 (by omega)
        have g38 : pJob g1 (S + 1) j := pJob_fi g4 zf (by omega)
        have g39 : pJob h29 (S + 1) j := pJob_fi g38 fx31 (by omega)
        have g40 : px_rs g1 (S + 5) 56 8 (fun k => S + 9 * k + 6) := rs_fi g5 zf (by omega)
        have g41 : px_rs h29 (S + 5) 56 8 (fun k => S + 9 * k + 6) := rs_fi g40 fx31 (by omega)
        have g42 : pCs g1 S cs := pCs_fi g6 zf (by omega)
        have g43 : pCs h29 S cs := pCs_fi g42 fx31 (by omega)
        have g44 : pDr g1 D := pDr_fi g7 zf (by omega)
        have g45 : pDr h29 D := pDr_fi g44 fx31 (by omega)
        have g46 : pRA g1 := pRA_fi g8 zf (by omega)
        have g47 : pRA h29 := pRA_fi g46 fx31 (by omega)
        have g48 : pRun g1 wo xr := pRun_fi g9 zf (by omega)
        have g49 : pRun h29 wo xr := pRun_fi g48 fx31 (by omega)
        have g50 : pJud g1 := pJud_fi g10 zf (by omega)
        have g51 : pJud h29 := pJud_fi g50 fx31 (by omega)
        have g52 : pOrA g1 254 := pOrA_fi g11 zf (by omega)
        have g53 : pOrA h29 254 := pOrA_fi g52 fx31 (by omega)
        have g54 : pOrA g1 256 := pOrA_fi g12 zf (by omega)
        have g55 : pOrA h29 256 := pOrA_fi g54 fx31 (by omega)
        have g56 : pSc g1 := pSc_fi g13 zf (by omega)
        have g57 : pSc h29 := pSc_fi g56 fx31 (by omega)
        have g58 : pJA g1 261 := pJA_fi g14 zf (by omega)
        have g59 : pJA h29 261 := pJA_fi g58 fx31 (by omega)
        have g60 : pRwA g1 265 := pRwA_fi g15 zf (by omega)
        have g61 : pRwA h29 265 := pRwA_fi g60 fx31 (by omega)
        have g62 : px_pa g1 267 50 30 Value.int kl := pa_fi g16 zf (by omega)
        have g63 : px_pa h29 267 50 30 Value.int kl := pa_fi g62 fx31 (by omega)
        have g64 : px_pa g1 268 50 30 Value.int cv := pa_fi g17 zf (by omega)
        have g65 : px_pa h29 268 50 30 Value.int cv := pa_fi g64 fx31 (by omega)
        have g66 : pStr g1 1 ([60, 61, 62]) := pStr_fi g18 zf (by omega)
        have g67 : pStr h29 1 ([60, 61, 62]) := pStr_fi g66 fx31 (by omega)
        have g68 : pStr g1 2 ([43, 45, 42, 47]) := pStr_fi g19 zf (by omega)
        have g69 : pStr h29 2 ([43, 45, 42, 47]) := pStr_fi g68 fx31 (by omega)
        have g70 : pStr g1 3 stepSigns := pStr_fi g20 zf (by omega)
        have g71 : pStr h29 3 stepSigns := pStr_fi g70 fx31 (by omega)
        have g72 : pStr g1 4 ([60, 61, 62]) := pStr_fi g21 zf (by omega)
        have g73 : pStr h29 4 ([60, 61, 62]) := pStr_fi g72 fx31 (by omega)
        have g74 : pStr g1 5 ([43, 45, 42, 47]) := pStr_fi g22 zf (by omega)
        have g75 : pStr h29 5 ([43, 45, 42, 47]) := pStr_fi g74 fx31 (by omega)
        have g76 : pStr g1 6 evSigns := pStr_fi g23 zf (by omega)
        have g77 : pStr h29 6 evSigns := pStr_fi g76 fx31 (by omega)
        have g78 : pStr g1 7 keyL := pStr_fi g24 zf (by omega)
        have g79 : pStr h29 7 keyL := pStr_fi g78 fx31 (by omega)
        have g80 : pStr g1 8 ordL := pStr_fi g25 zf (by omega)
        have g81 : pStr h29 8 ordL := pStr_fi g80 fx31 (by omega)
        have g82 : pJT h29 (tx ++ bys x kn) j (cs.map c3of) := ⟨cs, S, D, pz, kk, ck, wo, xr, kl, cv, g35, g34, g37, g39, g41, g43, g45, g47, g49, g51, g53, g55, g57, g59, g61, g63, g65, g67, g69, g71, g73, g75, g77, g79, g81, rfl, ok2⟩
        exact ⟨congrArg (fun z => some (Value.int z)) (show nI (tx.length + kn) = _ from rfl), g82, fr32⟩
      · skip
        have c_67 : 500 < tx.length + kn := cv_nle (by omega) (by omega) c_67
        refine e_bipush (v := (-2)) f_90_70 (by decide) rfl ?_
        refine e_iret f_90_72 rfl (rfl) ?_
        have ea : aType tx x (nI kn) = (-2, tx) := by unfold aType; rw [if_pos (in18 hn1 hn8), nN_nI (by omega), if_pos hall2, if_neg (by omega)]
        rw [ea]
        have g83 : pJT h tx j (cs.map c3of) := ⟨cs, S, D, pz, kk, ck, wo, xr, kl, cv, g1, g2, g3, g4, g5, g6, g7, g8, g9, g10, g11, g12, g13, g14, g15, g16, g17, g18, g19, g20, g21, g22, g23, g24, g25, rfl, ok⟩
        exact ⟨congrArg (fun z => some (Value.int z)) (show (-2) = _ from rfl), g83, fr0⟩
    · skip
      refine e_iconst (v := (-1)) f_90_11 (by decide) rfl ?_
      refine e_iret f_90_12 rfl (rfl) ?_
      have ea : aType tx x n = (-1, tx) := by unfold aType; rw [if_neg (fun z => c_8 z.2)]
      rw [ea]
      have g84 : pJT h tx j (cs.map c3of) := ⟨cs, S, D, pz, kk, ck, wo, xr, kl, cv, g1, g2, g3, g4, g5, g6, g7, g8, g9, g10, g11, g12, g13, g14, g15, g16, g17, g18, g19, g20, g21, g22, g23, g24, g25, rfl, ok⟩
      exact ⟨congrArg (fun z => some (Value.int z)) (show (-1) = _ from rfl), g84, fr0⟩
