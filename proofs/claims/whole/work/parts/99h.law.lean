theorem pJT_fi {h h1 : px_H} {tx : List Nat} {j : List St} {xs : List CS3} {lo n : Nat} (q : pJT h tx j xs) (f : px_fi lo n h h1) (d : 269 ≤ lo) : pJT h1 tx j xs := by
  obtain ⟨cs, S, D, pz, kk, ck, wo, xr, kl, cv, z0, z1, z2, z3, z4, z5, z6, z7, z8, z9, z10, z11, z12, z13, z14, z15, z16, z17, z18, z19, z20, z21, z22, z23, z24, hx, ok⟩ := q
  have hSD := ok.1
  exact ⟨cs, S, D, pz, kk, ck, wo, xr, kl, cv, fi_at z0 f (by omega), pa_fi z1 f (by omega), fi_at z2 f (by omega), pJob_fi z3 f (by omega), rs_fi z4 f (by omega), pCs_fi z5 f (by omega), pDr_fi z6 f (by omega), pRA_fi z7 f (by omega), pRun_fi z8 f (by omega), pJud_fi z9 f (by omega), pOrA_fi z10 f (by omega), pOrA_fi z11 f (by omega), pSc_fi z12 f (by omega), pJA_fi z13 f (by omega), pRwA_fi z14 f (by omega), pa_fi z15 f (by omega), pa_fi z16 f (by omega), pStr_fi z17 f (by omega), pStr_fi z18 f (by omega), pStr_fi z19 f (by omega), pStr_fi z20 f (by omega), pStr_fi z21 f (by omega), pStr_fi z22 f (by omega), pStr_fi z23 f (by omega), pStr_fi z24 f (by omega), hx, ok⟩
theorem pJT_cell {h : px_H} {tx : List Nat} {j : List St} {xs : List CS3} (q : pJT h tx j xs) : ∃ vs, h.2.2 17 = some (11, vs) := by
  obtain ⟨cs, S, D, pz, kk, ck, wo, xr, kl, cv, z0, _⟩ := q
  exact ⟨_, z0⟩

theorem pMD_fi {h h1 : px_H} {tx : List Nat} {j : List St} {xs : List CS3} {lo n : Nat} (q : pMD h tx j xs) (f : px_fi lo n h h1) (d : lo + n ≤ 269) : pMD h1 tx j xs := by
  obtain ⟨gp, gq, gh, gw, gu, gv, jn, sl, sl2, lh, lg, lo, lt, cv, pl, ke, z0, z1, z2, z3, z4, z5, z6, z7, z8, z9, z10, z11, z12, z13, z14, z15, z16, z17, z18, z19, z20, z21, z22, z23, z24, z25, ok⟩ := q
  exact ⟨gp, gq, gh, gw, gu, gv, jn, sl, sl2, lh, lg, lo, lt, cv, pl, ke, fi_at z0 f (by omega), pa_fi z1 f (by omega), pa_fi z2 f (by omega), pa_fi z3 f (by omega), pa_fi z4 f (by omega), pMA_fi z5 f (by omega), pa_fi z6 f (by omega), pa_fi z7 f (by omega), pa_fi z8 f (by omega), pa_fi z9 f (by omega), pa_fi z10 f (by omega), pa_fi z11 f (by omega), pa_fi z12 f (by omega), pa_fi z13 f (by omega), pa_fi z14 f (by omega), pa_fi z15 f (by omega), pa_fi z16 f (by omega), pa_fi z17 f (by omega), pa_fi z18 f (by omega), pa_fi z19 f (by omega), pa_fi z20 f (by omega), pa_fi z21 f (by omega), pa_fi z22 f (by omega), pa_fi z23 f (by omega), pa_fi z24 f (by omega), pa_fi z25 f (by omega), ok⟩
theorem pMD_cell {h : px_H} {tx : List Nat} {j : List St} {xs : List CS3} (q : pMD h tx j xs) : ∃ vs, h.2.2 269 = some (12, vs) := by
  obtain ⟨gp, gq, gh, gw, gu, gv, jn, sl, sl2, lh, lg, lo, lt, cv, pl, ke, z0, _⟩ := q
  exact ⟨_, z0⟩
theorem lw_lt {n i : Nat} (hn : n ≤ 2048) (hi : i ≤ 4096) (h : ¬ nI n - nI 4 < nI i) : i + 4 ≤ n := by
  rw [Int32.lt_iff_toInt_lt, Int32.toInt_sub, nI_toInt (by omega), nI_toInt (by omega), nI_toInt (by omega)] at h
  rw [Int.bmod_eq_of_le (by omega) (by omega)] at h
  omega

set_option maxRecDepth 20000 in
set_option maxHeartbeats 4000000 in
theorem ll_LAW {P : px_H → Option Value → Prop} {h0 : px_H} {scr : List Int32} (HS : px_pa h0 0 50 scr.length Value.int scr) (hxs : scr.length ≤ 2048) (kx : ∀ g, px_fi 17 287 h0 g → P g (some (.int (nI 1)))) : ∀ (d : Nat) (ix : Nat) (tx : List Nat) (j : List St) (ys : List CS3) (g : px_H), (scr.length ≤ ix + d) → (ix ≤ scr.length + 4) → (tN j ≤ 2) → pJT g tx j ys → pMD g tx j ys → px_fi 17 287 h0 g → px_to 220 18 [some (.ref (0)), some (.ref (17)), some (.ref (269)), some (.int (nI ix))] [] g P := by
  intro d
  induction d using Nat.strongRecOn with
  | ind d ih =>
    intro ix tx j ys g q0 q1 q2 G0 G1 frg
    have qt := q2
    refine e_iload_n f_220_18 rfl rfl ?_
    refine e_aload_n f_220_19 rfl rfl ?_
    have g1 : px_pa g 0 50 scr.length Value.int scr := pa_fi HS frg (by omega)
    refine e_alen_p f_220_20 (Nat.le_of_ble_eq_true rfl) g1 rfl ?_
    refine e_iconst (v := nI 4) f_220_21 (by decide) rfl ?_
    refine e_isub (z := (nI scr.length) - (nI 4)) f_220_22 rfl rfl ?_
    refine e_icmp_gt f_220_23 rfl (fun c_23 => ?_) (fun c_23 => ?_)
    · skip
      refine e_iconst (v := nI 1) f_220_757 (by decide) rfl ?_
      refine e_iret f_220_758 rfl (rfl) ?_
      exact kx g frg
    · skip
      have hi4 := lw_lt hxs (by omega) c_23
      refine e_aload_n f_220_26 rfl rfl ?_
      refine e_iload_n f_220_27 rfl rfl ?_
      refine e_iaload_p (xs := scr) f_220_28 g1 (d := 0) (by first | omega | (simp only [List.length_set]; omega)) rfl ?_
      show px_to 220 29 [some (.ref (0)), some (.ref (17)), some (.ref (269)), some (.int (nI ix))] [.int (scr.getD ix 0)] g _
      refine e_bipush (v := nI 31) f_220_29 (by decide) rfl ?_
      refine e_iand (z := (scr.getD ix 0) &&& (nI 31)) f_220_31 rfl rfl ?_
      by_cases c_32_0 : ((scr.getD ix 0) &&& (nI 31)) = nI 0
      · skip
        refine e_sw_t f_220_32 (t := 124) (by rw [c_32_0]; rfl) ?_
        refine e_aload_n f_220_124 rfl rfl ?_
        refine e_aload_n f_220_125 rfl rfl ?_
        refine e_iload_n f_220_126 rfl rfl ?_
        refine e_iconst (v := nI 1) f_220_127 (by decide) rfl ?_
        refine e_iadd (z := nI (ix + 1)) f_220_128 (nI_add _ _) rfl ?_
        refine e_iaload_p (xs := scr) f_220_129 g1 (d := 0) (by first | omega | (simp only [List.length_set]; omega)) rfl ?_
        show px_to 220 130 [some (.ref (0)), some (.ref (17)), some (.ref (269)), some (.int (nI ix))] [.int (scr.getD (ix + 1) 0), .ref (17)] g _
        refine e_i2l (z := (scr.getD (ix + 1) 0).toInt64) f_220_130 rfl rfl ?_
        refine e_bipush (v := nI 32) f_220_131 (by decide) rfl ?_
        refine e_lshl (z := ((scr.getD (ix + 1) 0).toInt64) <<< ((nI 32).toInt64 &&& 63)) f_220_133 rfl rfl ?_
        refine e_aload_n f_220_134 rfl rfl ?_
        refine e_iload_n f_220_135 rfl rfl ?_
        refine e_iconst (v := nI 2) f_220_136 (by decide) rfl ?_
        refine e_iadd (z := nI (ix + 2)) f_220_137 (nI_add _ _) rfl ?_
        refine e_iaload_p (xs := scr) f_220_138 g1 (d := 0) (by first | omega | (simp only [List.length_set]; omega)) rfl ?_
        show px_to 220 139 [some (.ref (0)), some (.ref (17)), some (.ref (269)), some (.int (nI ix))] [.int (scr.getD (ix + 2) 0), .long (((scr.getD (ix + 1) 0).toInt64) <<< ((nI 32).toInt64 &&& 63)), .ref (17)] g _
        refine e_i2l (z := (scr.getD (ix + 2) 0).toInt64) f_220_139 rfl rfl ?_
        refine e_ldc2 f_220_140 rfl ?_
        refine e_land (z := ((scr.getD (ix + 2) 0).toInt64) &&& 4294967295) f_220_143 rfl rfl ?_
        refine e_lor (z := (((scr.getD (ix + 1) 0).toInt64) <<< ((nI 32).toInt64 &&& 63)) ||| (((scr.getD (ix + 2) 0).toInt64) &&& 4294967295)) f_220_144 rfl rfl ?_
        refine e_aload_n f_220_145 rfl rfl ?_
        refine e_iload_n f_220_146 rfl rfl ?_
        refine e_iconst (v := nI 3) f_220_147 (by decide) rfl ?_
        refine e_iadd (z := nI (ix + 3)) f_220_148 (nI_add _ _) rfl ?_
        refine e_iaload_p (xs := scr) f_220_149 g1 (d := 0) (by first | omega | (simp only [List.length_set]; omega)) rfl ?_
        show px_to 220 150 [some (.ref (0)), some (.ref (17)), some (.ref (269)), some (.int (nI ix))] [.int (scr.getD (ix + 3) 0), .long ((((scr.getD (ix + 1) 0).toInt64) <<< ((nI 32).toInt64 &&& 63)) ||| (((scr.getD (ix + 2) 0).toInt64) &&& 4294967295)), .ref (17)] g _
        obtain ⟨vs2, hb3⟩ := pJT_cell G0
        refine e_callV (As := [.long ((((scr.getD (ix + 1) 0).toInt64) <<< ((nI 32).toInt64 &&& 63)) ||| (((scr.getD (ix + 2) 0).toInt64) &&& 4294967295)), .int (scr.getD (ix + 3) 0)]) (rest := []) f_220_150 rfl rfl rfl (Nat.le_of_ble_eq_true rfl) (Nat.le_of_ble_eq_true rfl) hb3 rfl (Nat.le_of_ble_eq_true rfl) (cc_JT_type (tx := tx) (j := j) (xs := ys) (x := (((scr.getD (ix + 1) 0).toInt64) <<< ((nI 32).toInt64 &&& 63)) ||| (((scr.getD (ix + 2) 0).toInt64) &&& 4294967295)) (n := scr.getD (ix + 3) 0) G0 ) rfl (fun h4 r5 q6 => ?_)
        obtain ⟨rfl, g7, fx8⟩ := q6
        have fr9 : px_fi 17 287 h0 h4 := fi_tr frg fx8 (by omega)
        show px_to 220 153 [some (.ref (0)), some (.ref (17)), some (.ref (269)), some (.int (nI ix))] [.int ((aType tx ((((scr.getD (ix + 1) 0).toInt64) <<< ((nI 32).toInt64 &&& 63)) ||| (((scr.getD (ix + 2) 0).toInt64) &&& 4294967295)) (scr.getD (ix + 3) 0)).1)] h4 _
        refine e_aload_n f_220_153 rfl rfl ?_
        refine e_aload_n f_220_154 rfl rfl ?_
        refine e_iload_n f_220_155 rfl rfl ?_
        refine e_iconst (v := nI 1) f_220_156 (by decide) rfl ?_
        refine e_iadd (z := nI (ix + 1)) f_220_157 (nI_add _ _) rfl ?_
        have g10 : px_pa h4 0 50 scr.length Value.int scr := pa_fi HS fr9 (by omega)
        refine e_iaload_p (xs := scr) f_220_158 g10 (d := 0) (by first | omega | (simp only [List.length_set]; omega)) rfl ?_
        show px_to 220 159 [some (.ref (0)), some (.ref (17)), some (.ref (269)), some (.int (nI ix))] [.int (scr.getD (ix + 1) 0), .ref (269), .int ((aType tx ((((scr.getD (ix + 1) 0).toInt64) <<< ((nI 32).toInt64 &&& 63)) ||| (((scr.getD (ix + 2) 0).toInt64) &&& 4294967295)) (scr.getD (ix + 3) 0)).1)] h4 _
        refine e_i2l (z := (scr.getD (ix + 1) 0).toInt64) f_220_159 rfl rfl ?_
        refine e_bipush (v := nI 32) f_220_160 (by decide) rfl ?_
        refine e_lshl (z := ((scr.getD (ix + 1) 0).toInt64) <<< ((nI 32).toInt64 &&& 63)) f_220_162 rfl rfl ?_
        refine e_aload_n f_220_163 rfl rfl ?_
        refine e_iload_n f_220_164 rfl rfl ?_
        refine e_iconst (v := nI 2) f_220_165 (by decide) rfl ?_
        refine e_iadd (z := nI (ix + 2)) f_220_166 (nI_add _ _) rfl ?_
        refine e_iaload_p (xs := scr) f_220_167 g10 (d := 0) (by first | omega | (simp only [List.length_set]; omega)) rfl ?_
        show px_to 220 168 [some (.ref (0)), some (.ref (17)), some (.ref (269)), some (.int (nI ix))] [.int (scr.getD (ix + 2) 0), .long (((scr.getD (ix + 1) 0).toInt64) <<< ((nI 32).toInt64 &&& 63)), .ref (269), .int ((aType tx ((((scr.getD (ix + 1) 0).toInt64) <<< ((nI 32).toInt64 &&& 63)) ||| (((scr.getD (ix + 2) 0).toInt64) &&& 4294967295)) (scr.getD (ix + 3) 0)).1)] h4 _
        refine e_i2l (z := (scr.getD (ix + 2) 0).toInt64) f_220_168 rfl rfl ?_
        refine e_ldc2 f_220_169 rfl ?_
        refine e_land (z := ((scr.getD (ix + 2) 0).toInt64) &&& 4294967295) f_220_172 rfl rfl ?_
        refine e_lor (z := (((scr.getD (ix + 1) 0).toInt64) <<< ((nI 32).toInt64 &&& 63)) ||| (((scr.getD (ix + 2) 0).toInt64) &&& 4294967295)) f_220_173 rfl rfl ?_
        refine e_aload_n f_220_174 rfl rfl ?_
        refine e_iload_n f_220_175 rfl rfl ?_
        refine e_iconst (v := nI 3) f_220_176 (by decide) rfl ?_
        refine e_iadd (z := nI (ix + 3)) f_220_177 (nI_add _ _) rfl ?_
        refine e_iaload_p (xs := scr) f_220_178 g10 (d := 0) (by first | omega | (simp only [List.length_set]; omega)) rfl ?_
        show px_to 220 179 [some (.ref (0)), some (.ref (17)), some (.ref (269)), some (.int (nI ix))] [.int (scr.getD (ix + 3) 0), .long ((((scr.getD (ix + 1) 0).toInt64) <<< ((nI 32).toInt64 &&& 63)) ||| (((scr.getD (ix + 2) 0).toInt64) &&& 4294967295)), .ref (269), .int ((aType tx ((((scr.getD (ix + 1) 0).toInt64) <<< ((nI 32).toInt64 &&& 63)) ||| (((scr.getD (ix + 2) 0).toInt64) &&& 4294967295)) (scr.getD (ix + 3) 0)).1)] h4 _
        have g11 : pMD h4 tx j ys := pMD_fi G1 fx8 (by omega)
        obtain ⟨vs12, hb13⟩ := pMD_cell g11
        refine e_callV (As := [.long ((((scr.getD (ix + 1) 0).toInt64) <<< ((nI 32).toInt64 &&& 63)) ||| (((scr.getD (ix + 2) 0).toInt64) &&& 4294967295)), .int (scr.getD (ix + 3) 0)]) (rest := [.int ((aType tx ((((scr.getD (ix + 1) 0).toInt64) <<< ((nI 32).toInt64 &&& 63)) ||| (((scr.getD (ix + 2) 0).toInt64) &&& 4294967295)) (scr.getD (ix + 3) 0)).1)]) f_220_179 rfl rfl rfl (Nat.le_of_ble_eq_true rfl) (Nat.le_of_ble_eq_true rfl) hb13 rfl (Nat.le_of_ble_eq_true rfl) (cc_MD_type (tx := tx) (j := j) (xs := ys) (x := (((scr.getD (ix + 1) 0).toInt64) <<< ((nI 32).toInt64 &&& 63)) ||| (((scr.getD (ix + 2) 0).toInt64) &&& 4294967295)) (n := scr.getD (ix + 3) 0) g11 ) rfl (fun h14 r15 q16 => ?_)
        obtain ⟨rfl, g17, fx18⟩ := q16
        have fr19 : px_fi 17 287 h0 h14 := fi_tr fr9 fx18 (by omega)
        show px_to 220 182 [some (.ref (0)), some (.ref (17)), some (.ref (269)), some (.int (nI ix))] [.int ((aType tx ((((scr.getD (ix + 1) 0).toInt64) <<< ((nI 32).toInt64 &&& 63)) ||| (((scr.getD (ix + 2) 0).toInt64) &&& 4294967295)) (scr.getD (ix + 3) 0)).1), .int ((aType tx ((((scr.getD (ix + 1) 0).toInt64) <<< ((nI 32).toInt64 &&& 63)) ||| (((scr.getD (ix + 2) 0).toInt64) &&& 4294967295)) (scr.getD (ix + 3) 0)).1)] h14 _
        refine e_icmp_eq_t f_220_182 (rfl) ?_
        refine e_iinc (y := nI (ix + 4)) (L' := [some (.ref (0)), some (.ref (17)), some (.ref (269)), some (.int (nI (ix + 4)))]) f_220_751 rfl (by rw [show Int32.ofInt 4 = nI 4 by decide]; exact (nI_add _ _)) rfl rfl ?_
        refine e_goto f_220_754 ?_
        have g20 : pJT h14 ((aType tx ((((scr.getD (ix + 1) 0).toInt64) <<< ((nI 32).toInt64 &&& 63)) ||| (((scr.getD (ix + 2) 0).toInt64) &&& 4294967295)) (scr.getD (ix + 3) 0)).2) j ys := pJT_fi g7 fx18 (by omega)
        first | (exfalso; omega) | exact ih (d - 1) (by omega) (ix + 4) ((aType tx ((((scr.getD (ix + 1) 0).toInt64) <<< ((nI 32).toInt64 &&& 63)) ||| (((scr.getD (ix + 2) 0).toInt64) &&& 4294967295)) (scr.getD (ix + 3) 0)).2) j ys h14 (by omega) (by omega) (q2) g20 g17 fr19
      · skip
        by_cases c_32_1 : ((scr.getD ix 0) &&& (nI 31)) = nI 1
        · skip
          refine e_sw_t f_220_32 (t := 187) (by rw [c_32_1]; rfl) ?_
          refine e_aload_n f_220_187 rfl rfl ?_
          obtain ⟨vs21, hb22⟩ := pJT_cell G0
          refine e_callV (As := []) (rest := []) f_220_188 rfl rfl rfl (Nat.le_of_ble_eq_true rfl) (Nat.le_of_ble_eq_true rfl) hb22 rfl (Nat.le_of_ble_eq_true rfl) (cc_JT_parse (tx := tx) (j := j) (xs := ys) G0 ) rfl (fun h23 r24 q25 => ?_)
          obtain ⟨rfl, g26, fx27⟩ := q25
          have fr28 : px_fi 17 287 h0 h23 := fi_tr frg fx27 (by omega)
          show px_to 220 191 [some (.ref (0)), some (.ref (17)), some (.ref (269)), some (.int (nI ix))] [.int (aParse tx)] h23 _
          refine e_aload_n f_220_191 rfl rfl ?_
          have g29 : pMD h23 tx j ys := pMD_fi G1 fx27 (by omega)
          obtain ⟨vs30, hb31⟩ := pMD_cell g29
          refine e_callV (As := []) (rest := [.int (aParse tx)]) f_220_192 rfl rfl rfl (Nat.le_of_ble_eq_true rfl) (Nat.le_of_ble_eq_true rfl) hb31 rfl (Nat.le_of_ble_eq_true rfl) (cc_MD_parse (tx := tx) (j := j) (xs := ys) g29 ) rfl (fun h32 r33 q34 => ?_)
          obtain ⟨rfl, g35, fx36⟩ := q34
          have fr37 : px_fi 17 287 h0 h32 := fi_tr fr28 fx36 (by omega)
          show px_to 220 195 [some (.ref (0)), some (.ref (17)), some (.ref (269)), some (.int (nI ix))] [.int (aParse tx), .int (aParse tx)] h32 _
          refine e_icmp_eq_t f_220_195 (rfl) ?_
          refine e_iinc (y := nI (ix + 4)) (L' := [some (.ref (0)), some (.ref (17)), some (.ref (269)), some (.int (nI (ix + 4)))]) f_220_751 rfl (by rw [show Int32.ofInt 4 = nI 4 by decide]; exact (nI_add _ _)) rfl rfl ?_
          refine e_goto f_220_754 ?_
          have g38 : pJT h32 ([] : List Nat) (if (rdAll tx).1 = true then (rdAll tx).2.2.1 else j) (if (rdAll tx).1 = true then (rdAll tx).2.2.2 else ys) := pJT_fi g26 fx36 (by omega)
          first | (exfalso; omega) | exact ih (d - 1) (by omega) (ix + 4) ([] : List Nat) (if (rdAll tx).1 = true then (rdAll tx).2.2.1 else j) (if (rdAll tx).1 = true then (rdAll tx).2.2.2 else ys) h32 (by omega) (by omega) (by split; exact rdAll_tN; exact q2) g38 g35 fr37
        · skip
          by_cases c_32_2 : ((scr.getD ix 0) &&& (nI 31)) = nI 2
          · skip
            refine e_sw_t f_220_32 (t := 200) (by rw [c_32_2]; rfl) ?_
            refine e_aload_n f_220_200 rfl rfl ?_
            refine e_aload_n f_220_201 rfl rfl ?_
            refine e_iload_n f_220_202 rfl rfl ?_
            refine e_iconst (v := nI 1) f_220_203 (by decide) rfl ?_
            refine e_iadd (z := nI (ix + 1)) f_220_204 (nI_add _ _) rfl ?_
            refine e_iaload_p (xs := scr) f_220_205 g1 (d := 0) (by first | omega | (simp only [List.length_set]; omega)) rfl ?_
            show px_to 220 206 [some (.ref (0)), some (.ref (17)), some (.ref (269)), some (.int (nI ix))] [.int (scr.getD (ix + 1) 0), .ref (17)] g _
            obtain ⟨vs39, hb40⟩ := pJT_cell G0
            refine e_callV (As := [.int (scr.getD (ix + 1) 0)]) (rest := []) f_220_206 rfl rfl rfl (Nat.le_of_ble_eq_true rfl) (Nat.le_of_ble_eq_true rfl) hb40 rfl (Nat.le_of_ble_eq_true rfl) (cc_JT_count (tx := tx) (j := j) (xs := ys) (w := scr.getD (ix + 1) 0) G0 ) rfl (fun h41 r42 q43 => ?_)
            obtain ⟨rfl, g44, fx45⟩ := q43
            have fr46 : px_fi 17 287 h0 h41 := fi_tr frg fx45 (by omega)
            show px_to 220 209 [some (.ref (0)), some (.ref (17)), some (.ref (269)), some (.int (nI ix))] [.int (aCount tx j ys (scr.getD (ix + 1) 0))] h41 _
            refine e_aload_n f_220_209 rfl rfl ?_
            refine e_aload_n f_220_210 rfl rfl ?_
            refine e_iload_n f_220_211 rfl rfl ?_
            refine e_iconst (v := nI 1) f_220_212 (by decide) rfl ?_
            refine e_iadd (z := nI (ix + 1)) f_220_213 (nI_add _ _) rfl ?_
            have g47 : px_pa h41 0 50 scr.length Value.int scr := pa_fi HS fr46 (by omega)
            refine e_iaload_p (xs := scr) f_220_214 g47 (d := 0) (by first | omega | (simp only [List.length_set]; omega)) rfl ?_
            show px_to 220 215 [some (.ref (0)), some (.ref (17)), some (.ref (269)), some (.int (nI ix))] [.int (scr.getD (ix + 1) 0), .ref (269), .int (aCount tx j ys (scr.getD (ix + 1) 0))] h41 _
            have g48 : pMD h41 tx j ys := pMD_fi G1 fx45 (by omega)
            obtain ⟨vs49, hb50⟩ := pMD_cell g48
            refine e_callV (As := [.int (scr.getD (ix + 1) 0)]) (rest := [.int (aCount tx j ys (scr.getD (ix + 1) 0))]) f_220_215 rfl rfl rfl (Nat.le_of_ble_eq_true rfl) (Nat.le_of_ble_eq_true rfl) hb50 rfl (Nat.le_of_ble_eq_true rfl) (cc_MD_count (tx := tx) (j := j) (xs := ys) (w := scr.getD (ix + 1) 0) g48 ) rfl (fun h51 r52 q53 => ?_)
            obtain ⟨rfl, g54, fx55⟩ := q53
            have fr56 : px_fi 17 287 h0 h51 := fi_tr fr46 fx55 (by omega)
            show px_to 220 218 [some (.ref (0)), some (.ref (17)), some (.ref (269)), some (.int (nI ix))] [.int (aCount tx j ys (scr.getD (ix + 1) 0)), .int (aCount tx j ys (scr.getD (ix + 1) 0))] h51 _
            refine e_icmp_eq_t f_220_218 (rfl) ?_
            refine e_iinc (y := nI (ix + 4)) (L' := [some (.ref (0)), some (.ref (17)), some (.ref (269)), some (.int (nI (ix + 4)))]) f_220_751 rfl (by rw [show Int32.ofInt 4 = nI 4 by decide]; exact (nI_add _ _)) rfl rfl ?_
            refine e_goto f_220_754 ?_
            have g57 : pJT h51 tx j ys := pJT_fi g44 fx55 (by omega)
            first | (exfalso; omega) | exact ih (d - 1) (by omega) (ix + 4) tx j ys h51 (by omega) (by omega) (q2) g57 g54 fr56
          · skip
            by_cases c_32_3 : ((scr.getD ix 0) &&& (nI 31)) = nI 3
            · skip
              refine e_sw_t f_220_32 (t := 223) (by rw [c_32_3]; rfl) ?_
              refine e_aload_n f_220_223 rfl rfl ?_
              refine e_aload_n f_220_224 rfl rfl ?_
              refine e_iload_n f_220_225 rfl rfl ?_
              refine e_iconst (v := nI 1) f_220_226 (by decide) rfl ?_
              refine e_iadd (z := nI (ix + 1)) f_220_227 (nI_add _ _) rfl ?_
              refine e_iaload_p (xs := scr) f_220_228 g1 (d := 0) (by first | omega | (simp only [List.length_set]; omega)) rfl ?_
              show px_to 220 229 [some (.ref (0)), some (.ref (17)), some (.ref (269)), some (.int (nI ix))] [.int (scr.getD (ix + 1) 0), .ref (17)] g _
              obtain ⟨vs58, hb59⟩ := pJT_cell G0
              refine e_callV (As := [.int (scr.getD (ix + 1) 0)]) (rest := []) f_220_229 rfl rfl rfl (Nat.le_of_ble_eq_true rfl) (Nat.le_of_ble_eq_true rfl) hb59 rfl (Nat.le_of_ble_eq_true rfl) (cc_JT_run (tx := tx) (j := j) (xs := ys) (c := scr.getD (ix + 1) 0) G0 ) rfl (fun h60 r61 q62 => ?_)
              obtain ⟨rfl, g63, fx64⟩ := q62
              have fr65 : px_fi 17 287 h0 h60 := fi_tr frg fx64 (by omega)
              show px_to 220 232 [some (.ref (0)), some (.ref (17)), some (.ref (269)), some (.int (nI ix))] [.int (aRun j ys (scr.getD (ix + 1) 0))] h60 _
              refine e_aload_n f_220_232 rfl rfl ?_
              refine e_aload_n f_220_233 rfl rfl ?_
              refine e_iload_n f_220_234 rfl rfl ?_
              refine e_iconst (v := nI 1) f_220_235 (by decide) rfl ?_
              refine e_iadd (z := nI (ix + 1)) f_220_236 (nI_add _ _) rfl ?_
              have g66 : px_pa h60 0 50 scr.length Value.int scr := pa_fi HS fr65 (by omega)
              refine e_iaload_p (xs := scr) f_220_237 g66 (d := 0) (by first | omega | (simp only [List.length_set]; omega)) rfl ?_
              show px_to 220 238 [some (.ref (0)), some (.ref (17)), some (.ref (269)), some (.int (nI ix))] [.int (scr.getD (ix + 1) 0), .ref (269), .int (aRun j ys (scr.getD (ix + 1) 0))] h60 _
              have g67 : pMD h60 tx j ys := pMD_fi G1 fx64 (by omega)
              obtain ⟨vs68, hb69⟩ := pMD_cell g67
              refine e_callV (As := [.int (scr.getD (ix + 1) 0)]) (rest := [.int (aRun j ys (scr.getD (ix + 1) 0))]) f_220_238 rfl rfl rfl (Nat.le_of_ble_eq_true rfl) (Nat.le_of_ble_eq_true rfl) hb69 rfl (Nat.le_of_ble_eq_true rfl) (cc_MD_run (tx := tx) (j := j) (xs := ys) (c := scr.getD (ix + 1) 0) g67 (qt)) rfl (fun h70 r71 q72 => ?_)
              obtain ⟨rfl, g73, fx74⟩ := q72
              have fr75 : px_fi 17 287 h0 h70 := fi_tr fr65 fx74 (by omega)
              show px_to 220 241 [some (.ref (0)), some (.ref (17)), some (.ref (269)), some (.int (nI ix))] [.int (aRun j ys (scr.getD (ix + 1) 0)), .int (aRun j ys (scr.getD (ix + 1) 0))] h70 _
              refine e_icmp_eq_t f_220_241 (rfl) ?_
              refine e_iinc (y := nI (ix + 4)) (L' := [some (.ref (0)), some (.ref (17)), some (.ref (269)), some (.int (nI (ix + 4)))]) f_220_751 rfl (by rw [show Int32.ofInt 4 = nI 4 by decide]; exact (nI_add _ _)) rfl rfl ?_
              refine e_goto f_220_754 ?_
              have g76 : pJT h70 tx j ys := pJT_fi g63 fx74 (by omega)
              first | (exfalso; omega) | exact ih (d - 1) (by omega) (ix + 4) tx j ys h70 (by omega) (by omega) (q2) g76 g73 fr75
            · skip
              by_cases c_32_4 : ((scr.getD ix 0) &&& (nI 31)) = nI 4
              · skip
                refine e_sw_t f_220_32 (t := 246) (by rw [c_32_4]; rfl) ?_
                refine e_aload_n f_220_246 rfl rfl ?_
                refine e_aload_n f_220_247 rfl rfl ?_
                refine e_iload_n f_220_248 rfl rfl ?_
                refine e_iconst (v := nI 1) f_220_249 (by decide) rfl ?_
                refine e_iadd (z := nI (ix + 1)) f_220_250 (nI_add _ _) rfl ?_
                refine e_iaload_p (xs := scr) f_220_251 g1 (d := 0) (by first | omega | (simp only [List.length_set]; omega)) rfl ?_
                show px_to 220 252 [some (.ref (0)), some (.ref (17)), some (.ref (269)), some (.int (nI ix))] [.int (scr.getD (ix + 1) 0), .ref (17)] g _
                refine e_aload_n f_220_252 rfl rfl ?_
                refine e_iload_n f_220_253 rfl rfl ?_
                refine e_iconst (v := nI 2) f_220_254 (by decide) rfl ?_
                refine e_iadd (z := nI (ix + 2)) f_220_255 (nI_add _ _) rfl ?_
                refine e_iaload_p (xs := scr) f_220_256 g1 (d := 0) (by first | omega | (simp only [List.length_set]; omega)) rfl ?_
                show px_to 220 257 [some (.ref (0)), some (.ref (17)), some (.ref (269)), some (.int (nI ix))] [.int (scr.getD (ix + 2) 0), .int (scr.getD (ix + 1) 0), .ref (17)] g _
                obtain ⟨vs77, hb78⟩ := pJT_cell G0
                refine e_callV (As := [.int (scr.getD (ix + 1) 0), .int (scr.getD (ix + 2) 0)]) (rest := []) f_220_257 rfl rfl rfl (Nat.le_of_ble_eq_true rfl) (Nat.le_of_ble_eq_true rfl) hb78 rfl (Nat.le_of_ble_eq_true rfl) (cc_JT_ran (tx := tx) (j := j) (xs := ys) (c := scr.getD (ix + 1) 0) (w := scr.getD (ix + 2) 0) G0 ) rfl (fun h79 r80 q81 => ?_)
                obtain ⟨rfl, g82, fx83⟩ := q81
                have fr84 : px_fi 17 287 h0 h79 := fi_tr frg fx83 (by omega)
                show px_to 220 260 [some (.ref (0)), some (.ref (17)), some (.ref (269)), some (.int (nI ix))] [.int (aRan j ys (scr.getD (ix + 1) 0) (scr.getD (ix + 2) 0))] h79 _
                refine e_aload_n f_220_260 rfl rfl ?_
                refine e_aload_n f_220_261 rfl rfl ?_
                refine e_iload_n f_220_262 rfl rfl ?_
                refine e_iconst (v := nI 1) f_220_263 (by decide) rfl ?_
                refine e_iadd (z := nI (ix + 1)) f_220_264 (nI_add _ _) rfl ?_
                have g85 : px_pa h79 0 50 scr.length Value.int scr := pa_fi HS fr84 (by omega)
                refine e_iaload_p (xs := scr) f_220_265 g85 (d := 0) (by first | omega | (simp only [List.length_set]; omega)) rfl ?_
                show px_to 220 266 [some (.ref (0)), some (.ref (17)), some (.ref (269)), some (.int (nI ix))] [.int (scr.getD (ix + 1) 0), .ref (269), .int (aRan j ys (scr.getD (ix + 1) 0) (scr.getD (ix + 2) 0))] h79 _
                refine e_aload_n f_220_266 rfl rfl ?_
                refine e_iload_n f_220_267 rfl rfl ?_
                refine e_iconst (v := nI 2) f_220_268 (by decide) rfl ?_
                refine e_iadd (z := nI (ix + 2)) f_220_269 (nI_add _ _) rfl ?_
                refine e_iaload_p (xs := scr) f_220_270 g85 (d := 0) (by first | omega | (simp only [List.length_set]; omega)) rfl ?_
                show px_to 220 271 [some (.ref (0)), some (.ref (17)), some (.ref (269)), some (.int (nI ix))] [.int (scr.getD (ix + 2) 0), .int (scr.getD (ix + 1) 0), .ref (269), .int (aRan j ys (scr.getD (ix + 1) 0) (scr.getD (ix + 2) 0))] h79 _
                have g86 : pMD h79 tx j ys := pMD_fi G1 fx83 (by omega)
                obtain ⟨vs87, hb88⟩ := pMD_cell g86
                refine e_callV (As := [.int (scr.getD (ix + 1) 0), .int (scr.getD (ix + 2) 0)]) (rest := [.int (aRan j ys (scr.getD (ix + 1) 0) (scr.getD (ix + 2) 0))]) f_220_271 rfl rfl rfl (Nat.le_of_ble_eq_true rfl) (Nat.le_of_ble_eq_true rfl) hb88 rfl (Nat.le_of_ble_eq_true rfl) (cc_MD_ran (tx := tx) (j := j) (xs := ys) (c := scr.getD (ix + 1) 0) (w := scr.getD (ix + 2) 0) g86 (qt)) rfl (fun h89 r90 q91 => ?_)
                obtain ⟨rfl, g92, fx93⟩ := q91
                have fr94 : px_fi 17 287 h0 h89 := fi_tr fr84 fx93 (by omega)
                show px_to 220 274 [some (.ref (0)), some (.ref (17)), some (.ref (269)), some (.int (nI ix))] [.int (aRan j ys (scr.getD (ix + 1) 0) (scr.getD (ix + 2) 0)), .int (aRan j ys (scr.getD (ix + 1) 0) (scr.getD (ix + 2) 0))] h89 _
                refine e_icmp_eq_t f_220_274 (rfl) ?_
                refine e_iinc (y := nI (ix + 4)) (L' := [some (.ref (0)), some (.ref (17)), some (.ref (269)), some (.int (nI (ix + 4)))]) f_220_751 rfl (by rw [show Int32.ofInt 4 = nI 4 by decide]; exact (nI_add _ _)) rfl rfl ?_
                refine e_goto f_220_754 ?_
                have g95 : pJT h89 tx j ys := pJT_fi g82 fx93 (by omega)
                first | (exfalso; omega) | exact ih (d - 1) (by omega) (ix + 4) tx j ys h89 (by omega) (by omega) (q2) g95 g92 fr94
              · skip
                by_cases c_32_5 : ((scr.getD ix 0) &&& (nI 31)) = nI 5
                · skip
                  refine e_sw_t f_220_32 (t := 279) (by rw [c_32_5]; rfl) ?_
                  refine e_aload_n f_220_279 rfl rfl ?_
                  refine e_aload_n f_220_280 rfl rfl ?_
                  refine e_iload_n f_220_281 rfl rfl ?_
                  refine e_iconst (v := nI 1) f_220_282 (by decide) rfl ?_
                  refine e_iadd (z := nI (ix + 1)) f_220_283 (nI_add _ _) rfl ?_
                  refine e_iaload_p (xs := scr) f_220_284 g1 (d := 0) (by first | omega | (simp only [List.length_set]; omega)) rfl ?_
                  show px_to 220 285 [some (.ref (0)), some (.ref (17)), some (.ref (269)), some (.int (nI ix))] [.int (scr.getD (ix + 1) 0), .ref (17)] g _
                  refine e_aload_n f_220_285 rfl rfl ?_
                  refine e_iload_n f_220_286 rfl rfl ?_
                  refine e_iconst (v := nI 2) f_220_287 (by decide) rfl ?_
                  refine e_iadd (z := nI (ix + 2)) f_220_288 (nI_add _ _) rfl ?_
                  refine e_iaload_p (xs := scr) f_220_289 g1 (d := 0) (by first | omega | (simp only [List.length_set]; omega)) rfl ?_
                  show px_to 220 290 [some (.ref (0)), some (.ref (17)), some (.ref (269)), some (.int (nI ix))] [.int (scr.getD (ix + 2) 0), .int (scr.getD (ix + 1) 0), .ref (17)] g _
                  refine e_aload_n f_220_290 rfl rfl ?_
                  refine e_iload_n f_220_291 rfl rfl ?_
                  refine e_iconst (v := nI 3) f_220_292 (by decide) rfl ?_
                  refine e_iadd (z := nI (ix + 3)) f_220_293 (nI_add _ _) rfl ?_
                  refine e_iaload_p (xs := scr) f_220_294 g1 (d := 0) (by first | omega | (simp only [List.length_set]; omega)) rfl ?_
                  show px_to 220 295 [some (.ref (0)), some (.ref (17)), some (.ref (269)), some (.int (nI ix))] [.int (scr.getD (ix + 3) 0), .int (scr.getD (ix + 2) 0), .int (scr.getD (ix + 1) 0), .ref (17)] g _
                  obtain ⟨vs96, hb97⟩ := pJT_cell G0
                  refine e_callV (As := [.int (scr.getD (ix + 1) 0), .int (scr.getD (ix + 2) 0), .int (scr.getD (ix + 3) 0)]) (rest := []) f_220_295 rfl rfl rfl (Nat.le_of_ble_eq_true rfl) (Nat.le_of_ble_eq_true rfl) hb97 rfl (Nat.le_of_ble_eq_true rfl) (cc_JT_out (tx := tx) (j := j) (xs := ys) (c := scr.getD (ix + 1) 0) (i := scr.getD (ix + 2) 0) (w := scr.getD (ix + 3) 0) G0 ) rfl (fun h98 r99 q100 => ?_)
                  obtain ⟨rfl, g101, fx102⟩ := q100
                  have fr103 : px_fi 17 287 h0 h98 := fi_tr frg fx102 (by omega)
                  show px_to 220 298 [some (.ref (0)), some (.ref (17)), some (.ref (269)), some (.int (nI ix))] [.int (aOut j ys (scr.getD (ix + 1) 0) (scr.getD (ix + 2) 0) (scr.getD (ix + 3) 0))] h98 _
                  refine e_aload_n f_220_298 rfl rfl ?_
                  refine e_aload_n f_220_299 rfl rfl ?_
                  refine e_iload_n f_220_300 rfl rfl ?_
                  refine e_iconst (v := nI 1) f_220_301 (by decide) rfl ?_
                  refine e_iadd (z := nI (ix + 1)) f_220_302 (nI_add _ _) rfl ?_
                  have g104 : px_pa h98 0 50 scr.length Value.int scr := pa_fi HS fr103 (by omega)
                  refine e_iaload_p (xs := scr) f_220_303 g104 (d := 0) (by first | omega | (simp only [List.length_set]; omega)) rfl ?_
                  show px_to 220 304 [some (.ref (0)), some (.ref (17)), some (.ref (269)), some (.int (nI ix))] [.int (scr.getD (ix + 1) 0), .ref (269), .int (aOut j ys (scr.getD (ix + 1) 0) (scr.getD (ix + 2) 0) (scr.getD (ix + 3) 0))] h98 _
                  refine e_aload_n f_220_304 rfl rfl ?_
                  refine e_iload_n f_220_305 rfl rfl ?_
                  refine e_iconst (v := nI 2) f_220_306 (by decide) rfl ?_
                  refine e_iadd (z := nI (ix + 2)) f_220_307 (nI_add _ _) rfl ?_
                  refine e_iaload_p (xs := scr) f_220_308 g104 (d := 0) (by first | omega | (simp only [List.length_set]; omega)) rfl ?_
                  show px_to 220 309 [some (.ref (0)), some (.ref (17)), some (.ref (269)), some (.int (nI ix))] [.int (scr.getD (ix + 2) 0), .int (scr.getD (ix + 1) 0), .ref (269), .int (aOut j ys (scr.getD (ix + 1) 0) (scr.getD (ix + 2) 0) (scr.getD (ix + 3) 0))] h98 _
                  refine e_aload_n f_220_309 rfl rfl ?_
                  refine e_iload_n f_220_310 rfl rfl ?_
                  refine e_iconst (v := nI 3) f_220_311 (by decide) rfl ?_
                  refine e_iadd (z := nI (ix + 3)) f_220_312 (nI_add _ _) rfl ?_
                  refine e_iaload_p (xs := scr) f_220_313 g104 (d := 0) (by first | omega | (simp only [List.length_set]; omega)) rfl ?_
                  show px_to 220 314 [some (.ref (0)), some (.ref (17)), some (.ref (269)), some (.int (nI ix))] [.int (scr.getD (ix + 3) 0), .int (scr.getD (ix + 2) 0), .int (scr.getD (ix + 1) 0), .ref (269), .int (aOut j ys (scr.getD (ix + 1) 0) (scr.getD (ix + 2) 0) (scr.getD (ix + 3) 0))] h98 _
                  have g105 : pMD h98 tx j ys := pMD_fi G1 fx102 (by omega)
                  obtain ⟨vs106, hb107⟩ := pMD_cell g105
                  refine e_callV (As := [.int (scr.getD (ix + 1) 0), .int (scr.getD (ix + 2) 0), .int (scr.getD (ix + 3) 0)]) (rest := [.int (aOut j ys (scr.getD (ix + 1) 0) (scr.getD (ix + 2) 0) (scr.getD (ix + 3) 0))]) f_220_314 rfl rfl rfl (Nat.le_of_ble_eq_true rfl) (Nat.le_of_ble_eq_true rfl) hb107 rfl (Nat.le_of_ble_eq_true rfl) (cc_MD_out (tx := tx) (j := j) (xs := ys) (c := scr.getD (ix + 1) 0) (i := scr.getD (ix + 2) 0) (w := scr.getD (ix + 3) 0) g105 (qt)) rfl (fun h108 r109 q110 => ?_)
                  obtain ⟨rfl, g111, fx112⟩ := q110
                  have fr113 : px_fi 17 287 h0 h108 := fi_tr fr103 fx112 (by omega)
                  show px_to 220 317 [some (.ref (0)), some (.ref (17)), some (.ref (269)), some (.int (nI ix))] [.int (aOut j ys (scr.getD (ix + 1) 0) (scr.getD (ix + 2) 0) (scr.getD (ix + 3) 0)), .int (aOut j ys (scr.getD (ix + 1) 0) (scr.getD (ix + 2) 0) (scr.getD (ix + 3) 0))] h108 _
                  refine e_icmp_eq_t f_220_317 (rfl) ?_
                  refine e_iinc (y := nI (ix + 4)) (L' := [some (.ref (0)), some (.ref (17)), some (.ref (269)), some (.int (nI (ix + 4)))]) f_220_751 rfl (by rw [show Int32.ofInt 4 = nI 4 by decide]; exact (nI_add _ _)) rfl rfl ?_
                  refine e_goto f_220_754 ?_
                  have g114 : pJT h108 tx j ys := pJT_fi g101 fx112 (by omega)
                  first | (exfalso; omega) | exact ih (d - 1) (by omega) (ix + 4) tx j ys h108 (by omega) (by omega) (q2) g114 g111 fr113
                · skip
                  by_cases c_32_6 : ((scr.getD ix 0) &&& (nI 31)) = nI 6
                  · skip
                    refine e_sw_t f_220_32 (t := 322) (by rw [c_32_6]; rfl) ?_
                    refine e_aload_n f_220_322 rfl rfl ?_
                    refine e_aload_n f_220_323 rfl rfl ?_
                    refine e_iload_n f_220_324 rfl rfl ?_
                    refine e_iconst (v := nI 1) f_220_325 (by decide) rfl ?_
                    refine e_iadd (z := nI (ix + 1)) f_220_326 (nI_add _ _) rfl ?_
                    refine e_iaload_p (xs := scr) f_220_327 g1 (d := 0) (by first | omega | (simp only [List.length_set]; omega)) rfl ?_
                    show px_to 220 328 [some (.ref (0)), some (.ref (17)), some (.ref (269)), some (.int (nI ix))] [.int (scr.getD (ix + 1) 0), .ref (17)] g _
                    obtain ⟨vs115, hb116⟩ := pJT_cell G0
                    refine e_callV (As := [.int (scr.getD (ix + 1) 0)]) (rest := []) f_220_328 rfl rfl rfl (Nat.le_of_ble_eq_true rfl) (Nat.le_of_ble_eq_true rfl) hb116 rfl (Nat.le_of_ble_eq_true rfl) (cc_JT_diff (tx := tx) (j := j) (xs := ys) (c := scr.getD (ix + 1) 0) G0 ) rfl (fun h117 r118 q119 => ?_)
                    obtain ⟨rfl, g120, fx121⟩ := q119
                    have fr122 : px_fi 17 287 h0 h117 := fi_tr frg fx121 (by omega)
                    show px_to 220 331 [some (.ref (0)), some (.ref (17)), some (.ref (269)), some (.int (nI ix))] [.int (aDiff j ys (scr.getD (ix + 1) 0))] h117 _
                    refine e_aload_n f_220_331 rfl rfl ?_
                    refine e_aload_n f_220_332 rfl rfl ?_
                    refine e_iload_n f_220_333 rfl rfl ?_
                    refine e_iconst (v := nI 1) f_220_334 (by decide) rfl ?_
                    refine e_iadd (z := nI (ix + 1)) f_220_335 (nI_add _ _) rfl ?_
                    have g123 : px_pa h117 0 50 scr.length Value.int scr := pa_fi HS fr122 (by omega)
                    refine e_iaload_p (xs := scr) f_220_336 g123 (d := 0) (by first | omega | (simp only [List.length_set]; omega)) rfl ?_
                    show px_to 220 337 [some (.ref (0)), some (.ref (17)), some (.ref (269)), some (.int (nI ix))] [.int (scr.getD (ix + 1) 0), .ref (269), .int (aDiff j ys (scr.getD (ix + 1) 0))] h117 _
                    have g124 : pMD h117 tx j ys := pMD_fi G1 fx121 (by omega)
                    obtain ⟨vs125, hb126⟩ := pMD_cell g124
                    refine e_callV (As := [.int (scr.getD (ix + 1) 0)]) (rest := [.int (aDiff j ys (scr.getD (ix + 1) 0))]) f_220_337 rfl rfl rfl (Nat.le_of_ble_eq_true rfl) (Nat.le_of_ble_eq_true rfl) hb126 rfl (Nat.le_of_ble_eq_true rfl) (cc_MD_diff (tx := tx) (j := j) (xs := ys) (c := scr.getD (ix + 1) 0) g124 (qt)) rfl (fun h127 r128 q129 => ?_)
                    obtain ⟨rfl, g130, fx131⟩ := q129
                    have fr132 : px_fi 17 287 h0 h127 := fi_tr fr122 fx131 (by omega)
                    show px_to 220 340 [some (.ref (0)), some (.ref (17)), some (.ref (269)), some (.int (nI ix))] [.int (aDiff j ys (scr.getD (ix + 1) 0)), .int (aDiff j ys (scr.getD (ix + 1) 0))] h127 _
                    refine e_icmp_eq_t f_220_340 (rfl) ?_
                    refine e_iinc (y := nI (ix + 4)) (L' := [some (.ref (0)), some (.ref (17)), some (.ref (269)), some (.int (nI (ix + 4)))]) f_220_751 rfl (by rw [show Int32.ofInt 4 = nI 4 by decide]; exact (nI_add _ _)) rfl rfl ?_
                    refine e_goto f_220_754 ?_
                    have g133 : pJT h127 tx j ys := pJT_fi g120 fx131 (by omega)
                    first | (exfalso; omega) | exact ih (d - 1) (by omega) (ix + 4) tx j ys h127 (by omega) (by omega) (q2) g133 g130 fr132
                  · skip
                    by_cases c_32_7 : ((scr.getD ix 0) &&& (nI 31)) = nI 7
                    · skip
                      refine e_sw_t f_220_32 (t := 345) (by rw [c_32_7]; rfl) ?_
                      refine e_aload_n f_220_345 rfl rfl ?_
                      refine e_aload_n f_220_346 rfl rfl ?_
                      refine e_iload_n f_220_347 rfl rfl ?_
                      refine e_iconst (v := nI 1) f_220_348 (by decide) rfl ?_
                      refine e_iadd (z := nI (ix + 1)) f_220_349 (nI_add _ _) rfl ?_
                      refine e_iaload_p (xs := scr) f_220_350 g1 (d := 0) (by first | omega | (simp only [List.length_set]; omega)) rfl ?_
                      show px_to 220 351 [some (.ref (0)), some (.ref (17)), some (.ref (269)), some (.int (nI ix))] [.int (scr.getD (ix + 1) 0), .ref (17)] g _
                      refine e_aload_n f_220_351 rfl rfl ?_
                      refine e_iload_n f_220_352 rfl rfl ?_
                      refine e_iconst (v := nI 2) f_220_353 (by decide) rfl ?_
                      refine e_iadd (z := nI (ix + 2)) f_220_354 (nI_add _ _) rfl ?_
                      refine e_iaload_p (xs := scr) f_220_355 g1 (d := 0) (by first | omega | (simp only [List.length_set]; omega)) rfl ?_
                      show px_to 220 356 [some (.ref (0)), some (.ref (17)), some (.ref (269)), some (.int (nI ix))] [.int (scr.getD (ix + 2) 0), .int (scr.getD (ix + 1) 0), .ref (17)] g _
                      obtain ⟨vs134, hb135⟩ := pJT_cell G0
                      refine e_callV (As := [.int (scr.getD (ix + 1) 0), .int (scr.getD (ix + 2) 0)]) (rest := []) f_220_356 rfl rfl rfl (Nat.le_of_ble_eq_true rfl) (Nat.le_of_ble_eq_true rfl) hb135 rfl (Nat.le_of_ble_eq_true rfl) (cc_JT_scs (tx := tx) (j := j) (xs := ys) (c := scr.getD (ix + 1) 0) (s := scr.getD (ix + 2) 0) G0 ) rfl (fun h136 r137 q138 => ?_)
                      obtain ⟨rfl, g139, fx140⟩ := q138
                      have fr141 : px_fi 17 287 h0 h136 := fi_tr frg fx140 (by omega)
                      show px_to 220 359 [some (.ref (0)), some (.ref (17)), some (.ref (269)), some (.int (nI ix))] [.int (aScs ys (scr.getD (ix + 1) 0) (scr.getD (ix + 2) 0))] h136 _
                      refine e_aload_n f_220_359 rfl rfl ?_
                      refine e_aload_n f_220_360 rfl rfl ?_
                      refine e_iload_n f_220_361 rfl rfl ?_
                      refine e_iconst (v := nI 1) f_220_362 (by decide) rfl ?_
                      refine e_iadd (z := nI (ix + 1)) f_220_363 (nI_add _ _) rfl ?_
                      have g142 : px_pa h136 0 50 scr.length Value.int scr := pa_fi HS fr141 (by omega)
                      refine e_iaload_p (xs := scr) f_220_364 g142 (d := 0) (by first | omega | (simp only [List.length_set]; omega)) rfl ?_
                      show px_to 220 365 [some (.ref (0)), some (.ref (17)), some (.ref (269)), some (.int (nI ix))] [.int (scr.getD (ix + 1) 0), .ref (269), .int (aScs ys (scr.getD (ix + 1) 0) (scr.getD (ix + 2) 0))] h136 _
                      refine e_aload_n f_220_365 rfl rfl ?_
                      refine e_iload_n f_220_366 rfl rfl ?_
                      refine e_iconst (v := nI 2) f_220_367 (by decide) rfl ?_
                      refine e_iadd (z := nI (ix + 2)) f_220_368 (nI_add _ _) rfl ?_
                      refine e_iaload_p (xs := scr) f_220_369 g142 (d := 0) (by first | omega | (simp only [List.length_set]; omega)) rfl ?_
                      show px_to 220 370 [some (.ref (0)), some (.ref (17)), some (.ref (269)), some (.int (nI ix))] [.int (scr.getD (ix + 2) 0), .int (scr.getD (ix + 1) 0), .ref (269), .int (aScs ys (scr.getD (ix + 1) 0) (scr.getD (ix + 2) 0))] h136 _
                      have g143 : pMD h136 tx j ys := pMD_fi G1 fx140 (by omega)
                      obtain ⟨vs144, hb145⟩ := pMD_cell g143
                      refine e_callV (As := [.int (scr.getD (ix + 1) 0), .int (scr.getD (ix + 2) 0)]) (rest := [.int (aScs ys (scr.getD (ix + 1) 0) (scr.getD (ix + 2) 0))]) f_220_370 rfl rfl rfl (Nat.le_of_ble_eq_true rfl) (Nat.le_of_ble_eq_true rfl) hb145 rfl (Nat.le_of_ble_eq_true rfl) (cc_MD_scs (tx := tx) (j := j) (xs := ys) (c := scr.getD (ix + 1) 0) (s := scr.getD (ix + 2) 0) g143 ) rfl (fun h146 r147 q148 => ?_)
                      obtain ⟨rfl, g149, fx150⟩ := q148
                      have fr151 : px_fi 17 287 h0 h146 := fi_tr fr141 fx150 (by omega)
                      show px_to 220 373 [some (.ref (0)), some (.ref (17)), some (.ref (269)), some (.int (nI ix))] [.int (aScs ys (scr.getD (ix + 1) 0) (scr.getD (ix + 2) 0)), .int (aScs ys (scr.getD (ix + 1) 0) (scr.getD (ix + 2) 0))] h146 _
                      refine e_icmp_eq_t f_220_373 (rfl) ?_
                      refine e_iinc (y := nI (ix + 4)) (L' := [some (.ref (0)), some (.ref (17)), some (.ref (269)), some (.int (nI (ix + 4)))]) f_220_751 rfl (by rw [show Int32.ofInt 4 = nI 4 by decide]; exact (nI_add _ _)) rfl rfl ?_
                      refine e_goto f_220_754 ?_
                      have g152 : pJT h146 tx j ys := pJT_fi g139 fx150 (by omega)
                      first | (exfalso; omega) | exact ih (d - 1) (by omega) (ix + 4) tx j ys h146 (by omega) (by omega) (q2) g152 g149 fr151
                    · skip
                      by_cases c_32_8 : ((scr.getD ix 0) &&& (nI 31)) = nI 8
                      · skip
                        refine e_sw_t f_220_32 (t := 378) (by rw [c_32_8]; rfl) ?_
                        refine e_aload_n f_220_378 rfl rfl ?_
                        refine e_aload_n f_220_379 rfl rfl ?_
                        refine e_iload_n f_220_380 rfl rfl ?_
                        refine e_iconst (v := nI 1) f_220_381 (by decide) rfl ?_
                        refine e_iadd (z := nI (ix + 1)) f_220_382 (nI_add _ _) rfl ?_
                        refine e_iaload_p (xs := scr) f_220_383 g1 (d := 0) (by first | omega | (simp only [List.length_set]; omega)) rfl ?_
                        show px_to 220 384 [some (.ref (0)), some (.ref (17)), some (.ref (269)), some (.int (nI ix))] [.int (scr.getD (ix + 1) 0), .ref (17)] g _
                        refine e_aload_n f_220_384 rfl rfl ?_
                        refine e_iload_n f_220_385 rfl rfl ?_
                        refine e_iconst (v := nI 2) f_220_386 (by decide) rfl ?_
                        refine e_iadd (z := nI (ix + 2)) f_220_387 (nI_add _ _) rfl ?_
                        refine e_iaload_p (xs := scr) f_220_388 g1 (d := 0) (by first | omega | (simp only [List.length_set]; omega)) rfl ?_
                        show px_to 220 389 [some (.ref (0)), some (.ref (17)), some (.ref (269)), some (.int (nI ix))] [.int (scr.getD (ix + 2) 0), .int (scr.getD (ix + 1) 0), .ref (17)] g _
                        refine e_aload_n f_220_389 rfl rfl ?_
                        refine e_iload_n f_220_390 rfl rfl ?_
                        refine e_iconst (v := nI 3) f_220_391 (by decide) rfl ?_
                        refine e_iadd (z := nI (ix + 3)) f_220_392 (nI_add _ _) rfl ?_
                        refine e_iaload_p (xs := scr) f_220_393 g1 (d := 0) (by first | omega | (simp only [List.length_set]; omega)) rfl ?_
                        show px_to 220 394 [some (.ref (0)), some (.ref (17)), some (.ref (269)), some (.int (nI ix))] [.int (scr.getD (ix + 3) 0), .int (scr.getD (ix + 2) 0), .int (scr.getD (ix + 1) 0), .ref (17)] g _
                        obtain ⟨vs153, hb154⟩ := pJT_cell G0
                        refine e_callV (As := [.int (scr.getD (ix + 1) 0), .int (scr.getD (ix + 2) 0), .int (scr.getD (ix + 3) 0)]) (rest := []) f_220_394 rfl rfl rfl (Nat.le_of_ble_eq_true rfl) (Nat.le_of_ble_eq_true rfl) hb154 rfl (Nat.le_of_ble_eq_true rfl) (cc_JT_sc (tx := tx) (j := j) (xs := ys) (c := scr.getD (ix + 1) 0) (s := scr.getD (ix + 2) 0) (k2 := scr.getD (ix + 3) 0) G0 ) rfl (fun h155 r156 q157 => ?_)
                        obtain ⟨rfl, g158, fx159⟩ := q157
                        have fr160 : px_fi 17 287 h0 h155 := fi_tr frg fx159 (by omega)
                        show px_to 220 397 [some (.ref (0)), some (.ref (17)), some (.ref (269)), some (.int (nI ix))] [.int (aSc ys (scr.getD (ix + 1) 0) (scr.getD (ix + 2) 0) (scr.getD (ix + 3) 0))] h155 _
                        refine e_aload_n f_220_397 rfl rfl ?_
                        refine e_aload_n f_220_398 rfl rfl ?_
                        refine e_iload_n f_220_399 rfl rfl ?_
                        refine e_iconst (v := nI 1) f_220_400 (by decide) rfl ?_
                        refine e_iadd (z := nI (ix + 1)) f_220_401 (nI_add _ _) rfl ?_
                        have g161 : px_pa h155 0 50 scr.length Value.int scr := pa_fi HS fr160 (by omega)
                        refine e_iaload_p (xs := scr) f_220_402 g161 (d := 0) (by first | omega | (simp only [List.length_set]; omega)) rfl ?_
                        show px_to 220 403 [some (.ref (0)), some (.ref (17)), some (.ref (269)), some (.int (nI ix))] [.int (scr.getD (ix + 1) 0), .ref (269), .int (aSc ys (scr.getD (ix + 1) 0) (scr.getD (ix + 2) 0) (scr.getD (ix + 3) 0))] h155 _
                        refine e_aload_n f_220_403 rfl rfl ?_
                        refine e_iload_n f_220_404 rfl rfl ?_
                        refine e_iconst (v := nI 2) f_220_405 (by decide) rfl ?_
                        refine e_iadd (z := nI (ix + 2)) f_220_406 (nI_add _ _) rfl ?_
                        refine e_iaload_p (xs := scr) f_220_407 g161 (d := 0) (by first | omega | (simp only [List.length_set]; omega)) rfl ?_
                        show px_to 220 408 [some (.ref (0)), some (.ref (17)), some (.ref (269)), some (.int (nI ix))] [.int (scr.getD (ix + 2) 0), .int (scr.getD (ix + 1) 0), .ref (269), .int (aSc ys (scr.getD (ix + 1) 0) (scr.getD (ix + 2) 0) (scr.getD (ix + 3) 0))] h155 _
                        refine e_aload_n f_220_408 rfl rfl ?_
                        refine e_iload_n f_220_409 rfl rfl ?_
                        refine e_iconst (v := nI 3) f_220_410 (by decide) rfl ?_
                        refine e_iadd (z := nI (ix + 3)) f_220_411 (nI_add _ _) rfl ?_
                        refine e_iaload_p (xs := scr) f_220_412 g161 (d := 0) (by first | omega | (simp only [List.length_set]; omega)) rfl ?_
                        show px_to 220 413 [some (.ref (0)), some (.ref (17)), some (.ref (269)), some (.int (nI ix))] [.int (scr.getD (ix + 3) 0), .int (scr.getD (ix + 2) 0), .int (scr.getD (ix + 1) 0), .ref (269), .int (aSc ys (scr.getD (ix + 1) 0) (scr.getD (ix + 2) 0) (scr.getD (ix + 3) 0))] h155 _
                        have g162 : pMD h155 tx j ys := pMD_fi G1 fx159 (by omega)
                        obtain ⟨vs163, hb164⟩ := pMD_cell g162
                        refine e_callV (As := [.int (scr.getD (ix + 1) 0), .int (scr.getD (ix + 2) 0), .int (scr.getD (ix + 3) 0)]) (rest := [.int (aSc ys (scr.getD (ix + 1) 0) (scr.getD (ix + 2) 0) (scr.getD (ix + 3) 0))]) f_220_413 rfl rfl rfl (Nat.le_of_ble_eq_true rfl) (Nat.le_of_ble_eq_true rfl) hb164 rfl (Nat.le_of_ble_eq_true rfl) (cc_MD_sc (tx := tx) (j := j) (xs := ys) (c := scr.getD (ix + 1) 0) (s := scr.getD (ix + 2) 0) (q := scr.getD (ix + 3) 0) g162 ) rfl (fun h165 r166 q167 => ?_)
                        obtain ⟨rfl, g168, fx169⟩ := q167
                        have fr170 : px_fi 17 287 h0 h165 := fi_tr fr160 fx169 (by omega)
                        show px_to 220 416 [some (.ref (0)), some (.ref (17)), some (.ref (269)), some (.int (nI ix))] [.int (aSc ys (scr.getD (ix + 1) 0) (scr.getD (ix + 2) 0) (scr.getD (ix + 3) 0)), .int (aSc ys (scr.getD (ix + 1) 0) (scr.getD (ix + 2) 0) (scr.getD (ix + 3) 0))] h165 _
                        refine e_icmp_eq_t f_220_416 (rfl) ?_
                        refine e_iinc (y := nI (ix + 4)) (L' := [some (.ref (0)), some (.ref (17)), some (.ref (269)), some (.int (nI (ix + 4)))]) f_220_751 rfl (by rw [show Int32.ofInt 4 = nI 4 by decide]; exact (nI_add _ _)) rfl rfl ?_
                        refine e_goto f_220_754 ?_
                        have g171 : pJT h165 tx j ys := pJT_fi g158 fx169 (by omega)
                        first | (exfalso; omega) | exact ih (d - 1) (by omega) (ix + 4) tx j ys h165 (by omega) (by omega) (q2) g171 g168 fr170
                      · skip
                        by_cases c_32_9 : ((scr.getD ix 0) &&& (nI 31)) = nI 9
                        · skip
                          refine e_sw_t f_220_32 (t := 421) (by rw [c_32_9]; rfl) ?_
                          refine e_aload_n f_220_421 rfl rfl ?_
                          refine e_aload_n f_220_422 rfl rfl ?_
                          refine e_iload_n f_220_423 rfl rfl ?_
                          refine e_iconst (v := nI 1) f_220_424 (by decide) rfl ?_
                          refine e_iadd (z := nI (ix + 1)) f_220_425 (nI_add _ _) rfl ?_
                          refine e_iaload_p (xs := scr) f_220_426 g1 (d := 0) (by first | omega | (simp only [List.length_set]; omega)) rfl ?_
                          show px_to 220 427 [some (.ref (0)), some (.ref (17)), some (.ref (269)), some (.int (nI ix))] [.int (scr.getD (ix + 1) 0), .ref (17)] g _
                          refine e_aload_n f_220_427 rfl rfl ?_
                          refine e_iload_n f_220_428 rfl rfl ?_
                          refine e_iconst (v := nI 2) f_220_429 (by decide) rfl ?_
                          refine e_iadd (z := nI (ix + 2)) f_220_430 (nI_add _ _) rfl ?_
                          refine e_iaload_p (xs := scr) f_220_431 g1 (d := 0) (by first | omega | (simp only [List.length_set]; omega)) rfl ?_
                          show px_to 220 432 [some (.ref (0)), some (.ref (17)), some (.ref (269)), some (.int (nI ix))] [.int (scr.getD (ix + 2) 0), .int (scr.getD (ix + 1) 0), .ref (17)] g _
                          obtain ⟨vs172, hb173⟩ := pJT_cell G0
                          refine e_callV (As := [.int (scr.getD (ix + 1) 0), .int (scr.getD (ix + 2) 0)]) (rest := []) f_220_432 rfl rfl rfl (Nat.le_of_ble_eq_true rfl) (Nat.le_of_ble_eq_true rfl) hb173 rfl (Nat.le_of_ble_eq_true rfl) (cc_JT_eq (tx := tx) (j := j) (xs := ys) (c := scr.getD (ix + 1) 0) (b := scr.getD (ix + 2) 0) G0 ) rfl (fun h174 r175 q176 => ?_)
                          obtain ⟨rfl, g177, fx178⟩ := q176
                          have fr179 : px_fi 17 287 h0 h174 := fi_tr frg fx178 (by omega)
                          show px_to 220 435 [some (.ref (0)), some (.ref (17)), some (.ref (269)), some (.int (nI ix))] [.int (aEq j ys (scr.getD (ix + 1) 0) (scr.getD (ix + 2) 0))] h174 _
                          refine e_aload_n f_220_435 rfl rfl ?_
                          refine e_aload_n f_220_436 rfl rfl ?_
                          refine e_iload_n f_220_437 rfl rfl ?_
                          refine e_iconst (v := nI 1) f_220_438 (by decide) rfl ?_
                          refine e_iadd (z := nI (ix + 1)) f_220_439 (nI_add _ _) rfl ?_
                          have g180 : px_pa h174 0 50 scr.length Value.int scr := pa_fi HS fr179 (by omega)
                          refine e_iaload_p (xs := scr) f_220_440 g180 (d := 0) (by first | omega | (simp only [List.length_set]; omega)) rfl ?_
                          show px_to 220 441 [some (.ref (0)), some (.ref (17)), some (.ref (269)), some (.int (nI ix))] [.int (scr.getD (ix + 1) 0), .ref (269), .int (aEq j ys (scr.getD (ix + 1) 0) (scr.getD (ix + 2) 0))] h174 _
                          refine e_aload_n f_220_441 rfl rfl ?_
                          refine e_iload_n f_220_442 rfl rfl ?_
                          refine e_iconst (v := nI 2) f_220_443 (by decide) rfl ?_
                          refine e_iadd (z := nI (ix + 2)) f_220_444 (nI_add _ _) rfl ?_
                          refine e_iaload_p (xs := scr) f_220_445 g180 (d := 0) (by first | omega | (simp only [List.length_set]; omega)) rfl ?_
                          show px_to 220 446 [some (.ref (0)), some (.ref (17)), some (.ref (269)), some (.int (nI ix))] [.int (scr.getD (ix + 2) 0), .int (scr.getD (ix + 1) 0), .ref (269), .int (aEq j ys (scr.getD (ix + 1) 0) (scr.getD (ix + 2) 0))] h174 _
                          have g181 : pMD h174 tx j ys := pMD_fi G1 fx178 (by omega)
                          obtain ⟨vs182, hb183⟩ := pMD_cell g181
                          refine e_callV (As := [.int (scr.getD (ix + 1) 0), .int (scr.getD (ix + 2) 0)]) (rest := [.int (aEq j ys (scr.getD (ix + 1) 0) (scr.getD (ix + 2) 0))]) f_220_446 rfl rfl rfl (Nat.le_of_ble_eq_true rfl) (Nat.le_of_ble_eq_true rfl) hb183 rfl (Nat.le_of_ble_eq_true rfl) (cc_MD_eq (tx := tx) (j := j) (xs := ys) (c := scr.getD (ix + 1) 0) (b := scr.getD (ix + 2) 0) g181 (qt)) rfl (fun h184 r185 q186 => ?_)
                          obtain ⟨rfl, g187, fx188⟩ := q186
                          have fr189 : px_fi 17 287 h0 h184 := fi_tr fr179 fx188 (by omega)
                          show px_to 220 449 [some (.ref (0)), some (.ref (17)), some (.ref (269)), some (.int (nI ix))] [.int (aEq j ys (scr.getD (ix + 1) 0) (scr.getD (ix + 2) 0)), .int (aEq j ys (scr.getD (ix + 1) 0) (scr.getD (ix + 2) 0))] h184 _
                          refine e_icmp_eq_t f_220_449 (rfl) ?_
                          refine e_iinc (y := nI (ix + 4)) (L' := [some (.ref (0)), some (.ref (17)), some (.ref (269)), some (.int (nI (ix + 4)))]) f_220_751 rfl (by rw [show Int32.ofInt 4 = nI 4 by decide]; exact (nI_add _ _)) rfl rfl ?_
                          refine e_goto f_220_754 ?_
                          have g190 : pJT h184 tx j ys := pJT_fi g177 fx188 (by omega)
                          first | (exfalso; omega) | exact ih (d - 1) (by omega) (ix + 4) tx j ys h184 (by omega) (by omega) (q2) g190 g187 fr189
                        · skip
                          by_cases c_32_10 : ((scr.getD ix 0) &&& (nI 31)) = nI 10
                          · skip
                            refine e_sw_t f_220_32 (t := 454) (by rw [c_32_10]; rfl) ?_
                            refine e_aload_n f_220_454 rfl rfl ?_
                            refine e_aload_n f_220_455 rfl rfl ?_
                            refine e_iload_n f_220_456 rfl rfl ?_
                            refine e_iconst (v := nI 1) f_220_457 (by decide) rfl ?_
                            refine e_iadd (z := nI (ix + 1)) f_220_458 (nI_add _ _) rfl ?_
                            refine e_iaload_p (xs := scr) f_220_459 g1 (d := 0) (by first | omega | (simp only [List.length_set]; omega)) rfl ?_
                            show px_to 220 460 [some (.ref (0)), some (.ref (17)), some (.ref (269)), some (.int (nI ix))] [.int (scr.getD (ix + 1) 0), .ref (17)] g _
                            refine e_aload_n f_220_460 rfl rfl ?_
                            refine e_iload_n f_220_461 rfl rfl ?_
                            refine e_iconst (v := nI 2) f_220_462 (by decide) rfl ?_
                            refine e_iadd (z := nI (ix + 2)) f_220_463 (nI_add _ _) rfl ?_
                            refine e_iaload_p (xs := scr) f_220_464 g1 (d := 0) (by first | omega | (simp only [List.length_set]; omega)) rfl ?_
                            show px_to 220 465 [some (.ref (0)), some (.ref (17)), some (.ref (269)), some (.int (nI ix))] [.int (scr.getD (ix + 2) 0), .int (scr.getD (ix + 1) 0), .ref (17)] g _
                            refine e_aload_n f_220_465 rfl rfl ?_
                            refine e_iload_n f_220_466 rfl rfl ?_
                            refine e_iconst (v := nI 3) f_220_467 (by decide) rfl ?_
                            refine e_iadd (z := nI (ix + 3)) f_220_468 (nI_add _ _) rfl ?_
                            refine e_iaload_p (xs := scr) f_220_469 g1 (d := 0) (by first | omega | (simp only [List.length_set]; omega)) rfl ?_
                            show px_to 220 470 [some (.ref (0)), some (.ref (17)), some (.ref (269)), some (.int (nI ix))] [.int (scr.getD (ix + 3) 0), .int (scr.getD (ix + 2) 0), .int (scr.getD (ix + 1) 0), .ref (17)] g _
                            obtain ⟨vs191, hb192⟩ := pJT_cell G0
                            refine e_callV (As := [.int (scr.getD (ix + 1) 0), .int (scr.getD (ix + 2) 0), .int (scr.getD (ix + 3) 0)]) (rest := []) f_220_470 rfl rfl rfl (Nat.le_of_ble_eq_true rfl) (Nat.le_of_ble_eq_true rfl) hb192 rfl (Nat.le_of_ble_eq_true rfl) (cc_JT_fail (tx := tx) (j := j) (xs := ys) (c := scr.getD (ix + 1) 0) (s := scr.getD (ix + 2) 0) (k2 := scr.getD (ix + 3) 0) G0 ) rfl (fun h193 r194 q195 => ?_)
                            obtain ⟨rfl, g196, fx197⟩ := q195
                            have fr198 : px_fi 17 287 h0 h193 := fi_tr frg fx197 (by omega)
                            show px_to 220 473 [some (.ref (0)), some (.ref (17)), some (.ref (269)), some (.int (nI ix))] [.int (aFail j ys (scr.getD (ix + 1) 0) (scr.getD (ix + 2) 0) (scr.getD (ix + 3) 0))] h193 _
                            refine e_aload_n f_220_473 rfl rfl ?_
                            refine e_aload_n f_220_474 rfl rfl ?_
                            refine e_iload_n f_220_475 rfl rfl ?_
                            refine e_iconst (v := nI 1) f_220_476 (by decide) rfl ?_
                            refine e_iadd (z := nI (ix + 1)) f_220_477 (nI_add _ _) rfl ?_
                            have g199 : px_pa h193 0 50 scr.length Value.int scr := pa_fi HS fr198 (by omega)
                            refine e_iaload_p (xs := scr) f_220_478 g199 (d := 0) (by first | omega | (simp only [List.length_set]; omega)) rfl ?_
                            show px_to 220 479 [some (.ref (0)), some (.ref (17)), some (.ref (269)), some (.int (nI ix))] [.int (scr.getD (ix + 1) 0), .ref (269), .int (aFail j ys (scr.getD (ix + 1) 0) (scr.getD (ix + 2) 0) (scr.getD (ix + 3) 0))] h193 _
                            refine e_aload_n f_220_479 rfl rfl ?_
                            refine e_iload_n f_220_480 rfl rfl ?_
                            refine e_iconst (v := nI 2) f_220_481 (by decide) rfl ?_
                            refine e_iadd (z := nI (ix + 2)) f_220_482 (nI_add _ _) rfl ?_
                            refine e_iaload_p (xs := scr) f_220_483 g199 (d := 0) (by first | omega | (simp only [List.length_set]; omega)) rfl ?_
                            show px_to 220 484 [some (.ref (0)), some (.ref (17)), some (.ref (269)), some (.int (nI ix))] [.int (scr.getD (ix + 2) 0), .int (scr.getD (ix + 1) 0), .ref (269), .int (aFail j ys (scr.getD (ix + 1) 0) (scr.getD (ix + 2) 0) (scr.getD (ix + 3) 0))] h193 _
                            refine e_aload_n f_220_484 rfl rfl ?_
                            refine e_iload_n f_220_485 rfl rfl ?_
                            refine e_iconst (v := nI 3) f_220_486 (by decide) rfl ?_
                            refine e_iadd (z := nI (ix + 3)) f_220_487 (nI_add _ _) rfl ?_
                            refine e_iaload_p (xs := scr) f_220_488 g199 (d := 0) (by first | omega | (simp only [List.length_set]; omega)) rfl ?_
                            show px_to 220 489 [some (.ref (0)), some (.ref (17)), some (.ref (269)), some (.int (nI ix))] [.int (scr.getD (ix + 3) 0), .int (scr.getD (ix + 2) 0), .int (scr.getD (ix + 1) 0), .ref (269), .int (aFail j ys (scr.getD (ix + 1) 0) (scr.getD (ix + 2) 0) (scr.getD (ix + 3) 0))] h193 _
                            have g200 : pMD h193 tx j ys := pMD_fi G1 fx197 (by omega)
                            obtain ⟨vs201, hb202⟩ := pMD_cell g200
                            refine e_callV (As := [.int (scr.getD (ix + 1) 0), .int (scr.getD (ix + 2) 0), .int (scr.getD (ix + 3) 0)]) (rest := [.int (aFail j ys (scr.getD (ix + 1) 0) (scr.getD (ix + 2) 0) (scr.getD (ix + 3) 0))]) f_220_489 rfl rfl rfl (Nat.le_of_ble_eq_true rfl) (Nat.le_of_ble_eq_true rfl) hb202 rfl (Nat.le_of_ble_eq_true rfl) (cc_MD_fail (tx := tx) (j := j) (xs := ys) (c := scr.getD (ix + 1) 0) (s := scr.getD (ix + 2) 0) (q := scr.getD (ix + 3) 0) g200 (qt)) rfl (fun h203 r204 q205 => ?_)
                            obtain ⟨rfl, g206, fx207⟩ := q205
                            have fr208 : px_fi 17 287 h0 h203 := fi_tr fr198 fx207 (by omega)
                            show px_to 220 492 [some (.ref (0)), some (.ref (17)), some (.ref (269)), some (.int (nI ix))] [.int (aFail j ys (scr.getD (ix + 1) 0) (scr.getD (ix + 2) 0) (scr.getD (ix + 3) 0)), .int (aFail j ys (scr.getD (ix + 1) 0) (scr.getD (ix + 2) 0) (scr.getD (ix + 3) 0))] h203 _
                            refine e_icmp_eq_t f_220_492 (rfl) ?_
                            refine e_iinc (y := nI (ix + 4)) (L' := [some (.ref (0)), some (.ref (17)), some (.ref (269)), some (.int (nI (ix + 4)))]) f_220_751 rfl (by rw [show Int32.ofInt 4 = nI 4 by decide]; exact (nI_add _ _)) rfl rfl ?_
                            refine e_goto f_220_754 ?_
                            have g209 : pJT h203 tx j ys := pJT_fi g196 fx207 (by omega)
                            first | (exfalso; omega) | exact ih (d - 1) (by omega) (ix + 4) tx j ys h203 (by omega) (by omega) (q2) g209 g206 fr208
                          · skip
                            by_cases c_32_11 : ((scr.getD ix 0) &&& (nI 31)) = nI 11
                            · skip
                              refine e_sw_t f_220_32 (t := 497) (by rw [c_32_11]; rfl) ?_
                              refine e_aload_n f_220_497 rfl rfl ?_
                              refine e_aload_n f_220_498 rfl rfl ?_
                              refine e_iload_n f_220_499 rfl rfl ?_
                              refine e_iconst (v := nI 1) f_220_500 (by decide) rfl ?_
                              refine e_iadd (z := nI (ix + 1)) f_220_501 (nI_add _ _) rfl ?_
                              refine e_iaload_p (xs := scr) f_220_502 g1 (d := 0) (by first | omega | (simp only [List.length_set]; omega)) rfl ?_
                              show px_to 220 503 [some (.ref (0)), some (.ref (17)), some (.ref (269)), some (.int (nI ix))] [.int (scr.getD (ix + 1) 0), .ref (17)] g _
                              refine e_aload_n f_220_503 rfl rfl ?_
                              refine e_iload_n f_220_504 rfl rfl ?_
                              refine e_iconst (v := nI 2) f_220_505 (by decide) rfl ?_
                              refine e_iadd (z := nI (ix + 2)) f_220_506 (nI_add _ _) rfl ?_
                              refine e_iaload_p (xs := scr) f_220_507 g1 (d := 0) (by first | omega | (simp only [List.length_set]; omega)) rfl ?_
                              show px_to 220 508 [some (.ref (0)), some (.ref (17)), some (.ref (269)), some (.int (nI ix))] [.int (scr.getD (ix + 2) 0), .int (scr.getD (ix + 1) 0), .ref (17)] g _
                              obtain ⟨vs210, hb211⟩ := pJT_cell G0
                              refine e_callV (As := [.int (scr.getD (ix + 1) 0), .int (scr.getD (ix + 2) 0)]) (rest := []) f_220_508 rfl rfl rfl (Nat.le_of_ble_eq_true rfl) (Nat.le_of_ble_eq_true rfl) hb211 rfl (Nat.le_of_ble_eq_true rfl) (cc_JT_shuf (tx := tx) (j := j) (xs := ys) (c := scr.getD (ix + 1) 0) (s := scr.getD (ix + 2) 0) G0 ) rfl (fun h212 r213 q214 => ?_)
                              obtain ⟨rfl, g215, fx216⟩ := q214
                              have fr217 : px_fi 17 287 h0 h212 := fi_tr frg fx216 (by omega)
                              show px_to 220 511 [some (.ref (0)), some (.ref (17)), some (.ref (269)), some (.int (nI ix))] [.int (aShuf ys (scr.getD (ix + 1) 0) (scr.getD (ix + 2) 0))] h212 _
                              refine e_aload_n f_220_511 rfl rfl ?_
                              refine e_aload_n f_220_512 rfl rfl ?_
                              refine e_iload_n f_220_513 rfl rfl ?_
                              refine e_iconst (v := nI 1) f_220_514 (by decide) rfl ?_
                              refine e_iadd (z := nI (ix + 1)) f_220_515 (nI_add _ _) rfl ?_
                              have g218 : px_pa h212 0 50 scr.length Value.int scr := pa_fi HS fr217 (by omega)
                              refine e_iaload_p (xs := scr) f_220_516 g218 (d := 0) (by first | omega | (simp only [List.length_set]; omega)) rfl ?_
                              show px_to 220 517 [some (.ref (0)), some (.ref (17)), some (.ref (269)), some (.int (nI ix))] [.int (scr.getD (ix + 1) 0), .ref (269), .int (aShuf ys (scr.getD (ix + 1) 0) (scr.getD (ix + 2) 0))] h212 _
                              refine e_aload_n f_220_517 rfl rfl ?_
                              refine e_iload_n f_220_518 rfl rfl ?_
                              refine e_iconst (v := nI 2) f_220_519 (by decide) rfl ?_
                              refine e_iadd (z := nI (ix + 2)) f_220_520 (nI_add _ _) rfl ?_
                              refine e_iaload_p (xs := scr) f_220_521 g218 (d := 0) (by first | omega | (simp only [List.length_set]; omega)) rfl ?_
                              show px_to 220 522 [some (.ref (0)), some (.ref (17)), some (.ref (269)), some (.int (nI ix))] [.int (scr.getD (ix + 2) 0), .int (scr.getD (ix + 1) 0), .ref (269), .int (aShuf ys (scr.getD (ix + 1) 0) (scr.getD (ix + 2) 0))] h212 _
                              have g219 : pMD h212 tx j ys := pMD_fi G1 fx216 (by omega)
                              obtain ⟨vs220, hb221⟩ := pMD_cell g219
                              refine e_callV (As := [.int (scr.getD (ix + 1) 0), .int (scr.getD (ix + 2) 0)]) (rest := [.int (aShuf ys (scr.getD (ix + 1) 0) (scr.getD (ix + 2) 0))]) f_220_522 rfl rfl rfl (Nat.le_of_ble_eq_true rfl) (Nat.le_of_ble_eq_true rfl) hb221 rfl (Nat.le_of_ble_eq_true rfl) (cc_MD_shuf (tx := tx) (j := j) (xs := ys) (c := scr.getD (ix + 1) 0) (s := scr.getD (ix + 2) 0) g219 ) rfl (fun h222 r223 q224 => ?_)
                              obtain ⟨rfl, g225, fx226⟩ := q224
                              have fr227 : px_fi 17 287 h0 h222 := fi_tr fr217 fx226 (by omega)
                              show px_to 220 525 [some (.ref (0)), some (.ref (17)), some (.ref (269)), some (.int (nI ix))] [.int (aShuf ys (scr.getD (ix + 1) 0) (scr.getD (ix + 2) 0)), .int (aShuf ys (scr.getD (ix + 1) 0) (scr.getD (ix + 2) 0))] h222 _
                              refine e_icmp_eq_t f_220_525 (rfl) ?_
                              refine e_iinc (y := nI (ix + 4)) (L' := [some (.ref (0)), some (.ref (17)), some (.ref (269)), some (.int (nI (ix + 4)))]) f_220_751 rfl (by rw [show Int32.ofInt 4 = nI 4 by decide]; exact (nI_add _ _)) rfl rfl ?_
                              refine e_goto f_220_754 ?_
                              have g228 : pJT h222 tx j ys := pJT_fi g215 fx226 (by omega)
                              first | (exfalso; omega) | exact ih (d - 1) (by omega) (ix + 4) tx j ys h222 (by omega) (by omega) (q2) g228 g225 fr227
                            · skip
                              by_cases c_32_12 : ((scr.getD ix 0) &&& (nI 31)) = nI 12
                              · skip
                                refine e_sw_t f_220_32 (t := 530) (by rw [c_32_12]; rfl) ?_
                                refine e_aload_n f_220_530 rfl rfl ?_
                                refine e_aload_n f_220_531 rfl rfl ?_
                                refine e_iload_n f_220_532 rfl rfl ?_
                                refine e_iconst (v := nI 1) f_220_533 (by decide) rfl ?_
                                refine e_iadd (z := nI (ix + 1)) f_220_534 (nI_add _ _) rfl ?_
                                refine e_iaload_p (xs := scr) f_220_535 g1 (d := 0) (by first | omega | (simp only [List.length_set]; omega)) rfl ?_
                                show px_to 220 536 [some (.ref (0)), some (.ref (17)), some (.ref (269)), some (.int (nI ix))] [.int (scr.getD (ix + 1) 0), .ref (17)] g _
                                obtain ⟨vs229, hb230⟩ := pJT_cell G0
                                refine e_callV (As := [.int (scr.getD (ix + 1) 0)]) (rest := []) f_220_536 rfl rfl rfl (Nat.le_of_ble_eq_true rfl) (Nat.le_of_ble_eq_true rfl) hb230 rfl (Nat.le_of_ble_eq_true rfl) (cc_JT_shr (tx := tx) (j := j) (xs := ys) (c := scr.getD (ix + 1) 0) G0 ) rfl (fun h231 r232 q233 => ?_)
                                obtain ⟨rfl, g234, fx235⟩ := q233
                                have fr236 : px_fi 17 287 h0 h231 := fi_tr frg fx235 (by omega)
                                show px_to 220 539 [some (.ref (0)), some (.ref (17)), some (.ref (269)), some (.int (nI ix))] [.int (aShr j ys (scr.getD (ix + 1) 0))] h231 _
                                refine e_aload_n f_220_539 rfl rfl ?_
                                refine e_aload_n f_220_540 rfl rfl ?_
                                refine e_iload_n f_220_541 rfl rfl ?_
                                refine e_iconst (v := nI 1) f_220_542 (by decide) rfl ?_
                                refine e_iadd (z := nI (ix + 1)) f_220_543 (nI_add _ _) rfl ?_
                                have g237 : px_pa h231 0 50 scr.length Value.int scr := pa_fi HS fr236 (by omega)
                                refine e_iaload_p (xs := scr) f_220_544 g237 (d := 0) (by first | omega | (simp only [List.length_set]; omega)) rfl ?_
                                show px_to 220 545 [some (.ref (0)), some (.ref (17)), some (.ref (269)), some (.int (nI ix))] [.int (scr.getD (ix + 1) 0), .ref (269), .int (aShr j ys (scr.getD (ix + 1) 0))] h231 _
                                have g238 : pMD h231 tx j ys := pMD_fi G1 fx235 (by omega)
                                obtain ⟨vs239, hb240⟩ := pMD_cell g238
                                refine e_callV (As := [.int (scr.getD (ix + 1) 0)]) (rest := [.int (aShr j ys (scr.getD (ix + 1) 0))]) f_220_545 rfl rfl rfl (Nat.le_of_ble_eq_true rfl) (Nat.le_of_ble_eq_true rfl) hb240 rfl (Nat.le_of_ble_eq_true rfl) (cc_MD_shr (tx := tx) (j := j) (xs := ys) (c := scr.getD (ix + 1) 0) g238 (qt)) rfl (fun h241 r242 q243 => ?_)
                                obtain ⟨rfl, g244, fx245⟩ := q243
                                have fr246 : px_fi 17 287 h0 h241 := fi_tr fr236 fx245 (by omega)
                                show px_to 220 548 [some (.ref (0)), some (.ref (17)), some (.ref (269)), some (.int (nI ix))] [.int (aShr j ys (scr.getD (ix + 1) 0)), .int (aShr j ys (scr.getD (ix + 1) 0))] h241 _
                                refine e_icmp_eq_t f_220_548 (rfl) ?_
                                refine e_iinc (y := nI (ix + 4)) (L' := [some (.ref (0)), some (.ref (17)), some (.ref (269)), some (.int (nI (ix + 4)))]) f_220_751 rfl (by rw [show Int32.ofInt 4 = nI 4 by decide]; exact (nI_add _ _)) rfl rfl ?_
                                refine e_goto f_220_754 ?_
                                have g247 : pJT h241 tx j ys := pJT_fi g234 fx245 (by omega)
                                first | (exfalso; omega) | exact ih (d - 1) (by omega) (ix + 4) tx j ys h241 (by omega) (by omega) (q2) g247 g244 fr246
                              · skip
                                by_cases c_32_13 : ((scr.getD ix 0) &&& (nI 31)) = nI 13
                                · skip
                                  refine e_sw_t f_220_32 (t := 553) (by rw [c_32_13]; rfl) ?_
                                  refine e_aload_n f_220_553 rfl rfl ?_
                                  refine e_aload_n f_220_554 rfl rfl ?_
                                  refine e_iload_n f_220_555 rfl rfl ?_
                                  refine e_iconst (v := nI 1) f_220_556 (by decide) rfl ?_
                                  refine e_iadd (z := nI (ix + 1)) f_220_557 (nI_add _ _) rfl ?_
                                  refine e_iaload_p (xs := scr) f_220_558 g1 (d := 0) (by first | omega | (simp only [List.length_set]; omega)) rfl ?_
                                  show px_to 220 559 [some (.ref (0)), some (.ref (17)), some (.ref (269)), some (.int (nI ix))] [.int (scr.getD (ix + 1) 0), .ref (17)] g _
                                  refine e_aload_n f_220_559 rfl rfl ?_
                                  refine e_iload_n f_220_560 rfl rfl ?_
                                  refine e_iconst (v := nI 2) f_220_561 (by decide) rfl ?_
                                  refine e_iadd (z := nI (ix + 2)) f_220_562 (nI_add _ _) rfl ?_
                                  refine e_iaload_p (xs := scr) f_220_563 g1 (d := 0) (by first | omega | (simp only [List.length_set]; omega)) rfl ?_
                                  show px_to 220 564 [some (.ref (0)), some (.ref (17)), some (.ref (269)), some (.int (nI ix))] [.int (scr.getD (ix + 2) 0), .int (scr.getD (ix + 1) 0), .ref (17)] g _
                                  obtain ⟨vs248, hb249⟩ := pJT_cell G0
                                  refine e_callV (As := [.int (scr.getD (ix + 1) 0), .int (scr.getD (ix + 2) 0)]) (rest := []) f_220_564 rfl rfl rfl (Nat.le_of_ble_eq_true rfl) (Nat.le_of_ble_eq_true rfl) hb249 rfl (Nat.le_of_ble_eq_true rfl) (cc_JT_left (tx := tx) (j := j) (xs := ys) (c := scr.getD (ix + 1) 0) (i := scr.getD (ix + 2) 0) G0 ) rfl (fun h250 r251 q252 => ?_)
                                  obtain ⟨rfl, g253, fx254⟩ := q252
                                  have fr255 : px_fi 17 287 h0 h250 := fi_tr frg fx254 (by omega)
                                  show px_to 220 567 [some (.ref (0)), some (.ref (17)), some (.ref (269)), some (.int (nI ix))] [.int (aLeft j ys (scr.getD (ix + 1) 0) (scr.getD (ix + 2) 0))] h250 _
                                  refine e_aload_n f_220_567 rfl rfl ?_
                                  refine e_aload_n f_220_568 rfl rfl ?_
                                  refine e_iload_n f_220_569 rfl rfl ?_
                                  refine e_iconst (v := nI 1) f_220_570 (by decide) rfl ?_
                                  refine e_iadd (z := nI (ix + 1)) f_220_571 (nI_add _ _) rfl ?_
                                  have g256 : px_pa h250 0 50 scr.length Value.int scr := pa_fi HS fr255 (by omega)
                                  refine e_iaload_p (xs := scr) f_220_572 g256 (d := 0) (by first | omega | (simp only [List.length_set]; omega)) rfl ?_
                                  show px_to 220 573 [some (.ref (0)), some (.ref (17)), some (.ref (269)), some (.int (nI ix))] [.int (scr.getD (ix + 1) 0), .ref (269), .int (aLeft j ys (scr.getD (ix + 1) 0) (scr.getD (ix + 2) 0))] h250 _
                                  refine e_aload_n f_220_573 rfl rfl ?_
                                  refine e_iload_n f_220_574 rfl rfl ?_
                                  refine e_iconst (v := nI 2) f_220_575 (by decide) rfl ?_
                                  refine e_iadd (z := nI (ix + 2)) f_220_576 (nI_add _ _) rfl ?_
                                  refine e_iaload_p (xs := scr) f_220_577 g256 (d := 0) (by first | omega | (simp only [List.length_set]; omega)) rfl ?_
                                  show px_to 220 578 [some (.ref (0)), some (.ref (17)), some (.ref (269)), some (.int (nI ix))] [.int (scr.getD (ix + 2) 0), .int (scr.getD (ix + 1) 0), .ref (269), .int (aLeft j ys (scr.getD (ix + 1) 0) (scr.getD (ix + 2) 0))] h250 _
                                  have g257 : pMD h250 tx j ys := pMD_fi G1 fx254 (by omega)
                                  obtain ⟨vs258, hb259⟩ := pMD_cell g257
                                  refine e_callV (As := [.int (scr.getD (ix + 1) 0), .int (scr.getD (ix + 2) 0)]) (rest := [.int (aLeft j ys (scr.getD (ix + 1) 0) (scr.getD (ix + 2) 0))]) f_220_578 rfl rfl rfl (Nat.le_of_ble_eq_true rfl) (Nat.le_of_ble_eq_true rfl) hb259 rfl (Nat.le_of_ble_eq_true rfl) (cc_MD_left (tx := tx) (j := j) (xs := ys) (c := scr.getD (ix + 1) 0) (i := scr.getD (ix + 2) 0) g257 (qt)) rfl (fun h260 r261 q262 => ?_)
                                  obtain ⟨rfl, g263, fx264⟩ := q262
                                  have fr265 : px_fi 17 287 h0 h260 := fi_tr fr255 fx264 (by omega)
                                  show px_to 220 581 [some (.ref (0)), some (.ref (17)), some (.ref (269)), some (.int (nI ix))] [.int (aLeft j ys (scr.getD (ix + 1) 0) (scr.getD (ix + 2) 0)), .int (aLeft j ys (scr.getD (ix + 1) 0) (scr.getD (ix + 2) 0))] h260 _
                                  refine e_icmp_eq_t f_220_581 (rfl) ?_
                                  refine e_iinc (y := nI (ix + 4)) (L' := [some (.ref (0)), some (.ref (17)), some (.ref (269)), some (.int (nI (ix + 4)))]) f_220_751 rfl (by rw [show Int32.ofInt 4 = nI 4 by decide]; exact (nI_add _ _)) rfl rfl ?_
                                  refine e_goto f_220_754 ?_
                                  have g266 : pJT h260 tx j ys := pJT_fi g253 fx264 (by omega)
                                  first | (exfalso; omega) | exact ih (d - 1) (by omega) (ix + 4) tx j ys h260 (by omega) (by omega) (q2) g266 g263 fr265
                                · skip
                                  by_cases c_32_14 : ((scr.getD ix 0) &&& (nI 31)) = nI 14
                                  · skip
                                    refine e_sw_t f_220_32 (t := 586) (by rw [c_32_14]; rfl) ?_
                                    refine e_aload_n f_220_586 rfl rfl ?_
                                    refine e_aload_n f_220_587 rfl rfl ?_
                                    refine e_iload_n f_220_588 rfl rfl ?_
                                    refine e_iconst (v := nI 1) f_220_589 (by decide) rfl ?_
                                    refine e_iadd (z := nI (ix + 1)) f_220_590 (nI_add _ _) rfl ?_
                                    refine e_iaload_p (xs := scr) f_220_591 g1 (d := 0) (by first | omega | (simp only [List.length_set]; omega)) rfl ?_
                                    show px_to 220 592 [some (.ref (0)), some (.ref (17)), some (.ref (269)), some (.int (nI ix))] [.int (scr.getD (ix + 1) 0), .ref (17)] g _
                                    refine e_aload_n f_220_592 rfl rfl ?_
                                    refine e_iload_n f_220_593 rfl rfl ?_
                                    refine e_iconst (v := nI 2) f_220_594 (by decide) rfl ?_
                                    refine e_iadd (z := nI (ix + 2)) f_220_595 (nI_add _ _) rfl ?_
                                    refine e_iaload_p (xs := scr) f_220_596 g1 (d := 0) (by first | omega | (simp only [List.length_set]; omega)) rfl ?_
                                    show px_to 220 597 [some (.ref (0)), some (.ref (17)), some (.ref (269)), some (.int (nI ix))] [.int (scr.getD (ix + 2) 0), .int (scr.getD (ix + 1) 0), .ref (17)] g _
                                    obtain ⟨vs267, hb268⟩ := pJT_cell G0
                                    refine e_callV (As := [.int (scr.getD (ix + 1) 0), .int (scr.getD (ix + 2) 0)]) (rest := []) f_220_597 rfl rfl rfl (Nat.le_of_ble_eq_true rfl) (Nat.le_of_ble_eq_true rfl) hb268 rfl (Nat.le_of_ble_eq_true rfl) (cc_JT_cover (tx := tx) (j := j) (xs := ys) (s := scr.getD (ix + 1) 0) (w := scr.getD (ix + 2) 0) G0 ) rfl (fun h269 r270 q271 => ?_)
                                    obtain ⟨rfl, g272, fx273⟩ := q271
                                    have fr274 : px_fi 17 287 h0 h269 := fi_tr frg fx273 (by omega)
                                    show px_to 220 600 [some (.ref (0)), some (.ref (17)), some (.ref (269)), some (.int (nI ix))] [.int (aCov j ys (scr.getD (ix + 1) 0) (scr.getD (ix + 2) 0))] h269 _
                                    refine e_aload_n f_220_600 rfl rfl ?_
                                    refine e_aload_n f_220_601 rfl rfl ?_
                                    refine e_iload_n f_220_602 rfl rfl ?_
                                    refine e_iconst (v := nI 1) f_220_603 (by decide) rfl ?_
                                    refine e_iadd (z := nI (ix + 1)) f_220_604 (nI_add _ _) rfl ?_
                                    have g275 : px_pa h269 0 50 scr.length Value.int scr := pa_fi HS fr274 (by omega)
                                    refine e_iaload_p (xs := scr) f_220_605 g275 (d := 0) (by first | omega | (simp only [List.length_set]; omega)) rfl ?_
                                    show px_to 220 606 [some (.ref (0)), some (.ref (17)), some (.ref (269)), some (.int (nI ix))] [.int (scr.getD (ix + 1) 0), .ref (269), .int (aCov j ys (scr.getD (ix + 1) 0) (scr.getD (ix + 2) 0))] h269 _
                                    refine e_aload_n f_220_606 rfl rfl ?_
                                    refine e_iload_n f_220_607 rfl rfl ?_
                                    refine e_iconst (v := nI 2) f_220_608 (by decide) rfl ?_
                                    refine e_iadd (z := nI (ix + 2)) f_220_609 (nI_add _ _) rfl ?_
                                    refine e_iaload_p (xs := scr) f_220_610 g275 (d := 0) (by first | omega | (simp only [List.length_set]; omega)) rfl ?_
                                    show px_to 220 611 [some (.ref (0)), some (.ref (17)), some (.ref (269)), some (.int (nI ix))] [.int (scr.getD (ix + 2) 0), .int (scr.getD (ix + 1) 0), .ref (269), .int (aCov j ys (scr.getD (ix + 1) 0) (scr.getD (ix + 2) 0))] h269 _
                                    have g276 : pMD h269 tx j ys := pMD_fi G1 fx273 (by omega)
                                    obtain ⟨vs277, hb278⟩ := pMD_cell g276
                                    refine e_callV (As := [.int (scr.getD (ix + 1) 0), .int (scr.getD (ix + 2) 0)]) (rest := [.int (aCov j ys (scr.getD (ix + 1) 0) (scr.getD (ix + 2) 0))]) f_220_611 rfl rfl rfl (Nat.le_of_ble_eq_true rfl) (Nat.le_of_ble_eq_true rfl) hb278 rfl (Nat.le_of_ble_eq_true rfl) (cc_MD_cov (tx := tx) (j := j) (xs := ys) (s := scr.getD (ix + 1) 0) (w := scr.getD (ix + 2) 0) g276 (qt)) rfl (fun h279 r280 q281 => ?_)
                                    obtain ⟨rfl, g282, fx283⟩ := q281
                                    have fr284 : px_fi 17 287 h0 h279 := fi_tr fr274 fx283 (by omega)
                                    show px_to 220 614 [some (.ref (0)), some (.ref (17)), some (.ref (269)), some (.int (nI ix))] [.int (aCov j ys (scr.getD (ix + 1) 0) (scr.getD (ix + 2) 0)), .int (aCov j ys (scr.getD (ix + 1) 0) (scr.getD (ix + 2) 0))] h279 _
                                    refine e_icmp_eq_t f_220_614 (rfl) ?_
                                    refine e_iinc (y := nI (ix + 4)) (L' := [some (.ref (0)), some (.ref (17)), some (.ref (269)), some (.int (nI (ix + 4)))]) f_220_751 rfl (by rw [show Int32.ofInt 4 = nI 4 by decide]; exact (nI_add _ _)) rfl rfl ?_
                                    refine e_goto f_220_754 ?_
                                    have g285 : pJT h279 tx j ys := pJT_fi g272 fx283 (by omega)
                                    first | (exfalso; omega) | exact ih (d - 1) (by omega) (ix + 4) tx j ys h279 (by omega) (by omega) (q2) g285 g282 fr284
                                  · skip
                                    by_cases c_32_15 : ((scr.getD ix 0) &&& (nI 31)) = nI 15
                                    · skip
                                      refine e_sw_t f_220_32 (t := 619) (by rw [c_32_15]; rfl) ?_
                                      refine e_aload_n f_220_619 rfl rfl ?_
                                      refine e_aload_n f_220_620 rfl rfl ?_
                                      refine e_iload_n f_220_621 rfl rfl ?_
                                      refine e_iconst (v := nI 1) f_220_622 (by decide) rfl ?_
                                      refine e_iadd (z := nI (ix + 1)) f_220_623 (nI_add _ _) rfl ?_
                                      refine e_iaload_p (xs := scr) f_220_624 g1 (d := 0) (by first | omega | (simp only [List.length_set]; omega)) rfl ?_
                                      show px_to 220 625 [some (.ref (0)), some (.ref (17)), some (.ref (269)), some (.int (nI ix))] [.int (scr.getD (ix + 1) 0), .ref (17)] g _
                                      refine e_aload_n f_220_625 rfl rfl ?_
                                      refine e_iload_n f_220_626 rfl rfl ?_
                                      refine e_iconst (v := nI 2) f_220_627 (by decide) rfl ?_
                                      refine e_iadd (z := nI (ix + 2)) f_220_628 (nI_add _ _) rfl ?_
                                      refine e_iaload_p (xs := scr) f_220_629 g1 (d := 0) (by first | omega | (simp only [List.length_set]; omega)) rfl ?_
                                      show px_to 220 630 [some (.ref (0)), some (.ref (17)), some (.ref (269)), some (.int (nI ix))] [.int (scr.getD (ix + 2) 0), .int (scr.getD (ix + 1) 0), .ref (17)] g _
                                      obtain ⟨vs286, hb287⟩ := pJT_cell G0
                                      refine e_callV (As := [.int (scr.getD (ix + 1) 0), .int (scr.getD (ix + 2) 0)]) (rest := []) f_220_630 rfl rfl rfl (Nat.le_of_ble_eq_true rfl) (Nat.le_of_ble_eq_true rfl) hb287 rfl (Nat.le_of_ble_eq_true rfl) (cc_JT_mut (tx := tx) (j := j) (xs := ys) (k := scr.getD (ix + 1) 0) (w := scr.getD (ix + 2) 0) G0 ) rfl (fun h288 r289 q290 => ?_)
                                      obtain ⟨rfl, g291, fx292⟩ := q290
                                      have fr293 : px_fi 17 287 h0 h288 := fi_tr frg fx292 (by omega)
                                      show px_to 220 633 [some (.ref (0)), some (.ref (17)), some (.ref (269)), some (.int (nI ix))] [.int (aMut j ys (scr.getD (ix + 1) 0) (scr.getD (ix + 2) 0))] h288 _
                                      refine e_aload_n f_220_633 rfl rfl ?_
                                      refine e_aload_n f_220_634 rfl rfl ?_
                                      refine e_iload_n f_220_635 rfl rfl ?_
                                      refine e_iconst (v := nI 1) f_220_636 (by decide) rfl ?_
                                      refine e_iadd (z := nI (ix + 1)) f_220_637 (nI_add _ _) rfl ?_
                                      have g294 : px_pa h288 0 50 scr.length Value.int scr := pa_fi HS fr293 (by omega)
                                      refine e_iaload_p (xs := scr) f_220_638 g294 (d := 0) (by first | omega | (simp only [List.length_set]; omega)) rfl ?_
                                      show px_to 220 639 [some (.ref (0)), some (.ref (17)), some (.ref (269)), some (.int (nI ix))] [.int (scr.getD (ix + 1) 0), .ref (269), .int (aMut j ys (scr.getD (ix + 1) 0) (scr.getD (ix + 2) 0))] h288 _
                                      refine e_aload_n f_220_639 rfl rfl ?_
                                      refine e_iload_n f_220_640 rfl rfl ?_
                                      refine e_iconst (v := nI 2) f_220_641 (by decide) rfl ?_
                                      refine e_iadd (z := nI (ix + 2)) f_220_642 (nI_add _ _) rfl ?_
                                      refine e_iaload_p (xs := scr) f_220_643 g294 (d := 0) (by first | omega | (simp only [List.length_set]; omega)) rfl ?_
                                      show px_to 220 644 [some (.ref (0)), some (.ref (17)), some (.ref (269)), some (.int (nI ix))] [.int (scr.getD (ix + 2) 0), .int (scr.getD (ix + 1) 0), .ref (269), .int (aMut j ys (scr.getD (ix + 1) 0) (scr.getD (ix + 2) 0))] h288 _
                                      have g295 : pMD h288 tx j ys := pMD_fi G1 fx292 (by omega)
                                      obtain ⟨vs296, hb297⟩ := pMD_cell g295
                                      refine e_callV (As := [.int (scr.getD (ix + 1) 0), .int (scr.getD (ix + 2) 0)]) (rest := [.int (aMut j ys (scr.getD (ix + 1) 0) (scr.getD (ix + 2) 0))]) f_220_644 rfl rfl rfl (Nat.le_of_ble_eq_true rfl) (Nat.le_of_ble_eq_true rfl) hb297 rfl (Nat.le_of_ble_eq_true rfl) (cc_MD_mut (tx := tx) (j := j) (xs := ys) (q := scr.getD (ix + 1) 0) (w := scr.getD (ix + 2) 0) g295 (qt)) rfl (fun h298 r299 q300 => ?_)
                                      obtain ⟨rfl, g301, fx302⟩ := q300
                                      have fr303 : px_fi 17 287 h0 h298 := fi_tr fr293 fx302 (by omega)
                                      show px_to 220 647 [some (.ref (0)), some (.ref (17)), some (.ref (269)), some (.int (nI ix))] [.int (aMut j ys (scr.getD (ix + 1) 0) (scr.getD (ix + 2) 0)), .int (aMut j ys (scr.getD (ix + 1) 0) (scr.getD (ix + 2) 0))] h298 _
                                      refine e_icmp_eq_t f_220_647 (rfl) ?_
                                      refine e_iinc (y := nI (ix + 4)) (L' := [some (.ref (0)), some (.ref (17)), some (.ref (269)), some (.int (nI (ix + 4)))]) f_220_751 rfl (by rw [show Int32.ofInt 4 = nI 4 by decide]; exact (nI_add _ _)) rfl rfl ?_
                                      refine e_goto f_220_754 ?_
                                      have g304 : pJT h298 tx j ys := pJT_fi g291 fx302 (by omega)
                                      first | (exfalso; omega) | exact ih (d - 1) (by omega) (ix + 4) tx j ys h298 (by omega) (by omega) (q2) g304 g301 fr303
                                    · skip
                                      by_cases c_32_16 : ((scr.getD ix 0) &&& (nI 31)) = nI 16
                                      · skip
                                        refine e_sw_t f_220_32 (t := 652) (by rw [c_32_16]; rfl) ?_
                                        refine e_aload_n f_220_652 rfl rfl ?_
                                        refine e_aload_n f_220_653 rfl rfl ?_
                                        refine e_iload_n f_220_654 rfl rfl ?_
                                        refine e_iconst (v := nI 1) f_220_655 (by decide) rfl ?_
                                        refine e_iadd (z := nI (ix + 1)) f_220_656 (nI_add _ _) rfl ?_
                                        refine e_iaload_p (xs := scr) f_220_657 g1 (d := 0) (by first | omega | (simp only [List.length_set]; omega)) rfl ?_
                                        show px_to 220 658 [some (.ref (0)), some (.ref (17)), some (.ref (269)), some (.int (nI ix))] [.int (scr.getD (ix + 1) 0), .ref (17)] g _
                                        obtain ⟨vs305, hb306⟩ := pJT_cell G0
                                        refine e_callV (As := [.int (scr.getD (ix + 1) 0)]) (rest := []) f_220_658 rfl rfl rfl (Nat.le_of_ble_eq_true rfl) (Nat.le_of_ble_eq_true rfl) hb306 rfl (Nat.le_of_ble_eq_true rfl) (cc_JT_alone (tx := tx) (j := j) (xs := ys) (c := scr.getD (ix + 1) 0) G0 ) rfl (fun h307 r308 q309 => ?_)
                                        obtain ⟨rfl, g310, fx311⟩ := q309
                                        have fr312 : px_fi 17 287 h0 h307 := fi_tr frg fx311 (by omega)
                                        show px_to 220 661 [some (.ref (0)), some (.ref (17)), some (.ref (269)), some (.int (nI ix))] [.int (aAlone j ys (scr.getD (ix + 1) 0))] h307 _
                                        refine e_aload_n f_220_661 rfl rfl ?_
                                        refine e_aload_n f_220_662 rfl rfl ?_
                                        refine e_iload_n f_220_663 rfl rfl ?_
                                        refine e_iconst (v := nI 1) f_220_664 (by decide) rfl ?_
                                        refine e_iadd (z := nI (ix + 1)) f_220_665 (nI_add _ _) rfl ?_
                                        have g313 : px_pa h307 0 50 scr.length Value.int scr := pa_fi HS fr312 (by omega)
                                        refine e_iaload_p (xs := scr) f_220_666 g313 (d := 0) (by first | omega | (simp only [List.length_set]; omega)) rfl ?_
                                        show px_to 220 667 [some (.ref (0)), some (.ref (17)), some (.ref (269)), some (.int (nI ix))] [.int (scr.getD (ix + 1) 0), .ref (269), .int (aAlone j ys (scr.getD (ix + 1) 0))] h307 _
                                        have g314 : pMD h307 tx j ys := pMD_fi G1 fx311 (by omega)
                                        obtain ⟨vs315, hb316⟩ := pMD_cell g314
                                        refine e_callV (As := [.int (scr.getD (ix + 1) 0)]) (rest := [.int (aAlone j ys (scr.getD (ix + 1) 0))]) f_220_667 rfl rfl rfl (Nat.le_of_ble_eq_true rfl) (Nat.le_of_ble_eq_true rfl) hb316 rfl (Nat.le_of_ble_eq_true rfl) (cc_MD_alo (tx := tx) (j := j) (xs := ys) (c := scr.getD (ix + 1) 0) g314 (qt)) rfl (fun h317 r318 q319 => ?_)
                                        obtain ⟨rfl, g320, fx321⟩ := q319
                                        have fr322 : px_fi 17 287 h0 h317 := fi_tr fr312 fx321 (by omega)
                                        show px_to 220 670 [some (.ref (0)), some (.ref (17)), some (.ref (269)), some (.int (nI ix))] [.int (aAlone j ys (scr.getD (ix + 1) 0)), .int (aAlone j ys (scr.getD (ix + 1) 0))] h317 _
                                        refine e_icmp_eq_t f_220_670 (rfl) ?_
                                        refine e_iinc (y := nI (ix + 4)) (L' := [some (.ref (0)), some (.ref (17)), some (.ref (269)), some (.int (nI (ix + 4)))]) f_220_751 rfl (by rw [show Int32.ofInt 4 = nI 4 by decide]; exact (nI_add _ _)) rfl rfl ?_
                                        refine e_goto f_220_754 ?_
                                        have g323 : pJT h317 tx j ys := pJT_fi g310 fx321 (by omega)
                                        first | (exfalso; omega) | exact ih (d - 1) (by omega) (ix + 4) tx j ys h317 (by omega) (by omega) (q2) g323 g320 fr322
                                      · skip
                                        by_cases c_32_17 : ((scr.getD ix 0) &&& (nI 31)) = nI 17
                                        · skip
                                          refine e_sw_t f_220_32 (t := 675) (by rw [c_32_17]; rfl) ?_
                                          refine e_aload_n f_220_675 rfl rfl ?_
                                          refine e_aload_n f_220_676 rfl rfl ?_
                                          refine e_iload_n f_220_677 rfl rfl ?_
                                          refine e_iconst (v := nI 1) f_220_678 (by decide) rfl ?_
                                          refine e_iadd (z := nI (ix + 1)) f_220_679 (nI_add _ _) rfl ?_
                                          refine e_iaload_p (xs := scr) f_220_680 g1 (d := 0) (by first | omega | (simp only [List.length_set]; omega)) rfl ?_
                                          show px_to 220 681 [some (.ref (0)), some (.ref (17)), some (.ref (269)), some (.int (nI ix))] [.int (scr.getD (ix + 1) 0), .ref (17)] g _
                                          refine e_aload_n f_220_681 rfl rfl ?_
                                          refine e_iload_n f_220_682 rfl rfl ?_
                                          refine e_iconst (v := nI 2) f_220_683 (by decide) rfl ?_
                                          refine e_iadd (z := nI (ix + 2)) f_220_684 (nI_add _ _) rfl ?_
                                          refine e_iaload_p (xs := scr) f_220_685 g1 (d := 0) (by first | omega | (simp only [List.length_set]; omega)) rfl ?_
                                          show px_to 220 686 [some (.ref (0)), some (.ref (17)), some (.ref (269)), some (.int (nI ix))] [.int (scr.getD (ix + 2) 0), .int (scr.getD (ix + 1) 0), .ref (17)] g _
                                          refine e_aload_n f_220_686 rfl rfl ?_
                                          refine e_iload_n f_220_687 rfl rfl ?_
                                          refine e_iconst (v := nI 3) f_220_688 (by decide) rfl ?_
                                          refine e_iadd (z := nI (ix + 3)) f_220_689 (nI_add _ _) rfl ?_
                                          refine e_iaload_p (xs := scr) f_220_690 g1 (d := 0) (by first | omega | (simp only [List.length_set]; omega)) rfl ?_
                                          show px_to 220 691 [some (.ref (0)), some (.ref (17)), some (.ref (269)), some (.int (nI ix))] [.int (scr.getD (ix + 3) 0), .int (scr.getD (ix + 2) 0), .int (scr.getD (ix + 1) 0), .ref (17)] g _
                                          obtain ⟨vs324, hb325⟩ := pJT_cell G0
                                          refine e_callV (As := [.int (scr.getD (ix + 1) 0), .int (scr.getD (ix + 2) 0), .int (scr.getD (ix + 3) 0)]) (rest := []) f_220_691 rfl rfl rfl (Nat.le_of_ble_eq_true rfl) (Nat.le_of_ble_eq_true rfl) hb325 rfl (Nat.le_of_ble_eq_true rfl) (cc_JT_event (tx := tx) (j := j) (xs := ys) (c := scr.getD (ix + 1) 0) (i := scr.getD (ix + 2) 0) (w := scr.getD (ix + 3) 0) G0 ) rfl (fun h326 r327 q328 => ?_)
                                          obtain ⟨rfl, g329, fx330⟩ := q328
                                          have fr331 : px_fi 17 287 h0 h326 := fi_tr frg fx330 (by omega)
                                          show px_to 220 694 [some (.ref (0)), some (.ref (17)), some (.ref (269)), some (.int (nI ix))] [.int (aEvent ys (scr.getD (ix + 1) 0) (scr.getD (ix + 2) 0) (scr.getD (ix + 3) 0))] h326 _
                                          refine e_aload_n f_220_694 rfl rfl ?_
                                          refine e_aload_n f_220_695 rfl rfl ?_
                                          refine e_iload_n f_220_696 rfl rfl ?_
                                          refine e_iconst (v := nI 1) f_220_697 (by decide) rfl ?_
                                          refine e_iadd (z := nI (ix + 1)) f_220_698 (nI_add _ _) rfl ?_
                                          have g332 : px_pa h326 0 50 scr.length Value.int scr := pa_fi HS fr331 (by omega)
                                          refine e_iaload_p (xs := scr) f_220_699 g332 (d := 0) (by first | omega | (simp only [List.length_set]; omega)) rfl ?_
                                          show px_to 220 700 [some (.ref (0)), some (.ref (17)), some (.ref (269)), some (.int (nI ix))] [.int (scr.getD (ix + 1) 0), .ref (269), .int (aEvent ys (scr.getD (ix + 1) 0) (scr.getD (ix + 2) 0) (scr.getD (ix + 3) 0))] h326 _
                                          refine e_aload_n f_220_700 rfl rfl ?_
                                          refine e_iload_n f_220_701 rfl rfl ?_
                                          refine e_iconst (v := nI 2) f_220_702 (by decide) rfl ?_
                                          refine e_iadd (z := nI (ix + 2)) f_220_703 (nI_add _ _) rfl ?_
                                          refine e_iaload_p (xs := scr) f_220_704 g332 (d := 0) (by first | omega | (simp only [List.length_set]; omega)) rfl ?_
                                          show px_to 220 705 [some (.ref (0)), some (.ref (17)), some (.ref (269)), some (.int (nI ix))] [.int (scr.getD (ix + 2) 0), .int (scr.getD (ix + 1) 0), .ref (269), .int (aEvent ys (scr.getD (ix + 1) 0) (scr.getD (ix + 2) 0) (scr.getD (ix + 3) 0))] h326 _
                                          refine e_aload_n f_220_705 rfl rfl ?_
                                          refine e_iload_n f_220_706 rfl rfl ?_
                                          refine e_iconst (v := nI 3) f_220_707 (by decide) rfl ?_
                                          refine e_iadd (z := nI (ix + 3)) f_220_708 (nI_add _ _) rfl ?_
                                          refine e_iaload_p (xs := scr) f_220_709 g332 (d := 0) (by first | omega | (simp only [List.length_set]; omega)) rfl ?_
                                          show px_to 220 710 [some (.ref (0)), some (.ref (17)), some (.ref (269)), some (.int (nI ix))] [.int (scr.getD (ix + 3) 0), .int (scr.getD (ix + 2) 0), .int (scr.getD (ix + 1) 0), .ref (269), .int (aEvent ys (scr.getD (ix + 1) 0) (scr.getD (ix + 2) 0) (scr.getD (ix + 3) 0))] h326 _
                                          have g333 : pMD h326 tx j ys := pMD_fi G1 fx330 (by omega)
                                          obtain ⟨vs334, hb335⟩ := pMD_cell g333
                                          refine e_callV (As := [.int (scr.getD (ix + 1) 0), .int (scr.getD (ix + 2) 0), .int (scr.getD (ix + 3) 0)]) (rest := [.int (aEvent ys (scr.getD (ix + 1) 0) (scr.getD (ix + 2) 0) (scr.getD (ix + 3) 0))]) f_220_710 rfl rfl rfl (Nat.le_of_ble_eq_true rfl) (Nat.le_of_ble_eq_true rfl) hb335 rfl (Nat.le_of_ble_eq_true rfl) (cc_MD_event (tx := tx) (j := j) (xs := ys) (c := scr.getD (ix + 1) 0) (i := scr.getD (ix + 2) 0) (w := scr.getD (ix + 3) 0) g333 ) rfl (fun h336 r337 q338 => ?_)
                                          obtain ⟨rfl, g339, fx340⟩ := q338
                                          have fr341 : px_fi 17 287 h0 h336 := fi_tr fr331 fx340 (by omega)
                                          show px_to 220 713 [some (.ref (0)), some (.ref (17)), some (.ref (269)), some (.int (nI ix))] [.int (aEvent ys (scr.getD (ix + 1) 0) (scr.getD (ix + 2) 0) (scr.getD (ix + 3) 0)), .int (aEvent ys (scr.getD (ix + 1) 0) (scr.getD (ix + 2) 0) (scr.getD (ix + 3) 0))] h336 _
                                          refine e_icmp_eq_t f_220_713 (rfl) ?_
                                          refine e_iinc (y := nI (ix + 4)) (L' := [some (.ref (0)), some (.ref (17)), some (.ref (269)), some (.int (nI (ix + 4)))]) f_220_751 rfl (by rw [show Int32.ofInt 4 = nI 4 by decide]; exact (nI_add _ _)) rfl rfl ?_
                                          refine e_goto f_220_754 ?_
                                          have g342 : pJT h336 tx j ys := pJT_fi g329 fx340 (by omega)
                                          first | (exfalso; omega) | exact ih (d - 1) (by omega) (ix + 4) tx j ys h336 (by omega) (by omega) (q2) g342 g339 fr341
                                        · skip
                                          by_cases c_32_18 : ((scr.getD ix 0) &&& (nI 31)) = nI 18
                                          · skip
                                            refine e_sw_t f_220_32 (t := 718) (by rw [c_32_18]; rfl) ?_
                                            refine e_aload_n f_220_718 rfl rfl ?_
                                            refine e_aload_n f_220_719 rfl rfl ?_
                                            refine e_iload_n f_220_720 rfl rfl ?_
                                            refine e_iconst (v := nI 1) f_220_721 (by decide) rfl ?_
                                            refine e_iadd (z := nI (ix + 1)) f_220_722 (nI_add _ _) rfl ?_
                                            refine e_iaload_p (xs := scr) f_220_723 g1 (d := 0) (by first | omega | (simp only [List.length_set]; omega)) rfl ?_
                                            show px_to 220 724 [some (.ref (0)), some (.ref (17)), some (.ref (269)), some (.int (nI ix))] [.int (scr.getD (ix + 1) 0), .ref (17)] g _
                                            refine e_aload_n f_220_724 rfl rfl ?_
                                            refine e_iload_n f_220_725 rfl rfl ?_
                                            refine e_iconst (v := nI 2) f_220_726 (by decide) rfl ?_
                                            refine e_iadd (z := nI (ix + 2)) f_220_727 (nI_add _ _) rfl ?_
                                            refine e_iaload_p (xs := scr) f_220_728 g1 (d := 0) (by first | omega | (simp only [List.length_set]; omega)) rfl ?_
                                            show px_to 220 729 [some (.ref (0)), some (.ref (17)), some (.ref (269)), some (.int (nI ix))] [.int (scr.getD (ix + 2) 0), .int (scr.getD (ix + 1) 0), .ref (17)] g _
                                            obtain ⟨vs343, hb344⟩ := pJT_cell G0
                                            refine e_callV (As := [.int (scr.getD (ix + 1) 0), .int (scr.getD (ix + 2) 0)]) (rest := []) f_220_729 rfl rfl rfl (Nat.le_of_ble_eq_true rfl) (Nat.le_of_ble_eq_true rfl) hb344 rfl (Nat.le_of_ble_eq_true rfl) (cc_JT_step (tx := tx) (j := j) (xs := ys) (k := scr.getD (ix + 1) 0) (w := scr.getD (ix + 2) 0) G0 ) rfl (fun h345 r346 q347 => ?_)
                                            obtain ⟨rfl, g348, fx349⟩ := q347
                                            have fr350 : px_fi 17 287 h0 h345 := fi_tr frg fx349 (by omega)
                                            show px_to 220 732 [some (.ref (0)), some (.ref (17)), some (.ref (269)), some (.int (nI ix))] [.int (aStep j (scr.getD (ix + 1) 0) (scr.getD (ix + 2) 0))] h345 _
                                            refine e_aload_n f_220_732 rfl rfl ?_
                                            refine e_aload_n f_220_733 rfl rfl ?_
                                            refine e_iload_n f_220_734 rfl rfl ?_
                                            refine e_iconst (v := nI 1) f_220_735 (by decide) rfl ?_
                                            refine e_iadd (z := nI (ix + 1)) f_220_736 (nI_add _ _) rfl ?_
                                            have g351 : px_pa h345 0 50 scr.length Value.int scr := pa_fi HS fr350 (by omega)
                                            refine e_iaload_p (xs := scr) f_220_737 g351 (d := 0) (by first | omega | (simp only [List.length_set]; omega)) rfl ?_
                                            show px_to 220 738 [some (.ref (0)), some (.ref (17)), some (.ref (269)), some (.int (nI ix))] [.int (scr.getD (ix + 1) 0), .ref (269), .int (aStep j (scr.getD (ix + 1) 0) (scr.getD (ix + 2) 0))] h345 _
                                            refine e_aload_n f_220_738 rfl rfl ?_
                                            refine e_iload_n f_220_739 rfl rfl ?_
                                            refine e_iconst (v := nI 2) f_220_740 (by decide) rfl ?_
                                            refine e_iadd (z := nI (ix + 2)) f_220_741 (nI_add _ _) rfl ?_
                                            refine e_iaload_p (xs := scr) f_220_742 g351 (d := 0) (by first | omega | (simp only [List.length_set]; omega)) rfl ?_
                                            show px_to 220 743 [some (.ref (0)), some (.ref (17)), some (.ref (269)), some (.int (nI ix))] [.int (scr.getD (ix + 2) 0), .int (scr.getD (ix + 1) 0), .ref (269), .int (aStep j (scr.getD (ix + 1) 0) (scr.getD (ix + 2) 0))] h345 _
                                            have g352 : pMD h345 tx j ys := pMD_fi G1 fx349 (by omega)
                                            obtain ⟨vs353, hb354⟩ := pMD_cell g352
                                            refine e_callV (As := [.int (scr.getD (ix + 1) 0), .int (scr.getD (ix + 2) 0)]) (rest := [.int (aStep j (scr.getD (ix + 1) 0) (scr.getD (ix + 2) 0))]) f_220_743 rfl rfl rfl (Nat.le_of_ble_eq_true rfl) (Nat.le_of_ble_eq_true rfl) hb354 rfl (Nat.le_of_ble_eq_true rfl) (cc_MD_step (tx := tx) (j := j) (xs := ys) (k := scr.getD (ix + 1) 0) (w := scr.getD (ix + 2) 0) g352 ) rfl (fun h355 r356 q357 => ?_)
                                            obtain ⟨rfl, g358, fx359⟩ := q357
                                            have fr360 : px_fi 17 287 h0 h355 := fi_tr fr350 fx359 (by omega)
                                            show px_to 220 746 [some (.ref (0)), some (.ref (17)), some (.ref (269)), some (.int (nI ix))] [.int (aStep j (scr.getD (ix + 1) 0) (scr.getD (ix + 2) 0)), .int (aStep j (scr.getD (ix + 1) 0) (scr.getD (ix + 2) 0))] h355 _
                                            refine e_icmp_eq_t f_220_746 (rfl) ?_
                                            refine e_iinc (y := nI (ix + 4)) (L' := [some (.ref (0)), some (.ref (17)), some (.ref (269)), some (.int (nI (ix + 4)))]) f_220_751 rfl (by rw [show Int32.ofInt 4 = nI 4 by decide]; exact (nI_add _ _)) rfl rfl ?_
                                            refine e_goto f_220_754 ?_
                                            have g361 : pJT h355 tx j ys := pJT_fi g348 fx359 (by omega)
                                            first | (exfalso; omega) | exact ih (d - 1) (by omega) (ix + 4) tx j ys h355 (by omega) (by omega) (q2) g361 g358 fr360
                                          · skip
                                            refine e_sw_t f_220_32 (t := 751) (tsw_df (by have z0 := ne_toInt c_32_0 (by decide); have z1 := ne_toInt c_32_1 (by decide); have z2 := ne_toInt c_32_2 (by decide); have z3 := ne_toInt c_32_3 (by decide); have z4 := ne_toInt c_32_4 (by decide); have z5 := ne_toInt c_32_5 (by decide); have z6 := ne_toInt c_32_6 (by decide); have z7 := ne_toInt c_32_7 (by decide); have z8 := ne_toInt c_32_8 (by decide); have z9 := ne_toInt c_32_9 (by decide); have z10 := ne_toInt c_32_10 (by decide); have z11 := ne_toInt c_32_11 (by decide); have z12 := ne_toInt c_32_12 (by decide); have z13 := ne_toInt c_32_13 (by decide); have z14 := ne_toInt c_32_14 (by decide); have z15 := ne_toInt c_32_15 (by decide); have z16 := ne_toInt c_32_16 (by decide); have z17 := ne_toInt c_32_17 (by decide); have z18 := ne_toInt c_32_18 (by decide); omega) rfl) ?_
                                            refine e_iinc (y := nI (ix + 4)) (L' := [some (.ref (0)), some (.ref (17)), some (.ref (269)), some (.int (nI (ix + 4)))]) f_220_751 rfl (by rw [show Int32.ofInt 4 = nI 4 by decide]; exact (nI_add _ _)) rfl rfl ?_
                                            refine e_goto f_220_754 ?_
                                            first | (exfalso; omega) | exact ih (d - 1) (by omega) (ix + 4) tx j ys g (by omega) (by omega) (q2) G0 G1 frg

set_option maxRecDepth 100000 in
set_option maxHeartbeats 4000000 in
theorem px_law : px_LAW := fun xs hxs => by
  obtain ⟨f1, m1, j1, k1⟩ := px_chk_use px_jt_run (by decide) (px_m0 xs)
  obtain ⟨f2, m2, j2, k2⟩ := px_chk_use px_md_run (by decide) f1
  have hj : ∀ k, k < 252 → ((304, 19804, f2) : px_H).2.2 (17 + k) = px_jt[k]? := fun k hk => (k2 (17 + k) (by omega) (by omega)).trans (j1 k hk)
  have hs : ∀ a, a < 17 → ((304, 19804, f2) : px_H).2.2 a = px_m0 xs a := fun a ha => (k2 a (by omega) (by omega)).trans (k1 a ha (by omega))
  have HS : px_pa ((304, 19804, f2) : px_H) 0 50 xs.length Value.int xs := ⟨by omega, [], by rw [List.append_nil]; exact hs 0 (by decide), rfl⟩
  have key : px_to 220 0 (px_ent 220 [.ref 0]) [] (px_h0 xs) (fun h1 v => v = some (.int (nI 1)) ∧ h1.1 = 304 ∧ h1.2.1 = 19804) := by
    obtain ⟨h1, v, e, p⟩ := ll_LAW (h0 := (304, 19804, f2)) (P := fun h1 v => v = some (.int (nI 1)) ∧ h1.1 = 304 ∧ h1.2.1 = 19804) HS hxs (fun g fr => ⟨rfl, fr.1, fr.2.1⟩) xs.length 0 [] [] [] (304, 19804, f2) (by omega) (by omega) (Nat.zero_le _) (i_JT hj hs) (i_MD j2) (fi_rf _ _ _)
    refine ⟨h1, v, ?_, p⟩
    refine ev_op f_220_0 rfl (w := (3, [some (.ref 0), none, none, none], [.ref 17], px_new (px_h0 xs) 17 (11, [.null, .int 0, .null, .null, .null, .null, .null, .null, .null, .null, .null, .null, .int 0, .null, .int 0, .null, .int 0]))) rfl ?_
    refine ev_op f_220_3 rfl (w := (4, [some (.ref 0), none, none, none], [.ref 17, .ref 17], px_new (px_h0 xs) 17 (11, [.null, .int 0, .null, .null, .null, .null, .null, .null, .null, .null, .null, .null, .int 0, .null, .int 0, .null, .int 0]))) rfl ?_
    refine ev_call f_220_4 rfl (as := [.ref 17]) (rest := [.ref 17]) rfl m1 ?_
    refine ev_op f_220_7 rfl (w := (8, [some (.ref 0), some (.ref 17), none, none], [], (269, 10603, f1))) rfl ?_
    refine ev_op f_220_8 rfl (w := (11, [some (.ref 0), some (.ref 17), none, none], [.ref 269], px_new (269, 10603, f1) 71 (12, [.null, .int 0, .int 0, .null, .null, .null, .int 0, .null, .null, .null, .null, .null, .null, .null, .null, .null, .null, .int 0, .int 0, .int 0, .int 0, .int 0, .int 0, .int 0, .int 0, .int 0, .int 0, .int 0, .null, .null, .null, .null, .null, .int 0, .null, .null, .null, .int 0, .null, .null, .null, .int 0, .int 0, .int 0, .int 0, .int 0, .int 0, .null, .int 0, .int 0, .int 0, .null, .int 0, .int 0, .null, .null, .null, .int 0, .null, .null, .null, .int 0, .int 0, .int 0, .int 0, .int 0, .int 0, .int 0, .null, .int 0, .int 0]))) rfl ?_
    refine ev_op f_220_11 rfl (w := (12, [some (.ref 0), some (.ref 17), none, none], [.ref 269, .ref 269], px_new (269, 10603, f1) 71 (12, [.null, .int 0, .int 0, .null, .null, .null, .int 0, .null, .null, .null, .null, .null, .null, .null, .null, .null, .null, .int 0, .int 0, .int 0, .int 0, .int 0, .int 0, .int 0, .int 0, .int 0, .int 0, .int 0, .null, .null, .null, .null, .null, .int 0, .null, .null, .null, .int 0, .null, .null, .null, .int 0, .int 0, .int 0, .int 0, .int 0, .int 0, .null, .int 0, .int 0, .int 0, .null, .int 0, .int 0, .null, .null, .null, .int 0, .null, .null, .null, .int 0, .int 0, .int 0, .int 0, .int 0, .int 0, .int 0, .null, .int 0, .int 0]))) rfl ?_
    refine ev_call f_220_12 rfl (as := [.ref 269]) (rest := [.ref 269]) rfl m2 ?_
    refine ev_op f_220_15 rfl (w := (16, [some (.ref 0), some (.ref 17), some (.ref 269), none], [], (304, 19804, f2))) rfl ?_
    refine ev_op f_220_16 rfl (w := (17, [some (.ref 0), some (.ref 17), some (.ref 269), none], [.int (nI 0)], (304, 19804, f2))) rfl ?_
    refine ev_op f_220_17 rfl (w := (18, [some (.ref 0), some (.ref 17), some (.ref 269), some (.int (nI 0))], [], (304, 19804, f2))) rfl ?_
    exact e
  obtain ⟨h1, v, ⟨n, e⟩, p1, p2, p3⟩ := key
  exact ⟨n, h1, by rw [e, p1]; rfl, by omega, by omega⟩
