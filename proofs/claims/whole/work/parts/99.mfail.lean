def onI (b : Int32) : Nat → Int32
  | 0 => nI 0
  | i + 1 => onI b i + ((b >>> (nI i &&& 31)) &&& nI 1)
theorem pcn_top : ∀ (i n : Nat), pcn n (i + 1) = pcn n i + n / 2 ^ i % 2
  | 0, n => by
    show n % 2 + pcn (n / 2) 0 = pcn n 0 + n / 2 ^ 0 % 2
    have e1 : pcn (n / 2) 0 = 0 := by cases (n / 2) <;> rfl
    have e2 : pcn n 0 = 0 := by cases n <;> rfl
    rw [e1, e2, Nat.pow_zero, Nat.div_one]
    omega
  | i + 1, n => by
    have e : ∀ m, pcn n (m + 1) = n % 2 + pcn (n / 2) m := fun m => by rw [pcn]
    rw [e, e, pcn_top i (n / 2), Nat.div_div_eq_div_mul, Nat.pow_succ, Nat.mul_comm 2 (2 ^ i)]
    omega
theorem onI_N {n : Nat} (hn : n < 2 ^ 31) : ∀ i, i ≤ 31 → onI (nI n) i = nI (pcn n i)
  | 0, _ => by
    have e2 : pcn n 0 = 0 := by cases n <;> rfl
    rw [e2]; rfl
  | i + 1, h => by
    rw [onI, onI_N hn i (by omega), shrN hn (by omega), and1N, nI_add, pcn_top]

set_option maxRecDepth 20000 in
set_option maxHeartbeats 4000000 in
theorem ll_MD_eq1 {P : px_H → Option Value → Prop} {h : px_H} {k : Nat} {b : Int32} (kx : px_to 186 42 [some (.ref (269)), some (.int (nI k)), some (.int (b)), some (.int (onI b 31)), none] [] h P) : ∀ (d : Nat) (i : Nat) (acc : Int32), (31 ≤ i + d) → (i ≤ 31) → (acc = onI b i) → px_to 186 20 [some (.ref (269)), some (.int (nI k)), some (.int (b)), some (.int (acc)), some (.int (nI i))] [] h P := by
  intro d
  induction d using Nat.strongRecOn with
  | ind d ih =>
    intro i acc q0 q1 q2
    refine e_iload f_186_20 rfl rfl ?_
    refine e_bipush (v := nI 31) f_186_22 (by decide) rfl ?_
    refine e_icmp_ge f_186_24 rfl (fun c_24 => ?_) (fun c_24 => ?_)
    · skip
      have c_24 : 31 ≤ i := cv_le (by omega) (by omega) c_24
      have ei : i = 31 := by omega
      subst ei
      subst q2
      refine px_to_L (L := [some (.ref (269)), some (.int (nI k)), some (.int (b)), some (.int (onI b 31)), none]) ⟨Or.inr rfl, Or.inr rfl, Or.inr rfl, Or.inr rfl, Or.inl rfl, trivial⟩ ?_
      exact kx
    · skip
      have c_24 : i < 31 := cv_nle (by omega) (by omega) c_24
      refine e_iload_n f_186_27 rfl rfl ?_
      refine e_iload_n f_186_28 rfl rfl ?_
      refine e_iload f_186_29 rfl rfl ?_
      refine e_ishr (z := b >>> ((nI i) &&& 31)) f_186_31 rfl rfl ?_
      refine e_iconst (v := nI 1) f_186_32 (by decide) rfl ?_
      refine e_iand (z := (b >>> ((nI i) &&& 31)) &&& (nI 1)) f_186_33 rfl rfl ?_
      refine e_iadd (z := acc + ((b >>> ((nI i) &&& 31)) &&& (nI 1))) f_186_34 rfl rfl ?_
      refine e_istore_n (L' := [some (.ref (269)), some (.int (nI k)), some (.int (b)), some (.int (acc + ((b >>> ((nI i) &&& 31)) &&& (nI 1)))), some (.int (nI i))]) f_186_35 (Nat.le_of_ble_eq_true rfl) rfl rfl ?_
      refine e_iinc (y := nI (i + 1)) (L' := [some (.ref (269)), some (.int (nI k)), some (.int (b)), some (.int (acc + ((b >>> ((nI i) &&& 31)) &&& (nI 1)))), some (.int (nI (i + 1)))]) f_186_36 rfl (by rw [show Int32.ofInt 1 = nI 1 by decide]; exact (nI_add _ _)) rfl rfl ?_
      refine e_goto f_186_39 ?_
      refine px_to_L (L := [some (.ref (269)), some (.int (nI k)), some (.int (b)), some (.int ((acc + ((b >>> (nI i &&& 31)) &&& nI 1)))), some (.int (nI (i + 1)))]) ⟨Or.inr rfl, Or.inr rfl, Or.inr rfl, Or.inr rfl, Or.inr rfl, trivial⟩ ?_
      first | (exfalso; omega) | exact ih (d - 1) (by omega) (i + 1) (acc + ((b >>> (nI i &&& 31)) &&& nI 1))  (by omega) (by omega) (by rw [onI, q2])  

set_option maxRecDepth 20000 in
set_option maxHeartbeats 4000000 in
theorem cc_MD_eq {h : px_H} {tx : List Nat} {j : List St} {xs : List CS3} {c : Int32} {b : Int32} (H0 : pMD h tx j xs) (p0 : tN j ≤ 2) : px_wp 186 [.ref (269), .int (c), .int (b)] h (fun h1 r => r = some (.int (aEq j xs c b)) ∧ pMD h1 tx j xs ∧ px_fi 269 35 h h1) := by
  have fr0 : px_fi 269 35 h h := fi_rf _ _ _
  show px_to 186 0 [some (.ref (269)), some (.int (c)), some (.int (b)), none, none] [] h _
  obtain ⟨gp, gq, gh, gw, gu, gv, jn, sl, sl2, lh, lg, lo, lt, cv, pl, ke, g1, g2, g3, g4, g5, g6, g7, g8, g9, g10, g11, g12, g13, g14, g15, g16, g17, g18, g19, g20, g21, g22, g23, g24, g25, g26, ok⟩ := id H0
  have h8 : xs.length ≤ 8 := ok.2.2.1.1
  have hj6 : j.length ≤ 6 := ok.2.1.1.1
  have htl : tx.length ≤ 500 := pa_len g2
  refine e_aload_n f_186_0 rfl rfl ?_
  refine e_iload_n f_186_1 rfl rfl ?_
  refine e_callV (As := [.int (c)]) (rest := []) f_186_2 rfl rfl rfl (Nat.le_of_ble_eq_true rfl) (Nat.le_of_ble_eq_true rfl) g1 rfl (Nat.le_of_ble_eq_true rfl) (cc_Md_isCase (c := c) (L := nI tx.length) (sn := nI j.length) (xs := xs) (gp := gp) (gq := gq) (gh := gh) (gw := gw) (gu := gu) (gv := gv) g1 (by omega)) rfl (fun h27 r28 q29 => ?_)
  obtain ⟨rfl, qe⟩ := q29
  have qe := qe.symm
  subst qe
  show px_to 186 5 [some (.ref (269)), some (.int (c)), some (.int (b)), none, none] [.int (bI (hasC c xs.length))] h _
  refine e_if_ne f_186_5 rfl (fun c_5 => ?_) (fun c_5 => ?_)
  · skip
    have c_5 : (hasC c xs.length) = true := bI_t c_5
    obtain ⟨k, hk, hkc⟩ := hasC_t (by omega) c_5
    subst hkc
    have hcx : okC3 (xs.getD k c30) := ok.2.2.1.2 _ (getD_mem _ hk)
    obtain ⟨em30, es31, om32, ro33, wn34, g35, g36, g37, g38, g39, g40, g41, g42, g43, g44, hA45⟩ := id g6
    obtain ⟨hA1, hA2, hA3, hA4, hA5⟩ := hA45.2 k hk
    have hAl := hA45.1
    have hel := hcx.1
    have hoe : ∀ e ∈ (xs.getD k c30).1, e.1 < 65536 := fun e he => by have := (hcx.2.1 e he).1; omega
    refine e_aload_n f_186_10 rfl rfl ?_
    refine e_iload_n f_186_11 rfl rfl ?_
    refine e_callV (As := [.int (nI k)]) (rest := []) f_186_12 rfl rfl rfl (Nat.le_of_ble_eq_true rfl) (Nat.le_of_ble_eq_true rfl) g1 rfl (Nat.le_of_ble_eq_true rfl) (cc_Md_inp (c := k) (ev := (xs.getD k c30).1) (em := em30) (es := es31) (ga := (nI tx.length, nI j.length, nI xs.length)) (gp := gp) (gq := gq) (gh := gh) (gw := gw) (gu := gu) (gv := gv) g1 g35 g36 (by omega) (⟨hAl.1, hAl.2.1⟩) (hA1) (hA2) (hcx.1) (hoe)) rfl (fun h46 r47 q48 => ?_)
    obtain ⟨rfl, g49, fx50⟩ := q48
    have fr51 : px_fi 269 35 h h46 := fi_tr fr0 fx50 (by omega)
    show px_to 186 15 [some (.ref (269)), some (.int (nI k)), some (.int (b)), none, none] [] h46 _
    refine e_iconst (v := nI 0) f_186_15 (by decide) rfl ?_
    refine e_istore_n (L' := [some (.ref (269)), some (.int (nI k)), some (.int (b)), some (.int (nI 0)), none]) f_186_16 (Nat.le_of_ble_eq_true rfl) rfl rfl ?_
    refine e_iconst (v := nI 0) f_186_17 (by decide) rfl ?_
    refine e_istore (L' := [some (.ref (269)), some (.int (nI k)), some (.int (b)), some (.int (nI 0)), some (.int (nI 0))]) f_186_18 (Nat.le_of_ble_eq_true rfl) rfl rfl ?_
    refine ll_MD_eq1 (k := k) (b := b) ?_ 31 0 (nI 0) (by omega) (by omega) rfl
    refine e_iload_n f_186_42 rfl rfl ?_
    refine e_if_lt f_186_43 rfl (fun c_43 => ?_) (fun c_43 => ?_)
    · skip
      refine e_iconst (v := (-1)) f_186_68 (by decide) rfl ?_
      refine e_iret f_186_69 rfl (rfl) ?_
      have g52 : px_pa h46 274 50 8 vN em30 := pa_fi g35 fx50 (by omega)
      have g53 : px_pa h46 275 52 192 evS es31 := pa_fi g36 fx50 (by omega)
      have g54 : px_pa h46 276 54 192 evK es31 := pa_fi g37 fx50 (by omega)
      have g55 : px_pa h46 277 53 192 evV es31 := pa_fi g38 fx50 (by omega)
      have g56 : px_pa h46 278 53 192 evT es31 := pa_fi g39 fx50 (by omega)
      have g57 : px_pa h46 279 50 8 vN om32 := pa_fi g40 fx50 (by omega)
      have g58 : px_pa h46 280 54 128 rK ro33 := pa_fi g41 fx50 (by omega)
      have g59 : px_pa h46 281 53 128 rV ro33 := pa_fi g42 fx50 (by omega)
      have g60 : px_pa h46 282 53 128 rT ro33 := pa_fi g43 fx50 (by omega)
      have g61 : px_pa h46 283 52 8 vN wn34 := pa_fi g44 fx50 (by omega)
      have g62 : pMA h46 xs := ⟨_, _, _, _, _, g52, g53, g54, g55, g56, g57, g58, g59, g60, g61, hA45⟩
      have g63 : px_pa h46 270 52 500 vN tx := pa_fi g2 fx50 (by omega)
      have g64 : px_pa h46 271 52 6 stS j := pa_fi g3 fx50 (by omega)
      have g65 : px_pa h46 272 52 6 stA j := pa_fi g4 fx50 (by omega)
      have g66 : px_pa h46 273 50 6 stN j := pa_fi g5 fx50 (by omega)
      have g67 : px_pa h46 284 52 6 stS jn := pa_fi g7 fx50 (by omega)
      have g68 : px_pa h46 285 52 6 stA jn := pa_fi g8 fx50 (by omega)
      have g69 : px_pa h46 286 50 6 stN jn := pa_fi g9 fx50 (by omega)
      have g70 : px_pa h46 287 50 3070 Value.int sl := pa_fi g10 fx50 (by omega)
      have g71 : px_pa h46 288 50 3070 Value.int sl2 := pa_fi g11 fx50 (by omega)
      have g72 : px_pa h46 289 54 100 rK lh := pa_fi g12 fx50 (by omega)
      have g73 : px_pa h46 290 50 100 rV lh := pa_fi g13 fx50 (by omega)
      have g74 : px_pa h46 291 50 100 rT lh := pa_fi g14 fx50 (by omega)
      have g75 : px_pa h46 292 54 100 rK lg := pa_fi g15 fx50 (by omega)
      have g76 : px_pa h46 293 50 100 rV lg := pa_fi g16 fx50 (by omega)
      have g77 : px_pa h46 294 50 100 rT lg := pa_fi g17 fx50 (by omega)
      have g78 : px_pa h46 295 50 30 Value.int cv := pa_fi g18 fx50 (by omega)
      have g79 : px_pa h46 296 50 24 vN pl := pa_fi g19 fx50 (by omega)
      have g80 : px_pa h46 297 54 100 rK lo := pa_fi g20 fx50 (by omega)
      have g81 : px_pa h46 298 50 100 rV lo := pa_fi g21 fx50 (by omega)
      have g82 : px_pa h46 299 50 100 rT lo := pa_fi g22 fx50 (by omega)
      have g83 : px_pa h46 300 54 100 rK lt := pa_fi g23 fx50 (by omega)
      have g84 : px_pa h46 301 50 100 rV lt := pa_fi g24 fx50 (by omega)
      have g85 : px_pa h46 302 50 100 rT lt := pa_fi g25 fx50 (by omega)
      have g86 : px_pa h46 303 50 24 vN ke := pa_fi g26 fx50 (by omega)
      have g87 : pMD h46 tx j xs := ⟨gp, gq, gh, gw, gu, (nI (evCnt false ((xs.getD k c30).1)), nI (evCnt true ((xs.getD k c30).1)), gv.2.2.1, gv.2.2.2.1, gv.2.2.2.2.1, gv.2.2.2.2.2.1, gv.2.2.2.2.2.2.1, gv.2.2.2.2.2.2.2.1, gv.2.2.2.2.2.2.2.2), jn, sl, sl2, lh, lg, lo, lt, cv, pl, ke, g49, g63, g64, g65, g66, g62, g67, g68, g69, g70, g71, g72, g73, g74, g75, g76, g77, g78, g79, g80, g81, g82, g83, g84, g85, g86, ok⟩
      exact ⟨congrArg (fun z => some (Value.int z)) (show (-1) = _ from by unfold aEq; rw [onC_k h8 hk]; unfold eqO; rw [if_neg (fun z => absurd z.1 (Int32.not_le.mpr c_43))]), g87, fr51⟩
    · skip
      obtain ⟨n, hn, hbn⟩ := nn_of c_43
      subst hbn
      have hab : nAB (xs.getD k c30).1 ≤ 24 := Nat.le_trans (evCnt_sum _) hcx.1
      have hab2 := hab
      unfold nAB at hab2
      have hdv : n / 2 ^ (evCnt false (xs.getD k c30).1 + evCnt true (xs.getD k c30).1) ≤ n := Nat.div_le_self _ _
      refine e_iload_n f_186_46 rfl rfl ?_
      refine e_aload_n f_186_47 rfl rfl ?_
      refine e_getf f_186_48 g49 rfl rfl ?_
      show px_to 186 51 [some (.ref (269)), some (.int (nI k)), some (.int (nI n)), some (.int (onI (nI n) 31)), none] [.int (nI (evCnt false ((xs.getD k c30).1))), .int (nI n)] h46 _
      refine e_aload_n f_186_51 rfl rfl ?_
      refine e_getf f_186_52 g49 rfl rfl ?_
      show px_to 186 55 [some (.ref (269)), some (.int (nI k)), some (.int (nI n)), some (.int (onI (nI n) 31)), none] [.int (nI (evCnt true ((xs.getD k c30).1))), .int (nI (evCnt false ((xs.getD k c30).1))), .int (nI n)] h46 _
      refine e_iadd (z := nI (evCnt false ((xs.getD k c30).1) + evCnt true ((xs.getD k c30).1))) f_186_55 (nI_add _ _) rfl ?_
      refine e_ishr (z := nI (n / 2 ^ (evCnt false (xs.getD k c30).1 + evCnt true (xs.getD k c30).1))) f_186_56 (shrN hn (by omega)) rfl ?_
      refine e_if_ne f_186_57 rfl (fun c_57 => ?_) (fun c_57 => ?_)
      · skip
        rw [← nI_0] at c_57
        have c_57 : n / 2 ^ (evCnt false (xs.getD k c30).1 + evCnt true (xs.getD k c30).1) ≠ 0 := cv_ne c_57
        refine e_iconst (v := (-1)) f_186_68 (by decide) rfl ?_
        refine e_iret f_186_69 rfl (rfl) ?_
        have g88 : px_pa h46 274 50 8 vN em30 := pa_fi g35 fx50 (by omega)
        have g89 : px_pa h46 275 52 192 evS es31 := pa_fi g36 fx50 (by omega)
        have g90 : px_pa h46 276 54 192 evK es31 := pa_fi g37 fx50 (by omega)
        have g91 : px_pa h46 277 53 192 evV es31 := pa_fi g38 fx50 (by omega)
        have g92 : px_pa h46 278 53 192 evT es31 := pa_fi g39 fx50 (by omega)
        have g93 : px_pa h46 279 50 8 vN om32 := pa_fi g40 fx50 (by omega)
        have g94 : px_pa h46 280 54 128 rK ro33 := pa_fi g41 fx50 (by omega)
        have g95 : px_pa h46 281 53 128 rV ro33 := pa_fi g42 fx50 (by omega)
        have g96 : px_pa h46 282 53 128 rT ro33 := pa_fi g43 fx50 (by omega)
        have g97 : px_pa h46 283 52 8 vN wn34 := pa_fi g44 fx50 (by omega)
        have g98 : pMA h46 xs := ⟨_, _, _, _, _, g88, g89, g90, g91, g92, g93, g94, g95, g96, g97, hA45⟩
        have g99 : px_pa h46 270 52 500 vN tx := pa_fi g2 fx50 (by omega)
        have g100 : px_pa h46 271 52 6 stS j := pa_fi g3 fx50 (by omega)
        have g101 : px_pa h46 272 52 6 stA j := pa_fi g4 fx50 (by omega)
        have g102 : px_pa h46 273 50 6 stN j := pa_fi g5 fx50 (by omega)
        have g103 : px_pa h46 284 52 6 stS jn := pa_fi g7 fx50 (by omega)
        have g104 : px_pa h46 285 52 6 stA jn := pa_fi g8 fx50 (by omega)
        have g105 : px_pa h46 286 50 6 stN jn := pa_fi g9 fx50 (by omega)
        have g106 : px_pa h46 287 50 3070 Value.int sl := pa_fi g10 fx50 (by omega)
        have g107 : px_pa h46 288 50 3070 Value.int sl2 := pa_fi g11 fx50 (by omega)
        have g108 : px_pa h46 289 54 100 rK lh := pa_fi g12 fx50 (by omega)
        have g109 : px_pa h46 290 50 100 rV lh := pa_fi g13 fx50 (by omega)
        have g110 : px_pa h46 291 50 100 rT lh := pa_fi g14 fx50 (by omega)
        have g111 : px_pa h46 292 54 100 rK lg := pa_fi g15 fx50 (by omega)
        have g112 : px_pa h46 293 50 100 rV lg := pa_fi g16 fx50 (by omega)
        have g113 : px_pa h46 294 50 100 rT lg := pa_fi g17 fx50 (by omega)
        have g114 : px_pa h46 295 50 30 Value.int cv := pa_fi g18 fx50 (by omega)
        have g115 : px_pa h46 296 50 24 vN pl := pa_fi g19 fx50 (by omega)
        have g116 : px_pa h46 297 54 100 rK lo := pa_fi g20 fx50 (by omega)
        have g117 : px_pa h46 298 50 100 rV lo := pa_fi g21 fx50 (by omega)
        have g118 : px_pa h46 299 50 100 rT lo := pa_fi g22 fx50 (by omega)
        have g119 : px_pa h46 300 54 100 rK lt := pa_fi g23 fx50 (by omega)
        have g120 : px_pa h46 301 50 100 rV lt := pa_fi g24 fx50 (by omega)
        have g121 : px_pa h46 302 50 100 rT lt := pa_fi g25 fx50 (by omega)
        have g122 : px_pa h46 303 50 24 vN ke := pa_fi g26 fx50 (by omega)
        have g123 : pMD h46 tx j xs := ⟨gp, gq, gh, gw, gu, (nI (evCnt false ((xs.getD k c30).1)), nI (evCnt true ((xs.getD k c30).1)), gv.2.2.1, gv.2.2.2.1, gv.2.2.2.2.1, gv.2.2.2.2.2.1, gv.2.2.2.2.2.2.1, gv.2.2.2.2.2.2.2.1, gv.2.2.2.2.2.2.2.2), jn, sl, sl2, lh, lg, lo, lt, cv, pl, ke, g49, g99, g100, g101, g102, g98, g103, g104, g105, g106, g107, g108, g109, g110, g111, g112, g113, g114, g115, g116, g117, g118, g119, g120, g121, g122, ok⟩
        exact ⟨congrArg (fun z => some (Value.int z)) (show (-1) = _ from by unfold aEq; rw [onC_k h8 hk]; unfold eqO; rw [nN_nI hn, if_neg (fun z => c_57 z.2.1)]), g123, fr51⟩
      · skip
        rw [← nI_0] at c_57
        have c_57 : n / 2 ^ (evCnt false (xs.getD k c30).1 + evCnt true (xs.getD k c30).1) = 0 := cv_nne (by omega) (by omega) c_57
        have hon := onI_N hn 31 (by omega)
        rw [hon]
        have hpl := pcn_le n 31
        refine e_iload_n f_186_60 rfl rfl ?_
        refine e_aload_n f_186_61 rfl rfl ?_
        refine e_getf f_186_62 g49 rfl rfl ?_
        show px_to 186 65 [some (.ref (269)), some (.int (nI k)), some (.int (nI n)), some (.int (nI (pcn n 31))), none] [.int (nI (evCnt true ((xs.getD k c30).1))), .int (nI (pcn n 31))] h46 _
        refine e_icmp_eq f_186_65 rfl (fun c_65 => ?_) (fun c_65 => ?_)
        · skip
          have c_65 : pcn n 31 = evCnt true ((xs.getD k c30).1) := cv_eq (by omega) (by omega) c_65
          have hnl := div0_lt c_57
          have hpc : pcn n (nAB (xs.getD k c30).1) = evCnt true (xs.getD k c30).1 := by have z := pcn_stop (nAB (xs.getD k c30).1) n (31 - nAB (xs.getD k c30).1) hnl; rw [show nAB (xs.getD k c30).1 + (31 - nAB (xs.getD k c30).1) = 31 by omega] at z; rw [← z]; exact c_65
          have hsc := sch_of hn hab hpc
          refine e_aload_n f_186_70 rfl rfl ?_
          refine e_iload_n f_186_71 rfl rfl ?_
          have g124 : px_pa h46 271 52 6 stS j := pa_fi g3 fx50 (by omega)
          have g125 : px_pa h46 272 52 6 stA j := pa_fi g4 fx50 (by omega)
          have g126 : px_pa h46 273 50 6 stN j := pa_fi g5 fx50 (by omega)
          have g127 : px_pa h46 284 52 6 stS jn := pa_fi g7 fx50 (by omega)
          have g128 : px_pa h46 285 52 6 stA jn := pa_fi g8 fx50 (by omega)
          have g129 : px_pa h46 286 50 6 stN jn := pa_fi g9 fx50 (by omega)
          have g130 : px_pa h46 287 50 3070 Value.int sl := pa_fi g10 fx50 (by omega)
          have g131 : px_pa h46 288 50 3070 Value.int sl2 := pa_fi g11 fx50 (by omega)
          have g132 : px_pa h46 289 54 100 rK lh := pa_fi g12 fx50 (by omega)
          have g133 : px_pa h46 290 50 100 rV lh := pa_fi g13 fx50 (by omega)
          have g134 : px_pa h46 291 50 100 rT lh := pa_fi g14 fx50 (by omega)
          have g135 : px_pa h46 292 54 100 rK lg := pa_fi g15 fx50 (by omega)
          have g136 : px_pa h46 293 50 100 rV lg := pa_fi g16 fx50 (by omega)
          have g137 : px_pa h46 294 50 100 rT lg := pa_fi g17 fx50 (by omega)
          have g138 : px_pa h46 295 50 30 Value.int cv := pa_fi g18 fx50 (by omega)
          have g139 : px_pa h46 296 50 24 vN pl := pa_fi g19 fx50 (by omega)
          have g140 : px_pa h46 274 50 8 vN em30 := pa_fi g35 fx50 (by omega)
          have g141 : px_pa h46 275 52 192 evS es31 := pa_fi g36 fx50 (by omega)
          have g142 : px_pa h46 276 54 192 evK es31 := pa_fi g37 fx50 (by omega)
          have g143 : px_pa h46 277 53 192 evV es31 := pa_fi g38 fx50 (by omega)
          have g144 : px_pa h46 278 53 192 evT es31 := pa_fi g39 fx50 (by omega)
          have g145 : px_pa h46 300 54 100 rK lt := pa_fi g23 fx50 (by omega)
          have g146 : px_pa h46 301 50 100 rV lt := pa_fi g24 fx50 (by omega)
          have g147 : px_pa h46 302 50 100 rT lt := pa_fi g25 fx50 (by omega)
          refine e_callV (As := [.int (nI k)]) (rest := []) f_186_72 rfl rfl rfl (Nat.le_of_ble_eq_true rfl) (Nat.le_of_ble_eq_true rfl) g49 rfl (Nat.le_of_ble_eq_true rfl) (cc_Md_aga (c := k) (ev := (xs.getD k c30).1) (em := em30) (es := es31) (pl := pl) (L := nI tx.length) (cn := nI xs.length) (j := j) (jn := jn) (cb := gq.2.2.2.2.2.2) (sl := sl) (sl2 := sl2) (lh := lh) (lg := lg) (lt := lt) (cv := cv) (tl := cv) (gp := gp) (gq := gq) (gh := gh) (gw := gw) (gu := gu) (gv := (nI (evCnt false ((xs.getD k c30).1)), nI (evCnt true ((xs.getD k c30).1)), gv.2.2.1, gv.2.2.2.1, gv.2.2.2.2.1, gv.2.2.2.2.2.1, gv.2.2.2.2.2.2.1, gv.2.2.2.2.2.2.2.1, gv.2.2.2.2.2.2.2.2)) g49 g124 g125 g126 g127 g128 g129 g130 g131 g132 g133 g134 g135 g136 g137 g138 g139 g140 g141 g142 g143 g144 g145 g146 g147 (okB_okZ ok.2.1 p0) (ok.2.2.2.1) (by omega) (⟨hAl.1, hAl.2.1⟩) (hA2) (hcx.1) (hcx.2.1) (hA1) (⟨ok.2.2.2.1.2.2, fun _ => rfl⟩)) rfl (fun h148 r149 q150 => ?_)
          obtain ⟨rfl, g151, g152, g153, g154, g155, g156, g157, g158, fx159⟩ := q150
          obtain ⟨hm160, fa161, fb162⟩ := fl_mid fx159
          have fr163 : px_fi 269 35 h hm160 := fi_tr fr51 fa161 (by omega)
          obtain ⟨hm164, fa165, fb166⟩ := fl_mid fb162
          have fr167 : px_fi 269 35 h hm164 := fi_tr fr163 fa165 (by omega)
          have fb168 := fl_one fb166
          have fr169 : px_fi 269 35 h h148 := fi_tr fr167 fb168 (by omega)
          show px_to 186 75 [some (.ref (269)), some (.int (nI k)), some (.int (nI n)), some (.int (nI (pcn n 31))), none] [] h148 _
          obtain ⟨la170, lb171, gw172, sl173, sl2174, lh175, cv176, g177, g178, g179, g180, g181, g182, g183, g184, g185, g186, hO187⟩ := id g155
          have hO := hO187
          have hOl := hO.1
          have hrr := runO_ok ok.2.1.1 (evs_ok (ps := evPl (xs.getD k c30).1 0) (fun p hp => by have := evPl_lt (xs.getD k c30).1 0 p hp; omega) hcx.2.1)
          have hrok : ∀ x ∈ (plO j (xs.getD k c30).1).2.1, rwOk x := hrr.1
          refine e_aload_n f_186_75 rfl rfl ?_
          refine e_iload_n f_186_76 rfl rfl ?_
          refine e_iload_n f_186_77 rfl rfl ?_
          have g188 : px_pa hm160 275 52 192 evS es31 := pa_fi g141 fa161 (by omega)
          have g189 : px_pa hm164 275 52 192 evS es31 := pa_fi g188 fa165 (by omega)
          have g190 : px_pa h148 275 52 192 evS es31 := pa_fi g189 fb168 (by omega)
          have g191 : px_pa hm160 276 54 192 evK es31 := pa_fi g142 fa161 (by omega)
          have g192 : px_pa hm164 276 54 192 evK es31 := pa_fi g191 fa165 (by omega)
          have g193 : px_pa h148 276 54 192 evK es31 := pa_fi g192 fb168 (by omega)
          have g194 : px_pa hm160 277 53 192 evV es31 := pa_fi g143 fa161 (by omega)
          have g195 : px_pa hm164 277 53 192 evV es31 := pa_fi g194 fa165 (by omega)
          have g196 : px_pa h148 277 53 192 evV es31 := pa_fi g195 fb168 (by omega)
          have g197 : px_pa hm160 278 53 192 evT es31 := pa_fi g144 fa161 (by omega)
          have g198 : px_pa hm164 278 53 192 evT es31 := pa_fi g197 fa165 (by omega)
          have g199 : px_pa h148 278 53 192 evT es31 := pa_fi g198 fb168 (by omega)
          have g200 : px_pa h46 297 54 100 rK lo := pa_fi g20 fx50 (by omega)
          have g201 : px_pa hm160 297 54 100 rK lo := pa_fi g200 fa161 (by omega)
          have g202 : px_pa hm164 297 54 100 rK lo := pa_fi g201 fa165 (by omega)
          have g203 : px_pa h148 297 54 100 rK lo := pa_fi g202 fb168 (by omega)
          have g204 : px_pa h46 298 50 100 rV lo := pa_fi g21 fx50 (by omega)
          have g205 : px_pa hm160 298 50 100 rV lo := pa_fi g204 fa161 (by omega)
          have g206 : px_pa hm164 298 50 100 rV lo := pa_fi g205 fa165 (by omega)
          have g207 : px_pa h148 298 50 100 rV lo := pa_fi g206 fb168 (by omega)
          have g208 : px_pa h46 299 50 100 rT lo := pa_fi g22 fx50 (by omega)
          have g209 : px_pa hm160 299 50 100 rT lo := pa_fi g208 fa161 (by omega)
          have g210 : px_pa hm164 299 50 100 rT lo := pa_fi g209 fa165 (by omega)
          have g211 : px_pa h148 299 50 100 rT lo := pa_fi g210 fb168 (by omega)
          refine e_callV (As := [.int (nI k), .int (nI n)]) (rest := []) f_186_78 rfl rfl rfl (Nat.le_of_ble_eq_true rfl) (Nat.le_of_ble_eq_true rfl) g177 rfl (Nat.le_of_ble_eq_true rfl) (cc_Md_ieq (bits := nI n) (pz := (plO j ((xs.getD k c30).1)).2.2.1.isSome) (c := k) (ev := (xs.getD k c30).1) (es := es31) (pl := evPl ((xs.getD k c30).1) 0) (j := j) (cb := gq.2.2.2.2.2.2) (sl := sl173) (sl2 := sl2174) (lh := lh175) (lg := (plO j ((xs.getD k c30).1)).2.1) (lo := lo) (lt := (plO j ((xs.getD k c30).1)).2.1) (cv := cv176) (ga := (nI tx.length, nI j.length, nI xs.length)) (gp := gp) (gq := (nI j.length, (plO j ((xs.getD k c30).1)).2.2.1.isSome, oI (plO j ((xs.getD k c30).1)).2.2.1, (plO j ((xs.getD k c30).1)).2.2.2, la170, lb171, gq.2.2.2.2.2.2)) (gh := (nI 0, nI ((plO j ((xs.getD k c30).1)).2.1.length))) (gw := gw172) (gu := (nI (evPl ((xs.getD k c30).1) 0).length, gu.2.1, nI (plO j ((xs.getD k c30).1)).2.1.length)) (gv := (nI (evCnt false ((xs.getD k c30).1)), nI (evCnt true ((xs.getD k c30).1)), gv.2.2.1, gv.2.2.2.1, gv.2.2.2.2.1, (plO j ((xs.getD k c30).1)).2.2.1.isSome, gv.2.2.2.2.2.2.1, gv.2.2.2.2.2.2.2.1, gv.2.2.2.2.2.2.2.2)) g177 g151 g152 g153 g178 g179 g180 g181 g182 g183 g184 g185 g186 g154 g190 g193 g196 g199 g203 g207 g211 g156 g157 g158 (okB_okZ ok.2.1 p0) (⟨hO.1, hO.2.1, hO.2.2.1⟩) (by omega) (hAl.2.1) (hA2) (hcx.1) (hcx.2.1) (hsc) (hrok)) rfl (fun h212 r213 q214 => ?_)
          obtain ⟨rfl, g215, g216, fx217⟩ := q214
          obtain ⟨hm218, fa219, fb220⟩ := fj_mid fx217
          have fr221 : px_fi 269 35 h hm218 := fi_tr fr169 fa219 (by omega)
          have fr222 : px_fi 269 35 h h212 := fi_tr fr221 fb220 (by omega)
          show px_to 186 81 [some (.ref (269)), some (.int (nI k)), some (.int (nI n)), some (.int (nI (pcn n 31))), none] [.int (bI (ieB (scO j ((xs.getD k c30).1) (nI n)) ((plO j ((xs.getD k c30).1)).2.2.1.isSome) ((plO j ((xs.getD k c30).1)).2.1)))] h212 _
          obtain ⟨la223, lb224, gw225, o1226, sl227, sl2228, lh229, cv230, lo231, lt232, g233, g234, g235, g236, g237, g238, g239, g240, g241, g242, g243, g244, g245, g246, g247, g248, hI249⟩ := id g215
          have hI := hI249
          refine e_if_eq f_186_81 rfl (fun c_81 => ?_) (fun c_81 => ?_)
          · skip
            have c_81 : (ieB (scO j ((xs.getD k c30).1) (nI n)) ((plO j ((xs.getD k c30).1)).2.2.1.isSome) ((plO j ((xs.getD k c30).1)).2.1)) = false := bI_f c_81
            refine e_iconst (v := nI 0) f_186_88 (by decide) rfl ?_
            refine e_iret f_186_89 rfl (rfl) ?_
            have g250 : px_pa hm160 274 50 8 vN em30 := pa_fi g140 fa161 (by omega)
            have g251 : px_pa hm164 274 50 8 vN em30 := pa_fi g250 fa165 (by omega)
            have g252 : px_pa h148 274 50 8 vN em30 := pa_fi g251 fb168 (by omega)
            have g253 : px_pa hm218 274 50 8 vN em30 := pa_fi g252 fa219 (by omega)
            have g254 : px_pa h212 274 50 8 vN em30 := pa_fi g253 fb220 (by omega)
            have g255 : px_pa hm218 275 52 192 evS es31 := pa_fi g190 fa219 (by omega)
            have g256 : px_pa h212 275 52 192 evS es31 := pa_fi g255 fb220 (by omega)
            have g257 : px_pa hm218 276 54 192 evK es31 := pa_fi g193 fa219 (by omega)
            have g258 : px_pa h212 276 54 192 evK es31 := pa_fi g257 fb220 (by omega)
            have g259 : px_pa hm218 277 53 192 evV es31 := pa_fi g196 fa219 (by omega)
            have g260 : px_pa h212 277 53 192 evV es31 := pa_fi g259 fb220 (by omega)
            have g261 : px_pa hm218 278 53 192 evT es31 := pa_fi g199 fa219 (by omega)
            have g262 : px_pa h212 278 53 192 evT es31 := pa_fi g261 fb220 (by omega)
            have g263 : px_pa h46 279 50 8 vN om32 := pa_fi g40 fx50 (by omega)
            have g264 : px_pa hm160 279 50 8 vN om32 := pa_fi g263 fa161 (by omega)
            have g265 : px_pa hm164 279 50 8 vN om32 := pa_fi g264 fa165 (by omega)
            have g266 : px_pa h148 279 50 8 vN om32 := pa_fi g265 fb168 (by omega)
            have g267 : px_pa hm218 279 50 8 vN om32 := pa_fi g266 fa219 (by omega)
            have g268 : px_pa h212 279 50 8 vN om32 := pa_fi g267 fb220 (by omega)
            have g269 : px_pa h46 280 54 128 rK ro33 := pa_fi g41 fx50 (by omega)
            have g270 : px_pa hm160 280 54 128 rK ro33 := pa_fi g269 fa161 (by omega)
            have g271 : px_pa hm164 280 54 128 rK ro33 := pa_fi g270 fa165 (by omega)
            have g272 : px_pa h148 280 54 128 rK ro33 := pa_fi g271 fb168 (by omega)
            have g273 : px_pa hm218 280 54 128 rK ro33 := pa_fi g272 fa219 (by omega)
            have g274 : px_pa h212 280 54 128 rK ro33 := pa_fi g273 fb220 (by omega)
            have g275 : px_pa h46 281 53 128 rV ro33 := pa_fi g42 fx50 (by omega)
            have g276 : px_pa hm160 281 53 128 rV ro33 := pa_fi g275 fa161 (by omega)
            have g277 : px_pa hm164 281 53 128 rV ro33 := pa_fi g276 fa165 (by omega)
            have g278 : px_pa h148 281 53 128 rV ro33 := pa_fi g277 fb168 (by omega)
            have g279 : px_pa hm218 281 53 128 rV ro33 := pa_fi g278 fa219 (by omega)
            have g280 : px_pa h212 281 53 128 rV ro33 := pa_fi g279 fb220 (by omega)
            have g281 : px_pa h46 282 53 128 rT ro33 := pa_fi g43 fx50 (by omega)
            have g282 : px_pa hm160 282 53 128 rT ro33 := pa_fi g281 fa161 (by omega)
            have g283 : px_pa hm164 282 53 128 rT ro33 := pa_fi g282 fa165 (by omega)
            have g284 : px_pa h148 282 53 128 rT ro33 := pa_fi g283 fb168 (by omega)
            have g285 : px_pa hm218 282 53 128 rT ro33 := pa_fi g284 fa219 (by omega)
            have g286 : px_pa h212 282 53 128 rT ro33 := pa_fi g285 fb220 (by omega)
            have g287 : px_pa h46 283 52 8 vN wn34 := pa_fi g44 fx50 (by omega)
            have g288 : px_pa hm160 283 52 8 vN wn34 := pa_fi g287 fa161 (by omega)
            have g289 : px_pa hm164 283 52 8 vN wn34 := pa_fi g288 fa165 (by omega)
            have g290 : px_pa h148 283 52 8 vN wn34 := pa_fi g289 fb168 (by omega)
            have g291 : px_pa hm218 283 52 8 vN wn34 := pa_fi g290 fa219 (by omega)
            have g292 : px_pa h212 283 52 8 vN wn34 := pa_fi g291 fb220 (by omega)
            have g293 : pMA h212 xs := ⟨_, _, _, _, _, g254, g256, g258, g260, g262, g268, g274, g280, g286, g292, hA45⟩
            have g294 : px_pa h46 270 52 500 vN tx := pa_fi g2 fx50 (by omega)
            have g295 : px_pa hm160 270 52 500 vN tx := pa_fi g294 fa161 (by omega)
            have g296 : px_pa hm164 270 52 500 vN tx := pa_fi g295 fa165 (by omega)
            have g297 : px_pa h148 270 52 500 vN tx := pa_fi g296 fb168 (by omega)
            have g298 : px_pa hm218 270 52 500 vN tx := pa_fi g297 fa219 (by omega)
            have g299 : px_pa h212 270 52 500 vN tx := pa_fi g298 fb220 (by omega)
            have g300 : px_pa hm160 271 52 6 stS j := pa_fi g124 fa161 (by omega)
            have g301 : px_pa hm164 271 52 6 stS j := pa_fi g300 fa165 (by omega)
            have g302 : px_pa h148 271 52 6 stS j := pa_fi g301 fb168 (by omega)
            have g303 : px_pa hm218 271 52 6 stS j := pa_fi g302 fa219 (by omega)
            have g304 : px_pa h212 271 52 6 stS j := pa_fi g303 fb220 (by omega)
            have g305 : px_pa hm160 272 52 6 stA j := pa_fi g125 fa161 (by omega)
            have g306 : px_pa hm164 272 52 6 stA j := pa_fi g305 fa165 (by omega)
            have g307 : px_pa h148 272 52 6 stA j := pa_fi g306 fb168 (by omega)
            have g308 : px_pa hm218 272 52 6 stA j := pa_fi g307 fa219 (by omega)
            have g309 : px_pa h212 272 52 6 stA j := pa_fi g308 fb220 (by omega)
            have g310 : px_pa hm160 273 50 6 stN j := pa_fi g126 fa161 (by omega)
            have g311 : px_pa hm164 273 50 6 stN j := pa_fi g310 fa165 (by omega)
            have g312 : px_pa h148 273 50 6 stN j := pa_fi g311 fb168 (by omega)
            have g313 : px_pa hm218 273 50 6 stN j := pa_fi g312 fa219 (by omega)
            have g314 : px_pa h212 273 50 6 stN j := pa_fi g313 fb220 (by omega)
            have g315 : px_pa hm218 284 52 6 stS j := pa_fi g151 fa219 (by omega)
            have g316 : px_pa h212 284 52 6 stS j := pa_fi g315 fb220 (by omega)
            have g317 : px_pa hm218 285 52 6 stA j := pa_fi g152 fa219 (by omega)
            have g318 : px_pa h212 285 52 6 stA j := pa_fi g317 fb220 (by omega)
            have g319 : px_pa hm218 286 50 6 stN j := pa_fi g153 fa219 (by omega)
            have g320 : px_pa h212 286 50 6 stN j := pa_fi g319 fb220 (by omega)
            have g321 : px_pa h46 303 50 24 vN ke := pa_fi g26 fx50 (by omega)
            have g322 : px_pa hm160 303 50 24 vN ke := pa_fi g321 fa161 (by omega)
            have g323 : px_pa hm164 303 50 24 vN ke := pa_fi g322 fa165 (by omega)
            have g324 : px_pa h148 303 50 24 vN ke := pa_fi g323 fb168 (by omega)
            have g325 : px_pa hm218 303 50 24 vN ke := pa_fi g324 fa219 (by omega)
            have g326 : px_pa h212 303 50 24 vN ke := pa_fi g325 fb220 (by omega)
            have g327 : pMD h212 tx j xs := ⟨gp, (nI j.length, (scO j ((xs.getD k c30).1) (nI n)).2.2.1.isSome, oI (scO j ((xs.getD k c30).1) (nI n)).2.2.1, (scO j ((xs.getD k c30).1) (nI n)).2.2.2, la223, lb224, gq.2.2.2.2.2.2), (nI 0, nI ((scO j ((xs.getD k c30).1) (nI n)).2.1.length)), gw225, (nI (nAB ((xs.getD k c30).1)), o1226, nI lt232.length), (nI (evCnt false ((xs.getD k c30).1)), nI (evCnt true ((xs.getD k c30).1)), gv.2.2.1, gv.2.2.2.1, gv.2.2.2.2.1, (plO j ((xs.getD k c30).1)).2.2.1.isSome, gv.2.2.2.2.2.2.1, gv.2.2.2.2.2.2.2.1, gv.2.2.2.2.2.2.2.2), j, sl227, sl2228, lh229, (scO j ((xs.getD k c30).1) (nI n)).2.1, lo231, lt232, cv230, schL ((xs.getD k c30).1) (bsOf (nI n) (nAB ((xs.getD k c30).1))) 0 0, ke, g233, g299, g304, g309, g314, g293, g316, g318, g320, g234, g235, g236, g237, g238, g239, g240, g241, g242, g216, g243, g244, g245, g246, g247, g248, g326, ⟨ok.1, ok.2.1, ok.2.2.1, ⟨hI.1, hI.2.1, hI.2.2.1⟩, ok.2.2.2.2⟩⟩
            exact ⟨congrArg (fun z => some (Value.int z)) (show nI 0 = _ from by unfold aEq; rw [onC_k h8 hk]; unfold eqO; rw [nN_nI hn, if_pos ⟨nI_ge0 hn, c_57, hpc⟩, ← ieB_isEq rfl, c_81]; rfl), g327, fr222⟩
          · skip
            have c_81 : (ieB (scO j ((xs.getD k c30).1) (nI n)) ((plO j ((xs.getD k c30).1)).2.2.1.isSome) ((plO j ((xs.getD k c30).1)).2.1)) = true := bI_t' c_81
            refine e_iconst (v := nI 1) f_186_84 (by decide) rfl ?_
            refine e_goto f_186_85 ?_
            refine e_iret f_186_89 rfl (rfl) ?_
            have g328 : px_pa hm160 274 50 8 vN em30 := pa_fi g140 fa161 (by omega)
            have g329 : px_pa hm164 274 50 8 vN em30 := pa_fi g328 fa165 (by omega)
            have g330 : px_pa h148 274 50 8 vN em30 := pa_fi g329 fb168 (by omega)
            have g331 : px_pa hm218 274 50 8 vN em30 := pa_fi g330 fa219 (by omega)
            have g332 : px_pa h212 274 50 8 vN em30 := pa_fi g331 fb220 (by omega)
            have g333 : px_pa hm218 275 52 192 evS es31 := pa_fi g190 fa219 (by omega)
            have g334 : px_pa h212 275 52 192 evS es31 := pa_fi g333 fb220 (by omega)
            have g335 : px_pa hm218 276 54 192 evK es31 := pa_fi g193 fa219 (by omega)
            have g336 : px_pa h212 276 54 192 evK es31 := pa_fi g335 fb220 (by omega)
            have g337 : px_pa hm218 277 53 192 evV es31 := pa_fi g196 fa219 (by omega)
            have g338 : px_pa h212 277 53 192 evV es31 := pa_fi g337 fb220 (by omega)
            have g339 : px_pa hm218 278 53 192 evT es31 := pa_fi g199 fa219 (by omega)
            have g340 : px_pa h212 278 53 192 evT es31 := pa_fi g339 fb220 (by omega)
            have g341 : px_pa h46 279 50 8 vN om32 := pa_fi g40 fx50 (by omega)
            have g342 : px_pa hm160 279 50 8 vN om32 := pa_fi g341 fa161 (by omega)
            have g343 : px_pa hm164 279 50 8 vN om32 := pa_fi g342 fa165 (by omega)
            have g344 : px_pa h148 279 50 8 vN om32 := pa_fi g343 fb168 (by omega)
            have g345 : px_pa hm218 279 50 8 vN om32 := pa_fi g344 fa219 (by omega)
            have g346 : px_pa h212 279 50 8 vN om32 := pa_fi g345 fb220 (by omega)
            have g347 : px_pa h46 280 54 128 rK ro33 := pa_fi g41 fx50 (by omega)
            have g348 : px_pa hm160 280 54 128 rK ro33 := pa_fi g347 fa161 (by omega)
            have g349 : px_pa hm164 280 54 128 rK ro33 := pa_fi g348 fa165 (by omega)
            have g350 : px_pa h148 280 54 128 rK ro33 := pa_fi g349 fb168 (by omega)
            have g351 : px_pa hm218 280 54 128 rK ro33 := pa_fi g350 fa219 (by omega)
            have g352 : px_pa h212 280 54 128 rK ro33 := pa_fi g351 fb220 (by omega)
            have g353 : px_pa h46 281 53 128 rV ro33 := pa_fi g42 fx50 (by omega)
            have g354 : px_pa hm160 281 53 128 rV ro33 := pa_fi g353 fa161 (by omega)
            have g355 : px_pa hm164 281 53 128 rV ro33 := pa_fi g354 fa165 (by omega)
            have g356 : px_pa h148 281 53 128 rV ro33 := pa_fi g355 fb168 (by omega)
            have g357 : px_pa hm218 281 53 128 rV ro33 := pa_fi g356 fa219 (by omega)
            have g358 : px_pa h212 281 53 128 rV ro33 := pa_fi g357 fb220 (by omega)
            have g359 : px_pa h46 282 53 128 rT ro33 := pa_fi g43 fx50 (by omega)
            have g360 : px_pa hm160 282 53 128 rT ro33 := pa_fi g359 fa161 (by omega)
            have g361 : px_pa hm164 282 53 128 rT ro33 := pa_fi g360 fa165 (by omega)
            have g362 : px_pa h148 282 53 128 rT ro33 := pa_fi g361 fb168 (by omega)
            have g363 : px_pa hm218 282 53 128 rT ro33 := pa_fi g362 fa219 (by omega)
            have g364 : px_pa h212 282 53 128 rT ro33 := pa_fi g363 fb220 (by omega)
            have g365 : px_pa h46 283 52 8 vN wn34 := pa_fi g44 fx50 (by omega)
            have g366 : px_pa hm160 283 52 8 vN wn34 := pa_fi g365 fa161 (by omega)
            have g367 : px_pa hm164 283 52 8 vN wn34 := pa_fi g366 fa165 (by omega)
            have g368 : px_pa h148 283 52 8 vN wn34 := pa_fi g367 fb168 (by omega)
            have g369 : px_pa hm218 283 52 8 vN wn34 := pa_fi g368 fa219 (by omega)
            have g370 : px_pa h212 283 52 8 vN wn34 := pa_fi g369 fb220 (by omega)
            have g371 : pMA h212 xs := ⟨_, _, _, _, _, g332, g334, g336, g338, g340, g346, g352, g358, g364, g370, hA45⟩
            have g372 : px_pa h46 270 52 500 vN tx := pa_fi g2 fx50 (by omega)
            have g373 : px_pa hm160 270 52 500 vN tx := pa_fi g372 fa161 (by omega)
            have g374 : px_pa hm164 270 52 500 vN tx := pa_fi g373 fa165 (by omega)
            have g375 : px_pa h148 270 52 500 vN tx := pa_fi g374 fb168 (by omega)
            have g376 : px_pa hm218 270 52 500 vN tx := pa_fi g375 fa219 (by omega)
            have g377 : px_pa h212 270 52 500 vN tx := pa_fi g376 fb220 (by omega)
            have g378 : px_pa hm160 271 52 6 stS j := pa_fi g124 fa161 (by omega)
            have g379 : px_pa hm164 271 52 6 stS j := pa_fi g378 fa165 (by omega)
            have g380 : px_pa h148 271 52 6 stS j := pa_fi g379 fb168 (by omega)
            have g381 : px_pa hm218 271 52 6 stS j := pa_fi g380 fa219 (by omega)
            have g382 : px_pa h212 271 52 6 stS j := pa_fi g381 fb220 (by omega)
            have g383 : px_pa hm160 272 52 6 stA j := pa_fi g125 fa161 (by omega)
            have g384 : px_pa hm164 272 52 6 stA j := pa_fi g383 fa165 (by omega)
            have g385 : px_pa h148 272 52 6 stA j := pa_fi g384 fb168 (by omega)
            have g386 : px_pa hm218 272 52 6 stA j := pa_fi g385 fa219 (by omega)
            have g387 : px_pa h212 272 52 6 stA j := pa_fi g386 fb220 (by omega)
            have g388 : px_pa hm160 273 50 6 stN j := pa_fi g126 fa161 (by omega)
            have g389 : px_pa hm164 273 50 6 stN j := pa_fi g388 fa165 (by omega)
            have g390 : px_pa h148 273 50 6 stN j := pa_fi g389 fb168 (by omega)
            have g391 : px_pa hm218 273 50 6 stN j := pa_fi g390 fa219 (by omega)
            have g392 : px_pa h212 273 50 6 stN j := pa_fi g391 fb220 (by omega)
            have g393 : px_pa hm218 284 52 6 stS j := pa_fi g151 fa219 (by omega)
            have g394 : px_pa h212 284 52 6 stS j := pa_fi g393 fb220 (by omega)
            have g395 : px_pa hm218 285 52 6 stA j := pa_fi g152 fa219 (by omega)
            have g396 : px_pa h212 285 52 6 stA j := pa_fi g395 fb220 (by omega)
            have g397 : px_pa hm218 286 50 6 stN j := pa_fi g153 fa219 (by omega)
            have g398 : px_pa h212 286 50 6 stN j := pa_fi g397 fb220 (by omega)
            have g399 : px_pa h46 303 50 24 vN ke := pa_fi g26 fx50 (by omega)
            have g400 : px_pa hm160 303 50 24 vN ke := pa_fi g399 fa161 (by omega)
            have g401 : px_pa hm164 303 50 24 vN ke := pa_fi g400 fa165 (by omega)
            have g402 : px_pa h148 303 50 24 vN ke := pa_fi g401 fb168 (by omega)
            have g403 : px_pa hm218 303 50 24 vN ke := pa_fi g402 fa219 (by omega)
            have g404 : px_pa h212 303 50 24 vN ke := pa_fi g403 fb220 (by omega)
            have g405 : pMD h212 tx j xs := ⟨gp, (nI j.length, (scO j ((xs.getD k c30).1) (nI n)).2.2.1.isSome, oI (scO j ((xs.getD k c30).1) (nI n)).2.2.1, (scO j ((xs.getD k c30).1) (nI n)).2.2.2, la223, lb224, gq.2.2.2.2.2.2), (nI 0, nI ((scO j ((xs.getD k c30).1) (nI n)).2.1.length)), gw225, (nI (nAB ((xs.getD k c30).1)), o1226, nI lt232.length), (nI (evCnt false ((xs.getD k c30).1)), nI (evCnt true ((xs.getD k c30).1)), gv.2.2.1, gv.2.2.2.1, gv.2.2.2.2.1, (plO j ((xs.getD k c30).1)).2.2.1.isSome, gv.2.2.2.2.2.2.1, gv.2.2.2.2.2.2.2.1, gv.2.2.2.2.2.2.2.2), j, sl227, sl2228, lh229, (scO j ((xs.getD k c30).1) (nI n)).2.1, lo231, lt232, cv230, schL ((xs.getD k c30).1) (bsOf (nI n) (nAB ((xs.getD k c30).1))) 0 0, ke, g233, g377, g382, g387, g392, g371, g394, g396, g398, g234, g235, g236, g237, g238, g239, g240, g241, g242, g216, g243, g244, g245, g246, g247, g248, g404, ⟨ok.1, ok.2.1, ok.2.2.1, ⟨hI.1, hI.2.1, hI.2.2.1⟩, ok.2.2.2.2⟩⟩
            exact ⟨congrArg (fun z => some (Value.int z)) (show nI 1 = _ from by unfold aEq; rw [onC_k h8 hk]; unfold eqO; rw [nN_nI hn, if_pos ⟨nI_ge0 hn, c_57, hpc⟩, ← ieB_isEq rfl, c_81]; rfl), g405, fr222⟩
        · skip
          have c_65 : pcn n 31 ≠ evCnt true ((xs.getD k c30).1) := cv_ne c_65
          refine e_iconst (v := (-1)) f_186_68 (by decide) rfl ?_
          refine e_iret f_186_69 rfl (rfl) ?_
          have g406 : px_pa h46 274 50 8 vN em30 := pa_fi g35 fx50 (by omega)
          have g407 : px_pa h46 275 52 192 evS es31 := pa_fi g36 fx50 (by omega)
          have g408 : px_pa h46 276 54 192 evK es31 := pa_fi g37 fx50 (by omega)
          have g409 : px_pa h46 277 53 192 evV es31 := pa_fi g38 fx50 (by omega)
          have g410 : px_pa h46 278 53 192 evT es31 := pa_fi g39 fx50 (by omega)
          have g411 : px_pa h46 279 50 8 vN om32 := pa_fi g40 fx50 (by omega)
          have g412 : px_pa h46 280 54 128 rK ro33 := pa_fi g41 fx50 (by omega)
          have g413 : px_pa h46 281 53 128 rV ro33 := pa_fi g42 fx50 (by omega)
          have g414 : px_pa h46 282 53 128 rT ro33 := pa_fi g43 fx50 (by omega)
          have g415 : px_pa h46 283 52 8 vN wn34 := pa_fi g44 fx50 (by omega)
          have g416 : pMA h46 xs := ⟨_, _, _, _, _, g406, g407, g408, g409, g410, g411, g412, g413, g414, g415, hA45⟩
          have g417 : px_pa h46 270 52 500 vN tx := pa_fi g2 fx50 (by omega)
          have g418 : px_pa h46 271 52 6 stS j := pa_fi g3 fx50 (by omega)
          have g419 : px_pa h46 272 52 6 stA j := pa_fi g4 fx50 (by omega)
          have g420 : px_pa h46 273 50 6 stN j := pa_fi g5 fx50 (by omega)
          have g421 : px_pa h46 284 52 6 stS jn := pa_fi g7 fx50 (by omega)
          have g422 : px_pa h46 285 52 6 stA jn := pa_fi g8 fx50 (by omega)
          have g423 : px_pa h46 286 50 6 stN jn := pa_fi g9 fx50 (by omega)
          have g424 : px_pa h46 287 50 3070 Value.int sl := pa_fi g10 fx50 (by omega)
          have g425 : px_pa h46 288 50 3070 Value.int sl2 := pa_fi g11 fx50 (by omega)
          have g426 : px_pa h46 289 54 100 rK lh := pa_fi g12 fx50 (by omega)
          have g427 : px_pa h46 290 50 100 rV lh := pa_fi g13 fx50 (by omega)
          have g428 : px_pa h46 291 50 100 rT lh := pa_fi g14 fx50 (by omega)
          have g429 : px_pa h46 292 54 100 rK lg := pa_fi g15 fx50 (by omega)
          have g430 : px_pa h46 293 50 100 rV lg := pa_fi g16 fx50 (by omega)
          have g431 : px_pa h46 294 50 100 rT lg := pa_fi g17 fx50 (by omega)
          have g432 : px_pa h46 295 50 30 Value.int cv := pa_fi g18 fx50 (by omega)
          have g433 : px_pa h46 296 50 24 vN pl := pa_fi g19 fx50 (by omega)
          have g434 : px_pa h46 297 54 100 rK lo := pa_fi g20 fx50 (by omega)
          have g435 : px_pa h46 298 50 100 rV lo := pa_fi g21 fx50 (by omega)
          have g436 : px_pa h46 299 50 100 rT lo := pa_fi g22 fx50 (by omega)
          have g437 : px_pa h46 300 54 100 rK lt := pa_fi g23 fx50 (by omega)
          have g438 : px_pa h46 301 50 100 rV lt := pa_fi g24 fx50 (by omega)
          have g439 : px_pa h46 302 50 100 rT lt := pa_fi g25 fx50 (by omega)
          have g440 : px_pa h46 303 50 24 vN ke := pa_fi g26 fx50 (by omega)
          have g441 : pMD h46 tx j xs := ⟨gp, gq, gh, gw, gu, (nI (evCnt false ((xs.getD k c30).1)), nI (evCnt true ((xs.getD k c30).1)), gv.2.2.1, gv.2.2.2.1, gv.2.2.2.2.1, gv.2.2.2.2.2.1, gv.2.2.2.2.2.2.1, gv.2.2.2.2.2.2.2.1, gv.2.2.2.2.2.2.2.2), jn, sl, sl2, lh, lg, lo, lt, cv, pl, ke, g49, g417, g418, g419, g420, g416, g421, g422, g423, g424, g425, g426, g427, g428, g429, g430, g431, g432, g433, g434, g435, g436, g437, g438, g439, g440, ok⟩
          exact ⟨congrArg (fun z => some (Value.int z)) (show (-1) = _ from by unfold aEq; rw [onC_k h8 hk]; unfold eqO; rw [nN_nI hn, if_neg (fun z => c_65 (by have y := pcn_stop (nAB (xs.getD k c30).1) n (31 - nAB (xs.getD k c30).1) (div0_lt z.2.1); rw [show nAB (xs.getD k c30).1 + (31 - nAB (xs.getD k c30).1) = 31 by omega] at y; rw [y]; exact z.2.2))]), g441, fr51⟩
  · skip
    have c_5 : (hasC c xs.length) = false := bI_f' c_5
    refine e_iconst (v := (-1)) f_186_8 (by decide) rfl ?_
    refine e_iret f_186_9 rfl (rfl) ?_
    have g442 : pMD h tx j xs := ⟨gp, gq, gh, gw, gu, gv, jn, sl, sl2, lh, lg, lo, lt, cv, pl, ke, g1, g2, g3, g4, g5, g6, g7, g8, g9, g10, g11, g12, g13, g14, g15, g16, g17, g18, g19, g20, g21, g22, g23, g24, g25, g26, ok⟩
    exact ⟨congrArg (fun z => some (Value.int z)) (show (-1) = _ from (onC_no c_5).symm), g442, fr0⟩

def relF (lt0 : List Row) (sl sl2 cv : List Int32) (lt : List Row) : Prop := sl.length = 3070 ∧ sl2.length = 3070 ∧ cv.length = 30 ∧ rsort lt = rsort lt0 ∧ ∀ x ∈ lt, rwOk x
def pFL (h : px_H) (ga : gA) (gp : gP) (j : List St) (cb : Bool) (ev : List Ev) (pz : Bool) (lt0 : List Row) : Prop := ∃ (gq : gQ) (gh : gH) (gw : gW) (gu : gU) (gv : gV) (sl : List Int32) (sl2 : List Int32) (lh : List Row) (lg : List Row) (cv : List Int32) (pl : List Nat) (lo : List Row) (lt : List Row), h.2.2 269 = some (12, mB ga gp (nI j.length, gq.2.1, gq.2.2.1, gq.2.2.2.1, gq.2.2.2.2.1, gq.2.2.2.2.2.1, cb) gh gw (gu.1, gu.2.1, nI lt.length) (nI (evCnt false ev), nI (evCnt true ev), gv.2.2.1, gv.2.2.2.1, gv.2.2.2.2.1, pz, gv.2.2.2.2.2.2.1, gv.2.2.2.2.2.2.2.1, gv.2.2.2.2.2.2.2.2)) ∧ px_pa h 287 50 3070 Value.int sl ∧ px_pa h 288 50 3070 Value.int sl2 ∧ px_pa h 289 54 100 rK lh ∧ px_pa h 290 50 100 rV lh ∧ px_pa h 291 50 100 rT lh ∧ px_pa h 292 54 100 rK lg ∧ px_pa h 293 50 100 rV lg ∧ px_pa h 294 50 100 rT lg ∧ px_pa h 295 50 30 Value.int cv ∧ px_pa h 296 50 24 vN pl ∧ px_pa h 297 54 100 rK lo ∧ px_pa h 298 50 100 rV lo ∧ px_pa h 299 50 100 rT lo ∧ px_pa h 300 54 100 rK lt ∧ px_pa h 301 50 100 rV lt ∧ px_pa h 302 50 100 rT lt ∧ relF lt0 sl sl2 cv lt

set_option maxRecDepth 20000 in
set_option maxHeartbeats 4000000 in
theorem ll_MD_fail {P : px_H → Option Value → Prop} {h0 : px_H} {c s k : Nat} {ev es : List Ev} {ga : gA} {gp : gP} {j : List St} {cb : Bool}  (K0 : px_pa h0 275 52 192 evS es) (K1 : px_pa h0 276 54 192 evK es) (K2 : px_pa h0 277 53 192 evV es) (K3 : px_pa h0 278 53 192 evT es) (K4 : px_pa h0 284 52 6 stS j) (K5 : px_pa h0 285 52 6 stA j) (K6 : px_pa h0 286 50 6 stN j) (hj : okZ j) (hab : nAB ev ≤ 24) (hs : s < 4) (hc : c < 8) (hes : es.length = 192) (hin : inE es c ev) (h24 : ev.length ≤ 24) (hok : ∀ e ∈ ev, okEv e) (hk31 : k < 2147483648) (kx : ∀ g, pFL g ga gp j cb ev ((plO j ev).2.2.1.isSome) ((plO j ev).2.1) → px_fj 269 1 287 16 h0 g → P g (some (.int (failO j ev s k)))) : ∀ (d : Nat) (n : Nat) (met : Nat) (g : px_H), ((scL ev s).length < n + d) → (n ≤ (scL ev s).length) → (met = (unL j ev n).length) → (met ≤ k) → pFL g ga gp j cb ev ((plO j ev).2.2.1.isSome) ((plO j ev).2.1) → px_fj 269 1 287 16 h0 g → px_to 187 34 [some (.ref (269)), some (.int (nI c)), some (.int (nI s)), some (.int (nI k)), some (.int (nI n)), some (.int (nI met))] [] g P := by
  intro d
  induction d using Nat.strongRecOn with
  | ind d ih =>
    intro n met g q0 q1 q2 q3 G0 frg
    have h6 := hj.1.1
    have hab2 := hab
    unfold nAB at hab2
    have hsl : (scL ev s).length ≤ 266 := Nat.le_trans (schU_mono (by omega)) (schU_len hab2)
    refine e_aload_n f_187_34 rfl rfl ?_
    refine e_iload_n f_187_35 rfl rfl ?_
    refine e_iload f_187_36 rfl rfl ?_
    obtain ⟨gq1, gh2, gw3, gu4, gv5, sl6, sl27, lh8, lg9, cv10, pl11, lo12, lt13, g14, g15, g16, g17, g18, g19, g20, g21, g22, g23, g24, g25, g26, g27, g28, g29, g30, hF31⟩ := id G0
    refine e_callV (As := [.int (nI s), .int (nI n)]) (rest := []) f_187_38 rfl rfl rfl (Nat.le_of_ble_eq_true rfl) (Nat.le_of_ble_eq_true rfl) g14 rfl (Nat.le_of_ble_eq_true rfl) (cc_Md_finds (s := s) (k := n) (na := evCnt false ev) (nb := evCnt true ev) (ga := ga) (gp := gp) (gq := (nI j.length, gq1.2.1, gq1.2.2.1, gq1.2.2.2.1, gq1.2.2.2.2.1, gq1.2.2.2.2.2.1, cb)) (gh := gh2) (gw := gw3) (gu := (gu4.1, gu4.2.1, nI lt13.length)) (gv := (nI (evCnt false ev), nI (evCnt true ev), gv5.2.2.1, gv5.2.2.2.1, gv5.2.2.2.2.1, (plO j ev).2.2.1.isSome, gv5.2.2.2.2.2.2.1, gv5.2.2.2.2.2.2.2.1, gv5.2.2.2.2.2.2.2.2)) g14 (by omega) (by omega) (by omega)) rfl (fun h32 r33 q34 => ?_)
    obtain ⟨rfl, g35, fx36⟩ := q34
    have fr37 : px_fj 269 1 287 16 h0 h32 := fj_tr frg fx36 (by omega)
    show px_to 187 41 [some (.ref (269)), some (.int (nI c)), some (.int (nI s)), some (.int (nI k)), some (.int (nI n)), some (.int (nI met))] [.int (bI (decide (n < (schU (evCnt false ev) (evCnt true ev) s).length)))] h32 _
    refine e_if_eq f_187_41 rfl (fun c_41 => ?_) (fun c_41 => ?_)
    · skip
      have c_41 : (decide (n < (schU (evCnt false ev) (evCnt true ev) s).length)) = false := bI_f c_41
      refine e_bipush (v := (-3)) f_187_74 (by decide) rfl ?_
      refine e_iret f_187_76 rfl (rfl) ?_
      obtain ⟨bt38, pl39, lf40, g41, hT142, hT243⟩ := id g35
      have g44 : px_pa h32 287 50 3070 Value.int sl6 := pa_fi g15 fx36 (by omega)
      have g45 : px_pa h32 288 50 3070 Value.int sl27 := pa_fi g16 fx36 (by omega)
      have g46 : px_pa h32 289 54 100 rK lh8 := pa_fi g17 fx36 (by omega)
      have g47 : px_pa h32 290 50 100 rV lh8 := pa_fi g18 fx36 (by omega)
      have g48 : px_pa h32 291 50 100 rT lh8 := pa_fi g19 fx36 (by omega)
      have g49 : px_pa h32 292 54 100 rK lg9 := pa_fi g20 fx36 (by omega)
      have g50 : px_pa h32 293 50 100 rV lg9 := pa_fi g21 fx36 (by omega)
      have g51 : px_pa h32 294 50 100 rT lg9 := pa_fi g22 fx36 (by omega)
      have g52 : px_pa h32 295 50 30 Value.int cv10 := pa_fi g23 fx36 (by omega)
      have g53 : px_pa h32 296 50 24 vN pl11 := pa_fi g24 fx36 (by omega)
      have g54 : px_pa h32 297 54 100 rK lo12 := pa_fi g25 fx36 (by omega)
      have g55 : px_pa h32 298 50 100 rV lo12 := pa_fi g26 fx36 (by omega)
      have g56 : px_pa h32 299 50 100 rT lo12 := pa_fi g27 fx36 (by omega)
      have g57 : px_pa h32 300 54 100 rK lt13 := pa_fi g28 fx36 (by omega)
      have g58 : px_pa h32 301 50 100 rV lt13 := pa_fi g29 fx36 (by omega)
      have g59 : px_pa h32 302 50 100 rT lt13 := pa_fi g30 fx36 (by omega)
      have g60 : pFL h32 ga gp j cb ev ((plO j ev).2.2.1.isSome) ((plO j ev).2.1) := ⟨(nI j.length, gq1.2.1, gq1.2.2.1, gq1.2.2.2.1, gq1.2.2.2.2.1, gq1.2.2.2.2.2.1, cb), gh2, gw3, (gu4.1, gu4.2.1, nI lt13.length), (nI (evCnt false ev), nI (evCnt true ev), bt38, pl39, lf40, (plO j ev).2.2.1.isSome, gv5.2.2.2.2.2.2.1, gv5.2.2.2.2.2.2.2.1, gv5.2.2.2.2.2.2.2.2), _, _, _, _, _, _, _, _, g41, g44, g45, g46, g47, g48, g49, g50, g51, g52, g53, g54, g55, g56, g57, g58, g59, hF31⟩
      have hge := of_decide_eq_false c_41
      have hge : (scL ev s).length ≤ n := Nat.le_of_not_lt hge
      have en : n = (scL ev s).length := Nat.le_antisymm q1 hge
      have ef : failO j ev s k = -3 := by unfold failO; rw [if_neg (by rw [← en, ← q2]; omega)]
      rw [ef] at kx
      exact kx h32 g60 fr37
    · skip
      have c_41 : (decide (n < (schU (evCnt false ev) (evCnt true ev) s).length)) = true := bI_t' c_41
      obtain ⟨bt61, pl62, lf63, g64, hT165, hT266⟩ := id g35
      have hlt : n < (scL ev s).length := of_decide_eq_true c_41
      have hbt : bt61 = nI ((scL ev s).getD n 0) := hT165 hlt
      have hF := hF31
      have hpre : (scL ev 3).getD n 0 = ((scL ev s).getD n 0) := schU_pre (by omega) hlt
      have hl3 : n < (scL ev 3).length := Nat.lt_of_lt_of_le hlt (schU_le (by omega))
      have hsc : schOk ev (bsOf (nI ((scL ev s).getD n 0)) (nAB ev)) 0 0 := sch_v hab (by rw [← hpre]; exact getD_mem 0 hl3)
      refine e_aload_n f_187_44 rfl rfl ?_
      refine e_iload_n f_187_45 rfl rfl ?_
      refine e_aload_n f_187_46 rfl rfl ?_
      refine e_getf f_187_47 g64 rfl rfl ?_
      show px_to 187 50 [some (.ref (269)), some (.int (nI c)), some (.int (nI s)), some (.int (nI k)), some (.int (nI n)), some (.int (nI met))] [.int (bt61), .int (nI c), .ref (269)] h32 _
      rw [hbt]
      obtain ⟨hm68, fa69, fb70⟩ := fj_mid fr37
      have g67 : px_pa h32 284 52 6 stS j := pa_fi (pa_fi K4 fa69 (by omega)) fb70 (by omega)
      obtain ⟨hm72, fa73, fb74⟩ := fj_mid fr37
      have g71 : px_pa h32 285 52 6 stA j := pa_fi (pa_fi K5 fa73 (by omega)) fb74 (by omega)
      obtain ⟨hm76, fa77, fb78⟩ := fj_mid fr37
      have g75 : px_pa h32 286 50 6 stN j := pa_fi (pa_fi K6 fa77 (by omega)) fb78 (by omega)
      have g79 : px_pa h32 287 50 3070 Value.int sl6 := pa_fi g15 fx36 (by omega)
      have g80 : px_pa h32 288 50 3070 Value.int sl27 := pa_fi g16 fx36 (by omega)
      have g81 : px_pa h32 289 54 100 rK lh8 := pa_fi g17 fx36 (by omega)
      have g82 : px_pa h32 290 50 100 rV lh8 := pa_fi g18 fx36 (by omega)
      have g83 : px_pa h32 291 50 100 rT lh8 := pa_fi g19 fx36 (by omega)
      have g84 : px_pa h32 292 54 100 rK lg9 := pa_fi g20 fx36 (by omega)
      have g85 : px_pa h32 293 50 100 rV lg9 := pa_fi g21 fx36 (by omega)
      have g86 : px_pa h32 294 50 100 rT lg9 := pa_fi g22 fx36 (by omega)
      have g87 : px_pa h32 295 50 30 Value.int cv10 := pa_fi g23 fx36 (by omega)
      have g88 : px_pa h32 296 50 24 vN pl11 := pa_fi g24 fx36 (by omega)
      obtain ⟨hm90, fa91, fb92⟩ := fj_mid fr37
      have g89 : px_pa h32 275 52 192 evS es := pa_fi (pa_fi K0 fa91 (by omega)) fb92 (by omega)
      obtain ⟨hm94, fa95, fb96⟩ := fj_mid fr37
      have g93 : px_pa h32 276 54 192 evK es := pa_fi (pa_fi K1 fa95 (by omega)) fb96 (by omega)
      obtain ⟨hm98, fa99, fb100⟩ := fj_mid fr37
      have g97 : px_pa h32 277 53 192 evV es := pa_fi (pa_fi K2 fa99 (by omega)) fb100 (by omega)
      obtain ⟨hm102, fa103, fb104⟩ := fj_mid fr37
      have g101 : px_pa h32 278 53 192 evT es := pa_fi (pa_fi K3 fa103 (by omega)) fb104 (by omega)
      have g105 : px_pa h32 297 54 100 rK lo12 := pa_fi g25 fx36 (by omega)
      have g106 : px_pa h32 298 50 100 rV lo12 := pa_fi g26 fx36 (by omega)
      have g107 : px_pa h32 299 50 100 rT lo12 := pa_fi g27 fx36 (by omega)
      have g108 : px_pa h32 300 54 100 rK lt13 := pa_fi g28 fx36 (by omega)
      have g109 : px_pa h32 301 50 100 rV lt13 := pa_fi g29 fx36 (by omega)
      have g110 : px_pa h32 302 50 100 rT lt13 := pa_fi g30 fx36 (by omega)
      refine e_callV (As := [.int (nI c), .int (nI ((scL ev s).getD n 0))]) (rest := []) f_187_50 rfl rfl rfl (Nat.le_of_ble_eq_true rfl) (Nat.le_of_ble_eq_true rfl) g64 rfl (Nat.le_of_ble_eq_true rfl) (cc_Md_ieq (bits := nI ((scL ev s).getD n 0)) (pz := (plO j ev).2.2.1.isSome) (c := c) (ev := ev) (es := es) (pl := pl11) (j := j) (cb := cb) (sl := sl6) (sl2 := sl27) (lh := lh8) (lg := lg9) (lo := lo12) (lt := lt13) (cv := cv10) (ga := ga) (gp := gp) (gq := (nI j.length, gq1.2.1, gq1.2.2.1, gq1.2.2.2.1, gq1.2.2.2.2.1, gq1.2.2.2.2.2.1, cb)) (gh := gh2) (gw := gw3) (gu := (gu4.1, gu4.2.1, nI lt13.length)) (gv := (nI (evCnt false ev), nI (evCnt true ev), bt61, pl62, lf63, (plO j ev).2.2.1.isSome, gv5.2.2.2.2.2.2.1, gv5.2.2.2.2.2.2.2.1, gv5.2.2.2.2.2.2.2.2)) g64 g67 g71 g75 g79 g80 g81 g82 g83 g84 g85 g86 g87 g88 g89 g93 g97 g101 g105 g106 g107 g108 g109 g110 (hj) (⟨hF.1, hF.2.1, hF.2.2.1⟩) (hc) (hes) (hin) (h24) (hok) (hsc) (hF.2.2.2.2)) rfl (fun h111 r112 q113 => ?_)
      obtain ⟨rfl, g114, g115, fx116⟩ := q113
      obtain ⟨hm117, fa118, fb119⟩ := fj_mid fx116
      have fr120 : px_fj 269 1 287 16 h0 hm117 := fj_tr fr37 fa118 (by omega)
      have fr121 : px_fj 269 1 287 16 h0 h111 := fj_tr fr120 fb119 (by omega)
      show px_to 187 53 [some (.ref (269)), some (.int (nI c)), some (.int (nI s)), some (.int (nI k)), some (.int (nI n)), some (.int (nI met))] [.int (bI (ieB (scO j ev (nI ((scL ev s).getD n 0))) ((plO j ev).2.2.1.isSome) lt13))] h111 _
      obtain ⟨la122, lb123, gw124, o1125, sl126, sl2127, lh128, cv129, lo130, lt131, g132, g133, g134, g135, g136, g137, g138, g139, g140, g141, g142, g143, g144, g145, g146, g147, hI148⟩ := id g114
      have hI := hI148
      have hie := ieB_isEq (j := j) (ev := ev) (bits := nI ((scL ev s).getD n 0)) hF.2.2.2.1
      rw [← hpre] at hie
      have g149 : pFL h111 ga gp j cb ev ((plO j ev).2.2.1.isSome) ((plO j ev).2.1) := ⟨(nI j.length, (scO j ev (nI ((scL ev s).getD n 0))).2.2.1.isSome, oI (scO j ev (nI ((scL ev s).getD n 0))).2.2.1, (scO j ev (nI ((scL ev s).getD n 0))).2.2.2, la122, lb123, cb), (nI 0, nI ((scO j ev (nI ((scL ev s).getD n 0))).2.1.length)), gw124, (nI (nAB ev), o1125, nI lt131.length), (nI (evCnt false ev), nI (evCnt true ev), bt61, pl62, lf63, (plO j ev).2.2.1.isSome, gv5.2.2.2.2.2.2.1, gv5.2.2.2.2.2.2.2.1, gv5.2.2.2.2.2.2.2.2), _, _, _, _, _, _, _, _, g132, g133, g134, g135, g136, g137, g138, g139, g140, g141, g115, g142, g143, g144, g145, g146, g147, ⟨hI.1, hI.2.1, hI.2.2.1, hI.2.2.2.1.trans hF.2.2.2.1, hI.2.2.2.2⟩⟩
      refine e_if_ne f_187_53 rfl (fun c_53 => ?_) (fun c_53 => ?_)
      · skip
        have c_53 : (ieB (scO j ev (nI ((scL ev s).getD n 0))) ((plO j ev).2.2.1.isSome) lt13) = true := bI_t c_53
        refine e_iinc (y := nI (n + 1)) (L' := [some (.ref (269)), some (.int (nI c)), some (.int (nI s)), some (.int (nI k)), some (.int (nI (n + 1))), some (.int (nI met))]) f_187_68 rfl (by rw [show Int32.ofInt 1 = nI 1 by decide]; exact (nI_add _ _)) rfl rfl ?_
        refine e_goto f_187_71 ?_
        first | (exfalso; omega) | exact ih (d - 1) (by omega) (n + 1) met h111 (by omega) (hlt) (by rw [unL_s, if_pos (by rw [← hie, hpre]; exact c_53)]; exact q2) (by omega) g149 fr121
      · skip
        have c_53 : (ieB (scO j ev (nI ((scL ev s).getD n 0))) ((plO j ev).2.2.1.isSome) lt13) = false := bI_f' c_53
        refine e_iload f_187_56 rfl rfl ?_
        refine e_iload_n f_187_58 rfl rfl ?_
        refine e_icmp_ne f_187_59 rfl (fun c_59 => ?_) (fun c_59 => ?_)
        · skip
          have c_59 : met ≠ k := cv_ne c_59
          refine e_iinc (y := nI (met + 1)) (L' := [some (.ref (269)), some (.int (nI c)), some (.int (nI s)), some (.int (nI k)), some (.int (nI n)), some (.int (nI (met + 1)))]) f_187_65 rfl (by rw [show Int32.ofInt 1 = nI 1 by decide]; exact (nI_add _ _)) rfl rfl ?_
          refine e_iinc (y := nI (n + 1)) (L' := [some (.ref (269)), some (.int (nI c)), some (.int (nI s)), some (.int (nI k)), some (.int (nI (n + 1))), some (.int (nI (met + 1)))]) f_187_68 rfl (by rw [show Int32.ofInt 1 = nI 1 by decide]; exact (nI_add _ _)) rfl rfl ?_
          refine e_goto f_187_71 ?_
          first | (exfalso; omega) | exact ih (d - 1) (by omega) (n + 1) (met + 1) h111 (by omega) (hlt) (by rw [unL_s, if_neg (by rw [← hie, hpre, c_53]; decide), List.length_append, List.length_singleton, q2]) (by omega) g149 fr121
        · skip
          have c_59 : met = k := cv_nne (by omega) (by omega) c_59
          refine e_iload f_187_62 rfl rfl ?_
          refine e_iret f_187_64 rfl (rfl) ?_
          have hu : unL j ev (n + 1) = unL j ev n ++ [n] := by rw [unL_s, if_neg (by rw [← hie, hpre, c_53]; decide)]
          have hk1 : k < (unL j ev (n + 1)).length := by rw [hu, List.length_append, List.length_singleton]; omega
          have hg : (unL j ev (n + 1)).getD k 0 = n := by rw [hu, getD_ap, if_pos (by omega)]
          have ef : failO j ev s k = nI n := by rw [fail_of (q := n + 1) (Or.inr hk1), hg, if_pos ⟨hk1, hlt⟩]
          rw [ef] at kx
          exact kx h111 g149 fr121

set_option maxRecDepth 20000 in
set_option maxHeartbeats 4000000 in
theorem cc_MD_fail {h : px_H} {tx : List Nat} {j : List St} {xs : List CS3} {c : Int32} {s : Int32} {q : Int32} (H0 : pMD h tx j xs) (p0 : tN j ≤ 2) : px_wp 187 [.ref (269), .int (c), .int (s), .int (q)] h (fun h1 r => r = some (.int (aFail j xs c s q)) ∧ pMD h1 tx j xs ∧ px_fi 269 35 h h1) := by
  have fr0 : px_fi 269 35 h h := fi_rf _ _ _
  show px_to 187 0 [some (.ref (269)), some (.int (c)), some (.int (s)), some (.int (q)), none, none] [] h _
  obtain ⟨gp, gq, gh, gw, gu, gv, jn, sl, sl2, lh, lg, lo, lt, cv, pl, ke, g1, g2, g3, g4, g5, g6, g7, g8, g9, g10, g11, g12, g13, g14, g15, g16, g17, g18, g19, g20, g21, g22, g23, g24, g25, g26, ok⟩ := id H0
  have h8 : xs.length ≤ 8 := ok.2.2.1.1
  have hj6 : j.length ≤ 6 := ok.2.1.1.1
  have htl : tx.length ≤ 500 := pa_len g2
  refine e_aload_n f_187_0 rfl rfl ?_
  refine e_iload_n f_187_1 rfl rfl ?_
  refine e_iload_n f_187_2 rfl rfl ?_
  refine e_callV (As := [.int (c), .int (s)]) (rest := []) f_187_3 rfl rfl rfl (Nat.le_of_ble_eq_true rfl) (Nat.le_of_ble_eq_true rfl) g1 rfl (Nat.le_of_ble_eq_true rfl) (cc_Md_isAsk (c := c) (s := s) (L := nI tx.length) (sn := nI j.length) (xs := xs) (gp := gp) (gq := gq) (gh := gh) (gw := gw) (gu := gu) (gv := gv) g1 (by omega)) rfl (fun h27 r28 q29 => ?_)
  obtain ⟨rfl, qe⟩ := q29
  have qe := qe.symm
  subst qe
  show px_to 187 6 [some (.ref (269)), some (.int (c)), some (.int (s)), some (.int (q)), none, none] [.int (bI (hasC c xs.length && hasC s 4))] h _
  refine e_if_ne f_187_6 rfl (fun c_6 => ?_) (fun c_6 => ?_)
  · skip
    have c_6 : (hasC c xs.length && hasC s 4) = true := bI_t c_6
    have cAk := c_6
    rw [Bool.and_eq_true] at cAk
    obtain ⟨k, hk, hkc⟩ := hasC_t (by omega) cAk.1
    obtain ⟨s0, hs0, hsc⟩ := hasC_t (by omega) cAk.2
    subst hkc
    subst hsc
    have hcx : okC3 (xs.getD k c30) := ok.2.2.1.2 _ (getD_mem _ hk)
    have hab : nAB (xs.getD k c30).1 ≤ 24 := Nat.le_trans (evCnt_sum _) hcx.1
    refine e_iload_n f_187_11 rfl rfl ?_
    refine e_if_ge f_187_12 rfl (fun c_12 => ?_) (fun c_12 => ?_)
    · skip
      obtain ⟨kq, hkq, hkqe⟩ := nn_of (Int32.not_lt.mpr c_12)
      subst hkqe
      obtain ⟨em30, es31, om32, ro33, wn34, g35, g36, g37, g38, g39, g40, g41, g42, g43, g44, hA45⟩ := id g6
      obtain ⟨hA1, hA2, hA3, hA4, hA5⟩ := hA45.2 k hk
      have hAl := hA45.1
      have hel := hcx.1
      have hoe : ∀ e ∈ (xs.getD k c30).1, e.1 < 65536 := fun e he => by have := (hcx.2.1 e he).1; omega
      refine e_aload_n f_187_18 rfl rfl ?_
      refine e_iload_n f_187_19 rfl rfl ?_
      refine e_callV (As := [.int (nI k)]) (rest := []) f_187_20 rfl rfl rfl (Nat.le_of_ble_eq_true rfl) (Nat.le_of_ble_eq_true rfl) g1 rfl (Nat.le_of_ble_eq_true rfl) (cc_Md_inp (c := k) (ev := (xs.getD k c30).1) (em := em30) (es := es31) (ga := (nI tx.length, nI j.length, nI xs.length)) (gp := gp) (gq := gq) (gh := gh) (gw := gw) (gu := gu) (gv := gv) g1 g35 g36 (by omega) (⟨hAl.1, hAl.2.1⟩) (hA1) (hA2) (hcx.1) (hoe)) rfl (fun h46 r47 q48 => ?_)
      obtain ⟨rfl, g49, fx50⟩ := q48
      have fr51 : px_fi 269 35 h h46 := fi_tr fr0 fx50 (by omega)
      show px_to 187 23 [some (.ref (269)), some (.int (nI k)), some (.int (nI s0)), some (.int (nI kq)), none, none] [] h46 _
      refine e_aload_n f_187_23 rfl rfl ?_
      refine e_iload_n f_187_24 rfl rfl ?_
      have g52 : px_pa h46 271 52 6 stS j := pa_fi g3 fx50 (by omega)
      have g53 : px_pa h46 272 52 6 stA j := pa_fi g4 fx50 (by omega)
      have g54 : px_pa h46 273 50 6 stN j := pa_fi g5 fx50 (by omega)
      have g55 : px_pa h46 284 52 6 stS jn := pa_fi g7 fx50 (by omega)
      have g56 : px_pa h46 285 52 6 stA jn := pa_fi g8 fx50 (by omega)
      have g57 : px_pa h46 286 50 6 stN jn := pa_fi g9 fx50 (by omega)
      have g58 : px_pa h46 287 50 3070 Value.int sl := pa_fi g10 fx50 (by omega)
      have g59 : px_pa h46 288 50 3070 Value.int sl2 := pa_fi g11 fx50 (by omega)
      have g60 : px_pa h46 289 54 100 rK lh := pa_fi g12 fx50 (by omega)
      have g61 : px_pa h46 290 50 100 rV lh := pa_fi g13 fx50 (by omega)
      have g62 : px_pa h46 291 50 100 rT lh := pa_fi g14 fx50 (by omega)
      have g63 : px_pa h46 292 54 100 rK lg := pa_fi g15 fx50 (by omega)
      have g64 : px_pa h46 293 50 100 rV lg := pa_fi g16 fx50 (by omega)
      have g65 : px_pa h46 294 50 100 rT lg := pa_fi g17 fx50 (by omega)
      have g66 : px_pa h46 295 50 30 Value.int cv := pa_fi g18 fx50 (by omega)
      have g67 : px_pa h46 296 50 24 vN pl := pa_fi g19 fx50 (by omega)
      have g68 : px_pa h46 274 50 8 vN em30 := pa_fi g35 fx50 (by omega)
      have g69 : px_pa h46 275 52 192 evS es31 := pa_fi g36 fx50 (by omega)
      have g70 : px_pa h46 276 54 192 evK es31 := pa_fi g37 fx50 (by omega)
      have g71 : px_pa h46 277 53 192 evV es31 := pa_fi g38 fx50 (by omega)
      have g72 : px_pa h46 278 53 192 evT es31 := pa_fi g39 fx50 (by omega)
      have g73 : px_pa h46 300 54 100 rK lt := pa_fi g23 fx50 (by omega)
      have g74 : px_pa h46 301 50 100 rV lt := pa_fi g24 fx50 (by omega)
      have g75 : px_pa h46 302 50 100 rT lt := pa_fi g25 fx50 (by omega)
      refine e_callV (As := [.int (nI k)]) (rest := []) f_187_25 rfl rfl rfl (Nat.le_of_ble_eq_true rfl) (Nat.le_of_ble_eq_true rfl) g49 rfl (Nat.le_of_ble_eq_true rfl) (cc_Md_aga (c := k) (ev := (xs.getD k c30).1) (em := em30) (es := es31) (pl := pl) (L := nI tx.length) (cn := nI xs.length) (j := j) (jn := jn) (cb := gq.2.2.2.2.2.2) (sl := sl) (sl2 := sl2) (lh := lh) (lg := lg) (lt := lt) (cv := cv) (tl := cv) (gp := gp) (gq := gq) (gh := gh) (gw := gw) (gu := gu) (gv := (nI (evCnt false ((xs.getD k c30).1)), nI (evCnt true ((xs.getD k c30).1)), gv.2.2.1, gv.2.2.2.1, gv.2.2.2.2.1, gv.2.2.2.2.2.1, gv.2.2.2.2.2.2.1, gv.2.2.2.2.2.2.2.1, gv.2.2.2.2.2.2.2.2)) g49 g52 g53 g54 g55 g56 g57 g58 g59 g60 g61 g62 g63 g64 g65 g66 g67 g68 g69 g70 g71 g72 g73 g74 g75 (okB_okZ ok.2.1 p0) (ok.2.2.2.1) (by omega) (⟨hAl.1, hAl.2.1⟩) (hA2) (hcx.1) (hcx.2.1) (hA1) (⟨ok.2.2.2.1.2.2, fun _ => rfl⟩)) rfl (fun h76 r77 q78 => ?_)
      obtain ⟨rfl, g79, g80, g81, g82, g83, g84, g85, g86, fx87⟩ := q78
      obtain ⟨hm88, fa89, fb90⟩ := fl_mid fx87
      have fr91 : px_fi 269 35 h hm88 := fi_tr fr51 fa89 (by omega)
      obtain ⟨hm92, fa93, fb94⟩ := fl_mid fb90
      have fr95 : px_fi 269 35 h hm92 := fi_tr fr91 fa93 (by omega)
      have fb96 := fl_one fb94
      have fr97 : px_fi 269 35 h h76 := fi_tr fr95 fb96 (by omega)
      show px_to 187 28 [some (.ref (269)), some (.int (nI k)), some (.int (nI s0)), some (.int (nI kq)), none, none] [] h76 _
      obtain ⟨la98, lb99, gw100, sl101, sl2102, lh103, cv104, g105, g106, g107, g108, g109, g110, g111, g112, g113, g114, hO115⟩ := id g83
      have hO := hO115
      have hOl := hO.1
      have hrr := runO_ok ok.2.1.1 (evs_ok (ps := evPl (xs.getD k c30).1 0) (fun p hp => by have := evPl_lt (xs.getD k c30).1 0 p hp; omega) hcx.2.1)
      have hrok : ∀ x ∈ (plO j (xs.getD k c30).1).2.1, rwOk x := hrr.1
      have g116 : px_pa h46 297 54 100 rK lo := pa_fi g20 fx50 (by omega)
      have g117 : px_pa hm88 297 54 100 rK lo := pa_fi g116 fa89 (by omega)
      have g118 : px_pa hm92 297 54 100 rK lo := pa_fi g117 fa93 (by omega)
      have g119 : px_pa h76 297 54 100 rK lo := pa_fi g118 fb96 (by omega)
      have g120 : px_pa h46 298 50 100 rV lo := pa_fi g21 fx50 (by omega)
      have g121 : px_pa hm88 298 50 100 rV lo := pa_fi g120 fa89 (by omega)
      have g122 : px_pa hm92 298 50 100 rV lo := pa_fi g121 fa93 (by omega)
      have g123 : px_pa h76 298 50 100 rV lo := pa_fi g122 fb96 (by omega)
      have g124 : px_pa h46 299 50 100 rT lo := pa_fi g22 fx50 (by omega)
      have g125 : px_pa hm88 299 50 100 rT lo := pa_fi g124 fa89 (by omega)
      have g126 : px_pa hm92 299 50 100 rT lo := pa_fi g125 fa93 (by omega)
      have g127 : px_pa h76 299 50 100 rT lo := pa_fi g126 fb96 (by omega)
      have g128 : pFL h76 (nI tx.length, nI j.length, nI xs.length) gp j gq.2.2.2.2.2.2 ((xs.getD k c30).1) ((plO j (xs.getD k c30).1).2.2.1.isSome) ((plO j (xs.getD k c30).1).2.1) := ⟨(nI j.length, (plO j ((xs.getD k c30).1)).2.2.1.isSome, oI (plO j ((xs.getD k c30).1)).2.2.1, (plO j ((xs.getD k c30).1)).2.2.2, la98, lb99, gq.2.2.2.2.2.2), (nI 0, nI ((plO j ((xs.getD k c30).1)).2.1.length)), gw100, (nI (evPl ((xs.getD k c30).1) 0).length, gu.2.1, nI (plO j ((xs.getD k c30).1)).2.1.length), (nI (evCnt false ((xs.getD k c30).1)), nI (evCnt true ((xs.getD k c30).1)), gv.2.2.1, gv.2.2.2.1, gv.2.2.2.2.1, (plO j ((xs.getD k c30).1)).2.2.1.isSome, gv.2.2.2.2.2.2.1, gv.2.2.2.2.2.2.2.1, gv.2.2.2.2.2.2.2.2), _, _, _, _, _, _, _, _, g105, g106, g107, g108, g109, g110, g111, g112, g113, g114, g82, g119, g123, g127, g84, g85, g86, ⟨hO.1, hO.2.1, hO.2.2.1, rfl, hrok⟩⟩
      refine e_iconst (v := nI 0) f_187_28 (by decide) rfl ?_
      refine e_istore (L' := [some (.ref (269)), some (.int (nI k)), some (.int (nI s0)), some (.int (nI kq)), some (.int (nI 0)), none]) f_187_29 (Nat.le_of_ble_eq_true rfl) rfl rfl ?_
      refine e_iconst (v := nI 0) f_187_31 (by decide) rfl ?_
      refine e_istore (L' := [some (.ref (269)), some (.int (nI k)), some (.int (nI s0)), some (.int (nI kq)), some (.int (nI 0)), some (.int (nI 0))]) f_187_32 (Nat.le_of_ble_eq_true rfl) rfl rfl ?_
      have g129 : px_pa hm88 275 52 192 evS es31 := pa_fi g69 fa89 (by omega)
      have g130 : px_pa hm92 275 52 192 evS es31 := pa_fi g129 fa93 (by omega)
      have g131 : px_pa h76 275 52 192 evS es31 := pa_fi g130 fb96 (by omega)
      have g132 : px_pa hm88 276 54 192 evK es31 := pa_fi g70 fa89 (by omega)
      have g133 : px_pa hm92 276 54 192 evK es31 := pa_fi g132 fa93 (by omega)
      have g134 : px_pa h76 276 54 192 evK es31 := pa_fi g133 fb96 (by omega)
      have g135 : px_pa hm88 277 53 192 evV es31 := pa_fi g71 fa89 (by omega)
      have g136 : px_pa hm92 277 53 192 evV es31 := pa_fi g135 fa93 (by omega)
      have g137 : px_pa h76 277 53 192 evV es31 := pa_fi g136 fb96 (by omega)
      have g138 : px_pa hm88 278 53 192 evT es31 := pa_fi g72 fa89 (by omega)
      have g139 : px_pa hm92 278 53 192 evT es31 := pa_fi g138 fa93 (by omega)
      have g140 : px_pa h76 278 53 192 evT es31 := pa_fi g139 fb96 (by omega)
      have hsl : (scL (xs.getD k c30).1 s0).length ≤ 266 := Nat.le_trans (schU_mono (by omega)) (schU_len hab)
      refine ll_MD_fail (h0 := h76) (c := k) (s := s0) (k := kq) g131 g134 g137 g140 g79 g80 g81 (okB_okZ ok.2.1 p0) hab hs0 (by omega) hAl.2.1 hA2 hcx.1 hcx.2.1 hkq (fun hG2 z0 zf => ?_) 300 0 0 h76 (by omega) (Nat.zero_le _) rfl (Nat.zero_le _) g128 (fj_rf _ _ _ _ _)
      obtain ⟨hm2, fa2, fb2⟩ := fj_mid zf
      have fr141 : px_fi 269 35 h hm2 := fi_tr fr97 fa2 (by omega)
      have fr142 : px_fi 269 35 h hG2 := fi_tr fr141 fb2 (by omega)
      obtain ⟨gq143, gh144, gw145, gu146, gv147, sl148, sl2149, lh150, lg151, cv152, pl153, lo154, lt155, g156, g157, g158, g159, g160, g161, g162, g163, g164, g165, g166, g167, g168, g169, g170, g171, g172, hF173⟩ := id z0
      have hF := hF173
      have g174 : px_pa hm88 274 50 8 vN em30 := pa_fi g68 fa89 (by omega)
      have g175 : px_pa hm92 274 50 8 vN em30 := pa_fi g174 fa93 (by omega)
      have g176 : px_pa h76 274 50 8 vN em30 := pa_fi g175 fb96 (by omega)
      have g177 : px_pa hm2 274 50 8 vN em30 := pa_fi g176 fa2 (by omega)
      have g178 : px_pa hG2 274 50 8 vN em30 := pa_fi g177 fb2 (by omega)
      have g179 : px_pa hm2 275 52 192 evS es31 := pa_fi g131 fa2 (by omega)
      have g180 : px_pa hG2 275 52 192 evS es31 := pa_fi g179 fb2 (by omega)
      have g181 : px_pa hm2 276 54 192 evK es31 := pa_fi g134 fa2 (by omega)
      have g182 : px_pa hG2 276 54 192 evK es31 := pa_fi g181 fb2 (by omega)
      have g183 : px_pa hm2 277 53 192 evV es31 := pa_fi g137 fa2 (by omega)
      have g184 : px_pa hG2 277 53 192 evV es31 := pa_fi g183 fb2 (by omega)
      have g185 : px_pa hm2 278 53 192 evT es31 := pa_fi g140 fa2 (by omega)
      have g186 : px_pa hG2 278 53 192 evT es31 := pa_fi g185 fb2 (by omega)
      have g187 : px_pa h46 279 50 8 vN om32 := pa_fi g40 fx50 (by omega)
      have g188 : px_pa hm88 279 50 8 vN om32 := pa_fi g187 fa89 (by omega)
      have g189 : px_pa hm92 279 50 8 vN om32 := pa_fi g188 fa93 (by omega)
      have g190 : px_pa h76 279 50 8 vN om32 := pa_fi g189 fb96 (by omega)
      have g191 : px_pa hm2 279 50 8 vN om32 := pa_fi g190 fa2 (by omega)
      have g192 : px_pa hG2 279 50 8 vN om32 := pa_fi g191 fb2 (by omega)
      have g193 : px_pa h46 280 54 128 rK ro33 := pa_fi g41 fx50 (by omega)
      have g194 : px_pa hm88 280 54 128 rK ro33 := pa_fi g193 fa89 (by omega)
      have g195 : px_pa hm92 280 54 128 rK ro33 := pa_fi g194 fa93 (by omega)
      have g196 : px_pa h76 280 54 128 rK ro33 := pa_fi g195 fb96 (by omega)
      have g197 : px_pa hm2 280 54 128 rK ro33 := pa_fi g196 fa2 (by omega)
      have g198 : px_pa hG2 280 54 128 rK ro33 := pa_fi g197 fb2 (by omega)
      have g199 : px_pa h46 281 53 128 rV ro33 := pa_fi g42 fx50 (by omega)
      have g200 : px_pa hm88 281 53 128 rV ro33 := pa_fi g199 fa89 (by omega)
      have g201 : px_pa hm92 281 53 128 rV ro33 := pa_fi g200 fa93 (by omega)
      have g202 : px_pa h76 281 53 128 rV ro33 := pa_fi g201 fb96 (by omega)
      have g203 : px_pa hm2 281 53 128 rV ro33 := pa_fi g202 fa2 (by omega)
      have g204 : px_pa hG2 281 53 128 rV ro33 := pa_fi g203 fb2 (by omega)
      have g205 : px_pa h46 282 53 128 rT ro33 := pa_fi g43 fx50 (by omega)
      have g206 : px_pa hm88 282 53 128 rT ro33 := pa_fi g205 fa89 (by omega)
      have g207 : px_pa hm92 282 53 128 rT ro33 := pa_fi g206 fa93 (by omega)
      have g208 : px_pa h76 282 53 128 rT ro33 := pa_fi g207 fb96 (by omega)
      have g209 : px_pa hm2 282 53 128 rT ro33 := pa_fi g208 fa2 (by omega)
      have g210 : px_pa hG2 282 53 128 rT ro33 := pa_fi g209 fb2 (by omega)
      have g211 : px_pa h46 283 52 8 vN wn34 := pa_fi g44 fx50 (by omega)
      have g212 : px_pa hm88 283 52 8 vN wn34 := pa_fi g211 fa89 (by omega)
      have g213 : px_pa hm92 283 52 8 vN wn34 := pa_fi g212 fa93 (by omega)
      have g214 : px_pa h76 283 52 8 vN wn34 := pa_fi g213 fb96 (by omega)
      have g215 : px_pa hm2 283 52 8 vN wn34 := pa_fi g214 fa2 (by omega)
      have g216 : px_pa hG2 283 52 8 vN wn34 := pa_fi g215 fb2 (by omega)
      have g217 : pMA hG2 xs := ⟨_, _, _, _, _, g178, g180, g182, g184, g186, g192, g198, g204, g210, g216, hA45⟩
      have g218 : px_pa h46 270 52 500 vN tx := pa_fi g2 fx50 (by omega)
      have g219 : px_pa hm88 270 52 500 vN tx := pa_fi g218 fa89 (by omega)
      have g220 : px_pa hm92 270 52 500 vN tx := pa_fi g219 fa93 (by omega)
      have g221 : px_pa h76 270 52 500 vN tx := pa_fi g220 fb96 (by omega)
      have g222 : px_pa hm2 270 52 500 vN tx := pa_fi g221 fa2 (by omega)
      have g223 : px_pa hG2 270 52 500 vN tx := pa_fi g222 fb2 (by omega)
      have g224 : px_pa hm88 271 52 6 stS j := pa_fi g52 fa89 (by omega)
      have g225 : px_pa hm92 271 52 6 stS j := pa_fi g224 fa93 (by omega)
      have g226 : px_pa h76 271 52 6 stS j := pa_fi g225 fb96 (by omega)
      have g227 : px_pa hm2 271 52 6 stS j := pa_fi g226 fa2 (by omega)
      have g228 : px_pa hG2 271 52 6 stS j := pa_fi g227 fb2 (by omega)
      have g229 : px_pa hm88 272 52 6 stA j := pa_fi g53 fa89 (by omega)
      have g230 : px_pa hm92 272 52 6 stA j := pa_fi g229 fa93 (by omega)
      have g231 : px_pa h76 272 52 6 stA j := pa_fi g230 fb96 (by omega)
      have g232 : px_pa hm2 272 52 6 stA j := pa_fi g231 fa2 (by omega)
      have g233 : px_pa hG2 272 52 6 stA j := pa_fi g232 fb2 (by omega)
      have g234 : px_pa hm88 273 50 6 stN j := pa_fi g54 fa89 (by omega)
      have g235 : px_pa hm92 273 50 6 stN j := pa_fi g234 fa93 (by omega)
      have g236 : px_pa h76 273 50 6 stN j := pa_fi g235 fb96 (by omega)
      have g237 : px_pa hm2 273 50 6 stN j := pa_fi g236 fa2 (by omega)
      have g238 : px_pa hG2 273 50 6 stN j := pa_fi g237 fb2 (by omega)
      have g239 : px_pa hm2 284 52 6 stS j := pa_fi g79 fa2 (by omega)
      have g240 : px_pa hG2 284 52 6 stS j := pa_fi g239 fb2 (by omega)
      have g241 : px_pa hm2 285 52 6 stA j := pa_fi g80 fa2 (by omega)
      have g242 : px_pa hG2 285 52 6 stA j := pa_fi g241 fb2 (by omega)
      have g243 : px_pa hm2 286 50 6 stN j := pa_fi g81 fa2 (by omega)
      have g244 : px_pa hG2 286 50 6 stN j := pa_fi g243 fb2 (by omega)
      have g245 : px_pa h46 303 50 24 vN ke := pa_fi g26 fx50 (by omega)
      have g246 : px_pa hm88 303 50 24 vN ke := pa_fi g245 fa89 (by omega)
      have g247 : px_pa hm92 303 50 24 vN ke := pa_fi g246 fa93 (by omega)
      have g248 : px_pa h76 303 50 24 vN ke := pa_fi g247 fb96 (by omega)
      have g249 : px_pa hm2 303 50 24 vN ke := pa_fi g248 fa2 (by omega)
      have g250 : px_pa hG2 303 50 24 vN ke := pa_fi g249 fb2 (by omega)
      have g251 : pMD hG2 tx j xs := ⟨gp, (nI j.length, gq143.2.1, gq143.2.2.1, gq143.2.2.2.1, gq143.2.2.2.2.1, gq143.2.2.2.2.2.1, gq.2.2.2.2.2.2), gh144, gw145, (gu146.1, gu146.2.1, nI lt155.length), (nI (evCnt false ((xs.getD k c30).1)), nI (evCnt true ((xs.getD k c30).1)), gv147.2.2.1, gv147.2.2.2.1, gv147.2.2.2.2.1, (plO j (xs.getD k c30).1).2.2.1.isSome, gv147.2.2.2.2.2.2.1, gv147.2.2.2.2.2.2.2.1, gv147.2.2.2.2.2.2.2.2), j, sl148, sl2149, lh150, lg151, lo154, lt155, cv152, pl153, ke, g156, g223, g228, g233, g238, g217, g240, g242, g244, g157, g158, g159, g160, g161, g162, g163, g164, g165, g166, g167, g168, g169, g170, g171, g172, g250, ⟨ok.1, ok.2.1, ok.2.2.1, ⟨hF.1, hF.2.1, hF.2.2.1⟩, ok.2.2.2.2⟩⟩
      exact ⟨congrArg (fun z => some (Value.int z)) (show failO j (xs.getD k c30).1 s0 kq = _ from by unfold aFail; rw [if_pos (hasC_nI (by omega) hs0), onC_k h8 hk, if_neg (Int32.not_lt.mpr (nI_ge0 hkq)), nN_nI (show s0 < 2147483648 by omega), nN_nI hkq]), g251, fr142⟩
    · skip
      refine e_bipush (v := (-3)) f_187_15 (by decide) rfl ?_
      refine e_iret f_187_17 rfl (rfl) ?_
      have g252 : pMD h tx j xs := ⟨gp, gq, gh, gw, gu, gv, jn, sl, sl2, lh, lg, lo, lt, cv, pl, ke, g1, g2, g3, g4, g5, g6, g7, g8, g9, g10, g11, g12, g13, g14, g15, g16, g17, g18, g19, g20, g21, g22, g23, g24, g25, g26, ok⟩
      exact ⟨congrArg (fun z => some (Value.int z)) (show (-3) = _ from by unfold aFail; rw [if_pos (hasC_nI (by omega) hs0), onC_k h8 hk, if_pos (Int32.not_le.mp c_12)]), g252, fr0⟩
  · skip
    have c_6 : (hasC c xs.length && hasC s 4) = false := bI_f' c_6
    refine e_iconst (v := (-1)) f_187_9 (by decide) rfl ?_
    refine e_iret f_187_10 rfl (rfl) ?_
    have g253 : pMD h tx j xs := ⟨gp, gq, gh, gw, gu, gv, jn, sl, sl2, lh, lg, lo, lt, cv, pl, ke, g1, g2, g3, g4, g5, g6, g7, g8, g9, g10, g11, g12, g13, g14, g15, g16, g17, g18, g19, g20, g21, g22, g23, g24, g25, g26, ok⟩
    exact ⟨congrArg (fun z => some (Value.int z)) (show (-1) = _ from by unfold aFail; rcases Bool.and_eq_false_iff.mp c_6 with z | z; rw [show onC xs c _ = -1 from onC_no z, ite_self]; rw [if_neg (by rw [z]; decide)]), g253, fr0⟩
