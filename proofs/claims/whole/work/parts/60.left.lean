theorem px_ints_map : ∀ xs : List Int32, px_ints (xs.map Value.int) = some xs
  | [] => rfl
  | x :: r => by rw [List.map_cons, px_ints, px_ints_map r]; rfl
theorem px_cpy_all {xs ys : List Int32} (lx : xs.length = 30) (ly : ys.length = 30) : px_cpy xs ys 0 0 30 = xs := by
  unfold px_cpy
  apply List.ext_getElem
  · rw [List.length_map, List.length_range, lx, ly]
  · intro i h1 h2
    rw [List.getElem_map, List.getElem_range, if_pos ⟨Nat.zero_le _, by omega⟩, Nat.zero_add, Nat.sub_zero, getD_lt 0 h2]
theorem pa_all {h : px_H} {a : Nat} {xs : List Int32} (p : px_pa h a 50 30 Value.int xs) (lx : xs.length = 30) : h.2.2 a = some (50, xs.map Value.int) := by
  obtain ⟨_, ws, h1, h2⟩ := p
  have : ws = [] := List.length_eq_zero_iff.mp (by omega)
  subst this
  rw [h1, List.append_nil]
theorem e_acp_p {m pc pc' ln a0 idx a b : Nat} {v0 : Value} {L : px_L} {st : List Value} {h : px_H} {P : px_H → Option Value → Prop} {xs ys : List Int32} (hf : px_at m pc = some (.invokestatic idx, ln, a0, 16, v0)) (ha : px_pa h a 50 30 Value.int xs) (hb : px_pa h b 50 30 Value.int ys) (lx : xs.length = 30) (ly : ys.length = 30) (h17 : 17 ≤ a ∧ 17 ≤ b ∧ a ≠ b) (hs : px_sum st ≤ 8) (hp : pc + 3 = pc') (k : ∀ h', px_pa h' b 50 30 Value.int xs → px_fi b 1 h h' → px_to m pc' L st h' P) : px_to m pc L (.int (nI 30) :: .int (nI 0) :: .ref b :: .int (nI 0) :: .ref a :: st) h P := by
  have k2 := k (px_set h b (50, xs.map Value.int)) ⟨by decide, [], by rw [px_set_at, List.append_nil], by rw [lx]; rfl⟩ (fi_set _ _ _)
  refine to_of (fun _ k => ev_hop hf rfl rfl rfl rfl ?_ hp k) k2
  show px_acp h (.int (nI 30) :: .int (nI 0) :: .ref b :: .int (nI 0) :: .ref a :: st) = _
  unfold px_acp
  dsimp only
  rw [pa_all ha lx, pa_all hb ly]
  dsimp only
  rw [px_ints_map, px_ints_map]
  dsimp only
  rw [if_pos ⟨rfl, rfl, h17.1, h17.2.1, h17.2.2, by decide, by decide, by decide, by rw [lx]; decide, by rw [ly]; decide, hs⟩]
  rw [show (nI 0).toNatClampNeg = 0 by decide, show (nI 30).toNatClampNeg = 30 by decide, px_cpy_all lx ly]
theorem okJT_woE {tx : List Nat} {j : List St} {cs : List CT7} {S D : Nat} {kk ck : Bool} {wo wo2 : Int32} {x x2 : RO} {kl cv : List Int32} (h : okJT tx j cs S D kk ck wo x kl cv) (h2 : wo2 = -3 ∨ (wo2 = wo ∧ x2 = x)) : okJT tx j cs S D kk ck wo2 x2 kl cv := by
  rcases h2 with z | ⟨z, z2⟩
  · refine okJT_wo h (fun c hc e => absurd (z.symm.trans e).symm (nI_m3 (by have := h.2.2.2.1.1; omega)))
  · subst z
    subst z2
    exact h
theorem shK_ok {j : List St} {x : CS3} {kept : List Nat} : shK j x = -4 ∨ (shK j x = -2 ∧ shL j x = none) ∨ (shK j x = nI (shP j x kept).length ∧ shL j x = some (shP j x kept)) := by
  unfold shK shP
  cases h : shL j x with
  | none => exact Or.inr (Or.inl ⟨rfl, rfl⟩)
  | some l => exact Or.inr (Or.inr ⟨rfl, rfl⟩)
def aShr (j : List St) (xs : List CS3) (c : Int32) : Int32 := onC xs c (fun x => shK j x)
def lefO (o : Option (List Nat)) (i : Int32) : Int32 := match o with
  | none => -2
  | some l => atL l i
def aLeft (j : List St) (xs : List CS3) (c i : Int32) : Int32 := onC xs c (fun x => lefO (shL j x) i)

set_option maxRecDepth 20000 in
set_option maxHeartbeats 4000000 in
theorem cc_JT_shr {h : px_H} {tx : List Nat} {j : List St} {xs : List CS3} {c : Int32} (H0 : pJT h tx j xs)  : px_wp 102 [.ref (17), .int (c)] h (fun h1 r => r = some (.int (aShr j xs c)) ∧ pJT h1 tx j xs ∧ px_fi 17 252 h h1) := by
  have fr0 : px_fi 17 252 h h := fi_rf _ _ _
  show px_to 102 0 [some (.ref (17)), some (.int (c))] [] h _
  obtain ⟨cs, S, D, pz, kk, ck, wo, xr, kl, cv, g1, g2, g3, g4, g5, g6, g7, g8, g9, g10, g11, g12, g13, g14, g15, g16, g17, g18, g19, g20, g21, g22, g23, g24, g25, hx, ok⟩ := id H0
  subst hx
  have h8 := ok.2.2.2.1.1
  have hS : 18 < S ∧ S + 78 ≤ 175 := by have := ok.1; omega
  have hD : 18 < D ∧ D + 78 ≤ 175 := by have := ok.1; omega
  have hSD : D + 78 ≤ S ∨ S + 78 ≤ D := by have := ok.1; omega
  have h8m : (cs.map c3of).length ≤ 8 := by rw [List.length_map]; exact h8
  have htl : tx.length ≤ 500 := pa_len g2
  refine e_aload_n f_102_0 rfl rfl ?_
  refine e_iload_n f_102_1 rfl rfl ?_
  refine e_callV (As := [.int (c)]) (rest := []) f_102_2 rfl rfl rfl (Nat.le_of_ble_eq_true rfl) (Nat.le_of_ble_eq_true rfl) g1 rfl (Nat.le_of_ble_eq_true rfl) (cc_JT_has (c := c) (L := tx.length) (S := S) (D := D) (n := cs.length) (pz := pz) (kk := kk) (ck := ck) g1 g3 (by omega)) rfl (fun h26 r27 q28 => ?_)
  obtain ⟨rfl, qe⟩ := q28
  have qe := qe.symm
  subst qe
  show px_to 102 5 [some (.ref (17)), some (.int (c))] [.int (bI (hasC c cs.length))] h _
  refine e_if_ne f_102_5 rfl (fun c_5 => ?_) (fun c_5 => ?_)
  · skip
    have c_5 : (hasC c cs.length) = true := bI_t c_5
    obtain ⟨k, hk, hkc⟩ := hasC_t (by omega) c_5
    subst hkc
    have hkm : k < (cs.map c3of).length := by rw [List.length_map]; exact hk
    have g29 : pCase h (S + 9 * k + 6) ((cs.getD k ct0).1) ((cs.getD k ct0).2.1) ((cs.getD k ct0).2.2.1) ((cs.getD k ct0).2.2.2.1) ((cs.getD k ct0).2.2.2.2.1) ((cs.getD k ct0).2.2.2.2.2.1) ((cs.getD k ct0).2.2.2.2.2.2) := (pCs_get (k := k) g6 (by omega) hk).1
    have hct : okK j (cs.getD k ct0) := ok.2.2.2.1.2 _ (getD_mem _ hk)
    obtain ⟨g30, g31⟩ := pCs_get (k := k) g6 (by omega) hk
    have g32 : pCase h (S + 9 * k + 6) ((cs.getD k ct0).1) ((cs.getD k ct0).2.1) ((cs.getD k ct0).2.2.1) ((cs.getD k ct0).2.2.2.1) ((cs.getD k ct0).2.2.2.2.1) ((cs.getD k ct0).2.2.2.2.2.1) ((cs.getD k ct0).2.2.2.2.2.2) := g30
    refine e_aload_n f_102_10 rfl rfl ?_
    refine e_aload_n f_102_11 rfl rfl ?_
    refine e_getf f_102_12 g1 rfl rfl ?_
    refine e_getf f_102_15 g3 rfl rfl ?_
    refine e_iload_n f_102_18 rfl rfl ?_
    refine e_aaload_r f_102_19 (by decide) g5 (by first | omega | (simp only [List.length_set]; omega)) (by decide) rfl ?_
    show px_to 102 20 [some (.ref (17)), some (.int (nI k))] [.ref (S + 9 * k + 6), .ref (17)] h _
    refine e_callV (As := [.ref (S + 9 * k + 6)]) (rest := []) f_102_20 rfl rfl rfl (Nat.le_of_ble_eq_true rfl) (Nat.le_of_ble_eq_true rfl) g1 rfl (Nat.le_of_ble_eq_true rfl) (cc_JT_shc (L := tx.length) (S := S) (D := D) (n := cs.length) (pz := pz) (kk := kk) (cf := ck) (j := j) (wo := wo) (x := xr) (a := S + 9 * k + 6) (ev := (cs.getD k ct0).1) (told := (cs.getD k ct0).2.1) (os := (cs.getD k ct0).2.2.1) (ks := (cs.getD k ct0).2.2.2.1) (kept := (cs.getD k ct0).2.2.2.2.1) (ck := (cs.getD k ct0).2.2.2.2.2.1) (un := (cs.getD k ct0).2.2.2.2.2.2) g9 g11 g12 g10 g32 g1 g3 g4 (ok.2.2.1.1) (hct.1.2.1) (hS) (by omega) (by omega) (hct.1) (hct.2.2.2)) rfl (fun h33 r34 q35 => ?_)
    obtain ⟨rfl, g36, g37, g38, g39, g40, fx41⟩ := q35
    obtain ⟨hm42, fa43, fb44⟩ := fj_mid fx41
    have fr45 : px_fi 17 252 h hm42 := fi_tr fr0 fa43 (by omega)
    have fr46 : px_fi 17 252 h h33 := fi_tr fr45 fb44 (by omega)
    show px_to 102 23 [some (.ref (17)), some (.int (nI k))] [] h33 _
    refine e_aload_n f_102_23 rfl rfl ?_
    have g47 : hm42.2.2 17 = some (11, [.ref (18), .int (nI tx.length), .ref (S), .ref (D), .ref (175), .ref (177), .ref (249), .ref (254), .ref (256), .ref (258), .ref (261), .ref (265), .int (bI pz), .ref (267), .int (bI kk), .ref (268), .int (bI ck)]) := fi_at g1 fa43 (by omega)
    have g48 : h33.2.2 17 = some (11, [.ref (18), .int (nI tx.length), .ref (S), .ref (D), .ref (175), .ref (177), .ref (249), .ref (254), .ref (256), .ref (258), .ref (261), .ref (265), .int (bI pz), .ref (267), .int (bI kk), .ref (268), .int (bI ck)]) := fi_at g47 fb44 (by omega)
    refine e_getf f_102_24 g48 rfl rfl ?_
    have g49 : hm42.2.2 S = some (8, [.ref (S + 1), .ref (S + 5), .int (nI cs.length)]) := fi_at g3 fa43 (by omega)
    have g50 : h33.2.2 S = some (8, [.ref (S + 1), .ref (S + 5), .int (nI cs.length)]) := fi_at g49 fb44 (by omega)
    refine e_getf f_102_27 g50 rfl rfl ?_
    refine e_iload_n f_102_30 rfl rfl ?_
    have g51 : px_rs hm42 (S + 5) 56 8 (fun k => S + 9 * k + 6) := rs_fi g5 fa43 (by omega)
    have g52 : px_rs h33 (S + 5) 56 8 (fun k => S + 9 * k + 6) := rs_fi g51 fb44 (by omega)
    refine e_aaload_r f_102_31 (by decide) g52 (by first | omega | (simp only [List.length_set]; omega)) (by decide) rfl ?_
    show px_to 102 32 [some (.ref (17)), some (.int (nI k))] [.ref (S + 9 * k + 6)] h33 _
    refine e_getf f_102_32 g40.1 rfl rfl ?_
    refine e_iret f_102_35 rfl (rfl) ?_
    obtain ⟨wo53, xo54, g55, hwo56⟩ := id g36
    have ok2 := okJT_woE ok hwo56
    have g57 : pCsx hm42 S cs k := pCsx_fi g31 fa43 (by omega)
    have g58 : pCsx h33 S cs k := pCsx_fi g57 fb44 (by omega)
    have g59 : pCs h33 S (cs.set k ((cs.getD k ct0).1, (cs.getD k ct0).2.1, (cs.getD k ct0).2.2.1, shK j ((cs.getD k ct0).1, (cs.getD k ct0).2.1, (cs.getD k ct0).2.2.1), shP j ((cs.getD k ct0).1, (cs.getD k ct0).2.1, (cs.getD k ct0).2.2.1) (cs.getD k ct0).2.2.2.2.1, (cs.getD k ct0).2.2.2.2.2.1, (cs.getD k ct0).2.2.2.2.2.2)) := pCs_in g58 (t := ((cs.getD k ct0).1, (cs.getD k ct0).2.1, (cs.getD k ct0).2.2.1, shK j ((cs.getD k ct0).1, (cs.getD k ct0).2.1, (cs.getD k ct0).2.2.1), shP j ((cs.getD k ct0).1, (cs.getD k ct0).2.1, (cs.getD k ct0).2.2.1) (cs.getD k ct0).2.2.2.2.1, (cs.getD k ct0).2.2.2.2.2.1, (cs.getD k ct0).2.2.2.2.2.2)) g40
    have g60 : h33.2.2 S = some (8, [.ref (S + 1), .ref (S + 5), .int (nI ((cs.set k ((cs.getD k ct0).1, (cs.getD k ct0).2.1, (cs.getD k ct0).2.2.1, shK j ((cs.getD k ct0).1, (cs.getD k ct0).2.1, (cs.getD k ct0).2.2.1), shP j ((cs.getD k ct0).1, (cs.getD k ct0).2.1, (cs.getD k ct0).2.2.1) (cs.getD k ct0).2.2.2.2.1, (cs.getD k ct0).2.2.2.2.2.1, (cs.getD k ct0).2.2.2.2.2.2)).length))]) := by rw [List.length_set]; exact g50
    have okt : okK j ((cs.getD k ct0).1, (cs.getD k ct0).2.1, (cs.getD k ct0).2.2.1, shK j ((cs.getD k ct0).1, (cs.getD k ct0).2.1, (cs.getD k ct0).2.2.1), shP j ((cs.getD k ct0).1, (cs.getD k ct0).2.1, (cs.getD k ct0).2.2.1) (cs.getD k ct0).2.2.2.2.1, (cs.getD k ct0).2.2.2.2.2.1, (cs.getD k ct0).2.2.2.2.2.2) := ⟨hct.1, hct.2.1, hct.2.2.1, shK_ok⟩
    have ok3 := okJT_set ok2 hk okt rfl
    have g61 : px_pa hm42 18 52 500 vN tx := pa_fi g2 fa43 (by omega)
    have g62 : px_pa h33 18 52 500 vN tx := pa_fi g61 fb44 (by omega)
    have g63 : pJob hm42 (S + 1) j := pJob_fi g4 fa43 (by omega)
    have g64 : pJob h33 (S + 1) j := pJob_fi g63 fb44 (by omega)
    have g65 : pDr hm42 D := pDr_fi g7 fa43 (by omega)
    have g66 : pDr h33 D := pDr_fi g65 fb44 (by omega)
    have g67 : pRA hm42 := pRA_fi g8 fa43 (by omega)
    have g68 : pRA h33 := pRA_fi g67 fb44 (by omega)
    have g69 : pSc hm42 := pSc_fi g13 fa43 (by omega)
    have g70 : pSc h33 := pSc_fi g69 fb44 (by omega)
    have g71 : pJA hm42 261 := pJA_fi g14 fa43 (by omega)
    have g72 : pJA h33 261 := pJA_fi g71 fb44 (by omega)
    have g73 : pRwA hm42 265 := pRwA_fi g15 fa43 (by omega)
    have g74 : pRwA h33 265 := pRwA_fi g73 fb44 (by omega)
    have g75 : px_pa hm42 267 50 30 Value.int kl := pa_fi g16 fa43 (by omega)
    have g76 : px_pa h33 267 50 30 Value.int kl := pa_fi g75 fb44 (by omega)
    have g77 : px_pa hm42 268 50 30 Value.int cv := pa_fi g17 fa43 (by omega)
    have g78 : px_pa h33 268 50 30 Value.int cv := pa_fi g77 fb44 (by omega)
    have g79 : pStr hm42 1 ([60, 61, 62]) := pStr_fi g18 fa43 (by omega)
    have g80 : pStr h33 1 ([60, 61, 62]) := pStr_fi g79 fb44 (by omega)
    have g81 : pStr hm42 2 ([43, 45, 42, 47]) := pStr_fi g19 fa43 (by omega)
    have g82 : pStr h33 2 ([43, 45, 42, 47]) := pStr_fi g81 fb44 (by omega)
    have g83 : pStr hm42 3 stepSigns := pStr_fi g20 fa43 (by omega)
    have g84 : pStr h33 3 stepSigns := pStr_fi g83 fb44 (by omega)
    have g85 : pStr hm42 4 ([60, 61, 62]) := pStr_fi g21 fa43 (by omega)
    have g86 : pStr h33 4 ([60, 61, 62]) := pStr_fi g85 fb44 (by omega)
    have g87 : pStr hm42 5 ([43, 45, 42, 47]) := pStr_fi g22 fa43 (by omega)
    have g88 : pStr h33 5 ([43, 45, 42, 47]) := pStr_fi g87 fb44 (by omega)
    have g89 : pStr hm42 6 evSigns := pStr_fi g23 fa43 (by omega)
    have g90 : pStr h33 6 evSigns := pStr_fi g89 fb44 (by omega)
    have g91 : pStr hm42 7 keyL := pStr_fi g24 fa43 (by omega)
    have g92 : pStr h33 7 keyL := pStr_fi g91 fb44 (by omega)
    have g93 : pStr hm42 8 ordL := pStr_fi g25 fa43 (by omega)
    have g94 : pStr h33 8 ordL := pStr_fi g93 fb44 (by omega)
    have g95 : pJT h33 tx j (cs.map c3of) := ⟨(cs.set k ((cs.getD k ct0).1, (cs.getD k ct0).2.1, (cs.getD k ct0).2.2.1, shK j ((cs.getD k ct0).1, (cs.getD k ct0).2.1, (cs.getD k ct0).2.2.1), shP j ((cs.getD k ct0).1, (cs.getD k ct0).2.1, (cs.getD k ct0).2.2.1) (cs.getD k ct0).2.2.2.2.1, (cs.getD k ct0).2.2.2.2.2.1, (cs.getD k ct0).2.2.2.2.2.2)), S, D, pz, kk, ck, wo53, xo54, kl, cv, g48, g62, g60, g64, g52, g59, g66, g68, g55, g39, g37, g38, g70, g72, g74, g76, g78, g80, g82, g84, g86, g88, g90, g92, g94, (map_set_c3 hk rfl), ok3⟩
    exact ⟨congrArg (fun z => some (Value.int z)) (show shK j ((cs.getD k ct0).1, (cs.getD k ct0).2.1, (cs.getD k ct0).2.2.1) = _ from by unfold aShr; rw [onC_k h8m hkm, map_c3 hk]; rfl), g95, fr46⟩
  · skip
    have c_5 : (hasC c cs.length) = false := bI_f' c_5
    have hno : hasC c (cs.map c3of).length = false := by rw [List.length_map]; exact c_5
    refine e_iconst (v := (-1)) f_102_8 (by decide) rfl ?_
    refine e_iret f_102_9 rfl (rfl) ?_
    have g96 : pJT h tx j (cs.map c3of) := ⟨cs, S, D, pz, kk, ck, wo, xr, kl, cv, g1, g2, g3, g4, g5, g6, g7, g8, g9, g10, g11, g12, g13, g14, g15, g16, g17, g18, g19, g20, g21, g22, g23, g24, g25, rfl, ok⟩
    exact ⟨congrArg (fun z => some (Value.int z)) (show (-1) = _ from (onC_no hno).symm), g96, fr0⟩

theorem nI_neg {n k : Nat} (h : n < 2 ^ 31) (hk : 0 < k) (hk2 : k < 100) : ¬ nI n = -(nI k) := fun e => by
  have h1 : (nI n).toInt = (-(nI k)).toInt := congrArg Int32.toInt e
  rw [nI_toInt h, Int32.toInt_neg, nI_toInt (by omega)] at h1
  rw [Int.bmod_eq_of_le (by omega) (by omega)] at h1
  omega
theorem shK_nm (j : List St) (x : CS3) (kept : List Nat) (hl : (shP j x kept).length < 2 ^ 31) : (shK j x = -2 ∧ shL j x = none) ∨ (shK j x = nI (shP j x kept).length ∧ shL j x = some (shP j x kept) ∧ ¬ shK j x = -2) := by
  cases h : shL j x with
  | none => exact Or.inl ⟨by unfold shK; rw [h], rfl⟩
  | some l =>
    have e1 : shK j x = nI l.length := by unfold shK; rw [h]
    have e2 : shP j x kept = l := by unfold shP; rw [h]
    rw [e2] at hl ⊢
    exact Or.inr ⟨e1, rfl, by rw [e1]; exact nI_neg (k := 2) hl (by decide) (by decide)⟩

set_option maxRecDepth 20000 in
set_option maxHeartbeats 4000000 in
theorem cc_JT_left {h : px_H} {tx : List Nat} {j : List St} {xs : List CS3} {c : Int32} {i : Int32} (H0 : pJT h tx j xs)  : px_wp 103 [.ref (17), .int (c), .int (i)] h (fun h1 r => r = some (.int (aLeft j xs c i)) ∧ pJT h1 tx j xs ∧ px_fi 17 252 h h1) := by
  have fr0 : px_fi 17 252 h h := fi_rf _ _ _
  show px_to 103 0 [some (.ref (17)), some (.int (c)), some (.int (i)), none] [] h _
  obtain ⟨cs, S, D, pz, kk, ck, wo, xr, kl, cv, g1, g2, g3, g4, g5, g6, g7, g8, g9, g10, g11, g12, g13, g14, g15, g16, g17, g18, g19, g20, g21, g22, g23, g24, g25, hx, ok⟩ := id H0
  subst hx
  have h8 := ok.2.2.2.1.1
  have hS : 18 < S ∧ S + 78 ≤ 175 := by have := ok.1; omega
  have hD : 18 < D ∧ D + 78 ≤ 175 := by have := ok.1; omega
  have hSD : D + 78 ≤ S ∨ S + 78 ≤ D := by have := ok.1; omega
  have h8m : (cs.map c3of).length ≤ 8 := by rw [List.length_map]; exact h8
  have htl : tx.length ≤ 500 := pa_len g2
  refine e_aload_n f_103_0 rfl rfl ?_
  refine e_iload_n f_103_1 rfl rfl ?_
  refine e_callV (As := [.int (c)]) (rest := []) f_103_2 rfl rfl rfl (Nat.le_of_ble_eq_true rfl) (Nat.le_of_ble_eq_true rfl) g1 rfl (Nat.le_of_ble_eq_true rfl) (cc_JT_has (c := c) (L := tx.length) (S := S) (D := D) (n := cs.length) (pz := pz) (kk := kk) (ck := ck) g1 g3 (by omega)) rfl (fun h26 r27 q28 => ?_)
  obtain ⟨rfl, qe⟩ := q28
  have qe := qe.symm
  subst qe
  show px_to 103 5 [some (.ref (17)), some (.int (c)), some (.int (i)), none] [.int (bI (hasC c cs.length))] h _
  refine e_if_ne f_103_5 rfl (fun c_5 => ?_) (fun c_5 => ?_)
  · skip
    have c_5 : (hasC c cs.length) = true := bI_t c_5
    obtain ⟨k, hk, hkc⟩ := hasC_t (by omega) c_5
    subst hkc
    have hkm : k < (cs.map c3of).length := by rw [List.length_map]; exact hk
    have g29 : pCase h (S + 9 * k + 6) ((cs.getD k ct0).1) ((cs.getD k ct0).2.1) ((cs.getD k ct0).2.2.1) ((cs.getD k ct0).2.2.2.1) ((cs.getD k ct0).2.2.2.2.1) ((cs.getD k ct0).2.2.2.2.2.1) ((cs.getD k ct0).2.2.2.2.2.2) := (pCs_get (k := k) g6 (by omega) hk).1
    have hct : okK j (cs.getD k ct0) := ok.2.2.2.1.2 _ (getD_mem _ hk)
    obtain ⟨g30, g31⟩ := pCs_get (k := k) g6 (by omega) hk
    have g32 : pCase h (S + 9 * k + 6) ((cs.getD k ct0).1) ((cs.getD k ct0).2.1) ((cs.getD k ct0).2.2.1) ((cs.getD k ct0).2.2.2.1) ((cs.getD k ct0).2.2.2.2.1) ((cs.getD k ct0).2.2.2.2.2.1) ((cs.getD k ct0).2.2.2.2.2.2) := g30
    refine e_aload_n f_103_10 rfl rfl ?_
    refine e_getf f_103_11 g1 rfl rfl ?_
    refine e_getf f_103_14 g3 rfl rfl ?_
    refine e_iload_n f_103_17 rfl rfl ?_
    refine e_aaload_r f_103_18 (by decide) g5 (by first | omega | (simp only [List.length_set]; omega)) (by decide) rfl ?_
    show px_to 103 19 [some (.ref (17)), some (.int (nI k)), some (.int (i)), none] [.ref (S + 9 * k + 6)] h _
    refine e_astore_n (L' := [some (.ref (17)), some (.int (nI k)), some (.int (i)), some (.ref (S + 9 * k + 6))]) f_103_19 (Nat.le_of_ble_eq_true rfl) rfl rfl ?_
    refine e_aload_n f_103_20 rfl rfl ?_
    refine e_aload_n f_103_21 rfl rfl ?_
    refine e_callV (As := [.ref (S + 9 * k + 6)]) (rest := []) f_103_22 rfl rfl rfl (Nat.le_of_ble_eq_true rfl) (Nat.le_of_ble_eq_true rfl) g1 rfl (Nat.le_of_ble_eq_true rfl) (cc_JT_shc (L := tx.length) (S := S) (D := D) (n := cs.length) (pz := pz) (kk := kk) (cf := ck) (j := j) (wo := wo) (x := xr) (a := S + 9 * k + 6) (ev := (cs.getD k ct0).1) (told := (cs.getD k ct0).2.1) (os := (cs.getD k ct0).2.2.1) (ks := (cs.getD k ct0).2.2.2.1) (kept := (cs.getD k ct0).2.2.2.2.1) (ck := (cs.getD k ct0).2.2.2.2.2.1) (un := (cs.getD k ct0).2.2.2.2.2.2) g9 g11 g12 g10 g32 g1 g3 g4 (ok.2.2.1.1) (hct.1.2.1) (hS) (by omega) (by omega) (hct.1) (hct.2.2.2)) rfl (fun h33 r34 q35 => ?_)
    obtain ⟨rfl, g36, g37, g38, g39, g40, fx41⟩ := q35
    obtain ⟨hm42, fa43, fb44⟩ := fj_mid fx41
    have fr45 : px_fi 17 252 h hm42 := fi_tr fr0 fa43 (by omega)
    have fr46 : px_fi 17 252 h h33 := fi_tr fr45 fb44 (by omega)
    show px_to 103 25 [some (.ref (17)), some (.int (nI k)), some (.int (i)), some (.ref (S + 9 * k + 6))] [] h33 _
    have hkl := pa_len g40.2.2.2.2.2.2.1
    have hsk := shK_nm j ((cs.getD k ct0).1, (cs.getD k ct0).2.1, (cs.getD k ct0).2.2.1) (cs.getD k ct0).2.2.2.2.1 (by omega)
    refine e_aload_n f_103_25 rfl rfl ?_
    refine e_getf f_103_26 g40.1 rfl rfl ?_
    refine e_bipush (v := (-2)) f_103_29 (by decide) rfl ?_
    refine e_icmp_ne f_103_31 rfl (fun c_31 => ?_) (fun c_31 => ?_)
    · skip
      have hs2 := hsk.resolve_left (fun z => c_31 z.1)
      refine e_iload_n f_103_37 rfl rfl ?_
      refine e_if_lt f_103_38 rfl (fun c_38 => ?_) (fun c_38 => ?_)
      · skip
        refine e_bipush (v := (-3)) f_103_49 (by decide) rfl ?_
        refine e_goto f_103_51 ?_
        refine e_iret f_103_60 rfl (rfl) ?_
        obtain ⟨wo47, xo48, g49, hwo50⟩ := id g36
        have ok2 := okJT_woE ok hwo50
        have g51 : pCsx hm42 S cs k := pCsx_fi g31 fa43 (by omega)
        have g52 : pCsx h33 S cs k := pCsx_fi g51 fb44 (by omega)
        have g53 : pCs h33 S (cs.set k ((cs.getD k ct0).1, (cs.getD k ct0).2.1, (cs.getD k ct0).2.2.1, shK j ((cs.getD k ct0).1, (cs.getD k ct0).2.1, (cs.getD k ct0).2.2.1), shP j ((cs.getD k ct0).1, (cs.getD k ct0).2.1, (cs.getD k ct0).2.2.1) (cs.getD k ct0).2.2.2.2.1, (cs.getD k ct0).2.2.2.2.2.1, (cs.getD k ct0).2.2.2.2.2.2)) := pCs_in g52 (t := ((cs.getD k ct0).1, (cs.getD k ct0).2.1, (cs.getD k ct0).2.2.1, shK j ((cs.getD k ct0).1, (cs.getD k ct0).2.1, (cs.getD k ct0).2.2.1), shP j ((cs.getD k ct0).1, (cs.getD k ct0).2.1, (cs.getD k ct0).2.2.1) (cs.getD k ct0).2.2.2.2.1, (cs.getD k ct0).2.2.2.2.2.1, (cs.getD k ct0).2.2.2.2.2.2)) g40
        have g54 : hm42.2.2 S = some (8, [.ref (S + 1), .ref (S + 5), .int (nI cs.length)]) := fi_at g3 fa43 (by omega)
        have g55 : h33.2.2 S = some (8, [.ref (S + 1), .ref (S + 5), .int (nI cs.length)]) := fi_at g54 fb44 (by omega)
        have g56 : h33.2.2 S = some (8, [.ref (S + 1), .ref (S + 5), .int (nI ((cs.set k ((cs.getD k ct0).1, (cs.getD k ct0).2.1, (cs.getD k ct0).2.2.1, shK j ((cs.getD k ct0).1, (cs.getD k ct0).2.1, (cs.getD k ct0).2.2.1), shP j ((cs.getD k ct0).1, (cs.getD k ct0).2.1, (cs.getD k ct0).2.2.1) (cs.getD k ct0).2.2.2.2.1, (cs.getD k ct0).2.2.2.2.2.1, (cs.getD k ct0).2.2.2.2.2.2)).length))]) := by rw [List.length_set]; exact g55
        have okt : okK j ((cs.getD k ct0).1, (cs.getD k ct0).2.1, (cs.getD k ct0).2.2.1, shK j ((cs.getD k ct0).1, (cs.getD k ct0).2.1, (cs.getD k ct0).2.2.1), shP j ((cs.getD k ct0).1, (cs.getD k ct0).2.1, (cs.getD k ct0).2.2.1) (cs.getD k ct0).2.2.2.2.1, (cs.getD k ct0).2.2.2.2.2.1, (cs.getD k ct0).2.2.2.2.2.2) := ⟨hct.1, hct.2.1, hct.2.2.1, shK_ok⟩
        have ok3 := okJT_set ok2 hk okt rfl
        have g57 : hm42.2.2 17 = some (11, [.ref (18), .int (nI tx.length), .ref (S), .ref (D), .ref (175), .ref (177), .ref (249), .ref (254), .ref (256), .ref (258), .ref (261), .ref (265), .int (bI pz), .ref (267), .int (bI kk), .ref (268), .int (bI ck)]) := fi_at g1 fa43 (by omega)
        have g58 : h33.2.2 17 = some (11, [.ref (18), .int (nI tx.length), .ref (S), .ref (D), .ref (175), .ref (177), .ref (249), .ref (254), .ref (256), .ref (258), .ref (261), .ref (265), .int (bI pz), .ref (267), .int (bI kk), .ref (268), .int (bI ck)]) := fi_at g57 fb44 (by omega)
        have g59 : px_pa hm42 18 52 500 vN tx := pa_fi g2 fa43 (by omega)
        have g60 : px_pa h33 18 52 500 vN tx := pa_fi g59 fb44 (by omega)
        have g61 : pJob hm42 (S + 1) j := pJob_fi g4 fa43 (by omega)
        have g62 : pJob h33 (S + 1) j := pJob_fi g61 fb44 (by omega)
        have g63 : px_rs hm42 (S + 5) 56 8 (fun k => S + 9 * k + 6) := rs_fi g5 fa43 (by omega)
        have g64 : px_rs h33 (S + 5) 56 8 (fun k => S + 9 * k + 6) := rs_fi g63 fb44 (by omega)
        have g65 : pDr hm42 D := pDr_fi g7 fa43 (by omega)
        have g66 : pDr h33 D := pDr_fi g65 fb44 (by omega)
        have g67 : pRA hm42 := pRA_fi g8 fa43 (by omega)
        have g68 : pRA h33 := pRA_fi g67 fb44 (by omega)
        have g69 : pSc hm42 := pSc_fi g13 fa43 (by omega)
        have g70 : pSc h33 := pSc_fi g69 fb44 (by omega)
        have g71 : pJA hm42 261 := pJA_fi g14 fa43 (by omega)
        have g72 : pJA h33 261 := pJA_fi g71 fb44 (by omega)
        have g73 : pRwA hm42 265 := pRwA_fi g15 fa43 (by omega)
        have g74 : pRwA h33 265 := pRwA_fi g73 fb44 (by omega)
        have g75 : px_pa hm42 267 50 30 Value.int kl := pa_fi g16 fa43 (by omega)
        have g76 : px_pa h33 267 50 30 Value.int kl := pa_fi g75 fb44 (by omega)
        have g77 : px_pa hm42 268 50 30 Value.int cv := pa_fi g17 fa43 (by omega)
        have g78 : px_pa h33 268 50 30 Value.int cv := pa_fi g77 fb44 (by omega)
        have g79 : pStr hm42 1 ([60, 61, 62]) := pStr_fi g18 fa43 (by omega)
        have g80 : pStr h33 1 ([60, 61, 62]) := pStr_fi g79 fb44 (by omega)
        have g81 : pStr hm42 2 ([43, 45, 42, 47]) := pStr_fi g19 fa43 (by omega)
        have g82 : pStr h33 2 ([43, 45, 42, 47]) := pStr_fi g81 fb44 (by omega)
        have g83 : pStr hm42 3 stepSigns := pStr_fi g20 fa43 (by omega)
        have g84 : pStr h33 3 stepSigns := pStr_fi g83 fb44 (by omega)
        have g85 : pStr hm42 4 ([60, 61, 62]) := pStr_fi g21 fa43 (by omega)
        have g86 : pStr h33 4 ([60, 61, 62]) := pStr_fi g85 fb44 (by omega)
        have g87 : pStr hm42 5 ([43, 45, 42, 47]) := pStr_fi g22 fa43 (by omega)
        have g88 : pStr h33 5 ([43, 45, 42, 47]) := pStr_fi g87 fb44 (by omega)
        have g89 : pStr hm42 6 evSigns := pStr_fi g23 fa43 (by omega)
        have g90 : pStr h33 6 evSigns := pStr_fi g89 fb44 (by omega)
        have g91 : pStr hm42 7 keyL := pStr_fi g24 fa43 (by omega)
        have g92 : pStr h33 7 keyL := pStr_fi g91 fb44 (by omega)
        have g93 : pStr hm42 8 ordL := pStr_fi g25 fa43 (by omega)
        have g94 : pStr h33 8 ordL := pStr_fi g93 fb44 (by omega)
        have g95 : pJT h33 tx j (cs.map c3of) := ⟨(cs.set k ((cs.getD k ct0).1, (cs.getD k ct0).2.1, (cs.getD k ct0).2.2.1, shK j ((cs.getD k ct0).1, (cs.getD k ct0).2.1, (cs.getD k ct0).2.2.1), shP j ((cs.getD k ct0).1, (cs.getD k ct0).2.1, (cs.getD k ct0).2.2.1) (cs.getD k ct0).2.2.2.2.1, (cs.getD k ct0).2.2.2.2.2.1, (cs.getD k ct0).2.2.2.2.2.2)), S, D, pz, kk, ck, wo47, xo48, kl, cv, g58, g60, g56, g62, g64, g53, g66, g68, g49, g39, g37, g38, g70, g72, g74, g76, g78, g80, g82, g84, g86, g88, g90, g92, g94, (map_set_c3 hk rfl), ok3⟩
        exact ⟨congrArg (fun z => some (Value.int z)) (show (-3) = _ from by unfold aLeft; rw [onC_k h8m hkm, map_c3 hk]; show _ = lefO (shL j ((cs.getD k ct0).1, (cs.getD k ct0).2.1, (cs.getD k ct0).2.2.1)) _; rw [hs2.2.1]; show _ = atL (shP j ((cs.getD k ct0).1, (cs.getD k ct0).2.1, (cs.getD k ct0).2.2.1) (cs.getD k ct0).2.2.2.2.1) _; unfold atL; rw [if_neg (by rw [rng_a c_38]; decide)]), g95, fr46⟩
      · skip
        refine e_iload_n f_103_41 rfl rfl ?_
        refine e_aload_n f_103_42 rfl rfl ?_
        refine e_getf f_103_43 g40.1 rfl rfl ?_
        rw [hs2.1]
        refine e_icmp_lt f_103_46 rfl (fun c_46 => ?_) (fun c_46 => ?_)
        · skip
          obtain ⟨ki, hki, hwcki⟩ := rng_u (by omega) c_38 c_46
          subst hwcki
          refine e_aload_n f_103_54 rfl rfl ?_
          refine e_getf f_103_55 g40.1 rfl rfl ?_
          refine e_iload_n f_103_58 rfl rfl ?_
          refine e_iaload_p (xs := shP j ((cs.getD k ct0).1, (cs.getD k ct0).2.1, (cs.getD k ct0).2.2.1) ((cs.getD k ct0).2.2.2.2.1)) f_103_59 g40.2.2.2.2.2.2.1 (d := 0) (by first | omega | (simp only [List.length_set]; omega)) rfl ?_
          show px_to 103 60 [some (.ref (17)), some (.int (nI k)), some (.int (nI ki)), some (.ref (S + 9 * k + 6))] [.int (nI ((shP j ((cs.getD k ct0).1, (cs.getD k ct0).2.1, (cs.getD k ct0).2.2.1) ((cs.getD k ct0).2.2.2.2.1)).getD ki 0))] h33 _
          refine e_iret f_103_60 rfl (rfl) ?_
          obtain ⟨wo96, xo97, g98, hwo99⟩ := id g36
          have ok2 := okJT_woE ok hwo99
          have g100 : pCsx hm42 S cs k := pCsx_fi g31 fa43 (by omega)
          have g101 : pCsx h33 S cs k := pCsx_fi g100 fb44 (by omega)
          have g102 : pCs h33 S (cs.set k ((cs.getD k ct0).1, (cs.getD k ct0).2.1, (cs.getD k ct0).2.2.1, shK j ((cs.getD k ct0).1, (cs.getD k ct0).2.1, (cs.getD k ct0).2.2.1), shP j ((cs.getD k ct0).1, (cs.getD k ct0).2.1, (cs.getD k ct0).2.2.1) (cs.getD k ct0).2.2.2.2.1, (cs.getD k ct0).2.2.2.2.2.1, (cs.getD k ct0).2.2.2.2.2.2)) := pCs_in g101 (t := ((cs.getD k ct0).1, (cs.getD k ct0).2.1, (cs.getD k ct0).2.2.1, shK j ((cs.getD k ct0).1, (cs.getD k ct0).2.1, (cs.getD k ct0).2.2.1), shP j ((cs.getD k ct0).1, (cs.getD k ct0).2.1, (cs.getD k ct0).2.2.1) (cs.getD k ct0).2.2.2.2.1, (cs.getD k ct0).2.2.2.2.2.1, (cs.getD k ct0).2.2.2.2.2.2)) g40
          have g103 : hm42.2.2 S = some (8, [.ref (S + 1), .ref (S + 5), .int (nI cs.length)]) := fi_at g3 fa43 (by omega)
          have g104 : h33.2.2 S = some (8, [.ref (S + 1), .ref (S + 5), .int (nI cs.length)]) := fi_at g103 fb44 (by omega)
          have g105 : h33.2.2 S = some (8, [.ref (S + 1), .ref (S + 5), .int (nI ((cs.set k ((cs.getD k ct0).1, (cs.getD k ct0).2.1, (cs.getD k ct0).2.2.1, shK j ((cs.getD k ct0).1, (cs.getD k ct0).2.1, (cs.getD k ct0).2.2.1), shP j ((cs.getD k ct0).1, (cs.getD k ct0).2.1, (cs.getD k ct0).2.2.1) (cs.getD k ct0).2.2.2.2.1, (cs.getD k ct0).2.2.2.2.2.1, (cs.getD k ct0).2.2.2.2.2.2)).length))]) := by rw [List.length_set]; exact g104
          have okt : okK j ((cs.getD k ct0).1, (cs.getD k ct0).2.1, (cs.getD k ct0).2.2.1, shK j ((cs.getD k ct0).1, (cs.getD k ct0).2.1, (cs.getD k ct0).2.2.1), shP j ((cs.getD k ct0).1, (cs.getD k ct0).2.1, (cs.getD k ct0).2.2.1) (cs.getD k ct0).2.2.2.2.1, (cs.getD k ct0).2.2.2.2.2.1, (cs.getD k ct0).2.2.2.2.2.2) := ⟨hct.1, hct.2.1, hct.2.2.1, shK_ok⟩
          have ok3 := okJT_set ok2 hk okt rfl
          have g106 : hm42.2.2 17 = some (11, [.ref (18), .int (nI tx.length), .ref (S), .ref (D), .ref (175), .ref (177), .ref (249), .ref (254), .ref (256), .ref (258), .ref (261), .ref (265), .int (bI pz), .ref (267), .int (bI kk), .ref (268), .int (bI ck)]) := fi_at g1 fa43 (by omega)
          have g107 : h33.2.2 17 = some (11, [.ref (18), .int (nI tx.length), .ref (S), .ref (D), .ref (175), .ref (177), .ref (249), .ref (254), .ref (256), .ref (258), .ref (261), .ref (265), .int (bI pz), .ref (267), .int (bI kk), .ref (268), .int (bI ck)]) := fi_at g106 fb44 (by omega)
          have g108 : px_pa hm42 18 52 500 vN tx := pa_fi g2 fa43 (by omega)
          have g109 : px_pa h33 18 52 500 vN tx := pa_fi g108 fb44 (by omega)
          have g110 : pJob hm42 (S + 1) j := pJob_fi g4 fa43 (by omega)
          have g111 : pJob h33 (S + 1) j := pJob_fi g110 fb44 (by omega)
          have g112 : px_rs hm42 (S + 5) 56 8 (fun k => S + 9 * k + 6) := rs_fi g5 fa43 (by omega)
          have g113 : px_rs h33 (S + 5) 56 8 (fun k => S + 9 * k + 6) := rs_fi g112 fb44 (by omega)
          have g114 : pDr hm42 D := pDr_fi g7 fa43 (by omega)
          have g115 : pDr h33 D := pDr_fi g114 fb44 (by omega)
          have g116 : pRA hm42 := pRA_fi g8 fa43 (by omega)
          have g117 : pRA h33 := pRA_fi g116 fb44 (by omega)
          have g118 : pSc hm42 := pSc_fi g13 fa43 (by omega)
          have g119 : pSc h33 := pSc_fi g118 fb44 (by omega)
          have g120 : pJA hm42 261 := pJA_fi g14 fa43 (by omega)
          have g121 : pJA h33 261 := pJA_fi g120 fb44 (by omega)
          have g122 : pRwA hm42 265 := pRwA_fi g15 fa43 (by omega)
          have g123 : pRwA h33 265 := pRwA_fi g122 fb44 (by omega)
          have g124 : px_pa hm42 267 50 30 Value.int kl := pa_fi g16 fa43 (by omega)
          have g125 : px_pa h33 267 50 30 Value.int kl := pa_fi g124 fb44 (by omega)
          have g126 : px_pa hm42 268 50 30 Value.int cv := pa_fi g17 fa43 (by omega)
          have g127 : px_pa h33 268 50 30 Value.int cv := pa_fi g126 fb44 (by omega)
          have g128 : pStr hm42 1 ([60, 61, 62]) := pStr_fi g18 fa43 (by omega)
          have g129 : pStr h33 1 ([60, 61, 62]) := pStr_fi g128 fb44 (by omega)
          have g130 : pStr hm42 2 ([43, 45, 42, 47]) := pStr_fi g19 fa43 (by omega)
          have g131 : pStr h33 2 ([43, 45, 42, 47]) := pStr_fi g130 fb44 (by omega)
          have g132 : pStr hm42 3 stepSigns := pStr_fi g20 fa43 (by omega)
          have g133 : pStr h33 3 stepSigns := pStr_fi g132 fb44 (by omega)
          have g134 : pStr hm42 4 ([60, 61, 62]) := pStr_fi g21 fa43 (by omega)
          have g135 : pStr h33 4 ([60, 61, 62]) := pStr_fi g134 fb44 (by omega)
          have g136 : pStr hm42 5 ([43, 45, 42, 47]) := pStr_fi g22 fa43 (by omega)
          have g137 : pStr h33 5 ([43, 45, 42, 47]) := pStr_fi g136 fb44 (by omega)
          have g138 : pStr hm42 6 evSigns := pStr_fi g23 fa43 (by omega)
          have g139 : pStr h33 6 evSigns := pStr_fi g138 fb44 (by omega)
          have g140 : pStr hm42 7 keyL := pStr_fi g24 fa43 (by omega)
          have g141 : pStr h33 7 keyL := pStr_fi g140 fb44 (by omega)
          have g142 : pStr hm42 8 ordL := pStr_fi g25 fa43 (by omega)
          have g143 : pStr h33 8 ordL := pStr_fi g142 fb44 (by omega)
          have g144 : pJT h33 tx j (cs.map c3of) := ⟨(cs.set k ((cs.getD k ct0).1, (cs.getD k ct0).2.1, (cs.getD k ct0).2.2.1, shK j ((cs.getD k ct0).1, (cs.getD k ct0).2.1, (cs.getD k ct0).2.2.1), shP j ((cs.getD k ct0).1, (cs.getD k ct0).2.1, (cs.getD k ct0).2.2.1) (cs.getD k ct0).2.2.2.2.1, (cs.getD k ct0).2.2.2.2.2.1, (cs.getD k ct0).2.2.2.2.2.2)), S, D, pz, kk, ck, wo96, xo97, kl, cv, g107, g109, g105, g111, g113, g102, g115, g117, g98, g39, g37, g38, g119, g121, g123, g125, g127, g129, g131, g133, g135, g137, g139, g141, g143, (map_set_c3 hk rfl), ok3⟩
          exact ⟨congrArg (fun z => some (Value.int z)) (show nI ((shP j ((cs.getD k ct0).1, (cs.getD k ct0).2.1, (cs.getD k ct0).2.2.1) ((cs.getD k ct0).2.2.2.2.1)).getD ki 0) = _ from by unfold aLeft; rw [onC_k h8m hkm, map_c3 hk]; show _ = lefO (shL j ((cs.getD k ct0).1, (cs.getD k ct0).2.1, (cs.getD k ct0).2.2.1)) _; rw [hs2.2.1]; show _ = atL (shP j ((cs.getD k ct0).1, (cs.getD k ct0).2.1, (cs.getD k ct0).2.2.1) (cs.getD k ct0).2.2.2.2.1) _; unfold atL; rw [if_pos (hasC_nI (by omega) hki), nN_nI (by omega)]), g144, fr46⟩
        · skip
          refine e_bipush (v := (-3)) f_103_49 (by decide) rfl ?_
          refine e_goto f_103_51 ?_
          refine e_iret f_103_60 rfl (rfl) ?_
          obtain ⟨wo145, xo146, g147, hwo148⟩ := id g36
          have ok2 := okJT_woE ok hwo148
          have g149 : pCsx hm42 S cs k := pCsx_fi g31 fa43 (by omega)
          have g150 : pCsx h33 S cs k := pCsx_fi g149 fb44 (by omega)
          have g151 : pCs h33 S (cs.set k ((cs.getD k ct0).1, (cs.getD k ct0).2.1, (cs.getD k ct0).2.2.1, shK j ((cs.getD k ct0).1, (cs.getD k ct0).2.1, (cs.getD k ct0).2.2.1), shP j ((cs.getD k ct0).1, (cs.getD k ct0).2.1, (cs.getD k ct0).2.2.1) (cs.getD k ct0).2.2.2.2.1, (cs.getD k ct0).2.2.2.2.2.1, (cs.getD k ct0).2.2.2.2.2.2)) := pCs_in g150 (t := ((cs.getD k ct0).1, (cs.getD k ct0).2.1, (cs.getD k ct0).2.2.1, shK j ((cs.getD k ct0).1, (cs.getD k ct0).2.1, (cs.getD k ct0).2.2.1), shP j ((cs.getD k ct0).1, (cs.getD k ct0).2.1, (cs.getD k ct0).2.2.1) (cs.getD k ct0).2.2.2.2.1, (cs.getD k ct0).2.2.2.2.2.1, (cs.getD k ct0).2.2.2.2.2.2)) g40
          have g152 : hm42.2.2 S = some (8, [.ref (S + 1), .ref (S + 5), .int (nI cs.length)]) := fi_at g3 fa43 (by omega)
          have g153 : h33.2.2 S = some (8, [.ref (S + 1), .ref (S + 5), .int (nI cs.length)]) := fi_at g152 fb44 (by omega)
          have g154 : h33.2.2 S = some (8, [.ref (S + 1), .ref (S + 5), .int (nI ((cs.set k ((cs.getD k ct0).1, (cs.getD k ct0).2.1, (cs.getD k ct0).2.2.1, shK j ((cs.getD k ct0).1, (cs.getD k ct0).2.1, (cs.getD k ct0).2.2.1), shP j ((cs.getD k ct0).1, (cs.getD k ct0).2.1, (cs.getD k ct0).2.2.1) (cs.getD k ct0).2.2.2.2.1, (cs.getD k ct0).2.2.2.2.2.1, (cs.getD k ct0).2.2.2.2.2.2)).length))]) := by rw [List.length_set]; exact g153
          have okt : okK j ((cs.getD k ct0).1, (cs.getD k ct0).2.1, (cs.getD k ct0).2.2.1, shK j ((cs.getD k ct0).1, (cs.getD k ct0).2.1, (cs.getD k ct0).2.2.1), shP j ((cs.getD k ct0).1, (cs.getD k ct0).2.1, (cs.getD k ct0).2.2.1) (cs.getD k ct0).2.2.2.2.1, (cs.getD k ct0).2.2.2.2.2.1, (cs.getD k ct0).2.2.2.2.2.2) := ⟨hct.1, hct.2.1, hct.2.2.1, shK_ok⟩
          have ok3 := okJT_set ok2 hk okt rfl
          have g155 : hm42.2.2 17 = some (11, [.ref (18), .int (nI tx.length), .ref (S), .ref (D), .ref (175), .ref (177), .ref (249), .ref (254), .ref (256), .ref (258), .ref (261), .ref (265), .int (bI pz), .ref (267), .int (bI kk), .ref (268), .int (bI ck)]) := fi_at g1 fa43 (by omega)
          have g156 : h33.2.2 17 = some (11, [.ref (18), .int (nI tx.length), .ref (S), .ref (D), .ref (175), .ref (177), .ref (249), .ref (254), .ref (256), .ref (258), .ref (261), .ref (265), .int (bI pz), .ref (267), .int (bI kk), .ref (268), .int (bI ck)]) := fi_at g155 fb44 (by omega)
          have g157 : px_pa hm42 18 52 500 vN tx := pa_fi g2 fa43 (by omega)
          have g158 : px_pa h33 18 52 500 vN tx := pa_fi g157 fb44 (by omega)
          have g159 : pJob hm42 (S + 1) j := pJob_fi g4 fa43 (by omega)
          have g160 : pJob h33 (S + 1) j := pJob_fi g159 fb44 (by omega)
          have g161 : px_rs hm42 (S + 5) 56 8 (fun k => S + 9 * k + 6) := rs_fi g5 fa43 (by omega)
          have g162 : px_rs h33 (S + 5) 56 8 (fun k => S + 9 * k + 6) := rs_fi g161 fb44 (by omega)
          have g163 : pDr hm42 D := pDr_fi g7 fa43 (by omega)
          have g164 : pDr h33 D := pDr_fi g163 fb44 (by omega)
          have g165 : pRA hm42 := pRA_fi g8 fa43 (by omega)
          have g166 : pRA h33 := pRA_fi g165 fb44 (by omega)
          have g167 : pSc hm42 := pSc_fi g13 fa43 (by omega)
          have g168 : pSc h33 := pSc_fi g167 fb44 (by omega)
          have g169 : pJA hm42 261 := pJA_fi g14 fa43 (by omega)
          have g170 : pJA h33 261 := pJA_fi g169 fb44 (by omega)
          have g171 : pRwA hm42 265 := pRwA_fi g15 fa43 (by omega)
          have g172 : pRwA h33 265 := pRwA_fi g171 fb44 (by omega)
          have g173 : px_pa hm42 267 50 30 Value.int kl := pa_fi g16 fa43 (by omega)
          have g174 : px_pa h33 267 50 30 Value.int kl := pa_fi g173 fb44 (by omega)
          have g175 : px_pa hm42 268 50 30 Value.int cv := pa_fi g17 fa43 (by omega)
          have g176 : px_pa h33 268 50 30 Value.int cv := pa_fi g175 fb44 (by omega)
          have g177 : pStr hm42 1 ([60, 61, 62]) := pStr_fi g18 fa43 (by omega)
          have g178 : pStr h33 1 ([60, 61, 62]) := pStr_fi g177 fb44 (by omega)
          have g179 : pStr hm42 2 ([43, 45, 42, 47]) := pStr_fi g19 fa43 (by omega)
          have g180 : pStr h33 2 ([43, 45, 42, 47]) := pStr_fi g179 fb44 (by omega)
          have g181 : pStr hm42 3 stepSigns := pStr_fi g20 fa43 (by omega)
          have g182 : pStr h33 3 stepSigns := pStr_fi g181 fb44 (by omega)
          have g183 : pStr hm42 4 ([60, 61, 62]) := pStr_fi g21 fa43 (by omega)
          have g184 : pStr h33 4 ([60, 61, 62]) := pStr_fi g183 fb44 (by omega)
          have g185 : pStr hm42 5 ([43, 45, 42, 47]) := pStr_fi g22 fa43 (by omega)
          have g186 : pStr h33 5 ([43, 45, 42, 47]) := pStr_fi g185 fb44 (by omega)
          have g187 : pStr hm42 6 evSigns := pStr_fi g23 fa43 (by omega)
          have g188 : pStr h33 6 evSigns := pStr_fi g187 fb44 (by omega)
          have g189 : pStr hm42 7 keyL := pStr_fi g24 fa43 (by omega)
          have g190 : pStr h33 7 keyL := pStr_fi g189 fb44 (by omega)
          have g191 : pStr hm42 8 ordL := pStr_fi g25 fa43 (by omega)
          have g192 : pStr h33 8 ordL := pStr_fi g191 fb44 (by omega)
          have g193 : pJT h33 tx j (cs.map c3of) := ⟨(cs.set k ((cs.getD k ct0).1, (cs.getD k ct0).2.1, (cs.getD k ct0).2.2.1, shK j ((cs.getD k ct0).1, (cs.getD k ct0).2.1, (cs.getD k ct0).2.2.1), shP j ((cs.getD k ct0).1, (cs.getD k ct0).2.1, (cs.getD k ct0).2.2.1) (cs.getD k ct0).2.2.2.2.1, (cs.getD k ct0).2.2.2.2.2.1, (cs.getD k ct0).2.2.2.2.2.2)), S, D, pz, kk, ck, wo145, xo146, kl, cv, g156, g158, g154, g160, g162, g151, g164, g166, g147, g39, g37, g38, g168, g170, g172, g174, g176, g178, g180, g182, g184, g186, g188, g190, g192, (map_set_c3 hk rfl), ok3⟩
          exact ⟨congrArg (fun z => some (Value.int z)) (show (-3) = _ from by unfold aLeft; rw [onC_k h8m hkm, map_c3 hk]; show _ = lefO (shL j ((cs.getD k ct0).1, (cs.getD k ct0).2.1, (cs.getD k ct0).2.2.1)) _; rw [hs2.2.1]; show _ = atL (shP j ((cs.getD k ct0).1, (cs.getD k ct0).2.1, (cs.getD k ct0).2.2.1) (cs.getD k ct0).2.2.2.2.1) _; unfold atL; rw [if_neg (by rw [rng_c c_46]; decide)]), g193, fr46⟩
    · skip
      have hs1 : shL j ((cs.getD k ct0).1, (cs.getD k ct0).2.1, (cs.getD k ct0).2.2.1) = none := by rcases hsk with z | z; exact z.2; exact absurd (Classical.not_not.mp c_31) z.2.2
      refine e_bipush (v := (-2)) f_103_34 (by decide) rfl ?_
      refine e_iret f_103_36 rfl (rfl) ?_
      obtain ⟨wo194, xo195, g196, hwo197⟩ := id g36
      have ok2 := okJT_woE ok hwo197
      have g198 : pCsx hm42 S cs k := pCsx_fi g31 fa43 (by omega)
      have g199 : pCsx h33 S cs k := pCsx_fi g198 fb44 (by omega)
      have g200 : pCs h33 S (cs.set k ((cs.getD k ct0).1, (cs.getD k ct0).2.1, (cs.getD k ct0).2.2.1, shK j ((cs.getD k ct0).1, (cs.getD k ct0).2.1, (cs.getD k ct0).2.2.1), shP j ((cs.getD k ct0).1, (cs.getD k ct0).2.1, (cs.getD k ct0).2.2.1) (cs.getD k ct0).2.2.2.2.1, (cs.getD k ct0).2.2.2.2.2.1, (cs.getD k ct0).2.2.2.2.2.2)) := pCs_in g199 (t := ((cs.getD k ct0).1, (cs.getD k ct0).2.1, (cs.getD k ct0).2.2.1, shK j ((cs.getD k ct0).1, (cs.getD k ct0).2.1, (cs.getD k ct0).2.2.1), shP j ((cs.getD k ct0).1, (cs.getD k ct0).2.1, (cs.getD k ct0).2.2.1) (cs.getD k ct0).2.2.2.2.1, (cs.getD k ct0).2.2.2.2.2.1, (cs.getD k ct0).2.2.2.2.2.2)) g40
      have g201 : hm42.2.2 S = some (8, [.ref (S + 1), .ref (S + 5), .int (nI cs.length)]) := fi_at g3 fa43 (by omega)
      have g202 : h33.2.2 S = some (8, [.ref (S + 1), .ref (S + 5), .int (nI cs.length)]) := fi_at g201 fb44 (by omega)
      have g203 : h33.2.2 S = some (8, [.ref (S + 1), .ref (S + 5), .int (nI ((cs.set k ((cs.getD k ct0).1, (cs.getD k ct0).2.1, (cs.getD k ct0).2.2.1, shK j ((cs.getD k ct0).1, (cs.getD k ct0).2.1, (cs.getD k ct0).2.2.1), shP j ((cs.getD k ct0).1, (cs.getD k ct0).2.1, (cs.getD k ct0).2.2.1) (cs.getD k ct0).2.2.2.2.1, (cs.getD k ct0).2.2.2.2.2.1, (cs.getD k ct0).2.2.2.2.2.2)).length))]) := by rw [List.length_set]; exact g202
      have okt : okK j ((cs.getD k ct0).1, (cs.getD k ct0).2.1, (cs.getD k ct0).2.2.1, shK j ((cs.getD k ct0).1, (cs.getD k ct0).2.1, (cs.getD k ct0).2.2.1), shP j ((cs.getD k ct0).1, (cs.getD k ct0).2.1, (cs.getD k ct0).2.2.1) (cs.getD k ct0).2.2.2.2.1, (cs.getD k ct0).2.2.2.2.2.1, (cs.getD k ct0).2.2.2.2.2.2) := ⟨hct.1, hct.2.1, hct.2.2.1, shK_ok⟩
      have ok3 := okJT_set ok2 hk okt rfl
      have g204 : hm42.2.2 17 = some (11, [.ref (18), .int (nI tx.length), .ref (S), .ref (D), .ref (175), .ref (177), .ref (249), .ref (254), .ref (256), .ref (258), .ref (261), .ref (265), .int (bI pz), .ref (267), .int (bI kk), .ref (268), .int (bI ck)]) := fi_at g1 fa43 (by omega)
      have g205 : h33.2.2 17 = some (11, [.ref (18), .int (nI tx.length), .ref (S), .ref (D), .ref (175), .ref (177), .ref (249), .ref (254), .ref (256), .ref (258), .ref (261), .ref (265), .int (bI pz), .ref (267), .int (bI kk), .ref (268), .int (bI ck)]) := fi_at g204 fb44 (by omega)
      have g206 : px_pa hm42 18 52 500 vN tx := pa_fi g2 fa43 (by omega)
      have g207 : px_pa h33 18 52 500 vN tx := pa_fi g206 fb44 (by omega)
      have g208 : pJob hm42 (S + 1) j := pJob_fi g4 fa43 (by omega)
      have g209 : pJob h33 (S + 1) j := pJob_fi g208 fb44 (by omega)
      have g210 : px_rs hm42 (S + 5) 56 8 (fun k => S + 9 * k + 6) := rs_fi g5 fa43 (by omega)
      have g211 : px_rs h33 (S + 5) 56 8 (fun k => S + 9 * k + 6) := rs_fi g210 fb44 (by omega)
      have g212 : pDr hm42 D := pDr_fi g7 fa43 (by omega)
      have g213 : pDr h33 D := pDr_fi g212 fb44 (by omega)
      have g214 : pRA hm42 := pRA_fi g8 fa43 (by omega)
      have g215 : pRA h33 := pRA_fi g214 fb44 (by omega)
      have g216 : pSc hm42 := pSc_fi g13 fa43 (by omega)
      have g217 : pSc h33 := pSc_fi g216 fb44 (by omega)
      have g218 : pJA hm42 261 := pJA_fi g14 fa43 (by omega)
      have g219 : pJA h33 261 := pJA_fi g218 fb44 (by omega)
      have g220 : pRwA hm42 265 := pRwA_fi g15 fa43 (by omega)
      have g221 : pRwA h33 265 := pRwA_fi g220 fb44 (by omega)
      have g222 : px_pa hm42 267 50 30 Value.int kl := pa_fi g16 fa43 (by omega)
      have g223 : px_pa h33 267 50 30 Value.int kl := pa_fi g222 fb44 (by omega)
      have g224 : px_pa hm42 268 50 30 Value.int cv := pa_fi g17 fa43 (by omega)
      have g225 : px_pa h33 268 50 30 Value.int cv := pa_fi g224 fb44 (by omega)
      have g226 : pStr hm42 1 ([60, 61, 62]) := pStr_fi g18 fa43 (by omega)
      have g227 : pStr h33 1 ([60, 61, 62]) := pStr_fi g226 fb44 (by omega)
      have g228 : pStr hm42 2 ([43, 45, 42, 47]) := pStr_fi g19 fa43 (by omega)
      have g229 : pStr h33 2 ([43, 45, 42, 47]) := pStr_fi g228 fb44 (by omega)
      have g230 : pStr hm42 3 stepSigns := pStr_fi g20 fa43 (by omega)
      have g231 : pStr h33 3 stepSigns := pStr_fi g230 fb44 (by omega)
      have g232 : pStr hm42 4 ([60, 61, 62]) := pStr_fi g21 fa43 (by omega)
      have g233 : pStr h33 4 ([60, 61, 62]) := pStr_fi g232 fb44 (by omega)
      have g234 : pStr hm42 5 ([43, 45, 42, 47]) := pStr_fi g22 fa43 (by omega)
      have g235 : pStr h33 5 ([43, 45, 42, 47]) := pStr_fi g234 fb44 (by omega)
      have g236 : pStr hm42 6 evSigns := pStr_fi g23 fa43 (by omega)
      have g237 : pStr h33 6 evSigns := pStr_fi g236 fb44 (by omega)
      have g238 : pStr hm42 7 keyL := pStr_fi g24 fa43 (by omega)
      have g239 : pStr h33 7 keyL := pStr_fi g238 fb44 (by omega)
      have g240 : pStr hm42 8 ordL := pStr_fi g25 fa43 (by omega)
      have g241 : pStr h33 8 ordL := pStr_fi g240 fb44 (by omega)
      have g242 : pJT h33 tx j (cs.map c3of) := ⟨(cs.set k ((cs.getD k ct0).1, (cs.getD k ct0).2.1, (cs.getD k ct0).2.2.1, shK j ((cs.getD k ct0).1, (cs.getD k ct0).2.1, (cs.getD k ct0).2.2.1), shP j ((cs.getD k ct0).1, (cs.getD k ct0).2.1, (cs.getD k ct0).2.2.1) (cs.getD k ct0).2.2.2.2.1, (cs.getD k ct0).2.2.2.2.2.1, (cs.getD k ct0).2.2.2.2.2.2)), S, D, pz, kk, ck, wo194, xo195, kl, cv, g205, g207, g203, g209, g211, g200, g213, g215, g196, g39, g37, g38, g217, g219, g221, g223, g225, g227, g229, g231, g233, g235, g237, g239, g241, (map_set_c3 hk rfl), ok3⟩
      exact ⟨congrArg (fun z => some (Value.int z)) (show (-2) = _ from by unfold aLeft; rw [onC_k h8m hkm, map_c3 hk]; show _ = lefO (shL j ((cs.getD k ct0).1, (cs.getD k ct0).2.1, (cs.getD k ct0).2.2.1)) _; rw [hs1]; rfl), g242, fr46⟩
  · skip
    have c_5 : (hasC c cs.length) = false := bI_f' c_5
    have hno : hasC c (cs.map c3of).length = false := by rw [List.length_map]; exact c_5
    refine e_iconst (v := (-1)) f_103_8 (by decide) rfl ?_
    refine e_iret f_103_9 rfl (rfl) ?_
    have g243 : pJT h tx j (cs.map c3of) := ⟨cs, S, D, pz, kk, ck, wo, xr, kl, cv, g1, g2, g3, g4, g5, g6, g7, g8, g9, g10, g11, g12, g13, g14, g15, g16, g17, g18, g19, g20, g21, g22, g23, g24, g25, rfl, ok⟩
    exact ⟨congrArg (fun z => some (Value.int z)) (show (-1) = _ from (onC_no hno).symm), g243, fr0⟩
