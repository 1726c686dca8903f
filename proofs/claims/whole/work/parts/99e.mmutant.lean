def fstK (j : List St) (k : Nat) : List CS3 → Option Nat
  | [] => none
  | x :: r => if killB j x k = true then some 0 else (fstK j k r).map (· + 1)
def cntK (j : List St) (k : Nat) : List CS3 → Nat
  | [] => 0
  | x :: r => (if killB j x k = true then 1 else 0) + cntK j k r
theorem killN_2 {j : List St} {k : Nat} : ∀ (l : List CS3) (c : Nat), killN j k l (c + 1) = 2 * killN j k l c
  | [], _ => rfl
  | x :: r, c => by
    rw [killN, killN, killN_2 r (c + 1)]
    split
    · rw [Nat.pow_succ]; omega
    · omega
theorem killN_c {j : List St} {k : Nat} {x : CS3} {r : List CS3} : killN j k (x :: r) 0 = (if killB j x k = true then 1 else 0) + 2 * killN j k r 0 := by
  rw [killN, killN_2]
theorem cntK_pcn {j : List St} {k : Nat} : ∀ l : List CS3, pcn (killN j k l 0) l.length = cntK j k l
  | [] => rfl
  | x :: r => by
    have ih := cntK_pcn (j := j) (k := k) r
    rw [killN_c, List.length_cons, cntK]
    have e : ∀ n m, pcn n (m + 1) = n % 2 + pcn (n / 2) m := fun n m => by rw [pcn]
    rw [e]
    split
    · rw [show (1 + 2 * killN j k r 0) % 2 = 1 by omega, show (1 + 2 * killN j k r 0) / 2 = killN j k r 0 by omega, ih]
    · rw [show (0 + 2 * killN j k r 0) % 2 = 0 by omega, show (0 + 2 * killN j k r 0) / 2 = killN j k r 0 by omega, ih]
theorem cntK_le {j : List St} {k : Nat} : ∀ l : List CS3, cntK j k l ≤ l.length
  | [] => Nat.le_refl _
  | x :: r => by
    have := cntK_le (j := j) (k := k) r
    rw [cntK, List.length_cons]
    split <;> omega
theorem fstK_ctz {j : List St} {k : Nat} : ∀ (l : List CS3) (f : Nat), l.length ≤ f → (match fstK j k l with
    | none => killN j k l 0 = 0
    | some q => killN j k l 0 ≠ 0 ∧ ctz f (killN j k l 0) = q)
  | [], f, _ => rfl
  | x :: r, f, h => by
    obtain ⟨f', rfl⟩ : ∃ f', f = f' + 1 := ⟨f - 1, by rw [List.length_cons] at h; omega⟩
    have ih := fstK_ctz (j := j) (k := k) r f' (by rw [List.length_cons] at h; omega)
    rw [fstK, killN_c]
    cases hb : killB j x k with
    | true =>
      rw [if_pos rfl, if_pos rfl]
      refine ⟨by omega, ?_⟩
      rw [ctz, if_pos (by omega)]
    | false =>
      rw [if_neg (by decide), if_neg (by decide)]
      cases hf : fstK j k r with
      | none =>
        rw [hf] at ih
        show 0 + 2 * killN j k r 0 = 0
        have ih' : killN j k r 0 = 0 := ih
        omega
      | some q =>
        rw [hf] at ih
        have ih' : killN j k r 0 ≠ 0 ∧ ctz f' (killN j k r 0) = q := ih
        show 0 + 2 * killN j k r 0 ≠ 0 ∧ ctz (f' + 1) (0 + 2 * killN j k r 0) = q + 1
        refine ⟨by omega, ?_⟩
        rw [ctz, if_neg (by omega), show (0 + 2 * killN j k r 0) / 2 = killN j k r 0 by omega, ih'.2]
def orO (a b : Option Nat) : Option Nat := match a with
  | some q => some q
  | none => b
theorem fstK_lt {j : List St} {k : Nat} : ∀ {l : List CS3} {q : Nat}, fstK j k l = some q → q < l.length
  | [], q, h => nomatch h
  | x :: r, q, h => by
    rw [fstK] at h
    split at h
    · injection h with h
      subst h
      exact Nat.zero_lt_succ _
    · cases hf : fstK j k r with
      | none => rw [hf] at h; exact nomatch h
      | some p =>
        rw [hf] at h
        injection h with h
        have h' : p + 1 = q := h
        have := fstK_lt hf
        rw [List.length_cons]
        omega
def othA (j : List St) (k c : Nat) : List CS3 → Nat → Bool
  | [], _ => true
  | x :: r, d => (decide (d = c) || !killB j x k) && othA j k c r (d + 1)
theorem othA_gt {j : List St} {k c : Nat} : ∀ (l : List CS3) (d : Nat), c < d → (othA j k c l d = true ↔ killN j k l 0 = 0)
  | [], _, _ => ⟨fun _ => rfl, fun _ => rfl⟩
  | x :: r, d, h => by
    have ih := othA_gt (j := j) (k := k) (c := c) r (d + 1) (by omega)
    rw [othA, killN_c, decide_eq_false (by omega), Bool.false_or]
    cases hb : killB j x k with
    | true =>
      rw [if_pos rfl]
      exact ⟨fun z => (nomatch z), fun z => absurd z (by omega)⟩
    | false =>
      rw [if_neg (by decide)]
      show othA j k c r (d + 1) = true ↔ _
      rw [ih]
      omega
theorem alo_iff {j : List St} {k c : Nat} : ∀ (l : List CS3) (d : Nat), d ≤ c → c < d + l.length → ((killB j (l.getD (c - d) c30) k && othA j k c l d) = true ↔ killN j k l 0 = 2 ^ (c - d))
  | [], d, h1, h2 => absurd h2 (by show ¬ c < d + 0; omega)
  | x :: r, d, h1, h2 => by
    rw [List.length_cons] at h2
    rcases Nat.lt_or_ge d c with z | z
    · have ih := alo_iff (j := j) (k := k) (c := c) r (d + 1) (by omega) (by omega)
      have e : c - d = (c - (d + 1)) + 1 := by omega
      rw [e, killN_c, othA, decide_eq_false (by omega), Bool.false_or, Nat.pow_succ]
      show (killB j (r.getD (c - (d + 1)) c30) k && (!killB j x k && othA j k c r (d + 1))) = true ↔ _
      cases hb : killB j x k with
      | true =>
        rw [if_pos rfl]
        refine ⟨fun y => ?_, fun y => absurd y (by omega)⟩
        rw [Bool.and_eq_true, Bool.and_eq_true] at y
        exact nomatch y.2.1
      | false =>
        rw [if_neg (by decide)]
        show (killB j (r.getD (c - (d + 1)) c30) k && (true && othA j k c r (d + 1))) = true ↔ _
        rw [Bool.true_and, ih]
        omega
    · have e : c = d := by omega
      subst e
      have ih := othA_gt (j := j) (k := k) (c := c) r (c + 1) (by omega)
      rw [Nat.sub_self, killN_c, othA, decide_eq_true rfl, Bool.true_or, Bool.true_and]
      show (killB j x k && othA j k c r (c + 1)) = true ↔ _
      cases hb : killB j x k with
      | true =>
        rw [if_pos rfl, Bool.true_and, ih]
        omega
      | false =>
        rw [if_neg (by decide), Bool.false_and]
        exact ⟨fun y => (nomatch y), fun y => absurd y (by omega)⟩

theorem nI_ne3 {n : Nat} (h : n < 1000) : nI n ≠ -3 := fun z => by
  have := congrArg Int32.toInt z
  rw [nI_toInt (by omega), show (-3 : Int32).toInt = -3 by decide] at this
  omega
theorem map_add0 (o : Option Nat) (c : Nat) : (o.map (· + 1)).map (· + c) = o.map (· + (c + 1)) := by
  cases o with
  | none => rfl
  | some q => show some (q + 1 + c) = some (q + (c + 1)); congr 1; omega

set_option maxRecDepth 20000 in
set_option maxHeartbeats 4000000 in
theorem ll_MD_mut {P : px_H → Option Value → Prop} {h0 : px_H} {k w Nn : Nat} {F : Option Nat} {L : Int32} {xs : List CS3} {em : List Nat} {es : List Ev} {om : List Nat} {ro : List Row} {wn : List Nat} {j : List St} {cb : Bool} {gp : gP} {gv : gV}  (K0 : px_pa h0 271 52 6 stS j) (K1 : px_pa h0 272 52 6 stA j) (K2 : px_pa h0 273 50 6 stN j) (K3 : px_pa h0 274 50 8 vN em) (K4 : px_pa h0 275 52 192 evS es) (K5 : px_pa h0 276 54 192 evK es) (K6 : px_pa h0 277 53 192 evV es) (K7 : px_pa h0 278 53 192 evT es) (K8 : px_pa h0 279 50 8 vN om) (K9 : px_pa h0 280 54 128 rK ro) (K10 : px_pa h0 281 53 128 rV ro) (K11 : px_pa h0 282 53 128 rT ro) (K12 : px_pa h0 283 52 8 vN wn) (hj : okB j) (ht : tN j ≤ 2) (hk : k < jMut j) (h8 : xs.length ≤ 8) (hxs : ∀ x ∈ xs, okC3 x) (hA : okA xs em es om ro wn) (kx : ∀ g, pKL g (L, nI j.length, nI xs.length) gp cb (gv.1, gv.2.1, gv.2.2.1, gv.2.2.2.1, gv.2.2.2.2.1, gv.2.2.2.2.2.1, gv.2.2.2.2.2.2.1, nI (mutAt j k).1, nI (mutAt j k).2) → px_fj 269 1 284 19 h0 g → px_to 201 120 [some (.ref (269)), some (.int (nI k)), some (.int (nI w)), some (.int (oI F)), some (.int (nI Nn)), none] [] g P) : ∀ (d : Nat) (fo : Option Nat) (n : Nat) (c : Nat) (g : px_H), (xs.length ≤ c + d) → (c ≤ xs.length) → (orO fo ((fstK j k (xs.drop c)).map (· + c)) = F) → (n + cntK j k (xs.drop c) = Nn) → (∀ q, fo = some q → q < 8) → pKL g (L, nI j.length, nI xs.length) gp cb (gv.1, gv.2.1, gv.2.2.1, gv.2.2.2.1, gv.2.2.2.2.1, gv.2.2.2.2.2.1, gv.2.2.2.2.2.2.1, nI (mutAt j k).1, nI (mutAt j k).2) → px_fj 269 1 284 19 h0 g → px_to 201 80 [some (.ref (269)), some (.int (nI k)), some (.int (nI w)), some (.int (oI fo)), some (.int (nI n)), some (.int (nI c))] [] g P := by
  intro d
  induction d using Nat.strongRecOn with
  | ind d ih =>
    intro fo n c g q0 q1 q2 q3 q4 G0 frg
    have h6 := hj.1.1
    refine e_iload f_201_80 rfl rfl ?_
    refine e_aload_n f_201_82 rfl rfl ?_
    obtain ⟨gq1, gh2, gw3, gu4, jn5, sl6, sl27, lh8, lg9, cv10, pl11, lo12, lt13, g14, g15, g16, g17, g18, g19, g20, g21, g22, g23, g24, g25, g26, g27, g28, g29, g30, g31, g32, g33, hL34⟩ := id G0
    refine e_getf f_201_83 g14 rfl rfl ?_
    show px_to 201 86 [some (.ref (269)), some (.int (nI k)), some (.int (nI w)), some (.int (oI fo)), some (.int (nI n)), some (.int (nI c))] [.int (nI xs.length), .int (nI c)] g _
    refine e_icmp_ge f_201_86 rfl (fun c_86 => ?_) (fun c_86 => ?_)
    · skip
      have c_86 : xs.length ≤ c := cv_le (by omega) (by omega) c_86
      have g35 : pKL g (L, nI j.length, nI xs.length) gp cb (gv.1, gv.2.1, gv.2.2.1, gv.2.2.2.1, gv.2.2.2.2.1, gv.2.2.2.2.2.1, gv.2.2.2.2.2.2.1, nI (mutAt j k).1, nI (mutAt j k).2) := ⟨(gq1.1, gq1.2.1, gq1.2.2.1, gq1.2.2.2.1, gq1.2.2.2.2.1, gq1.2.2.2.2.2.1, cb), gh2, gw3, gu4, _, _, _, _, _, _, _, _, _, g14, g15, g16, g17, g18, g19, g20, g21, g22, g23, g24, g25, g26, g27, g28, g29, g30, g31, g32, g33, hL34⟩
      have ec : c = xs.length := by omega
      rw [List.drop_eq_nil_of_le (by omega), cntK, Nat.add_zero] at q3
      rw [List.drop_eq_nil_of_le (by omega)] at q2
      have e2 : fo = F := by rw [← q2]; cases fo <;> rfl
      subst e2
      subst q3
      refine px_to_L (L := [some (.ref (269)), some (.int (nI k)), some (.int (nI w)), some (.int (oI fo)), some (.int (nI n)), none]) ⟨Or.inr rfl, Or.inr rfl, Or.inr rfl, Or.inr rfl, Or.inr rfl, Or.inl rfl, trivial⟩ ?_
      exact kx g g35 frg
    · skip
      have c_86 : c < xs.length := cv_nle (by omega) (by omega) c_86
      have hL := hL34
      have hAc := hA.2 c (by omega)
      refine e_aload_n f_201_89 rfl rfl ?_
      refine e_iload f_201_90 rfl rfl ?_
      obtain ⟨hm37, fa38, fb39⟩ := fj_mid frg
      have g36 : px_pa g 271 52 6 stS j := pa_fi (pa_fi K0 fa38 (by omega)) fb39 (by omega)
      obtain ⟨hm41, fa42, fb43⟩ := fj_mid frg
      have g40 : px_pa g 272 52 6 stA j := pa_fi (pa_fi K1 fa42 (by omega)) fb43 (by omega)
      obtain ⟨hm45, fa46, fb47⟩ := fj_mid frg
      have g44 : px_pa g 273 50 6 stN j := pa_fi (pa_fi K2 fa46 (by omega)) fb47 (by omega)
      obtain ⟨hm49, fa50, fb51⟩ := fj_mid frg
      have g48 : px_pa g 274 50 8 vN em := pa_fi (pa_fi K3 fa50 (by omega)) fb51 (by omega)
      obtain ⟨hm53, fa54, fb55⟩ := fj_mid frg
      have g52 : px_pa g 275 52 192 evS es := pa_fi (pa_fi K4 fa54 (by omega)) fb55 (by omega)
      obtain ⟨hm57, fa58, fb59⟩ := fj_mid frg
      have g56 : px_pa g 276 54 192 evK es := pa_fi (pa_fi K5 fa58 (by omega)) fb59 (by omega)
      obtain ⟨hm61, fa62, fb63⟩ := fj_mid frg
      have g60 : px_pa g 277 53 192 evV es := pa_fi (pa_fi K6 fa62 (by omega)) fb63 (by omega)
      obtain ⟨hm65, fa66, fb67⟩ := fj_mid frg
      have g64 : px_pa g 278 53 192 evT es := pa_fi (pa_fi K7 fa66 (by omega)) fb67 (by omega)
      obtain ⟨hm69, fa70, fb71⟩ := fj_mid frg
      have g68 : px_pa g 279 50 8 vN om := pa_fi (pa_fi K8 fa70 (by omega)) fb71 (by omega)
      obtain ⟨hm73, fa74, fb75⟩ := fj_mid frg
      have g72 : px_pa g 280 54 128 rK ro := pa_fi (pa_fi K9 fa74 (by omega)) fb75 (by omega)
      obtain ⟨hm77, fa78, fb79⟩ := fj_mid frg
      have g76 : px_pa g 281 53 128 rV ro := pa_fi (pa_fi K10 fa78 (by omega)) fb79 (by omega)
      obtain ⟨hm81, fa82, fb83⟩ := fj_mid frg
      have g80 : px_pa g 282 53 128 rT ro := pa_fi (pa_fi K11 fa82 (by omega)) fb83 (by omega)
      obtain ⟨hm85, fa86, fb87⟩ := fj_mid frg
      have g84 : px_pa g 283 52 8 vN wn := pa_fi (pa_fi K12 fa86 (by omega)) fb87 (by omega)
      refine e_callV (As := [.int (nI c)]) (rest := []) f_201_92 rfl rfl rfl (Nat.le_of_ble_eq_true rfl) (Nat.le_of_ble_eq_true rfl) g14 rfl (Nat.le_of_ble_eq_true rfl) (cc_Md_kil (c := c) (x := (xs.getD c c30)) (k := k) (em := em) (es := es) (om := om) (ro := ro) (wn := wn) (pl := pl11) (L := L) (cn := nI xs.length) (j := j) (jn := jn5) (cb := cb) (sl := sl6) (sl2 := sl27) (lh := lh8) (lg := lg9) (lo := lo12) (lt := lt13) (cv := cv10) (gp := gp) (gq := (gq1.1, gq1.2.1, gq1.2.2.1, gq1.2.2.2.1, gq1.2.2.2.2.1, gq1.2.2.2.2.2.1, cb)) (gh := gh2) (gw := gw3) (gu := gu4) (gv := (gv.1, gv.2.1, gv.2.2.1, gv.2.2.2.1, gv.2.2.2.2.1, gv.2.2.2.2.2.1, gv.2.2.2.2.2.2.1, nI (mutAt j k).1, nI (mutAt j k).2)) g14 g36 g40 g44 g15 g16 g17 g18 g19 g20 g21 g22 g23 g24 g25 g26 g27 g48 g52 g56 g60 g64 g68 g72 g76 g80 g84 g28 g29 g30 g31 g32 g33 (⟨hj, ht, hk⟩) (hL) (by omega) (⟨hA.1.1, hA.1.2.1⟩) (hAc.2.1) (hxs _ (getD_mem _ (by omega))) (hAc.1) (⟨hA.1.2.2.1, hA.1.2.2.2.1⟩) (hAc.2.2.1) (hAc.2.2.2.1) (⟨hA.1.2.2.2.2, hAc.2.2.2.2⟩)) rfl (fun h88 r89 q90 => ?_)
      obtain ⟨rfl, g91, fx92⟩ := q90
      obtain ⟨hm93, fa94, fb95⟩ := fj_mid fx92
      have fr96 : px_fj 269 1 284 19 h0 hm93 := fj_tr frg fa94 (by omega)
      have fr97 : px_fj 269 1 284 19 h0 h88 := fj_tr fr96 fb95 (by omega)
      show px_to 201 95 [some (.ref (269)), some (.int (nI k)), some (.int (nI w)), some (.int (oI fo)), some (.int (nI n)), some (.int (nI c))] [.int (bI (killB j (xs.getD c c30) k))] h88 _
      refine e_if_eq f_201_95 rfl (fun c_95 => ?_) (fun c_95 => ?_)
      · skip
        have c_95 : (killB j (xs.getD c c30) k) = false := bI_f c_95
        refine e_iinc (y := nI (c + 1)) (L' := [some (.ref (269)), some (.int (nI k)), some (.int (nI w)), some (.int (oI fo)), some (.int (nI n)), some (.int (nI (c + 1)))]) f_201_114 rfl (by rw [show Int32.ofInt 1 = nI 1 by decide]; exact (nI_add _ _)) rfl rfl ?_
        refine e_goto f_201_117 ?_
        rw [drop_step c30 (show c < xs.length by omega), fstK, if_neg (by rw [c_95]; decide)] at q2
        rw [drop_step c30 (show c < xs.length by omega), cntK, if_neg (by rw [c_95]; decide)] at q3
        first | (exfalso; omega) | exact ih (d - 1) (by omega) fo n (c + 1) h88 (by omega) (by omega) (by rw [← q2, map_add0]) (by omega) (q4) g91 fr97
      · skip
        have c_95 : (killB j (xs.getD c c30) k) = true := bI_t' c_95
        rcases fo with _ | f0
        · skip
          show px_to 201 98 [some (.ref (269)), some (.int (nI k)), some (.int (nI w)), some (.int ((-3))), some (.int (nI n)), some (.int (nI c))] [] h88 _
          refine e_iload_n f_201_98 rfl rfl ?_
          refine e_bipush (v := (-3)) f_201_99 (by decide) rfl ?_
          refine e_icmp_ne_f f_201_101 (by decide) rfl ?_
          refine e_iload f_201_104 rfl rfl ?_
          refine e_goto f_201_106 ?_
          refine e_istore_n (L' := [some (.ref (269)), some (.int (nI k)), some (.int (nI w)), some (.int (nI c)), some (.int (nI n)), some (.int (nI c))]) f_201_110 (Nat.le_of_ble_eq_true rfl) rfl rfl ?_
          refine e_iinc (y := nI (n + 1)) (L' := [some (.ref (269)), some (.int (nI k)), some (.int (nI w)), some (.int (nI c)), some (.int (nI (n + 1))), some (.int (nI c))]) f_201_111 rfl (by rw [show Int32.ofInt 1 = nI 1 by decide]; exact (nI_add _ _)) rfl rfl ?_
          refine e_iinc (y := nI (c + 1)) (L' := [some (.ref (269)), some (.int (nI k)), some (.int (nI w)), some (.int (nI c)), some (.int (nI (n + 1))), some (.int (nI (c + 1)))]) f_201_114 rfl (by rw [show Int32.ofInt 1 = nI 1 by decide]; exact (nI_add _ _)) rfl rfl ?_
          refine e_goto f_201_117 ?_
          rw [drop_step c30 (show c < xs.length by omega), fstK, if_pos c_95] at q2
          rw [drop_step c30 (show c < xs.length by omega), cntK, if_pos c_95] at q3
          refine px_to_L (L := [some (.ref (269)), some (.int (nI k)), some (.int (nI w)), some (.int (oI (some c))), some (.int (nI (n + 1))), some (.int (nI (c + 1)))]) ⟨Or.inr rfl, Or.inr rfl, Or.inr rfl, Or.inr rfl, Or.inr rfl, Or.inr rfl, trivial⟩ ?_
          first | (exfalso; omega) | exact ih (d - 1) (by omega) (some c) (n + 1) (c + 1) h88 (by omega) (by omega) (by rw [← q2]; show some c = some (0 + c); rw [Nat.zero_add]) (by omega) (fun q hq => by injection hq with hq; omega) g91 fr97
        · skip
          have hf8 := q4 f0 rfl
          show px_to 201 98 [some (.ref (269)), some (.int (nI k)), some (.int (nI w)), some (.int (nI f0)), some (.int (nI n)), some (.int (nI c))] [] h88 _
          refine e_iload_n f_201_98 rfl rfl ?_
          refine e_bipush (v := (-3)) f_201_99 (by decide) rfl ?_
          refine e_icmp_ne_t f_201_101 (nI_ne3 (by omega)) ?_
          refine e_iload_n f_201_109 rfl rfl ?_
          refine e_istore_n (L' := [some (.ref (269)), some (.int (nI k)), some (.int (nI w)), some (.int (nI f0)), some (.int (nI n)), some (.int (nI c))]) f_201_110 (Nat.le_of_ble_eq_true rfl) rfl rfl ?_
          refine e_iinc (y := nI (n + 1)) (L' := [some (.ref (269)), some (.int (nI k)), some (.int (nI w)), some (.int (nI f0)), some (.int (nI (n + 1))), some (.int (nI c))]) f_201_111 rfl (by rw [show Int32.ofInt 1 = nI 1 by decide]; exact (nI_add _ _)) rfl rfl ?_
          refine e_iinc (y := nI (c + 1)) (L' := [some (.ref (269)), some (.int (nI k)), some (.int (nI w)), some (.int (nI f0)), some (.int (nI (n + 1))), some (.int (nI (c + 1)))]) f_201_114 rfl (by rw [show Int32.ofInt 1 = nI 1 by decide]; exact (nI_add _ _)) rfl rfl ?_
          refine e_goto f_201_117 ?_
          rw [drop_step c30 (show c < xs.length by omega), fstK, if_pos c_95] at q2
          rw [drop_step c30 (show c < xs.length by omega), cntK, if_pos c_95] at q3
          refine px_to_L (L := [some (.ref (269)), some (.int (nI k)), some (.int (nI w)), some (.int (oI (some f0))), some (.int (nI (n + 1))), some (.int (nI (c + 1)))]) ⟨Or.inr rfl, Or.inr rfl, Or.inr rfl, Or.inr rfl, Or.inr rfl, Or.inr rfl, trivial⟩ ?_
          first | (exfalso; omega) | exact ih (d - 1) (by omega) (some f0) (n + 1) (c + 1) h88 (by omega) (by omega) (by rw [← q2]; rfl) (by omega) (fun q hq => by injection hq with hq; omega) g91 fr97

set_option maxRecDepth 20000 in
set_option maxHeartbeats 4000000 in
theorem cc_MD_mut {h : px_H} {tx : List Nat} {j : List St} {xs : List CS3} {q : Int32} {w : Int32} (H0 : pMD h tx j xs) (p0 : tN j ≤ 2) : px_wp 201 [.ref (269), .int (q), .int (w)] h (fun h1 r => r = some (.int (aMut j xs q w)) ∧ pMD h1 tx j xs ∧ px_fi 269 35 h h1) := by
  have fr0 : px_fi 269 35 h h := fi_rf _ _ _
  show px_to 201 0 [some (.ref (269)), some (.int (q)), some (.int (w)), none, none, none] [] h _
  obtain ⟨gp, gq, gh, gw, gu, gv, jn, sl, sl2, lh, lg, lo, lt, cv, pl, ke, g1, g2, g3, g4, g5, g6, g7, g8, g9, g10, g11, g12, g13, g14, g15, g16, g17, g18, g19, g20, g21, g22, g23, g24, g25, g26, ok⟩ := id H0
  have h8 : xs.length ≤ 8 := ok.2.2.1.1
  have hj6 : j.length ≤ 6 := ok.2.1.1.1
  have htl : tx.length ≤ 500 := pa_len g2
  refine e_iload_n f_201_0 rfl rfl ?_
  refine e_iconst (v := nI 0) f_201_1 (by decide) rfl ?_
  refine e_aload_n f_201_2 rfl rfl ?_
  refine e_callV (As := []) (rest := [.int (nI 0), .int (q)]) f_201_3 rfl rfl rfl (Nat.le_of_ble_eq_true rfl) (Nat.le_of_ble_eq_true rfl) g1 rfl (Nat.le_of_ble_eq_true rfl) (cc_Md_muts (L := nI tx.length) (cn := nI xs.length) (j := j) (gp := gp) (gq := gq) (gh := gh) (gw := gw) (gu := gu) (gv := gv) g1 g3 (fun s hs => by have := (ok.2.1.2 s hs).1.1; omega)) rfl (fun h27 r28 q29 => ?_)
  obtain ⟨rfl, qe⟩ := q29
  have qe := qe.symm
  subst qe
  show px_to 201 6 [some (.ref (269)), some (.int (q)), some (.int (w)), none, none, none] [.int (nI (jMut j)), .int (nI 0), .int (q)] h _
  refine e_iconst (v := nI 1) f_201_6 (by decide) rfl ?_
  refine e_isub (z := (nI (jMut j)) - (nI 1)) f_201_7 rfl rfl ?_
  refine e_callS (As := [.int (q), .int (nI 0), .int ((nI (jMut j)) - (nI 1))]) (rest := []) f_201_8 rfl rfl rfl (Nat.le_of_ble_eq_true rfl) (Nat.le_of_ble_eq_true rfl) (cc_Md_in (v := q) (lo := nI 0) (hi := (nI (jMut j)) - (nI 1))  ) rfl (fun h30 r31 q32 => ?_)
  obtain ⟨rfl, qe⟩ := q32
  have qe := qe.symm
  subst qe
  show px_to 201 11 [some (.ref (269)), some (.int (q)), some (.int (w)), none, none, none] [.int (bI (decide (nI 0 ≤ q ∧ q ≤ (nI (jMut j)) - (nI 1))))] h _
  refine e_if_eq f_201_11 rfl (fun c_11 => ?_) (fun c_11 => ?_)
  · skip
    have c_11 : (decide (nI 0 ≤ q ∧ q ≤ (nI (jMut j)) - (nI 1))) = false := bI_f c_11
    have hjm := jMut_le j
    have cq : hasC q (jMut j) = false := by rw [← in_hasC (by omega)]; exact c_11
    refine e_iconst (v := (-1)) f_201_23 (by decide) rfl ?_
    refine e_iret f_201_24 rfl (rfl) ?_
    have g33 : pMD h tx j xs := ⟨gp, gq, gh, gw, gu, gv, jn, sl, sl2, lh, lg, lo, lt, cv, pl, ke, g1, g2, g3, g4, g5, g6, g7, g8, g9, g10, g11, g12, g13, g14, g15, g16, g17, g18, g19, g20, g21, g22, g23, g24, g25, g26, ok⟩
    exact ⟨congrArg (fun z => some (Value.int z)) (show (-1) = _ from by unfold aMut; rw [if_neg (fun z => absurd z.1 (by rw [cq]; decide))]), g33, fr0⟩
  · skip
    have c_11 : (decide (nI 0 ≤ q ∧ q ≤ (nI (jMut j)) - (nI 1))) = true := bI_t' c_11
    have hjm := jMut_le j
    have cq : hasC q (jMut j) = true := by rw [← in_hasC (by omega)]; exact c_11
    obtain ⟨k, hk, hkc⟩ := hasC_t (by omega) cq
    subst hkc
    refine e_iload_n f_201_14 rfl rfl ?_
    refine e_iconst (v := nI 0) f_201_15 (by decide) rfl ?_
    refine e_iconst (v := nI 4) f_201_16 (by decide) rfl ?_
    refine e_callS (As := [.int (w), .int (nI 0), .int (nI 4)]) (rest := []) f_201_17 rfl rfl rfl (Nat.le_of_ble_eq_true rfl) (Nat.le_of_ble_eq_true rfl) (cc_Md_in (v := w) (lo := nI 0) (hi := nI 4)  ) rfl (fun h34 r35 q36 => ?_)
    obtain ⟨rfl, qe⟩ := q36
    have qe := qe.symm
    subst qe
    show px_to 201 20 [some (.ref (269)), some (.int (nI k)), some (.int (w)), none, none, none] [.int (bI (decide (nI 0 ≤ w ∧ w ≤ nI 4)))] h _
    refine e_if_ne f_201_20 rfl (fun c_20 => ?_) (fun c_20 => ?_)
    · skip
      have c_20 : (decide (nI 0 ≤ w ∧ w ≤ nI 4)) = true := bI_t c_20
      have cw : hasC w 5 = true := by rw [← in4]; exact c_20
      obtain ⟨kw, hkw, hkwc⟩ := hasC_t (by omega) cw
      subst hkwc
      refine e_aload_n f_201_25 rfl rfl ?_
      refine e_iload_n f_201_26 rfl rfl ?_
      refine e_callV (As := [.int (nI k)]) (rest := []) f_201_27 rfl rfl rfl (Nat.le_of_ble_eq_true rfl) (Nat.le_of_ble_eq_true rfl) g1 rfl (Nat.le_of_ble_eq_true rfl) (cc_Md_sks (k := k) (j := j) (ga := (nI tx.length, nI j.length, nI xs.length)) (gp := gp) (gq := gq) (gh := gh) (gw := gw) (gu := gu) (gv := gv) g1 g3 (hk) (fun s hs => by have := (ok.2.1.2 s hs).1.1; omega) (by omega)) rfl (fun h37 r38 q39 => ?_)
      obtain ⟨rfl, g40, fx41⟩ := q39
      have fr42 : px_fi 269 35 h h37 := fi_tr fr0 fx41 (by omega)
      show px_to 201 30 [some (.ref (269)), some (.int (nI k)), some (.int (nI kw)), none, none, none] [] h37 _
      refine e_iload_n f_201_30 rfl rfl ?_
      refine e_iconst (v := nI 3) f_201_31 (by decide) rfl ?_
      refine e_icmp_ge f_201_32 rfl (fun c_32 => ?_) (fun c_32 => ?_)
      · skip
        have c_32 : 3 ≤ kw := cv_le (by omega) (by omega) c_32
        refine e_bipush (v := (-3)) f_201_71 (by decide) rfl ?_
        refine e_istore_n (L' := [some (.ref (269)), some (.int (nI k)), some (.int (nI kw)), some (.int ((-3))), none, none]) f_201_73 (Nat.le_of_ble_eq_true rfl) rfl rfl ?_
        refine e_iconst (v := nI 0) f_201_74 (by decide) rfl ?_
        refine e_istore (L' := [some (.ref (269)), some (.int (nI k)), some (.int (nI kw)), some (.int ((-3))), some (.int (nI 0)), none]) f_201_75 (Nat.le_of_ble_eq_true rfl) rfl rfl ?_
        refine e_iconst (v := nI 0) f_201_77 (by decide) rfl ?_
        refine e_istore (L' := [some (.ref (269)), some (.int (nI k)), some (.int (nI kw)), some (.int ((-3))), some (.int (nI 0)), some (.int (nI 0))]) f_201_78 (Nat.le_of_ble_eq_true rfl) rfl rfl ?_
        have g48 : pMA h37 xs := pMA_fi g6 fx41 (by omega)
        obtain ⟨em43, es44, om45, ro46, wn47, g49, g50, g51, g52, g53, g54, g55, g56, g57, g58, hA59⟩ := id g48
        have g60 : px_pa h37 284 52 6 stS jn := pa_fi g7 fx41 (by omega)
        have g61 : px_pa h37 285 52 6 stA jn := pa_fi g8 fx41 (by omega)
        have g62 : px_pa h37 286 50 6 stN jn := pa_fi g9 fx41 (by omega)
        have g63 : px_pa h37 287 50 3070 Value.int sl := pa_fi g10 fx41 (by omega)
        have g64 : px_pa h37 288 50 3070 Value.int sl2 := pa_fi g11 fx41 (by omega)
        have g65 : px_pa h37 289 54 100 rK lh := pa_fi g12 fx41 (by omega)
        have g66 : px_pa h37 290 50 100 rV lh := pa_fi g13 fx41 (by omega)
        have g67 : px_pa h37 291 50 100 rT lh := pa_fi g14 fx41 (by omega)
        have g68 : px_pa h37 292 54 100 rK lg := pa_fi g15 fx41 (by omega)
        have g69 : px_pa h37 293 50 100 rV lg := pa_fi g16 fx41 (by omega)
        have g70 : px_pa h37 294 50 100 rT lg := pa_fi g17 fx41 (by omega)
        have g71 : px_pa h37 295 50 30 Value.int cv := pa_fi g18 fx41 (by omega)
        have g72 : px_pa h37 296 50 24 vN pl := pa_fi g19 fx41 (by omega)
        have g73 : px_pa h37 297 54 100 rK lo := pa_fi g20 fx41 (by omega)
        have g74 : px_pa h37 298 50 100 rV lo := pa_fi g21 fx41 (by omega)
        have g75 : px_pa h37 299 50 100 rT lo := pa_fi g22 fx41 (by omega)
        have g76 : px_pa h37 300 54 100 rK lt := pa_fi g23 fx41 (by omega)
        have g77 : px_pa h37 301 50 100 rV lt := pa_fi g24 fx41 (by omega)
        have g78 : px_pa h37 302 50 100 rT lt := pa_fi g25 fx41 (by omega)
        have g79 : pKL h37 (nI tx.length, nI j.length, nI xs.length) gp gq.2.2.2.2.2.2 (gv.1, gv.2.1, gv.2.2.1, gv.2.2.2.1, gv.2.2.2.2.1, gv.2.2.2.2.2.1, gv.2.2.2.2.2.2.1, nI ((mutAt j k).1), nI ((mutAt j k).2)) := ⟨gq, gh, gw, gu, _, _, _, _, _, _, _, _, _, g40, g60, g61, g62, g63, g64, g65, g66, g67, g68, g69, g70, g71, g72, g73, g74, g75, g76, g77, g78, ok.2.2.2.1⟩
        have g80 : px_pa h37 271 52 6 stS j := pa_fi g3 fx41 (by omega)
        have g81 : px_pa h37 272 52 6 stA j := pa_fi g4 fx41 (by omega)
        have g82 : px_pa h37 273 50 6 stN j := pa_fi g5 fx41 (by omega)
        refine ll_MD_mut (h0 := h37) (k := k) (w := kw) (F := fstK j k xs) (Nn := cntK j k xs) (gv := gv) g80 g81 g82 g49 g50 g51 g52 g53 g54 g55 g56 g57 g58 ok.2.1 p0 hk h8 ok.2.2.1.2 hA59 (fun hG2 z0 zf => ?_) xs.length none 0 0 h37 (by omega) (Nat.zero_le _) (by rw [List.drop_zero]; show Option.map (fun x => x + 0) (fstK j k xs) = _; cases fstK j k xs <;> rfl) (by rw [List.drop_zero, Nat.zero_add]) (fun q hq => nomatch hq) g79 (fj_rf _ _ _ _ _)
        obtain ⟨hm2, fa2, fb2⟩ := fj_mid zf
        have fr83 : px_fi 269 35 h hm2 := fi_tr fr42 fa2 (by omega)
        have fr84 : px_fi 269 35 h hG2 := fi_tr fr83 fb2 (by omega)
        obtain ⟨gq85, gh86, gw87, gu88, jn89, sl90, sl291, lh92, lg93, cv94, pl95, lo96, lt97, g98, g99, g100, g101, g102, g103, g104, g105, g106, g107, g108, g109, g110, g111, g112, g113, g114, g115, g116, g117, hL118⟩ := id z0
        have hL := hL118
        have hfc := fstK_ctz (j := j) (k := k) xs 8 h8
        have hcl := cntK_le (j := j) (k := k) xs
        refine e_iload_n f_201_120 rfl rfl ?_
        refine e_iconst (v := nI 3) f_201_121 (by decide) rfl ?_
        refine e_icmp_ne f_201_122 rfl (fun c_122 => ?_) (fun c_122 => ?_)
        · skip
          have c_122 : kw ≠ 3 := cv_ne c_122
          refine e_iload f_201_129 rfl rfl ?_
          refine e_iret f_201_131 rfl (rfl) ?_
          have g119 : px_pa hm2 274 50 8 vN em43 := pa_fi g49 fa2 (by omega)
          have g120 : px_pa hG2 274 50 8 vN em43 := pa_fi g119 fb2 (by omega)
          have g121 : px_pa hm2 275 52 192 evS es44 := pa_fi g50 fa2 (by omega)
          have g122 : px_pa hG2 275 52 192 evS es44 := pa_fi g121 fb2 (by omega)
          have g123 : px_pa hm2 276 54 192 evK es44 := pa_fi g51 fa2 (by omega)
          have g124 : px_pa hG2 276 54 192 evK es44 := pa_fi g123 fb2 (by omega)
          have g125 : px_pa hm2 277 53 192 evV es44 := pa_fi g52 fa2 (by omega)
          have g126 : px_pa hG2 277 53 192 evV es44 := pa_fi g125 fb2 (by omega)
          have g127 : px_pa hm2 278 53 192 evT es44 := pa_fi g53 fa2 (by omega)
          have g128 : px_pa hG2 278 53 192 evT es44 := pa_fi g127 fb2 (by omega)
          have g129 : px_pa hm2 279 50 8 vN om45 := pa_fi g54 fa2 (by omega)
          have g130 : px_pa hG2 279 50 8 vN om45 := pa_fi g129 fb2 (by omega)
          have g131 : px_pa hm2 280 54 128 rK ro46 := pa_fi g55 fa2 (by omega)
          have g132 : px_pa hG2 280 54 128 rK ro46 := pa_fi g131 fb2 (by omega)
          have g133 : px_pa hm2 281 53 128 rV ro46 := pa_fi g56 fa2 (by omega)
          have g134 : px_pa hG2 281 53 128 rV ro46 := pa_fi g133 fb2 (by omega)
          have g135 : px_pa hm2 282 53 128 rT ro46 := pa_fi g57 fa2 (by omega)
          have g136 : px_pa hG2 282 53 128 rT ro46 := pa_fi g135 fb2 (by omega)
          have g137 : px_pa hm2 283 52 8 vN wn47 := pa_fi g58 fa2 (by omega)
          have g138 : px_pa hG2 283 52 8 vN wn47 := pa_fi g137 fb2 (by omega)
          have g139 : pMA hG2 xs := ⟨_, _, _, _, _, g120, g122, g124, g126, g128, g130, g132, g134, g136, g138, hA59⟩
          have g140 : px_pa h37 270 52 500 vN tx := pa_fi g2 fx41 (by omega)
          have g141 : px_pa hm2 270 52 500 vN tx := pa_fi g140 fa2 (by omega)
          have g142 : px_pa hG2 270 52 500 vN tx := pa_fi g141 fb2 (by omega)
          have g143 : px_pa hm2 271 52 6 stS j := pa_fi g80 fa2 (by omega)
          have g144 : px_pa hG2 271 52 6 stS j := pa_fi g143 fb2 (by omega)
          have g145 : px_pa hm2 272 52 6 stA j := pa_fi g81 fa2 (by omega)
          have g146 : px_pa hG2 272 52 6 stA j := pa_fi g145 fb2 (by omega)
          have g147 : px_pa hm2 273 50 6 stN j := pa_fi g82 fa2 (by omega)
          have g148 : px_pa hG2 273 50 6 stN j := pa_fi g147 fb2 (by omega)
          have g149 : px_pa h37 303 50 24 vN ke := pa_fi g26 fx41 (by omega)
          have g150 : px_pa hm2 303 50 24 vN ke := pa_fi g149 fa2 (by omega)
          have g151 : px_pa hG2 303 50 24 vN ke := pa_fi g150 fb2 (by omega)
          have g152 : pMD hG2 tx j xs := ⟨gp, (gq85.1, gq85.2.1, gq85.2.2.1, gq85.2.2.2.1, gq85.2.2.2.2.1, gq85.2.2.2.2.2.1, gq.2.2.2.2.2.2), gh86, gw87, gu88, (gv.1, gv.2.1, gv.2.2.1, gv.2.2.2.1, gv.2.2.2.2.1, gv.2.2.2.2.2.1, gv.2.2.2.2.2.2.1, nI ((mutAt j k).1), nI ((mutAt j k).2)), jn89, sl90, sl291, lh92, lg93, lo96, lt97, cv94, pl95, ke, g98, g142, g144, g146, g148, g139, g99, g100, g101, g102, g103, g104, g105, g106, g107, g108, g109, g110, g111, g112, g113, g114, g115, g116, g117, g151, ⟨ok.1, ok.2.1, ok.2.2.1, hL, ok.2.2.2.2⟩⟩
          exact ⟨congrArg (fun z => some (Value.int z)) (show nI (cntK j k xs) = _ from by unfold aMut; rw [if_pos ⟨hasC_nI (by omega) hk, hasC_nI (by omega) hkw⟩, nN_nI (by omega), nN_nI (by omega)]; unfold mutO; rw [if_neg (show ¬ kw = 0 by omega), if_neg (show ¬ kw = 1 by omega), if_neg (show ¬ kw = 2 by omega), if_neg c_122, bcN_pcn (m := xs.length) (by omega) (by have z := killN_lt (j := j) (k := k) xs 0; rw [Nat.pow_zero, Nat.zero_add] at z; omega), cntK_pcn]), g152, fr84⟩
        · skip
          have c_122 : kw = 3 := cv_nne (by omega) (by omega) c_122
          refine e_iload_n f_201_125 rfl rfl ?_
          refine e_goto f_201_126 ?_
          refine e_iret f_201_131 rfl (rfl) ?_
          have g153 : px_pa hm2 274 50 8 vN em43 := pa_fi g49 fa2 (by omega)
          have g154 : px_pa hG2 274 50 8 vN em43 := pa_fi g153 fb2 (by omega)
          have g155 : px_pa hm2 275 52 192 evS es44 := pa_fi g50 fa2 (by omega)
          have g156 : px_pa hG2 275 52 192 evS es44 := pa_fi g155 fb2 (by omega)
          have g157 : px_pa hm2 276 54 192 evK es44 := pa_fi g51 fa2 (by omega)
          have g158 : px_pa hG2 276 54 192 evK es44 := pa_fi g157 fb2 (by omega)
          have g159 : px_pa hm2 277 53 192 evV es44 := pa_fi g52 fa2 (by omega)
          have g160 : px_pa hG2 277 53 192 evV es44 := pa_fi g159 fb2 (by omega)
          have g161 : px_pa hm2 278 53 192 evT es44 := pa_fi g53 fa2 (by omega)
          have g162 : px_pa hG2 278 53 192 evT es44 := pa_fi g161 fb2 (by omega)
          have g163 : px_pa hm2 279 50 8 vN om45 := pa_fi g54 fa2 (by omega)
          have g164 : px_pa hG2 279 50 8 vN om45 := pa_fi g163 fb2 (by omega)
          have g165 : px_pa hm2 280 54 128 rK ro46 := pa_fi g55 fa2 (by omega)
          have g166 : px_pa hG2 280 54 128 rK ro46 := pa_fi g165 fb2 (by omega)
          have g167 : px_pa hm2 281 53 128 rV ro46 := pa_fi g56 fa2 (by omega)
          have g168 : px_pa hG2 281 53 128 rV ro46 := pa_fi g167 fb2 (by omega)
          have g169 : px_pa hm2 282 53 128 rT ro46 := pa_fi g57 fa2 (by omega)
          have g170 : px_pa hG2 282 53 128 rT ro46 := pa_fi g169 fb2 (by omega)
          have g171 : px_pa hm2 283 52 8 vN wn47 := pa_fi g58 fa2 (by omega)
          have g172 : px_pa hG2 283 52 8 vN wn47 := pa_fi g171 fb2 (by omega)
          have g173 : pMA hG2 xs := ⟨_, _, _, _, _, g154, g156, g158, g160, g162, g164, g166, g168, g170, g172, hA59⟩
          have g174 : px_pa h37 270 52 500 vN tx := pa_fi g2 fx41 (by omega)
          have g175 : px_pa hm2 270 52 500 vN tx := pa_fi g174 fa2 (by omega)
          have g176 : px_pa hG2 270 52 500 vN tx := pa_fi g175 fb2 (by omega)
          have g177 : px_pa hm2 271 52 6 stS j := pa_fi g80 fa2 (by omega)
          have g178 : px_pa hG2 271 52 6 stS j := pa_fi g177 fb2 (by omega)
          have g179 : px_pa hm2 272 52 6 stA j := pa_fi g81 fa2 (by omega)
          have g180 : px_pa hG2 272 52 6 stA j := pa_fi g179 fb2 (by omega)
          have g181 : px_pa hm2 273 50 6 stN j := pa_fi g82 fa2 (by omega)
          have g182 : px_pa hG2 273 50 6 stN j := pa_fi g181 fb2 (by omega)
          have g183 : px_pa h37 303 50 24 vN ke := pa_fi g26 fx41 (by omega)
          have g184 : px_pa hm2 303 50 24 vN ke := pa_fi g183 fa2 (by omega)
          have g185 : px_pa hG2 303 50 24 vN ke := pa_fi g184 fb2 (by omega)
          have g186 : pMD hG2 tx j xs := ⟨gp, (gq85.1, gq85.2.1, gq85.2.2.1, gq85.2.2.2.1, gq85.2.2.2.2.1, gq85.2.2.2.2.2.1, gq.2.2.2.2.2.2), gh86, gw87, gu88, (gv.1, gv.2.1, gv.2.2.1, gv.2.2.2.1, gv.2.2.2.2.1, gv.2.2.2.2.2.1, gv.2.2.2.2.2.2.1, nI ((mutAt j k).1), nI ((mutAt j k).2)), jn89, sl90, sl291, lh92, lg93, lo96, lt97, cv94, pl95, ke, g98, g176, g178, g180, g182, g173, g99, g100, g101, g102, g103, g104, g105, g106, g107, g108, g109, g110, g111, g112, g113, g114, g115, g116, g117, g185, ⟨ok.1, ok.2.1, ok.2.2.1, hL, ok.2.2.2.2⟩⟩
          exact ⟨congrArg (fun z => some (Value.int z)) (show oI (fstK j k xs) = _ from by unfold aMut; rw [if_pos ⟨hasC_nI (by omega) hk, hasC_nI (by omega) hkw⟩, nN_nI (by omega), nN_nI (by omega)]; unfold mutO; rw [if_neg (show ¬ kw = 0 by omega), if_neg (show ¬ kw = 1 by omega), if_neg (show ¬ kw = 2 by omega), if_pos c_122]; cases hf : fstK j k xs with
            | none => rw [hf] at hfc; rw [if_pos hfc]; rfl
            | some q => rw [hf] at hfc; rw [if_neg hfc.1, hfc.2]; rfl), g186, fr84⟩
      · skip
        have c_32 : kw < 3 := cv_nle (by omega) (by omega) c_32
        refine e_iload_n f_201_35 rfl rfl ?_
        refine e_if_ne f_201_36 rfl (fun c_36 => ?_) (fun c_36 => ?_)
        · skip
          rw [← nI_0] at c_36
          have c_36 : kw ≠ 0 := cv_ne c_36
          refine e_iload_n f_201_46 rfl rfl ?_
          refine e_iconst (v := nI 1) f_201_47 (by decide) rfl ?_
          refine e_icmp_ne f_201_48 rfl (fun c_48 => ?_) (fun c_48 => ?_)
          · skip
            have c_48 : kw ≠ 1 := cv_ne c_48
            refine e_aload_n f_201_58 rfl rfl ?_
            have g187 : px_pa h37 271 52 6 stS j := pa_fi g3 fx41 (by omega)
            refine e_callV (As := []) (rest := []) f_201_59 rfl rfl rfl (Nat.le_of_ble_eq_true rfl) (Nat.le_of_ble_eq_true rfl) g40 rfl (Nat.le_of_ble_eq_true rfl) (cc_Md_ilo (st := (mutAt j k).1) (wy := (mutAt j k).2) (j := j) (ga := (nI tx.length, nI j.length, nI xs.length)) (gp := gp) (gq := gq) (gh := gh) (gw := gw) (gu := gu) (gv := (gv.1, gv.2.1, gv.2.2.1, gv.2.2.2.1, gv.2.2.2.2.1, gv.2.2.2.2.2.1, gv.2.2.2.2.2.2.1, nI ((mutAt j k).1), nI ((mutAt j k).2))) g40 g187 ((mutAt_w hk).1) (fun s hs => by have := (ok.2.1.2 s hs).1.1; omega) (by have := (mutAt_w hk).2; have := (ways_le (j.getD (mutAt j k).1 (0, 0, 0))).2; omega)) rfl (fun h188 r189 q190 => ?_)
            obtain ⟨rfl, qe⟩ := q190
            have qe := qe.symm
            subst qe
            show px_to 201 62 [some (.ref (269)), some (.int (nI k)), some (.int (nI kw)), none, none, none] [.int (bI (decide ((mutAt j k).2 + 1 = ways (j.getD ((mutAt j k).1) (0, 0, 0)))))] h37 _
            refine e_if_eq f_201_62 rfl (fun c_62 => ?_) (fun c_62 => ?_)
            · skip
              have c_62 : (decide ((mutAt j k).2 + 1 = ways (j.getD ((mutAt j k).1) (0, 0, 0)))) = false := bI_f c_62
              refine e_iconst (v := nI 0) f_201_69 (by decide) rfl ?_
              refine e_iret f_201_70 rfl (rfl) ?_
              have g191 : px_pa h37 270 52 500 vN tx := pa_fi g2 fx41 (by omega)
              have g192 : px_pa h37 272 52 6 stA j := pa_fi g4 fx41 (by omega)
              have g193 : px_pa h37 273 50 6 stN j := pa_fi g5 fx41 (by omega)
              have g194 : pMA h37 xs := pMA_fi g6 fx41 (by omega)
              have g195 : px_pa h37 284 52 6 stS jn := pa_fi g7 fx41 (by omega)
              have g196 : px_pa h37 285 52 6 stA jn := pa_fi g8 fx41 (by omega)
              have g197 : px_pa h37 286 50 6 stN jn := pa_fi g9 fx41 (by omega)
              have g198 : px_pa h37 287 50 3070 Value.int sl := pa_fi g10 fx41 (by omega)
              have g199 : px_pa h37 288 50 3070 Value.int sl2 := pa_fi g11 fx41 (by omega)
              have g200 : px_pa h37 289 54 100 rK lh := pa_fi g12 fx41 (by omega)
              have g201 : px_pa h37 290 50 100 rV lh := pa_fi g13 fx41 (by omega)
              have g202 : px_pa h37 291 50 100 rT lh := pa_fi g14 fx41 (by omega)
              have g203 : px_pa h37 292 54 100 rK lg := pa_fi g15 fx41 (by omega)
              have g204 : px_pa h37 293 50 100 rV lg := pa_fi g16 fx41 (by omega)
              have g205 : px_pa h37 294 50 100 rT lg := pa_fi g17 fx41 (by omega)
              have g206 : px_pa h37 295 50 30 Value.int cv := pa_fi g18 fx41 (by omega)
              have g207 : px_pa h37 296 50 24 vN pl := pa_fi g19 fx41 (by omega)
              have g208 : px_pa h37 297 54 100 rK lo := pa_fi g20 fx41 (by omega)
              have g209 : px_pa h37 298 50 100 rV lo := pa_fi g21 fx41 (by omega)
              have g210 : px_pa h37 299 50 100 rT lo := pa_fi g22 fx41 (by omega)
              have g211 : px_pa h37 300 54 100 rK lt := pa_fi g23 fx41 (by omega)
              have g212 : px_pa h37 301 50 100 rV lt := pa_fi g24 fx41 (by omega)
              have g213 : px_pa h37 302 50 100 rT lt := pa_fi g25 fx41 (by omega)
              have g214 : px_pa h37 303 50 24 vN ke := pa_fi g26 fx41 (by omega)
              have g215 : pMD h37 tx j xs := ⟨gp, gq, gh, gw, gu, (gv.1, gv.2.1, gv.2.2.1, gv.2.2.2.1, gv.2.2.2.2.1, gv.2.2.2.2.2.1, gv.2.2.2.2.2.2.1, nI ((mutAt j k).1), nI ((mutAt j k).2)), jn, sl, sl2, lh, lg, lo, lt, cv, pl, ke, g40, g191, g187, g192, g193, g194, g195, g196, g197, g198, g199, g200, g201, g202, g203, g204, g205, g206, g207, g208, g209, g210, g211, g212, g213, g214, ok⟩
              exact ⟨congrArg (fun z => some (Value.int z)) (show nI 0 = _ from by unfold aMut; rw [if_pos ⟨hasC_nI (by omega) hk, hasC_nI (by omega) hkw⟩, nN_nI (by omega), nN_nI (by omega)]; unfold mutO; rw [if_neg c_36, if_neg c_48, if_pos (show kw = 2 by omega), if_neg (of_decide_eq_false c_62)]), g215, fr42⟩
            · skip
              have c_62 : (decide ((mutAt j k).2 + 1 = ways (j.getD ((mutAt j k).1) (0, 0, 0)))) = true := bI_t' c_62
              refine e_iconst (v := nI 1) f_201_65 (by decide) rfl ?_
              refine e_goto f_201_66 ?_
              refine e_iret f_201_70 rfl (rfl) ?_
              have g216 : px_pa h37 270 52 500 vN tx := pa_fi g2 fx41 (by omega)
              have g217 : px_pa h37 272 52 6 stA j := pa_fi g4 fx41 (by omega)
              have g218 : px_pa h37 273 50 6 stN j := pa_fi g5 fx41 (by omega)
              have g219 : pMA h37 xs := pMA_fi g6 fx41 (by omega)
              have g220 : px_pa h37 284 52 6 stS jn := pa_fi g7 fx41 (by omega)
              have g221 : px_pa h37 285 52 6 stA jn := pa_fi g8 fx41 (by omega)
              have g222 : px_pa h37 286 50 6 stN jn := pa_fi g9 fx41 (by omega)
              have g223 : px_pa h37 287 50 3070 Value.int sl := pa_fi g10 fx41 (by omega)
              have g224 : px_pa h37 288 50 3070 Value.int sl2 := pa_fi g11 fx41 (by omega)
              have g225 : px_pa h37 289 54 100 rK lh := pa_fi g12 fx41 (by omega)
              have g226 : px_pa h37 290 50 100 rV lh := pa_fi g13 fx41 (by omega)
              have g227 : px_pa h37 291 50 100 rT lh := pa_fi g14 fx41 (by omega)
              have g228 : px_pa h37 292 54 100 rK lg := pa_fi g15 fx41 (by omega)
              have g229 : px_pa h37 293 50 100 rV lg := pa_fi g16 fx41 (by omega)
              have g230 : px_pa h37 294 50 100 rT lg := pa_fi g17 fx41 (by omega)
              have g231 : px_pa h37 295 50 30 Value.int cv := pa_fi g18 fx41 (by omega)
              have g232 : px_pa h37 296 50 24 vN pl := pa_fi g19 fx41 (by omega)
              have g233 : px_pa h37 297 54 100 rK lo := pa_fi g20 fx41 (by omega)
              have g234 : px_pa h37 298 50 100 rV lo := pa_fi g21 fx41 (by omega)
              have g235 : px_pa h37 299 50 100 rT lo := pa_fi g22 fx41 (by omega)
              have g236 : px_pa h37 300 54 100 rK lt := pa_fi g23 fx41 (by omega)
              have g237 : px_pa h37 301 50 100 rV lt := pa_fi g24 fx41 (by omega)
              have g238 : px_pa h37 302 50 100 rT lt := pa_fi g25 fx41 (by omega)
              have g239 : px_pa h37 303 50 24 vN ke := pa_fi g26 fx41 (by omega)
              have g240 : pMD h37 tx j xs := ⟨gp, gq, gh, gw, gu, (gv.1, gv.2.1, gv.2.2.1, gv.2.2.2.1, gv.2.2.2.2.1, gv.2.2.2.2.2.1, gv.2.2.2.2.2.2.1, nI ((mutAt j k).1), nI ((mutAt j k).2)), jn, sl, sl2, lh, lg, lo, lt, cv, pl, ke, g40, g216, g187, g217, g218, g219, g220, g221, g222, g223, g224, g225, g226, g227, g228, g229, g230, g231, g232, g233, g234, g235, g236, g237, g238, g239, ok⟩
              exact ⟨congrArg (fun z => some (Value.int z)) (show nI 1 = _ from by unfold aMut; rw [if_pos ⟨hasC_nI (by omega) hk, hasC_nI (by omega) hkw⟩, nN_nI (by omega), nN_nI (by omega)]; unfold mutO; rw [if_neg c_36, if_neg c_48, if_pos (show kw = 2 by omega), if_pos (of_decide_eq_true c_62)]), g240, fr42⟩
          · skip
            have c_48 : kw = 1 := cv_nne (by omega) (by omega) c_48
            refine e_aload_n f_201_51 rfl rfl ?_
            refine e_getf f_201_52 g40 rfl rfl ?_
            show px_to 201 55 [some (.ref (269)), some (.int (nI k)), some (.int (nI kw)), none, none, none] [.int (nI ((mutAt j k).2))] h37 _
            refine e_goto f_201_55 ?_
            refine e_iret f_201_70 rfl (rfl) ?_
            have g241 : px_pa h37 270 52 500 vN tx := pa_fi g2 fx41 (by omega)
            have g242 : px_pa h37 271 52 6 stS j := pa_fi g3 fx41 (by omega)
            have g243 : px_pa h37 272 52 6 stA j := pa_fi g4 fx41 (by omega)
            have g244 : px_pa h37 273 50 6 stN j := pa_fi g5 fx41 (by omega)
            have g245 : pMA h37 xs := pMA_fi g6 fx41 (by omega)
            have g246 : px_pa h37 284 52 6 stS jn := pa_fi g7 fx41 (by omega)
            have g247 : px_pa h37 285 52 6 stA jn := pa_fi g8 fx41 (by omega)
            have g248 : px_pa h37 286 50 6 stN jn := pa_fi g9 fx41 (by omega)
            have g249 : px_pa h37 287 50 3070 Value.int sl := pa_fi g10 fx41 (by omega)
            have g250 : px_pa h37 288 50 3070 Value.int sl2 := pa_fi g11 fx41 (by omega)
            have g251 : px_pa h37 289 54 100 rK lh := pa_fi g12 fx41 (by omega)
            have g252 : px_pa h37 290 50 100 rV lh := pa_fi g13 fx41 (by omega)
            have g253 : px_pa h37 291 50 100 rT lh := pa_fi g14 fx41 (by omega)
            have g254 : px_pa h37 292 54 100 rK lg := pa_fi g15 fx41 (by omega)
            have g255 : px_pa h37 293 50 100 rV lg := pa_fi g16 fx41 (by omega)
            have g256 : px_pa h37 294 50 100 rT lg := pa_fi g17 fx41 (by omega)
            have g257 : px_pa h37 295 50 30 Value.int cv := pa_fi g18 fx41 (by omega)
            have g258 : px_pa h37 296 50 24 vN pl := pa_fi g19 fx41 (by omega)
            have g259 : px_pa h37 297 54 100 rK lo := pa_fi g20 fx41 (by omega)
            have g260 : px_pa h37 298 50 100 rV lo := pa_fi g21 fx41 (by omega)
            have g261 : px_pa h37 299 50 100 rT lo := pa_fi g22 fx41 (by omega)
            have g262 : px_pa h37 300 54 100 rK lt := pa_fi g23 fx41 (by omega)
            have g263 : px_pa h37 301 50 100 rV lt := pa_fi g24 fx41 (by omega)
            have g264 : px_pa h37 302 50 100 rT lt := pa_fi g25 fx41 (by omega)
            have g265 : px_pa h37 303 50 24 vN ke := pa_fi g26 fx41 (by omega)
            have g266 : pMD h37 tx j xs := ⟨gp, gq, gh, gw, gu, (gv.1, gv.2.1, gv.2.2.1, gv.2.2.2.1, gv.2.2.2.2.1, gv.2.2.2.2.2.1, gv.2.2.2.2.2.2.1, nI ((mutAt j k).1), nI ((mutAt j k).2)), jn, sl, sl2, lh, lg, lo, lt, cv, pl, ke, g40, g241, g242, g243, g244, g245, g246, g247, g248, g249, g250, g251, g252, g253, g254, g255, g256, g257, g258, g259, g260, g261, g262, g263, g264, g265, ok⟩
            exact ⟨congrArg (fun z => some (Value.int z)) (show nI ((mutAt j k).2) = _ from by unfold aMut; rw [if_pos ⟨hasC_nI (by omega) hk, hasC_nI (by omega) hkw⟩, nN_nI (by omega), nN_nI (by omega)]; unfold mutO; rw [if_neg c_36, if_pos c_48]), g266, fr42⟩
        · skip
          rw [← nI_0] at c_36
          have c_36 : kw = 0 := cv_nne (by omega) (by omega) c_36
          refine e_aload_n f_201_39 rfl rfl ?_
          refine e_getf f_201_40 g40 rfl rfl ?_
          show px_to 201 43 [some (.ref (269)), some (.int (nI k)), some (.int (nI kw)), none, none, none] [.int (nI ((mutAt j k).1))] h37 _
          refine e_goto f_201_43 ?_
          refine e_iret f_201_70 rfl (rfl) ?_
          have g267 : px_pa h37 270 52 500 vN tx := pa_fi g2 fx41 (by omega)
          have g268 : px_pa h37 271 52 6 stS j := pa_fi g3 fx41 (by omega)
          have g269 : px_pa h37 272 52 6 stA j := pa_fi g4 fx41 (by omega)
          have g270 : px_pa h37 273 50 6 stN j := pa_fi g5 fx41 (by omega)
          have g271 : pMA h37 xs := pMA_fi g6 fx41 (by omega)
          have g272 : px_pa h37 284 52 6 stS jn := pa_fi g7 fx41 (by omega)
          have g273 : px_pa h37 285 52 6 stA jn := pa_fi g8 fx41 (by omega)
          have g274 : px_pa h37 286 50 6 stN jn := pa_fi g9 fx41 (by omega)
          have g275 : px_pa h37 287 50 3070 Value.int sl := pa_fi g10 fx41 (by omega)
          have g276 : px_pa h37 288 50 3070 Value.int sl2 := pa_fi g11 fx41 (by omega)
          have g277 : px_pa h37 289 54 100 rK lh := pa_fi g12 fx41 (by omega)
          have g278 : px_pa h37 290 50 100 rV lh := pa_fi g13 fx41 (by omega)
          have g279 : px_pa h37 291 50 100 rT lh := pa_fi g14 fx41 (by omega)
          have g280 : px_pa h37 292 54 100 rK lg := pa_fi g15 fx41 (by omega)
          have g281 : px_pa h37 293 50 100 rV lg := pa_fi g16 fx41 (by omega)
          have g282 : px_pa h37 294 50 100 rT lg := pa_fi g17 fx41 (by omega)
          have g283 : px_pa h37 295 50 30 Value.int cv := pa_fi g18 fx41 (by omega)
          have g284 : px_pa h37 296 50 24 vN pl := pa_fi g19 fx41 (by omega)
          have g285 : px_pa h37 297 54 100 rK lo := pa_fi g20 fx41 (by omega)
          have g286 : px_pa h37 298 50 100 rV lo := pa_fi g21 fx41 (by omega)
          have g287 : px_pa h37 299 50 100 rT lo := pa_fi g22 fx41 (by omega)
          have g288 : px_pa h37 300 54 100 rK lt := pa_fi g23 fx41 (by omega)
          have g289 : px_pa h37 301 50 100 rV lt := pa_fi g24 fx41 (by omega)
          have g290 : px_pa h37 302 50 100 rT lt := pa_fi g25 fx41 (by omega)
          have g291 : px_pa h37 303 50 24 vN ke := pa_fi g26 fx41 (by omega)
          have g292 : pMD h37 tx j xs := ⟨gp, gq, gh, gw, gu, (gv.1, gv.2.1, gv.2.2.1, gv.2.2.2.1, gv.2.2.2.2.1, gv.2.2.2.2.2.1, gv.2.2.2.2.2.2.1, nI ((mutAt j k).1), nI ((mutAt j k).2)), jn, sl, sl2, lh, lg, lo, lt, cv, pl, ke, g40, g267, g268, g269, g270, g271, g272, g273, g274, g275, g276, g277, g278, g279, g280, g281, g282, g283, g284, g285, g286, g287, g288, g289, g290, g291, ok⟩
          exact ⟨congrArg (fun z => some (Value.int z)) (show nI ((mutAt j k).1) = _ from by unfold aMut; rw [if_pos ⟨hasC_nI (by omega) hk, hasC_nI (by omega) hkw⟩, nN_nI (by omega), nN_nI (by omega)]; unfold mutO; rw [if_pos c_36]), g292, fr42⟩
    · skip
      have c_20 : (decide (nI 0 ≤ w ∧ w ≤ nI 4)) = false := bI_f' c_20
      have cw : hasC w 5 = false := by rw [← in4]; exact c_20
      refine e_iconst (v := (-1)) f_201_23 (by decide) rfl ?_
      refine e_iret f_201_24 rfl (rfl) ?_
      have g293 : pMD h tx j xs := ⟨gp, gq, gh, gw, gu, gv, jn, sl, sl2, lh, lg, lo, lt, cv, pl, ke, g1, g2, g3, g4, g5, g6, g7, g8, g9, g10, g11, g12, g13, g14, g15, g16, g17, g18, g19, g20, g21, g22, g23, g24, g25, g26, ok⟩
      exact ⟨congrArg (fun z => some (Value.int z)) (show (-1) = _ from by unfold aMut; rw [if_neg (fun z => absurd z.2 (by rw [cw]; decide))]), g293, fr0⟩
