theorem dec_nI {b : Nat} (h : 0 < b) : nI b + Int32.ofInt (-1) = nI (b - 1) := by
  obtain ⟨q, rfl⟩ : ∃ q, b = q + 1 := ⟨b - 1, by omega⟩
  rw [show Int32.ofInt (-1) = (-1) by decide]
  exact pk_m1 q
def shB (x : Int32) : Bool := decide ((x >>> (nI 16 &&& 31)) &&& nI 1 = nI 1)
def shG : Nat → Nat → Nat → Nat → Int32 → Int32 → Int32
  | 0, _, _, _, _, bits => bits
  | f + 1, i, a, b, x, bits => if a = 0 ∨ b = 0 then (if a = 0 then shG f (i + 1) a (b - 1) x (bits ||| (nI 1 <<< (nI i &&& 31))) else shG f (i + 1) (a - 1) b x bits)
    else (if shB (x * 1103515245 + nI 12345) = true then shG f (i + 1) a (b - 1) (x * 1103515245 + nI 12345) (bits ||| (nI 1 <<< (nI i &&& 31))) else shG f (i + 1) (a - 1) b (x * 1103515245 + nI 12345) bits)
def aShuf (xs : List CS3) (c s : Int32) : Int32 := onC xs c (fun x => shG (nAB x.1) 0 (evCnt false x.1) (evCnt true x.1) s (nI 0))

set_option maxRecDepth 20000 in
set_option maxHeartbeats 4000000 in
theorem ll_JT_shuf {P : px_H → Option Value → Prop} {h : px_H} {c al : Nat} {s y : Int32} (h24 : al ≤ 24) (hk : ∀ {r}, r = some (.int y) → P h r) : ∀ (d : Nat) (a : Nat) (b : Nat) (x : Int32) (bits : Int32) (i : Nat), (al ≤ i + d) → (a + b + i = al) → (shG (al - i) i a b x bits = y) → px_to 101 54 [some (.ref (17)), some (.int (nI c)), some (.int (s)), some (.int (nI a)), some (.int (nI b)), some (.int (nI al)), some (.int (x)), some (.int (bits)), some (.int (nI i)), none] [] h P := by
  intro d
  induction d using Nat.strongRecOn with
  | ind d ih =>
    intro a b x bits i q0 q1 q2
    refine e_iload f_101_54 rfl rfl ?_
    refine e_iload f_101_56 rfl rfl ?_
    refine e_icmp_ge f_101_58 rfl (fun c_58 => ?_) (fun c_58 => ?_)
    · skip
      have c_58 : al ≤ i := cv_le (by omega) (by omega) c_58
      refine e_iload f_101_139 rfl rfl ?_
      refine e_iret f_101_141 rfl (rfl) ?_
      rw [show al - i = 0 by omega, shG] at q2
      exact hk (by rw [q2])
    · skip
      have c_58 : i < al := cv_nle (by omega) (by omega) c_58
      refine e_iload_n f_101_61 rfl rfl ?_
      refine e_if_ne f_101_62 rfl (fun c_62 => ?_) (fun c_62 => ?_)
      · skip
        rw [← nI_0] at c_62
        have c_62 : a ≠ 0 := cv_ne c_62
        refine e_iconst (v := nI 0) f_101_69 (by decide) rfl ?_
        refine e_istore (L' := [some (.ref (17)), some (.int (nI c)), some (.int (s)), some (.int (nI a)), some (.int (nI b)), some (.int (nI al)), some (.int (x)), some (.int (bits)), some (.int (nI i)), some (.int (nI 0))]) f_101_70 (Nat.le_of_ble_eq_true rfl) rfl rfl ?_
        refine e_iload_n f_101_72 rfl rfl ?_
        refine e_if_le f_101_73 rfl (fun c_73 => ?_) (fun c_73 => ?_)
        · skip
          rw [← nI_0] at c_73
          have c_73 : a ≤ 0 := cv_le (by omega) (by omega) c_73
          refine e_iload f_101_110 rfl rfl ?_
          refine e_if_eq_t f_101_112 (by decide) ?_
          refine e_iinc (y := nI (a - 1)) (L' := [some (.ref (17)), some (.int (nI c)), some (.int (s)), some (.int (nI (a - 1))), some (.int (nI b)), some (.int (nI al)), some (.int (x)), some (.int (bits)), some (.int (nI i)), some (.int (nI 0))]) f_101_130 rfl (dec_nI (by omega)) rfl rfl ?_
          refine e_iinc (y := nI (i + 1)) (L' := [some (.ref (17)), some (.int (nI c)), some (.int (s)), some (.int (nI (a - 1))), some (.int (nI b)), some (.int (nI al)), some (.int (x)), some (.int (bits)), some (.int (nI (i + 1))), some (.int (nI 0))]) f_101_133 rfl (by rw [show Int32.ofInt 1 = nI 1 by decide]; exact (nI_add _ _)) rfl rfl ?_
          refine e_goto f_101_136 ?_
          refine px_to_L (L := [some (.ref (17)), some (.int (nI c)), some (.int (s)), some (.int (nI (a - 1))), some (.int (nI b)), some (.int (nI al)), some (.int (x)), some (.int (bits)), some (.int (nI (i + 1))), none]) ⟨Or.inr rfl, Or.inr rfl, Or.inr rfl, Or.inr rfl, Or.inr rfl, Or.inr rfl, Or.inr rfl, Or.inr rfl, Or.inr rfl, Or.inl rfl, trivial⟩ ?_
          first | (exfalso; omega) | exact ih (d - 1) (by omega) (a - 1) b x bits (i + 1)  (by omega) (by omega) (by rw [show al - i = (al - (i + 1)) + 1 by omega, shG, if_pos (by omega), if_neg (by omega)] at q2; exact q2)  
        · skip
          rw [← nI_0] at c_73
          have c_73 : 0 < a := cv_nle (by omega) (by omega) c_73
          refine e_iload f_101_76 rfl rfl ?_
          refine e_if_le f_101_78 rfl (fun c_78 => ?_) (fun c_78 => ?_)
          · skip
            rw [← nI_0] at c_78
            have c_78 : b ≤ 0 := cv_le (by omega) (by omega) c_78
            refine e_iload f_101_110 rfl rfl ?_
            refine e_if_eq_t f_101_112 (by decide) ?_
            refine e_iinc (y := nI (a - 1)) (L' := [some (.ref (17)), some (.int (nI c)), some (.int (s)), some (.int (nI (a - 1))), some (.int (nI b)), some (.int (nI al)), some (.int (x)), some (.int (bits)), some (.int (nI i)), some (.int (nI 0))]) f_101_130 rfl (dec_nI (by omega)) rfl rfl ?_
            refine e_iinc (y := nI (i + 1)) (L' := [some (.ref (17)), some (.int (nI c)), some (.int (s)), some (.int (nI (a - 1))), some (.int (nI b)), some (.int (nI al)), some (.int (x)), some (.int (bits)), some (.int (nI (i + 1))), some (.int (nI 0))]) f_101_133 rfl (by rw [show Int32.ofInt 1 = nI 1 by decide]; exact (nI_add _ _)) rfl rfl ?_
            refine e_goto f_101_136 ?_
            refine px_to_L (L := [some (.ref (17)), some (.int (nI c)), some (.int (s)), some (.int (nI (a - 1))), some (.int (nI b)), some (.int (nI al)), some (.int (x)), some (.int (bits)), some (.int (nI (i + 1))), none]) ⟨Or.inr rfl, Or.inr rfl, Or.inr rfl, Or.inr rfl, Or.inr rfl, Or.inr rfl, Or.inr rfl, Or.inr rfl, Or.inr rfl, Or.inl rfl, trivial⟩ ?_
            first | (exfalso; omega) | exact ih (d - 1) (by omega) (a - 1) b x bits (i + 1)  (by omega) (by omega) (by rw [show al - i = (al - (i + 1)) + 1 by omega, shG, if_pos (by omega), if_neg (by omega)] at q2; exact q2)  
          · skip
            rw [← nI_0] at c_78
            have c_78 : 0 < b := cv_nle (by omega) (by omega) c_78
            refine e_iload f_101_81 rfl rfl ?_
            refine e_ldc f_101_83 rfl ?_
            refine e_imul (z := x * 1103515245) f_101_85 (rfl) rfl ?_
            refine e_sipush (v := nI 12345) f_101_86 (by decide) rfl ?_
            refine e_iadd (z := (x * 1103515245) + (nI 12345)) f_101_89 rfl rfl ?_
            refine e_istore (L' := [some (.ref (17)), some (.int (nI c)), some (.int (s)), some (.int (nI a)), some (.int (nI b)), some (.int (nI al)), some (.int ((x * 1103515245) + (nI 12345))), some (.int (bits)), some (.int (nI i)), some (.int (nI 0))]) f_101_90 (Nat.le_of_ble_eq_true rfl) rfl rfl ?_
            refine e_iload f_101_92 rfl rfl ?_
            refine e_bipush (v := nI 16) f_101_94 (by decide) rfl ?_
            refine e_ishr (z := ((x * 1103515245) + (nI 12345)) >>> ((nI 16) &&& 31)) f_101_96 rfl rfl ?_
            refine e_iconst (v := nI 1) f_101_97 (by decide) rfl ?_
            refine e_iand (z := (((x * 1103515245) + (nI 12345)) >>> ((nI 16) &&& 31)) &&& (nI 1)) f_101_98 rfl rfl ?_
            refine e_iconst (v := nI 1) f_101_99 (by decide) rfl ?_
            refine e_icmp_ne f_101_100 rfl (fun c_100 => ?_) (fun c_100 => ?_)
            · skip
              refine e_iconst (v := nI 0) f_101_107 (by decide) rfl ?_
              refine e_istore (L' := [some (.ref (17)), some (.int (nI c)), some (.int (s)), some (.int (nI a)), some (.int (nI b)), some (.int (nI al)), some (.int ((x * 1103515245) + (nI 12345))), some (.int (bits)), some (.int (nI i)), some (.int (nI 0))]) f_101_108 (Nat.le_of_ble_eq_true rfl) rfl rfl ?_
              have hsb : shB (x * 1103515245 + nI 12345) = false := decide_eq_false c_100
              refine e_iload f_101_110 rfl rfl ?_
              refine e_if_eq_t f_101_112 (by decide) ?_
              refine e_iinc (y := nI (a - 1)) (L' := [some (.ref (17)), some (.int (nI c)), some (.int (s)), some (.int (nI (a - 1))), some (.int (nI b)), some (.int (nI al)), some (.int ((x * 1103515245) + (nI 12345))), some (.int (bits)), some (.int (nI i)), some (.int (nI 0))]) f_101_130 rfl (dec_nI (by omega)) rfl rfl ?_
              refine e_iinc (y := nI (i + 1)) (L' := [some (.ref (17)), some (.int (nI c)), some (.int (s)), some (.int (nI (a - 1))), some (.int (nI b)), some (.int (nI al)), some (.int ((x * 1103515245) + (nI 12345))), some (.int (bits)), some (.int (nI (i + 1))), some (.int (nI 0))]) f_101_133 rfl (by rw [show Int32.ofInt 1 = nI 1 by decide]; exact (nI_add _ _)) rfl rfl ?_
              refine e_goto f_101_136 ?_
              refine px_to_L (L := [some (.ref (17)), some (.int (nI c)), some (.int (s)), some (.int (nI (a - 1))), some (.int (nI b)), some (.int (nI al)), some (.int ((x * 1103515245 + nI 12345))), some (.int (bits)), some (.int (nI (i + 1))), none]) ⟨Or.inr rfl, Or.inr rfl, Or.inr rfl, Or.inr rfl, Or.inr rfl, Or.inr rfl, Or.inr rfl, Or.inr rfl, Or.inr rfl, Or.inl rfl, trivial⟩ ?_
              first | (exfalso; omega) | exact ih (d - 1) (by omega) (a - 1) b (x * 1103515245 + nI 12345) bits (i + 1)  (by omega) (by omega) (by rw [show al - i = (al - (i + 1)) + 1 by omega, shG, if_neg (by omega), if_neg (by rw [hsb]; decide)] at q2; exact q2)  
            · skip
              refine e_iconst (v := nI 1) f_101_103 (by decide) rfl ?_
              refine e_goto f_101_104 ?_
              refine e_istore (L' := [some (.ref (17)), some (.int (nI c)), some (.int (s)), some (.int (nI a)), some (.int (nI b)), some (.int (nI al)), some (.int ((x * 1103515245) + (nI 12345))), some (.int (bits)), some (.int (nI i)), some (.int (nI 1))]) f_101_108 (Nat.le_of_ble_eq_true rfl) rfl rfl ?_
              have hsb : shB (x * 1103515245 + nI 12345) = true := decide_eq_true (Classical.not_not.mp c_100)
              refine e_iload f_101_110 rfl rfl ?_
              refine e_if_eq_f f_101_112 (by decide) rfl ?_
              refine e_iload f_101_115 rfl rfl ?_
              refine e_iconst (v := nI 1) f_101_117 (by decide) rfl ?_
              refine e_iload f_101_118 rfl rfl ?_
              refine e_ishl (z := nI 1 <<< (nI i &&& 31)) f_101_120 (rfl) rfl ?_
              refine e_ior (z := bits ||| (nI 1 <<< (nI i &&& 31))) f_101_121 rfl rfl ?_
              refine e_istore (L' := [some (.ref (17)), some (.int (nI c)), some (.int (s)), some (.int (nI a)), some (.int (nI b)), some (.int (nI al)), some (.int ((x * 1103515245) + (nI 12345))), some (.int (bits ||| (nI 1 <<< (nI i &&& 31)))), some (.int (nI i)), some (.int (nI 1))]) f_101_122 (Nat.le_of_ble_eq_true rfl) rfl rfl ?_
              refine e_iinc (y := nI (b - 1)) (L' := [some (.ref (17)), some (.int (nI c)), some (.int (s)), some (.int (nI a)), some (.int (nI (b - 1))), some (.int (nI al)), some (.int ((x * 1103515245) + (nI 12345))), some (.int (bits ||| (nI 1 <<< (nI i &&& 31)))), some (.int (nI i)), some (.int (nI 1))]) f_101_124 rfl (dec_nI (by omega)) rfl rfl ?_
              refine e_goto f_101_127 ?_
              refine e_iinc (y := nI (i + 1)) (L' := [some (.ref (17)), some (.int (nI c)), some (.int (s)), some (.int (nI a)), some (.int (nI (b - 1))), some (.int (nI al)), some (.int ((x * 1103515245) + (nI 12345))), some (.int (bits ||| (nI 1 <<< (nI i &&& 31)))), some (.int (nI (i + 1))), some (.int (nI 1))]) f_101_133 rfl (by rw [show Int32.ofInt 1 = nI 1 by decide]; exact (nI_add _ _)) rfl rfl ?_
              refine e_goto f_101_136 ?_
              refine px_to_L (L := [some (.ref (17)), some (.int (nI c)), some (.int (s)), some (.int (nI a)), some (.int (nI (b - 1))), some (.int (nI al)), some (.int ((x * 1103515245 + nI 12345))), some (.int ((bits ||| (nI 1 <<< (nI i &&& 31))))), some (.int (nI (i + 1))), none]) ⟨Or.inr rfl, Or.inr rfl, Or.inr rfl, Or.inr rfl, Or.inr rfl, Or.inr rfl, Or.inr rfl, Or.inr rfl, Or.inr rfl, Or.inl rfl, trivial⟩ ?_
              first | (exfalso; omega) | exact ih (d - 1) (by omega) a (b - 1) (x * 1103515245 + nI 12345) (bits ||| (nI 1 <<< (nI i &&& 31))) (i + 1)  (by omega) (by omega) (by rw [show al - i = (al - (i + 1)) + 1 by omega, shG, if_neg (by omega), if_pos hsb] at q2; exact q2)  
      · skip
        rw [← nI_0] at c_62
        have c_62 : a = 0 := cv_nne (by omega) (by omega) c_62
        refine e_iconst (v := nI 1) f_101_65 (by decide) rfl ?_
        refine e_goto f_101_66 ?_
        refine e_istore (L' := [some (.ref (17)), some (.int (nI c)), some (.int (s)), some (.int (nI a)), some (.int (nI b)), some (.int (nI al)), some (.int (x)), some (.int (bits)), some (.int (nI i)), some (.int (nI 1))]) f_101_70 (Nat.le_of_ble_eq_true rfl) rfl rfl ?_
        refine e_iload_n f_101_72 rfl rfl ?_
        refine e_if_le f_101_73 rfl (fun c_73 => ?_) (fun c_73 => ?_)
        · skip
          rw [← nI_0] at c_73
          have c_73 : a ≤ 0 := cv_le (by omega) (by omega) c_73
          refine e_iload f_101_110 rfl rfl ?_
          refine e_if_eq_f f_101_112 (by decide) rfl ?_
          refine e_iload f_101_115 rfl rfl ?_
          refine e_iconst (v := nI 1) f_101_117 (by decide) rfl ?_
          refine e_iload f_101_118 rfl rfl ?_
          refine e_ishl (z := nI 1 <<< (nI i &&& 31)) f_101_120 (rfl) rfl ?_
          refine e_ior (z := bits ||| (nI 1 <<< (nI i &&& 31))) f_101_121 rfl rfl ?_
          refine e_istore (L' := [some (.ref (17)), some (.int (nI c)), some (.int (s)), some (.int (nI a)), some (.int (nI b)), some (.int (nI al)), some (.int (x)), some (.int (bits ||| (nI 1 <<< (nI i &&& 31)))), some (.int (nI i)), some (.int (nI 1))]) f_101_122 (Nat.le_of_ble_eq_true rfl) rfl rfl ?_
          refine e_iinc (y := nI (b - 1)) (L' := [some (.ref (17)), some (.int (nI c)), some (.int (s)), some (.int (nI a)), some (.int (nI (b - 1))), some (.int (nI al)), some (.int (x)), some (.int (bits ||| (nI 1 <<< (nI i &&& 31)))), some (.int (nI i)), some (.int (nI 1))]) f_101_124 rfl (dec_nI (by omega)) rfl rfl ?_
          refine e_goto f_101_127 ?_
          refine e_iinc (y := nI (i + 1)) (L' := [some (.ref (17)), some (.int (nI c)), some (.int (s)), some (.int (nI a)), some (.int (nI (b - 1))), some (.int (nI al)), some (.int (x)), some (.int (bits ||| (nI 1 <<< (nI i &&& 31)))), some (.int (nI (i + 1))), some (.int (nI 1))]) f_101_133 rfl (by rw [show Int32.ofInt 1 = nI 1 by decide]; exact (nI_add _ _)) rfl rfl ?_
          refine e_goto f_101_136 ?_
          refine px_to_L (L := [some (.ref (17)), some (.int (nI c)), some (.int (s)), some (.int (nI a)), some (.int (nI (b - 1))), some (.int (nI al)), some (.int (x)), some (.int ((bits ||| (nI 1 <<< (nI i &&& 31))))), some (.int (nI (i + 1))), none]) ⟨Or.inr rfl, Or.inr rfl, Or.inr rfl, Or.inr rfl, Or.inr rfl, Or.inr rfl, Or.inr rfl, Or.inr rfl, Or.inr rfl, Or.inl rfl, trivial⟩ ?_
          first | (exfalso; omega) | exact ih (d - 1) (by omega) a (b - 1) x (bits ||| (nI 1 <<< (nI i &&& 31))) (i + 1)  (by omega) (by omega) (by rw [show al - i = (al - (i + 1)) + 1 by omega, shG, if_pos (by omega), if_pos (by omega)] at q2; exact q2)  
        · skip
          rw [← nI_0] at c_73
          have c_73 : 0 < a := cv_nle (by omega) (by omega) c_73
          refine e_iload f_101_76 rfl rfl ?_
          refine e_if_le f_101_78 rfl (fun c_78 => ?_) (fun c_78 => ?_)
          · skip
            rw [← nI_0] at c_78
            have c_78 : b ≤ 0 := cv_le (by omega) (by omega) c_78
            refine e_iload f_101_110 rfl rfl ?_
            refine e_if_eq_f f_101_112 (by decide) rfl ?_
            refine e_iload f_101_115 rfl rfl ?_
            refine e_iconst (v := nI 1) f_101_117 (by decide) rfl ?_
            refine e_iload f_101_118 rfl rfl ?_
            refine e_ishl (z := nI 1 <<< (nI i &&& 31)) f_101_120 (rfl) rfl ?_
            refine e_ior (z := bits ||| (nI 1 <<< (nI i &&& 31))) f_101_121 rfl rfl ?_
            refine e_istore (L' := [some (.ref (17)), some (.int (nI c)), some (.int (s)), some (.int (nI a)), some (.int (nI b)), some (.int (nI al)), some (.int (x)), some (.int (bits ||| (nI 1 <<< (nI i &&& 31)))), some (.int (nI i)), some (.int (nI 1))]) f_101_122 (Nat.le_of_ble_eq_true rfl) rfl rfl ?_
            refine e_iinc (y := nI (b - 1)) (L' := [some (.ref (17)), some (.int (nI c)), some (.int (s)), some (.int (nI a)), some (.int (nI (b - 1))), some (.int (nI al)), some (.int (x)), some (.int (bits ||| (nI 1 <<< (nI i &&& 31)))), some (.int (nI i)), some (.int (nI 1))]) f_101_124 rfl (dec_nI (by omega)) rfl rfl ?_
            refine e_goto f_101_127 ?_
            refine e_iinc (y := nI (i + 1)) (L' := [some (.ref (17)), some (.int (nI c)), some (.int (s)), some (.int (nI a)), some (.int (nI (b - 1))), some (.int (nI al)), some (.int (x)), some (.int (bits ||| (nI 1 <<< (nI i &&& 31)))), some (.int (nI (i + 1))), some (.int (nI 1))]) f_101_133 rfl (by rw [show Int32.ofInt 1 = nI 1 by decide]; exact (nI_add _ _)) rfl rfl ?_
            refine e_goto f_101_136 ?_
            refine px_to_L (L := [some (.ref (17)), some (.int (nI c)), some (.int (s)), some (.int (nI a)), some (.int (nI (b - 1))), some (.int (nI al)), some (.int (x)), some (.int ((bits ||| (nI 1 <<< (nI i &&& 31))))), some (.int (nI (i + 1))), none]) ⟨Or.inr rfl, Or.inr rfl, Or.inr rfl, Or.inr rfl, Or.inr rfl, Or.inr rfl, Or.inr rfl, Or.inr rfl, Or.inr rfl, Or.inl rfl, trivial⟩ ?_
            first | (exfalso; omega) | exact ih (d - 1) (by omega) a (b - 1) x (bits ||| (nI 1 <<< (nI i &&& 31))) (i + 1)  (by omega) (by omega) (by rw [show al - i = (al - (i + 1)) + 1 by omega, shG, if_pos (by omega), if_pos (by omega)] at q2; exact q2)  
          · skip
            rw [← nI_0] at c_78
            have c_78 : 0 < b := cv_nle (by omega) (by omega) c_78
            refine e_iload f_101_81 rfl rfl ?_
            refine e_ldc f_101_83 rfl ?_
            refine e_imul (z := x * 1103515245) f_101_85 (rfl) rfl ?_
            refine e_sipush (v := nI 12345) f_101_86 (by decide) rfl ?_
            refine e_iadd (z := (x * 1103515245) + (nI 12345)) f_101_89 rfl rfl ?_
            refine e_istore (L' := [some (.ref (17)), some (.int (nI c)), some (.int (s)), some (.int (nI a)), some (.int (nI b)), some (.int (nI al)), some (.int ((x * 1103515245) + (nI 12345))), some (.int (bits)), some (.int (nI i)), some (.int (nI 1))]) f_101_90 (Nat.le_of_ble_eq_true rfl) rfl rfl ?_
            refine e_iload f_101_92 rfl rfl ?_
            refine e_bipush (v := nI 16) f_101_94 (by decide) rfl ?_
            refine e_ishr (z := ((x * 1103515245) + (nI 12345)) >>> ((nI 16) &&& 31)) f_101_96 rfl rfl ?_
            refine e_iconst (v := nI 1) f_101_97 (by decide) rfl ?_
            refine e_iand (z := (((x * 1103515245) + (nI 12345)) >>> ((nI 16) &&& 31)) &&& (nI 1)) f_101_98 rfl rfl ?_
            refine e_iconst (v := nI 1) f_101_99 (by decide) rfl ?_
            refine e_icmp_ne f_101_100 rfl (fun c_100 => ?_) (fun c_100 => ?_)
            · skip
              refine e_iconst (v := nI 0) f_101_107 (by decide) rfl ?_
              refine e_istore (L' := [some (.ref (17)), some (.int (nI c)), some (.int (s)), some (.int (nI a)), some (.int (nI b)), some (.int (nI al)), some (.int ((x * 1103515245) + (nI 12345))), some (.int (bits)), some (.int (nI i)), some (.int (nI 0))]) f_101_108 (Nat.le_of_ble_eq_true rfl) rfl rfl ?_
              have hsb : shB (x * 1103515245 + nI 12345) = false := decide_eq_false c_100
              refine e_iload f_101_110 rfl rfl ?_
              refine e_if_eq_t f_101_112 (by decide) ?_
              refine e_iinc (y := nI (a - 1)) (L' := [some (.ref (17)), some (.int (nI c)), some (.int (s)), some (.int (nI (a - 1))), some (.int (nI b)), some (.int (nI al)), some (.int ((x * 1103515245) + (nI 12345))), some (.int (bits)), some (.int (nI i)), some (.int (nI 0))]) f_101_130 rfl (dec_nI (by omega)) rfl rfl ?_
              refine e_iinc (y := nI (i + 1)) (L' := [some (.ref (17)), some (.int (nI c)), some (.int (s)), some (.int (nI (a - 1))), some (.int (nI b)), some (.int (nI al)), some (.int ((x * 1103515245) + (nI 12345))), some (.int (bits)), some (.int (nI (i + 1))), some (.int (nI 0))]) f_101_133 rfl (by rw [show Int32.ofInt 1 = nI 1 by decide]; exact (nI_add _ _)) rfl rfl ?_
              refine e_goto f_101_136 ?_
              refine px_to_L (L := [some (.ref (17)), some (.int (nI c)), some (.int (s)), some (.int (nI (a - 1))), some (.int (nI b)), some (.int (nI al)), some (.int ((x * 1103515245 + nI 12345))), some (.int (bits)), some (.int (nI (i + 1))), none]) ⟨Or.inr rfl, Or.inr rfl, Or.inr rfl, Or.inr rfl, Or.inr rfl, Or.inr rfl, Or.inr rfl, Or.inr rfl, Or.inr rfl, Or.inl rfl, trivial⟩ ?_
              first | (exfalso; omega) | exact ih (d - 1) (by omega) (a - 1) b (x * 1103515245 + nI 12345) bits (i + 1)  (by omega) (by omega) (by rw [show al - i = (al - (i + 1)) + 1 by omega, shG, if_neg (by omega), if_neg (by rw [hsb]; decide)] at q2; exact q2)  
            · skip
              refine e_iconst (v := nI 1) f_101_103 (by decide) rfl ?_
              refine e_goto f_101_104 ?_
              refine e_istore (L' := [some (.ref (17)), some (.int (nI c)), some (.int (s)), some (.int (nI a)), some (.int (nI b)), some (.int (nI al)), some (.int ((x * 1103515245) + (nI 12345))), some (.int (bits)), some (.int (nI i)), some (.int (nI 1))]) f_101_108 (Nat.le_of_ble_eq_true rfl) rfl rfl ?_
              have hsb : shB (x * 1103515245 + nI 12345) = true := decide_eq_true (Classical.not_not.mp c_100)
              refine e_iload f_101_110 rfl rfl ?_
              refine e_if_eq_f f_101_112 (by decide) rfl ?_
              refine e_iload f_101_115 rfl rfl ?_
              refine e_iconst (v := nI 1) f_101_117 (by decide) rfl ?_
              refine e_iload f_101_118 rfl rfl ?_
              refine e_ishl (z := nI 1 <<< (nI i &&& 31)) f_101_120 (rfl) rfl ?_
              refine e_ior (z := bits ||| (nI 1 <<< (nI i &&& 31))) f_101_121 rfl rfl ?_
              refine e_istore (L' := [some (.ref (17)), some (.int (nI c)), some (.int (s)), some (.int (nI a)), some (.int (nI b)), some (.int (nI al)), some (.int ((x * 1103515245) + (nI 12345))), some (.int (bits ||| (nI 1 <<< (nI i &&& 31)))), some (.int (nI i)), some (.int (nI 1))]) f_101_122 (Nat.le_of_ble_eq_true rfl) rfl rfl ?_
              refine e_iinc (y := nI (b - 1)) (L' := [some (.ref (17)), some (.int (nI c)), some (.int (s)), some (.int (nI a)), some (.int (nI (b - 1))), some (.int (nI al)), some (.int ((x * 1103515245) + (nI 12345))), some (.int (bits ||| (nI 1 <<< (nI i &&& 31)))), some (.int (nI i)), some (.int (nI 1))]) f_101_124 rfl (dec_nI (by omega)) rfl rfl ?_
              refine e_goto f_101_127 ?_
              refine e_iinc (y := nI (i + 1)) (L' := [some (.ref (17)), some (.int (nI c)), some (.int (s)), some (.int (nI a)), some (.int (nI (b - 1))), some (.int (nI al)), some (.int ((x * 1103515245) + (nI 12345))), some (.int (bits ||| (nI 1 <<< (nI i &&& 31)))), some (.int (nI (i + 1))), some (.int (nI 1))]) f_101_133 rfl (by rw [show Int32.ofInt 1 = nI 1 by decide]; exact (nI_add _ _)) rfl rfl ?_
              refine e_goto f_101_136 ?_
              refine px_to_L (L := [some (.ref (17)), some (.int (nI c)), some (.int (s)), some (.int (nI a)), some (.int (nI (b - 1))), some (.int (nI al)), some (.int ((x * 1103515245 + nI 12345))), some (.int ((bits ||| (nI 1 <<< (nI i &&& 31))))), some (.int (nI (i + 1))), none]) ⟨Or.inr rfl, Or.inr rfl, Or.inr rfl, Or.inr rfl, Or.inr rfl, Or.inr rfl, Or.inr rfl, Or.inr rfl, Or.inr rfl, Or.inl rfl, trivial⟩ ?_
              first | (exfalso; omega) | exact ih (d - 1) (by omega) a (b - 1) (x * 1103515245 + nI 12345) (bits ||| (nI 1 <<< (nI i &&& 31))) (i + 1)  (by omega) (by omega) (by rw [show al - i = (al - (i + 1)) + 1 by omega, shG, if_neg (by omega), if_pos hsb] at q2; exact q2)  

set_option maxRecDepth 20000 in
set_option maxHeartbeats 4000000 in
theorem cc_JT_shuf {h : px_H} {tx : List Nat} {j : List St} {xs : List CS3} {c : Int32} {s : Int32} (H0 : pJT h tx j xs)  : px_wp 101 [.ref (17), .int (c), .int (s)] h (fun h1 r => r = some (.int (aShuf xs c s)) ∧ pJT h1 tx j xs ∧ px_fi 17 252 h h1) := by
  have fr0 : px_fi 17 252 h h := fi_rf _ _ _
  show px_to 101 0 [some (.ref (17)), some (.int (c)), some (.int (s)), none, none, none, none, none, none, none] [] h _
  obtain ⟨cs, S, D, pz, kk, ck, wo, xr, kl, cv, g1, g2, g3, g4, g5, g6, g7, g8, g9, g10, g11, g12, g13, g14, g15, g16, g17, g18, g19, g20, g21, g22, g23, g24, g25, hx, ok⟩ := id H0
  subst hx
  have h8 := ok.2.2.2.1.1
  have hS : 18 < S ∧ S + 78 ≤ 175 := by have := ok.1; omega
  have hD : 18 < D ∧ D + 78 ≤ 175 := by have := ok.1; omega
  have hSD : D + 78 ≤ S ∨ S + 78 ≤ D := by have := ok.1; omega
  have h8m : (cs.map c3of).length ≤ 8 := by rw [List.length_map]; exact h8
  have htl : tx.length ≤ 500 := pa_len g2
  refine e_aload_n f_101_0 rfl rfl ?_
  refine e_iload_n f_101_1 rfl rfl ?_
  refine e_callV (As := [.int (c)]) (rest := []) f_101_2 rfl rfl rfl (Nat.le_of_ble_eq_true rfl) (Nat.le_of_ble_eq_true rfl) g1 rfl (Nat.le_of_ble_eq_true rfl) (cc_JT_has (c := c) (L := tx.length) (S := S) (D := D) (n := cs.length) (pz := pz) (kk := kk) (ck := ck) g1 g3 (by omega)) rfl (fun h26 r27 q28 => ?_)
  obtain ⟨rfl, qe⟩ := q28
  have qe := qe.symm
  subst qe
  show px_to 101 5 [some (.ref (17)), some (.int (c)), some (.int (s)), none, none, none, none, none, none, none] [.int (bI (hasC c cs.length))] h _
  refine e_if_ne f_101_5 rfl (fun c_5 => ?_) (fun c_5 => ?_)
  · skip
    have c_5 : (hasC c cs.length) = true := bI_t c_5
    obtain ⟨k, hk, hkc⟩ := hasC_t (by omega) c_5
    subst hkc
    have hkm : k < (cs.map c3of).length := by rw [List.length_map]; exact hk
    have g29 : pCase h (S + 9 * k + 6) ((cs.getD k ct0).1) ((cs.getD k ct0).2.1) ((cs.getD k ct0).2.2.1) ((cs.getD k ct0).2.2.2.1) ((cs.getD k ct0).2.2.2.2.1) ((cs.getD k ct0).2.2.2.2.2.1) ((cs.getD k ct0).2.2.2.2.2.2) := (pCs_get (k := k) g6 (by omega) hk).1
    have hct : okK j (cs.getD k ct0) := ok.2.2.2.1.2 _ (getD_mem _ hk)
    have hoe : ∀ e ∈ (cs.getD k ct0).1, e.1 < 65536 := fun e he => by have := (hct.1.2.1 e he).1; omega
    have hab : nAB (cs.getD k ct0).1 ≤ 24 := ab24 hct.1
    have hab2 : evCnt false (cs.getD k ct0).1 + evCnt true (cs.getD k ct0).1 ≤ 24 := ab24 hct.1
    refine e_aload_n f_101_10 rfl rfl ?_
    refine e_getf f_101_11 g1 rfl rfl ?_
    refine e_getf f_101_14 g3 rfl rfl ?_
    refine e_iload_n f_101_17 rfl rfl ?_
    refine e_aaload_r f_101_18 (by decide) g5 (by first | omega | (simp only [List.length_set]; omega)) (by decide) rfl ?_
    show px_to 101 19 [some (.ref (17)), some (.int (nI k)), some (.int (s)), none, none, none, none, none, none, none] [.ref (S + 9 * k + 6)] h _
    refine e_iconst (v := nI 0) f_101_19 (by decide) rfl ?_
    refine e_callV (As := [.int (nI 0)]) (rest := []) f_101_20 rfl rfl rfl (Nat.le_of_ble_eq_true rfl) (Nat.le_of_ble_eq_true rfl) g29.1 rfl (Nat.le_of_ble_eq_true rfl) (cc_Case_eventsOf (b := false) (a := S + 9 * k + 6) (ev := (cs.getD k ct0).1) (told := (cs.getD k ct0).2.1) (os := (cs.getD k ct0).2.2.1) (ks := (cs.getD k ct0).2.2.2.1) (kept := (cs.getD k ct0).2.2.2.2.1) (ck := (cs.getD k ct0).2.2.2.2.2.1) (un := (cs.getD k ct0).2.2.2.2.2.2) g29 (hoe)) rfl (fun h30 r31 q32 => ?_)
    obtain ⟨rfl, qe⟩ := q32
    have qe := qe.symm
    subst qe
    show px_to 101 23 [some (.ref (17)), some (.int (nI k)), some (.int (s)), none, none, none, none, none, none, none] [.int (nI (evCnt false ((cs.getD k ct0).1)))] h _
    refine e_istore_n (L' := [some (.ref (17)), some (.int (nI k)), some (.int (s)), some (.int (nI (evCnt false ((cs.getD k ct0).1)))), none, none, none, none, none, none]) f_101_23 (Nat.le_of_ble_eq_true rfl) rfl rfl ?_
    refine e_aload_n f_101_24 rfl rfl ?_
    refine e_getf f_101_25 g1 rfl rfl ?_
    refine e_getf f_101_28 g3 rfl rfl ?_
    refine e_iload_n f_101_31 rfl rfl ?_
    refine e_aaload_r f_101_32 (by decide) g5 (by first | omega | (simp only [List.length_set]; omega)) (by decide) rfl ?_
    show px_to 101 33 [some (.ref (17)), some (.int (nI k)), some (.int (s)), some (.int (nI (evCnt false ((cs.getD k ct0).1)))), none, none, none, none, none, none] [.ref (S + 9 * k + 6)] h _
    refine e_iconst (v := nI 1) f_101_33 (by decide) rfl ?_
    refine e_callV (As := [.int (nI 1)]) (rest := []) f_101_34 rfl rfl rfl (Nat.le_of_ble_eq_true rfl) (Nat.le_of_ble_eq_true rfl) g29.1 rfl (Nat.le_of_ble_eq_true rfl) (cc_Case_eventsOf (b := true) (a := S + 9 * k + 6) (ev := (cs.getD k ct0).1) (told := (cs.getD k ct0).2.1) (os := (cs.getD k ct0).2.2.1) (ks := (cs.getD k ct0).2.2.2.1) (kept := (cs.getD k ct0).2.2.2.2.1) (ck := (cs.getD k ct0).2.2.2.2.2.1) (un := (cs.getD k ct0).2.2.2.2.2.2) g29 (hoe)) rfl (fun h33 r34 q35 => ?_)
    obtain ⟨rfl, qe⟩ := q35
    have qe := qe.symm
    subst qe
    show px_to 101 37 [some (.ref (17)), some (.int (nI k)), some (.int (s)), some (.int (nI (evCnt false ((cs.getD k ct0).1)))), none, none, none, none, none, none] [.int (nI (evCnt true ((cs.getD k ct0).1)))] h _
    refine e_istore (L' := [some (.ref (17)), some (.int (nI k)), some (.int (s)), some (.int (nI (evCnt false ((cs.getD k ct0).1)))), some (.int (nI (evCnt true ((cs.getD k ct0).1)))), none, none, none, none, none]) f_101_37 (Nat.le_of_ble_eq_true rfl) rfl rfl ?_
    refine e_iload_n f_101_39 rfl rfl ?_
    refine e_iload f_101_40 rfl rfl ?_
    refine e_iadd (z := nI (evCnt false ((cs.getD k ct0).1) + evCnt true ((cs.getD k ct0).1))) f_101_42 (nI_add _ _) rfl ?_
    refine e_istore (L' := [some (.ref (17)), some (.int (nI k)), some (.int (s)), some (.int (nI (evCnt false ((cs.getD k ct0).1)))), some (.int (nI (evCnt true ((cs.getD k ct0).1)))), some (.int (nI (evCnt false ((cs.getD k ct0).1) + evCnt true ((cs.getD k ct0).1)))), none, none, none, none]) f_101_43 (Nat.le_of_ble_eq_true rfl) rfl rfl ?_
    refine e_iload_n f_101_45 rfl rfl ?_
    refine e_istore (L' := [some (.ref (17)), some (.int (nI k)), some (.int (s)), some (.int (nI (evCnt false ((cs.getD k ct0).1)))), some (.int (nI (evCnt true ((cs.getD k ct0).1)))), some (.int (nI (evCnt false ((cs.getD k ct0).1) + evCnt true ((cs.getD k ct0).1)))), some (.int (s)), none, none, none]) f_101_46 (Nat.le_of_ble_eq_true rfl) rfl rfl ?_
    refine e_iconst (v := nI 0) f_101_48 (by decide) rfl ?_
    refine e_istore (L' := [some (.ref (17)), some (.int (nI k)), some (.int (s)), some (.int (nI (evCnt false ((cs.getD k ct0).1)))), some (.int (nI (evCnt true ((cs.getD k ct0).1)))), some (.int (nI (evCnt false ((cs.getD k ct0).1) + evCnt true ((cs.getD k ct0).1)))), some (.int (s)), some (.int (nI 0)), none, none]) f_101_49 (Nat.le_of_ble_eq_true rfl) rfl rfl ?_
    refine e_iconst (v := nI 0) f_101_51 (by decide) rfl ?_
    refine e_istore (L' := [some (.ref (17)), some (.int (nI k)), some (.int (s)), some (.int (nI (evCnt false ((cs.getD k ct0).1)))), some (.int (nI (evCnt true ((cs.getD k ct0).1)))), some (.int (nI (evCnt false ((cs.getD k ct0).1) + evCnt true ((cs.getD k ct0).1)))), some (.int (s)), some (.int (nI 0)), some (.int (nI 0)), none]) f_101_52 (Nat.le_of_ble_eq_true rfl) rfl rfl ?_
    refine ll_JT_shuf (y := aShuf (cs.map c3of) (nI k) s) hab (fun e => ?_) (nAB (cs.getD k ct0).1) _ _ _ _ 0 (by omega) rfl (by unfold aShuf; rw [onC_k h8m hkm, map_c3 hk]; rfl)
    subst e
    have g36 : pJT h tx j (cs.map c3of) := ⟨cs, S, D, pz, kk, ck, wo, xr, kl, cv, g1, g2, g3, g4, g5, g6, g7, g8, g9, g10, g11, g12, g13, g14, g15, g16, g17, g18, g19, g20, g21, g22, g23, g24, g25, rfl, ok⟩
    exact ⟨congrArg (fun z => some (Value.int z)) (show aShuf (cs.map c3of) (nI k) s = _ from rfl), g36, fr0⟩
  · skip
    have c_5 : (hasC c cs.length) = false := bI_f' c_5
    have hno : hasC c (cs.map c3of).length = false := by rw [List.length_map]; exact c_5
    refine e_iconst (v := (-1)) f_101_8 (by decide) rfl ?_
    refine e_iret f_101_9 rfl (rfl) ?_
    have g37 : pJT h tx j (cs.map c3of) := ⟨cs, S, D, pz, kk, ck, wo, xr, kl, cv, g1, g2, g3, g4, g5, g6, g7, g8, g9, g10, g11, g12, g13, g14, g15, g16, g17, g18, g19, g20, g21, g22, g23, g24, g25, rfl, ok⟩
    exact ⟨congrArg (fun z => some (Value.int z)) (show (-1) = _ from (onC_no hno).symm), g37, fr0⟩

def shK (j : List St) (x : CS3) : Int32 := match shL j x with
  | none => -2
  | some l => nI l.length
def shP (j : List St) (x : CS3) (kept : List Nat) : List Nat := match shL j x with
  | none => kept
  | some l => l
def pRunE (h : px_H) (wo0 : Int32) (x0 : RO) : Prop := ∃ (wo : Int32) (x : RO), pRun h wo x ∧ (wo = -3 ∨ (wo = wo0 ∧ x = x0))
theorem pRunE_fi {h h1 : px_H} {wo : Int32} {x : RO} {lo n : Nat} (p : pRunE h wo x) (f : px_fi lo n h h1) (d : 249 ≤ lo ∨ lo + n ≤ 177) : pRunE h1 wo x := by
  obtain ⟨a, b, q, z⟩ := p
  exact ⟨a, b, pRun_fi q f d, z⟩
theorem shr_ok {j : List St} {x : CS3} {v n : Nat} : ∀ (f i : Nat) (ps : List Nat), (∀ p ∈ ps, p < n) → ∀ p ∈ shr j x v f i ps, p < n
  | 0, _, _, h => h
  | f + 1, i, ps, h => by
    rw [shr]
    split
    · split
      · exact shr_ok f _ _ (fun p hp => h p (List.mem_of_mem_eraseIdx hp))
      · exact shr_ok f _ _ h
    · exact h

theorem vd_le (os : Nat) (z : Option Nat) (outs told : List Row) : vd os z outs told ≤ 2 := by
  unfold vd
  repeat' split
  all_goals omega

set_option maxRecDepth 20000 in
set_option maxHeartbeats 4000000 in
theorem ll_JT_shc {h0 : px_H} {L S D n v : Nat} {pz kk cf : Bool} {j : List St} {wo0 : Int32} {x0 : RO} {a : Nat} {ev : List Ev} {told : List Row} {os : Nat} {ks : Int32} {kept : List Nat} {ck : Nat} {un : List Nat} {y : List Nat} (HJ : h0.2.2 17 = some (11, [.ref (18), .int (nI L), .ref (S), .ref (D), .ref (175), .ref (177), .ref (249), .ref (254), .ref (256), .ref (258), .ref (261), .ref (265), .int (bI pz), .ref (267), .int (bI kk), .ref (268), .int (bI cf)])) (HS : h0.2.2 S = some (8, [.ref (S + 1), .ref (S + 5), .int (nI n)])) (HB : pJob h0 (S + 1) j) (p0 : okJ j) (p1 : ∀ e ∈ ev, okEv e) (p2 : 18 < S ∧ S + 78 ≤ 175) (p3 : 18 < a ∧ a + 9 ≤ 175) (p4 : a + 9 ≤ S ∨ S + 6 ≤ a) (p5 : okC3 (ev, told, os)) (hv : v < 1000) : ∀ (d : Nat) (t : Nat) (i : Nat) (ps : List Nat) (wo : Int32) (x : RO) (g : px_H), (600 < t + d) → (t ≤ 600) → (shr j (ev, told, os) v (600 - t) i ps = y) → (i ≤ ps.length) → (∀ p ∈ ps, p < ev.length) → ((wo = -3 ∨ (wo = wo0 ∧ x = x0))) → pRun g wo x → pOrd g 254 ps → pOrA g 256 → pJud g → pCase g a ev told os ks kept ck un → px_fj a 9 177 81 h0 g → px_to 114 72 [some (.ref (17)), some (.ref (a)), some (.int (nI v)), some (.int (nI i)), some (.int (nI 600)), some (.int (nI t))] [] g (fun h1 r => r = none ∧ pRunE h1 wo0 x0 ∧ pOrA h1 254 ∧ pOrA h1 256 ∧ pJud h1 ∧ pCase h1 a ev told os (nI y.length) y ck un ∧ px_fj a 9 177 81 h0 h1) := by
  intro d
  induction d using Nat.strongRecOn with
  | ind d ih =>
    intro t i ps wo x g q0 q1 q2 q3 q4 q5 G0 G1 G2 G3 G4 frg
    have lps := pa_len G1.2
    have hos := p5.2.2.2.2
    refine e_iload f_114_72 rfl rfl ?_
    refine e_iload f_114_74 rfl rfl ?_
    refine e_icmp_ge f_114_76 rfl (fun c_76 => ?_) (fun c_76 => ?_)
    · skip
      have c_76 : 600 ≤ t := cv_le (by omega) (by omega) c_76
      have ey : ps = y := by
        rw [show 600 - t = 0 by omega, shr] at q2; exact q2
      subst ey
      refine e_aload_n f_114_163 rfl rfl ?_
      refine e_aload_n f_114_164 rfl rfl ?_
      obtain ⟨hm2, fa3, fb4⟩ := fj_mid frg
      have g1 : g.2.2 17 = some (11, [.ref (18), .int (nI L), .ref (S), .ref (D), .ref (175), .ref (177), .ref (249), .ref (254), .ref (256), .ref (258), .ref (261), .ref (265), .int (bI pz), .ref (267), .int (bI kk), .ref (268), .int (bI cf)]) := fi_at (fi_at HJ fa3 (by omega)) fb4 (by omega)
      refine e_getf f_114_165 g1 rfl rfl ?_
      refine e_callV (As := [.ref (254)]) (rest := []) f_114_168 rfl rfl rfl (Nat.le_of_ble_eq_true rfl) (Nat.le_of_ble_eq_true rfl) G4.1 rfl (Nat.le_of_ble_eq_true rfl) (cc_Case_keep (q := 254) (qs := ps) (a := a) (ev := ev) (told := told) (os := os) (ks := ks) (kept := kept) (ck := ck) (un := un) G4 G1 (by omega) (by omega)) rfl (fun h5 r6 q7 => ?_)
      obtain ⟨rfl, g8, fx9⟩ := q7
      have fr10 : px_fj a 9 177 81 h0 h5 := fj_tr frg fx9 (by omega)
      show px_to 114 171 [some (.ref (17)), some (.ref (a)), some (.int (nI v)), some (.int (nI i)), some (.int (nI 600)), some (.int (nI t))] [] h5 _
      refine e_vret f_114_171 rfl ?_
      have g11 : pRun h5 wo x := pRun_fi G0 fx9 (by omega)
      have g12 : pOrd h5 254 ps := pOrd_fi G1 fx9 (by omega)
      have g13 : pOrA h5 254 := ⟨_, g12⟩
      have g14 : pOrA h5 256 := pOrA_fi G2 fx9 (by omega)
      have g15 : pJud h5 := pJud_fi G3 fx9 (by omega)
      exact ⟨rfl, ⟨_, _, g11, q5⟩, g13, g14, g15, g8, fr10⟩
    · skip
      have c_76 : t < 600 := cv_nle (by omega) (by omega) c_76
      refine e_iload_n f_114_79 rfl rfl ?_
      refine e_aload_n f_114_80 rfl rfl ?_
      obtain ⟨hm17, fa18, fb19⟩ := fj_mid frg
      have g16 : g.2.2 17 = some (11, [.ref (18), .int (nI L), .ref (S), .ref (D), .ref (175), .ref (177), .ref (249), .ref (254), .ref (256), .ref (258), .ref (261), .ref (265), .int (bI pz), .ref (267), .int (bI kk), .ref (268), .int (bI cf)]) := fi_at (fi_at HJ fa18 (by omega)) fb19 (by omega)
      refine e_getf f_114_81 g16 rfl rfl ?_
      refine e_getf f_114_84 G1.1 rfl rfl ?_
      refine e_icmp_ge f_114_87 rfl (fun c_87 => ?_) (fun c_87 => ?_)
      · skip
        have c_87 : ps.length ≤ i := cv_le (by omega) (by omega) c_87
        have ey : ps = y := by
          rw [show 600 - t = (600 - (t + 1)) + 1 by omega, shr, if_neg (by omega)] at q2; exact q2
        subst ey
        refine e_aload_n f_114_163 rfl rfl ?_
        refine e_aload_n f_114_164 rfl rfl ?_
        refine e_getf f_114_165 g16 rfl rfl ?_
        refine e_callV (As := [.ref (254)]) (rest := []) f_114_168 rfl rfl rfl (Nat.le_of_ble_eq_true rfl) (Nat.le_of_ble_eq_true rfl) G4.1 rfl (Nat.le_of_ble_eq_true rfl) (cc_Case_keep (q := 254) (qs := ps) (a := a) (ev := ev) (told := told) (os := os) (ks := ks) (kept := kept) (ck := ck) (un := un) G4 G1 (by omega) (by omega)) rfl (fun h20 r21 q22 => ?_)
        obtain ⟨rfl, g23, fx24⟩ := q22
        have fr25 : px_fj a 9 177 81 h0 h20 := fj_tr frg fx24 (by omega)
        show px_to 114 171 [some (.ref (17)), some (.ref (a)), some (.int (nI v)), some (.int (nI i)), some (.int (nI 600)), some (.int (nI t))] [] h20 _
        refine e_vret f_114_171 rfl ?_
        have g26 : pRun h20 wo x := pRun_fi G0 fx24 (by omega)
        have g27 : pOrd h20 254 ps := pOrd_fi G1 fx24 (by omega)
        have g28 : pOrA h20 254 := ⟨_, g27⟩
        have g29 : pOrA h20 256 := pOrA_fi G2 fx24 (by omega)
        have g30 : pJud h20 := pJud_fi G3 fx24 (by omega)
        exact ⟨rfl, ⟨_, _, g26, q5⟩, g28, g29, g30, g23, fr25⟩
      · skip
        have c_87 : i < ps.length := cv_nle (by omega) (by omega) c_87
        refine e_aload_n f_114_90 rfl rfl ?_
        refine e_getf f_114_91 g16 rfl rfl ?_
        refine e_aload_n f_114_94 rfl rfl ?_
        refine e_getf f_114_95 g16 rfl rfl ?_
        refine e_iload_n f_114_98 rfl rfl ?_
        obtain ⟨ps31, g32⟩ := G2
        refine e_callV (As := [.ref (254), .int (nI i)]) (rest := []) f_114_99 rfl rfl rfl (Nat.le_of_ble_eq_true rfl) (Nat.le_of_ble_eq_true rfl) g32.1 rfl (Nat.le_of_ble_eq_true rfl) (cc_Ord_wo (p := 256) (ps := ps31) (q := 254) (qs := ps) (gn := i) g32 G1 (by omega) (by omega) (by omega)) rfl (fun h33 r34 q35 => ?_)
        obtain ⟨rfl, g36, fx37⟩ := q35
        have fr38 : px_fj a 9 177 81 h0 h33 := fj_tr frg fx37 (by omega)
        show px_to 114 102 [some (.ref (17)), some (.ref (a)), some (.int (nI v)), some (.int (nI i)), some (.int (nI 600)), some (.int (nI t))] [] h33 _
        refine e_aload_n f_114_102 rfl rfl ?_
        obtain ⟨hm40, fa41, fb42⟩ := fj_mid fr38
        have g39 : h33.2.2 17 = some (11, [.ref (18), .int (nI L), .ref (S), .ref (D), .ref (175), .ref (177), .ref (249), .ref (254), .ref (256), .ref (258), .ref (261), .ref (265), .int (bI pz), .ref (267), .int (bI kk), .ref (268), .int (bI cf)]) := fi_at (fi_at HJ fa41 (by omega)) fb42 (by omega)
        refine e_getf f_114_103 g39 rfl rfl ?_
        refine e_aload_n f_114_106 rfl rfl ?_
        refine e_getf f_114_107 g39 rfl rfl ?_
        obtain ⟨hm44, fa45, fb46⟩ := fj_mid fr38
        have g43 : h33.2.2 S = some (8, [.ref (S + 1), .ref (S + 5), .int (nI n)]) := fi_at (fi_at HS fa45 (by omega)) fb46 (by omega)
        refine e_getf f_114_110 g43 rfl rfl ?_
        refine e_aload_n f_114_113 rfl rfl ?_
        refine e_aload_n f_114_114 rfl rfl ?_
        refine e_getf f_114_115 g39 rfl rfl ?_
        have hpe : ∀ p ∈ ps.eraseIdx i, p < ev.length := fun p hp => q4 p (List.mem_of_mem_eraseIdx hp)
        have hre := runO_ok (es := (evs ev (ps.eraseIdx i))) p0 (evs_ok hpe p1)
        have g47 : pRun h33 wo x := pRun_fi G0 fx37 (by omega)
        obtain ⟨jb48, gv49, la50, lb51, A52, B53, W54, sms55, tl56, A357, B358, W359, S360, sm361, hl69, g62, g63, g64, g65, g66, g67, g68⟩ := id g47
        obtain ⟨hm71, fa72, fb73⟩ := fj_mid fr38
        have g70 : pJob h33 (S + 1) j := pJob_fi (pJob_fi HB fa72 (by omega)) fb73 (by omega)
        have g74 : pCase h33 a ev told os ks kept ck un := pCase_fi G4 fx37 (by omega)
        refine e_callV (As := [.ref (S + 1), .ref (a), .ref (256)]) (rest := []) f_114_118 rfl rfl rfl (Nat.le_of_ble_eq_true rfl) (Nat.le_of_ble_eq_true rfl) g62 rfl (Nat.le_of_ble_eq_true rfl) (cc_Run_perf (od := 256) (ps := ps.eraseIdx i) (j := j) (jb := S + 1) (a := a) (ev := ev) (told := told) (os := os) (ks := ks) (kept := kept) (ck := ck) (un := un) (jb0 := jb48) (gv := gv49) (la0 := la50) (lb0 := lb51) (z := x.2.2.1) (dn := x.2.2.2) (wo := wo) (A := A52) (B := B53) (W := W54) (S := x.1) (sms := sms55) (outs := x.2.1) (tl := tl56) (A3 := A357) (B3 := B358) (W3 := W359) (S3 := S360) (sm3 := sm361) g62 g63 g64 g65 g66 g67 g68 g70 g74 g36 (p0) (by omega) (by omega) (by omega) (hpe) (p1) (hl69)) rfl (fun h75 r76 q77 => ?_)
        obtain ⟨rfl, g78, g79, g80, g81, g82, g83, g84, fx85⟩ := q77
        have fr86 : px_fj a 9 177 81 h0 h75 := fj_tr fr38 fx85 (by omega)
        show px_to 114 121 [some (.ref (17)), some (.ref (a)), some (.int (nI v)), some (.int (nI i)), some (.int (nI 600)), some (.int (nI t))] [] h75 _
        have okr87 := runS_ok (es := (evs ev (ps.eraseIdx i))) (tl := tl56) p0 (evs_ok hpe p1) hl69
        have er88 := runO_eq j (evs ev (ps.eraseIdx i)) tl56
        have g89 : pRun h75 (-3) (outOf (runS j (evs ev (ps.eraseIdx i)) tl56)) := ⟨_, _, _, _, _, _, _, _, _, _, _, _, _, _, okr87.1.2.1, g78, g79, g80, g81, g82, g83, g84⟩
        have g90 : pRun h75 (-3) (runO j (evs ev (ps.eraseIdx i))) := by have z := g89; rw [er88] at z; exact z
        obtain ⟨jb91, gv92, la93, lb94, A95, B96, W97, sms98, tl99, A3100, B3101, W3102, S3103, sm3104, hl112, g105, g106, g107, g108, g109, g110, g111⟩ := id g90
        refine e_aload_n f_114_121 rfl rfl ?_
        obtain ⟨hm114, fa115, fb116⟩ := fj_mid fr86
        have g113 : h75.2.2 17 = some (11, [.ref (18), .int (nI L), .ref (S), .ref (D), .ref (175), .ref (177), .ref (249), .ref (254), .ref (256), .ref (258), .ref (261), .ref (265), .int (bI pz), .ref (267), .int (bI kk), .ref (268), .int (bI cf)]) := fi_at (fi_at HJ fa115 (by omega)) fb116 (by omega)
        refine e_getf f_114_122 g113 rfl rfl ?_
        refine e_aload_n f_114_125 rfl rfl ?_
        refine e_aload_n f_114_126 rfl rfl ?_
        refine e_getf f_114_127 g113 rfl rfl ?_
        have g117 : pJud h33 := pJud_fi G3 fx37 (by omega)
        have g118 : pJud h75 := pJud_fi g117 fx85 (by omega)
        obtain ⟨g121, ⟨sa119, g122⟩, sb120, g123⟩ := g118
        have g124 : pCase h75 a ev told os ks kept ck un := pCase_fi g74 fx85 (by omega)
        refine e_callV (As := [.ref (a), .ref (177)]) (rest := []) f_114_130 rfl rfl rfl (Nat.le_of_ble_eq_true rfl) (Nat.le_of_ble_eq_true rfl) g121 rfl (Nat.le_of_ble_eq_true rfl) (cc_Jud_vd (outs := (runO j (evs ev (ps.eraseIdx i))).2.1) (s1 := sa119) (s2 := sb120) (jb := jb91) (gv := gv92) (la := la93) (lb := lb94) (z := ((runO j (evs ev (ps.eraseIdx i))).2.2.1)) (dn := (runO j (evs ev (ps.eraseIdx i))).2.2.2) (wo := (-3)) (a := a) (ev := ev) (told := told) (os := os) (ks := ks) (kept := kept) (ck := ck) (un := un) g121 g122 g123 g124 g109 g105 (by have : os < 128 := p5.2.2.2.2; omega) (hre.1) (p5.2.2.2.1) (by omega) (hre.2.2)) rfl (fun h125 r126 q127 => ?_)
        obtain ⟨rfl, g128, g129, g130, fx131⟩ := q127
        have fr132 : px_fj a 9 177 81 h0 h125 := fj_tr fr86 fx131 (by omega)
        show px_to 114 133 [some (.ref (17)), some (.ref (a)), some (.int (nI v)), some (.int (nI i)), some (.int (nI 600)), some (.int (nI t))] [.int (nI (vd os ((runO j (evs ev (ps.eraseIdx i))).2.2.1) ((runO j (evs ev (ps.eraseIdx i))).2.1) told))] h125 _
        have g133 : h125.2.2 177 = some (6, [.ref (jb91), .ref (182), .ref (214), .ref (246), .int (nI gv92), .int (bI la93), .int (bI lb94), .int (oI ((runO j (evs ev (ps.eraseIdx i))).2.2.1)), .int ((runO j (evs ev (ps.eraseIdx i))).2.2.2), .int ((-3)), .ref (248)]) := fi_at g105 fx131 (by omega)
        have g134 : h125.2.2 182 = some (2, [.int (A95), .int (B96), .int (W97), .int ((runO j (evs ev (ps.eraseIdx i))).1), .ref (183)]) := fi_at g106 fx131 (by omega)
        have g135 : px_rs h125 183 55 6 (fun k => 182 + 5 * k + 2) := rs_fi g107 fx131 (by omega)
        have g136 : pSt h125 182 sms98 := pSt_fi g108 fx131 (by omega)
        have g137 : pRows h125 246 96 ((runO j (evs ev (ps.eraseIdx i))).2.1) := pRows_fi g109 fx131 (by omega)
        have g138 : px_pa h125 248 50 30 Value.int tl99 := pa_fi g110 fx131 (by omega)
        have g139 : pMm h125 214 A3100 B3101 W3102 S3103 sm3104 := pMm_fi g111 fx131 (by omega)
        have g140 : pRun h125 (-3) (runO j (evs ev (ps.eraseIdx i))) := ⟨_, _, _, _, _, _, _, _, _, _, _, _, _, _, hl112, g133, g134, g135, g136, g137, g138, g139⟩
        have hvl := vd_le os (runO j (evs ev (ps.eraseIdx i))).2.2.1 (runO j (evs ev (ps.eraseIdx i))).2.1 told
        refine e_iload_n f_114_133 rfl rfl ?_
        refine e_icmp_ne f_114_134 rfl (fun c_134 => ?_) (fun c_134 => ?_)
        · skip
          have c_134 : vd os ((runO j (evs ev (ps.eraseIdx i))).2.2.1) ((runO j (evs ev (ps.eraseIdx i))).2.1) told ≠ v := cv_ne c_134
          refine e_iinc (y := nI (i + 1)) (L' := [some (.ref (17)), some (.ref (a)), some (.int (nI v)), some (.int (nI (i + 1))), some (.int (nI 600)), some (.int (nI t))]) f_114_154 rfl (by rw [show Int32.ofInt 1 = nI 1 by decide]; exact (nI_add _ _)) rfl rfl ?_
          refine e_iinc (y := nI (t + 1)) (L' := [some (.ref (17)), some (.ref (a)), some (.int (nI v)), some (.int (nI (i + 1))), some (.int (nI 600)), some (.int (nI (t + 1)))]) f_114_157 rfl (by rw [show Int32.ofInt 1 = nI 1 by decide]; exact (nI_add _ _)) rfl rfl ?_
          refine e_goto f_114_160 ?_
          have g141 : pOrd h33 254 ps := pOrd_fi G1 fx37 (by omega)
          have g142 : pOrd h75 254 ps := pOrd_fi g141 fx85 (by omega)
          have g143 : pOrd h125 254 ps := pOrd_fi g142 fx131 (by omega)
          have g144 : pOrd h75 256 (ps.eraseIdx i) := pOrd_fi g36 fx85 (by omega)
          have g145 : pOrd h125 256 (ps.eraseIdx i) := pOrd_fi g144 fx131 (by omega)
          have g146 : pOrA h125 256 := ⟨_, g145⟩
          have g147 : pJud h125 := ⟨g128, ⟨_, g129⟩, _, g130⟩
          have g148 : pCase h125 a ev told os ks kept ck un := pCase_fi g124 fx131 (by omega)
          first | (exfalso; omega) | exact ih (d - 1) (by omega) (t + 1) (i + 1) ps (-3) (runO j (evs ev (ps.eraseIdx i))) h125 (by omega) (by omega) (by rw [show 600 - t = (600 - (t + 1)) + 1 by omega, shr, if_pos (show i < ps.length by omega), if_neg (show ¬ vdE j (ev, told, os) (evs ev (ps.eraseIdx i)) = v from c_134)] at q2; exact q2) (by omega) (q4) (Or.inl rfl) g140 g143 g146 g147 g148 fr132
        · skip
          have c_134 : vd os ((runO j (evs ev (ps.eraseIdx i))).2.2.1) ((runO j (evs ev (ps.eraseIdx i))).2.1) told = v := cv_nne (by omega) (by omega) c_134
          refine e_aload_n f_114_137 rfl rfl ?_
          obtain ⟨hm150, fa151, fb152⟩ := fj_mid fr132
          have g149 : h125.2.2 17 = some (11, [.ref (18), .int (nI L), .ref (S), .ref (D), .ref (175), .ref (177), .ref (249), .ref (254), .ref (256), .ref (258), .ref (261), .ref (265), .int (bI pz), .ref (267), .int (bI kk), .ref (268), .int (bI cf)]) := fi_at (fi_at HJ fa151 (by omega)) fb152 (by omega)
          refine e_getf f_114_138 g149 rfl rfl ?_
          refine e_aload_n f_114_141 rfl rfl ?_
          refine e_getf f_114_142 g149 rfl rfl ?_
          refine e_iload_n f_114_145 rfl rfl ?_
          have g153 : pOrd h33 254 ps := pOrd_fi G1 fx37 (by omega)
          have g154 : pOrd h75 254 ps := pOrd_fi g153 fx85 (by omega)
          have g155 : pOrd h125 254 ps := pOrd_fi g154 fx131 (by omega)
          refine e_callV (As := [.ref (254), .int (nI i)]) (rest := []) f_114_146 rfl rfl rfl (Nat.le_of_ble_eq_true rfl) (Nat.le_of_ble_eq_true rfl) g155.1 rfl (Nat.le_of_ble_eq_true rfl) (cc_Ord_woS (p := 254) (qs := ps) (gn := i) g155 (by omega) (by omega)) rfl (fun h156 r157 q158 => ?_)
          obtain ⟨rfl, g159, fx160⟩ := q158
          have fr161 : px_fj a 9 177 81 h0 h156 := fj_tr fr132 fx160 (by omega)
          show px_to 114 149 [some (.ref (17)), some (.ref (a)), some (.int (nI v)), some (.int (nI i)), some (.int (nI 600)), some (.int (nI t))] [] h156 _
          refine e_iconst (v := nI 0) f_114_149 (by decide) rfl ?_
          refine e_istore_n (L' := [some (.ref (17)), some (.ref (a)), some (.int (nI v)), some (.int (nI 0)), some (.int (nI 600)), some (.int (nI t))]) f_114_150 (Nat.le_of_ble_eq_true rfl) rfl rfl ?_
          refine e_goto f_114_151 ?_
          refine e_iinc (y := nI (t + 1)) (L' := [some (.ref (17)), some (.ref (a)), some (.int (nI v)), some (.int (nI 0)), some (.int (nI 600)), some (.int (nI (t + 1)))]) f_114_157 rfl (by rw [show Int32.ofInt 1 = nI 1 by decide]; exact (nI_add _ _)) rfl rfl ?_
          refine e_goto f_114_160 ?_
          have g162 : pRun h156 (-3) (runO j (evs ev (ps.eraseIdx i))) := pRun_fi g140 fx160 (by omega)
          have g163 : pOrd h75 256 (ps.eraseIdx i) := pOrd_fi g36 fx85 (by omega)
          have g164 : pOrd h125 256 (ps.eraseIdx i) := pOrd_fi g163 fx131 (by omega)
          have g165 : pOrd h156 256 (ps.eraseIdx i) := pOrd_fi g164 fx160 (by omega)
          have g166 : pOrA h156 256 := ⟨_, g165⟩
          have g167 : h156.2.2 249 = some (1, [.ref (250), .ref (252)]) := fi_at g128 fx160 (by omega)
          have g168 : pRows h156 250 96 (if os = 126 then rsort ((runO j (evs ev (ps.eraseIdx i))).2.1) else sa119) := pRows_fi g129 fx160 (by omega)
          have g169 : pRows h156 252 96 (if os = 126 then rsort told else sb120) := pRows_fi g130 fx160 (by omega)
          have g170 : pJud h156 := ⟨g167, ⟨_, g168⟩, _, g169⟩
          have g171 : pCase h125 a ev told os ks kept ck un := pCase_fi g124 fx131 (by omega)
          have g172 : pCase h156 a ev told os ks kept ck un := pCase_fi g171 fx160 (by omega)
          first | (exfalso; omega) | exact ih (d - 1) (by omega) (t + 1) 0 (ps.eraseIdx i) (-3) (runO j (evs ev (ps.eraseIdx i))) h156 (by omega) (by omega) (by rw [show 600 - t = (600 - (t + 1)) + 1 by omega, shr, if_pos (show i < ps.length by omega), if_pos (show vdE j (ev, told, os) (evs ev (ps.eraseIdx i)) = v from c_134)] at q2; exact q2) (Nat.zero_le _) (hpe) (Or.inl rfl) g162 g159 g166 g170 g172 fr161

set_option maxRecDepth 20000 in
set_option maxHeartbeats 4000000 in
theorem cc_JT_shc {h : px_H} {L S D n : Nat} {pz kk cf : Bool} {j : List St} {wo : Int32} {x : RO} {a : Nat} {ev : List Ev} {told : List Row} {os : Nat} {ks : Int32} {kept : List Nat} {ck : Nat} {un : List Nat} (H0 : pRun h wo x) (H1 : pOrA h 254) (H2 : pOrA h 256) (H3 : pJud h) (H4 : pCase h a ev told os ks kept ck un) (H5 : h.2.2 17 = some (11, [.ref (18), .int (nI L), .ref (S), .ref (D), .ref (175), .ref (177), .ref (249), .ref (254), .ref (256), .ref (258), .ref (261), .ref (265), .int (bI pz), .ref (267), .int (bI kk), .ref (268), .int (bI cf)])) (H6 : h.2.2 S = some (8, [.ref (S + 1), .ref (S + 5), .int (nI n)])) (H7 : pJob h (S + 1) j) (p0 : okJ j) (p1 : ∀ e ∈ ev, okEv e) (p2 : 18 < S ∧ S + 78 ≤ 175) (p3 : 18 < a ∧ a + 9 ≤ 175) (p4 : a + 9 ≤ S ∨ S + 6 ≤ a) (p5 : okC3 (ev, told, os)) (p6 : (ks = -4 ∨ (ks = -2 ∧ shL j (ev, told, os) = none) ∨ (ks = nI kept.length ∧ shL j (ev, told, os) = some kept))) : px_wp 114 [.ref (17), .ref (a)] h (fun h1 r => r = none ∧ pRunE h1 wo x ∧ pOrA h1 254 ∧ pOrA h1 256 ∧ pJud h1 ∧ pCase h1 a ev told os (shK j (ev, told, os)) (shP j (ev, told, os) kept) ck un ∧ px_fj a 9 177 81 h h1) := by
  have fr0 : px_fj a 9 177 81 h h := fj_rf _ _ _ _ _
  have le := pa_len H4.2.1
  show px_to 114 0 [some (.ref (17)), some (.ref (a)), none, none, none, none] [] h _
  refine e_aload_n f_114_0 rfl rfl ?_
  refine e_getf f_114_1 H4.1 rfl rfl ?_
  refine e_bipush (v := (-4)) f_114_4 (by decide) rfl ?_
  refine e_icmp_eq f_114_6 rfl (fun c_6 => ?_) (fun c_6 => ?_)
  · skip
    refine e_aload_n f_114_10 rfl rfl ?_
    refine e_getf f_114_11 H5 rfl rfl ?_
    refine e_aload_n f_114_14 rfl rfl ?_
    obtain ⟨ps1, g2⟩ := H1
    refine e_callV (As := [.ref (a)]) (rest := []) f_114_15 rfl rfl rfl (Nat.le_of_ble_eq_true rfl) (Nat.le_of_ble_eq_true rfl) g2.1 rfl (Nat.le_of_ble_eq_true rfl) (cc_Ord_all (p := 254) (ps := ps1) (a := a) (ev := ev) (told := told) (os := os) (ks := ks) (kept := kept) (ck := ck) (un := un) g2 H4 (by omega) (by omega)) rfl (fun h3 r4 q5 => ?_)
    obtain ⟨rfl, g6, fx7⟩ := q5
    have fr8 : px_fj a 9 177 81 h h3 := fj_tr fr0 fx7 (by omega)
    show px_to 114 18 [some (.ref (17)), some (.ref (a)), none, none, none, none] [] h3 _
    refine e_aload_n f_114_18 rfl rfl ?_
    obtain ⟨hm10, fa11, fb12⟩ := fj_mid fr8
    have g9 : h3.2.2 17 = some (11, [.ref (18), .int (nI L), .ref (S), .ref (D), .ref (175), .ref (177), .ref (249), .ref (254), .ref (256), .ref (258), .ref (261), .ref (265), .int (bI pz), .ref (267), .int (bI kk), .ref (268), .int (bI cf)]) := fi_at (fi_at H5 fa11 (by omega)) fb12 (by omega)
    refine e_getf f_114_19 g9 rfl rfl ?_
    refine e_aload_n f_114_22 rfl rfl ?_
    refine e_getf f_114_23 g9 rfl rfl ?_
    obtain ⟨hm14, fa15, fb16⟩ := fj_mid fr8
    have g13 : h3.2.2 S = some (8, [.ref (S + 1), .ref (S + 5), .int (nI n)]) := fi_at (fi_at H6 fa15 (by omega)) fb16 (by omega)
    refine e_getf f_114_26 g13 rfl rfl ?_
    refine e_aload_n f_114_29 rfl rfl ?_
    refine e_aload_n f_114_30 rfl rfl ?_
    refine e_getf f_114_31 g9 rfl rfl ?_
    have hre := runO_ok (es := (evs ev (List.range ev.length))) p0 (by rw [evs_all]; exact p1)
    have g17 : pRun h3 wo x := pRun_fi H0 fx7 (by omega)
    obtain ⟨jb18, gv19, la20, lb21, A22, B23, W24, sms25, tl26, A327, B328, W329, S330, sm331, hl39, g32, g33, g34, g35, g36, g37, g38⟩ := id g17
    obtain ⟨hm41, fa42, fb43⟩ := fj_mid fr8
    have g40 : pJob h3 (S + 1) j := pJob_fi (pJob_fi H7 fa42 (by omega)) fb43 (by omega)
    have g44 : pCase h3 a ev told os ks kept ck un := pCase_fi H4 fx7 (by omega)
    refine e_callV (As := [.ref (S + 1), .ref (a), .ref (254)]) (rest := []) f_114_34 rfl rfl rfl (Nat.le_of_ble_eq_true rfl) (Nat.le_of_ble_eq_true rfl) g32 rfl (Nat.le_of_ble_eq_true rfl) (cc_Run_perf (od := 254) (ps := List.range ev.length) (j := j) (jb := S + 1) (a := a) (ev := ev) (told := told) (os := os) (ks := ks) (kept := kept) (ck := ck) (un := un) (jb0 := jb18) (gv := gv19) (la0 := la20) (lb0 := lb21) (z := x.2.2.1) (dn := x.2.2.2) (wo := wo) (A := A22) (B := B23) (W := W24) (S := x.1) (sms := sms25) (outs := x.2.1) (tl := tl26) (A3 := A327) (B3 := B328) (W3 := W329) (S3 := S330) (sm3 := sm331) g32 g33 g34 g35 g36 g37 g38 g40 g44 g6 (p0) (by omega) (by omega) (by omega) (fun p hp => List.mem_range.mp hp) (p1) (hl39)) rfl (fun h45 r46 q47 => ?_)
    obtain ⟨rfl, g48, g49, g50, g51, g52, g53, g54, fx55⟩ := q47
    have fr56 : px_fj a 9 177 81 h h45 := fj_tr fr8 fx55 (by omega)
    show px_to 114 37 [some (.ref (17)), some (.ref (a)), none, none, none, none] [] h45 _
    have okr57 := runS_ok (es := (evs ev (List.range ev.length))) (tl := tl26) p0 (by rw [evs_all]; exact p1) hl39
    have er58 := runO_eq j (evs ev (List.range ev.length)) tl26
    have g59 : pRun h45 (-3) (outOf (runS j (evs ev (List.range ev.length)) tl26)) := ⟨_, _, _, _, _, _, _, _, _, _, _, _, _, _, okr57.1.2.1, g48, g49, g50, g51, g52, g53, g54⟩
    have g60 : pRun h45 (-3) (runO j (evs ev (List.range ev.length))) := by have z := g59; rw [er58] at z; exact z
    obtain ⟨jb61, gv62, la63, lb64, A65, B66, W67, sms68, tl69, A370, B371, W372, S373, sm374, hl82, g75, g76, g77, g78, g79, g80, g81⟩ := id g60
    refine e_aload_n f_114_37 rfl rfl ?_
    obtain ⟨hm84, fa85, fb86⟩ := fj_mid fr56
    have g83 : h45.2.2 17 = some (11, [.ref (18), .int (nI L), .ref (S), .ref (D), .ref (175), .ref (177), .ref (249), .ref (254), .ref (256), .ref (258), .ref (261), .ref (265), .int (bI pz), .ref (267), .int (bI kk), .ref (268), .int (bI cf)]) := fi_at (fi_at H5 fa85 (by omega)) fb86 (by omega)
    refine e_getf f_114_38 g83 rfl rfl ?_
    refine e_aload_n f_114_41 rfl rfl ?_
    refine e_aload_n f_114_42 rfl rfl ?_
    refine e_getf f_114_43 g83 rfl rfl ?_
    have g87 : pJud h3 := pJud_fi H3 fx7 (by omega)
    have g88 : pJud h45 := pJud_fi g87 fx55 (by omega)
    obtain ⟨g91, ⟨sa89, g92⟩, sb90, g93⟩ := g88
    have g94 : pCase h45 a ev told os ks kept ck un := pCase_fi g44 fx55 (by omega)
    refine e_callV (As := [.ref (a), .ref (177)]) (rest := []) f_114_46 rfl rfl rfl (Nat.le_of_ble_eq_true rfl) (Nat.le_of_ble_eq_true rfl) g91 rfl (Nat.le_of_ble_eq_true rfl) (cc_Jud_vd (outs := (runO j (evs ev (List.range ev.length))).2.1) (s1 := sa89) (s2 := sb90) (jb := jb61) (gv := gv62) (la := la63) (lb := lb64) (z := ((runO j (evs ev (List.range ev.length))).2.2.1)) (dn := (runO j (evs ev (List.range ev.length))).2.2.2) (wo := (-3)) (a := a) (ev := ev) (told := told) (os := os) (ks := ks) (kept := kept) (ck := ck) (un := un) g91 g92 g93 g94 g79 g75 (by have : os < 128 := p5.2.2.2.2; omega) (hre.1) (p5.2.2.2.1) (by omega) (hre.2.2)) rfl (fun h95 r96 q97 => ?_)
    obtain ⟨rfl, g98, g99, g100, fx101⟩ := q97
    have fr102 : px_fj a 9 177 81 h h95 := fj_tr fr56 fx101 (by omega)
    show px_to 114 49 [some (.ref (17)), some (.ref (a)), none, none, none, none] [.int (nI (vd os ((runO j (evs ev (List.range ev.length))).2.2.1) ((runO j (evs ev (List.range ev.length))).2.1) told))] h95 _
    have g103 : h95.2.2 177 = some (6, [.ref (jb61), .ref (182), .ref (214), .ref (246), .int (nI gv62), .int (bI la63), .int (bI lb64), .int (oI ((runO j (evs ev (List.range ev.length))).2.2.1)), .int ((runO j (evs ev (List.range ev.length))).2.2.2), .int ((-3)), .ref (248)]) := fi_at g75 fx101 (by omega)
    have g104 : h95.2.2 182 = some (2, [.int (A65), .int (B66), .int (W67), .int ((runO j (evs ev (List.range ev.length))).1), .ref (183)]) := fi_at g76 fx101 (by omega)
    have g105 : px_rs h95 183 55 6 (fun k => 182 + 5 * k + 2) := rs_fi g77 fx101 (by omega)
    have g106 : pSt h95 182 sms68 := pSt_fi g78 fx101 (by omega)
    have g107 : pRows h95 246 96 ((runO j (evs ev (List.range ev.length))).2.1) := pRows_fi g79 fx101 (by omega)
    have g108 : px_pa h95 248 50 30 Value.int tl69 := pa_fi g80 fx101 (by omega)
    have g109 : pMm h95 214 A370 B371 W372 S373 sm374 := pMm_fi g81 fx101 (by omega)
    have g110 : pRun h95 (-3) (runO j (evs ev (List.range ev.length))) := ⟨_, _, _, _, _, _, _, _, _, _, _, _, _, _, hl82, g103, g104, g105, g106, g107, g108, g109⟩
    have hvl := vd_le os (runO j (evs ev (List.range ev.length))).2.2.1 (runO j (evs ev (List.range ev.length))).2.1 told
    have hve : vd os (runO j (evs ev (List.range ev.length))).2.2.1 (runO j (evs ev (List.range ev.length))).2.1 told = vdE j (ev, told, os) ev := by rw [evs_all]; rfl
    refine e_istore_n (L' := [some (.ref (17)), some (.ref (a)), some (.int (nI (vd os ((runO j (evs ev (List.range ev.length))).2.2.1) ((runO j (evs ev (List.range ev.length))).2.1) told))), none, none, none]) f_114_49 (Nat.le_of_ble_eq_true rfl) rfl rfl ?_
    refine e_iload_n f_114_50 rfl rfl ?_
    refine e_iconst (v := nI 1) f_114_51 (by decide) rfl ?_
    refine e_icmp_ne f_114_52 rfl (fun c_52 => ?_) (fun c_52 => ?_)
    · skip
      have c_52 : vd os ((runO j (evs ev (List.range ev.length))).2.2.1) ((runO j (evs ev (List.range ev.length))).2.1) told ≠ 1 := cv_ne c_52
      refine e_iconst (v := nI 0) f_114_62 (by decide) rfl ?_
      refine e_istore_n (L' := [some (.ref (17)), some (.ref (a)), some (.int (nI (vd os ((runO j (evs ev (List.range ev.length))).2.2.1) ((runO j (evs ev (List.range ev.length))).2.1) told))), some (.int (nI 0)), none, none]) f_114_63 (Nat.le_of_ble_eq_true rfl) rfl rfl ?_
      refine e_sipush (v := nI 600) f_114_64 (by decide) rfl ?_
      refine e_istore (L' := [some (.ref (17)), some (.ref (a)), some (.int (nI (vd os ((runO j (evs ev (List.range ev.length))).2.2.1) ((runO j (evs ev (List.range ev.length))).2.1) told))), some (.int (nI 0)), some (.int (nI 600)), none]) f_114_67 (Nat.le_of_ble_eq_true rfl) rfl rfl ?_
      refine e_iconst (v := nI 0) f_114_69 (by decide) rfl ?_
      refine e_istore (L' := [some (.ref (17)), some (.ref (a)), some (.int (nI (vd os ((runO j (evs ev (List.range ev.length))).2.2.1) ((runO j (evs ev (List.range ev.length))).2.1) told))), some (.int (nI 0)), some (.int (nI 600)), some (.int (nI 0))]) f_114_70 (Nat.le_of_ble_eq_true rfl) rfl rfl ?_
      have g111 : pOrd h45 254 (List.range ev.length) := pOrd_fi g6 fx55 (by omega)
      have g112 : pOrd h95 254 (List.range ev.length) := pOrd_fi g111 fx101 (by omega)
      have g113 : pOrA h3 256 := pOrA_fi H2 fx7 (by omega)
      have g114 : pOrA h45 256 := pOrA_fi g113 fx55 (by omega)
      have g115 : pOrA h95 256 := pOrA_fi g114 fx101 (by omega)
      have g116 : pJud h95 := ⟨g98, ⟨_, g99⟩, _, g100⟩
      have g117 : pCase h95 a ev told os ks kept ck un := pCase_fi g94 fx101 (by omega)
      have hsl : shL j (ev, told, os) = some (shr j (ev, told, os) (vd os (runO j (evs ev (List.range ev.length))).2.2.1 (runO j (evs ev (List.range ev.length))).2.1 told) 600 0 (List.range ev.length)) := by unfold shL; rw [if_neg (fun z => c_52 (hve.trans z)), ← hve]
      have hks : shK j (ev, told, os) = nI (shr j (ev, told, os) (vd os (runO j (evs ev (List.range ev.length))).2.2.1 (runO j (evs ev (List.range ev.length))).2.1 told) 600 0 (List.range ev.length)).length := by unfold shK; rw [hsl]
      have hkp : shP j (ev, told, os) kept = shr j (ev, told, os) (vd os (runO j (evs ev (List.range ev.length))).2.2.1 (runO j (evs ev (List.range ev.length))).2.1 told) 600 0 (List.range ev.length) := by unfold shP; rw [hsl]
      rw [hks, hkp]
      exact ll_JT_shc (h0 := h) (wo0 := wo) (x0 := x) H5 H6 H7 p0 p1 p2 p3 p4 p5 (by omega) 601 0 0 (List.range ev.length) (-3) _ h95 (by omega) (by omega) rfl (Nat.zero_le _) (fun p hp => List.mem_range.mp hp) (Or.inl rfl) g110 g112 g115 g116 g117 fr102
    · skip
      have c_52 : vd os ((runO j (evs ev (List.range ev.length))).2.2.1) ((runO j (evs ev (List.range ev.length))).2.1) told = 1 := cv_nne (by omega) (by omega) c_52
      have g118 : pCase h95 a ev told os ks kept ck un := pCase_fi g94 fx101 (by omega)
      have g119 : h95.2.2 a = some (10, [.int (nI ev.length), .ref (a + 1), .ref (a + 2), .ref (a + 3), .ref (a + 4), .ref (a + 5), .int (nI os), .int (ks), .ref (a + 7), .int (nI ck), .int (nI un.length), .ref (a + 8)]) := g118.1
      have g120 : px_pa h95 (a + 1) 50 24 evS ev := g118.2.1
      have g121 : px_pa h95 (a + 2) 50 24 evK ev := g118.2.2.1
      have g122 : px_pa h95 (a + 3) 50 24 evV ev := g118.2.2.2.1
      have g123 : px_pa h95 (a + 4) 50 24 evT ev := g118.2.2.2.2.1
      have g124 : px_pa h95 (a + 7) 50 24 vN kept := g118.2.2.2.2.2.2.1
      have g125 : px_pa h95 (a + 8) 50 266 vN un := g118.2.2.2.2.2.2.2
      have g126 : pRows h95 (a + 5) 16 told := g118.2.2.2.2.2.1
      refine e_aload_n f_114_55 rfl rfl ?_
      refine e_bipush (v := (-2)) f_114_56 (by decide) rfl ?_
      refine e_putp (vs' := [.int (nI ev.length), .ref (a + 1), .ref (a + 2), .ref (a + 3), .ref (a + 4), .ref (a + 5), .int (nI os), .int ((-2)), .ref (a + 7), .int (nI ck), .int (nI un.length), .ref (a + 8)]) f_114_58 g119 (Nat.le_of_ble_eq_true rfl) (rfl) (rfl) rfl rfl (fun h127 g128 fx129 => ?_)
      have fr130 : px_fj a 9 177 81 h h127 := fj_tr fr102 fx129 (by omega)
      refine e_vret f_114_61 rfl ?_
      have hsl : shL j (ev, told, os) = none := by unfold shL; rw [if_pos (hve.symm.trans c_52)]
      have hks : shK j (ev, told, os) = -2 := by unfold shK; rw [hsl]
      have hkp : shP j (ev, told, os) kept = kept := by unfold shP; rw [hsl]
      rw [hks, hkp]
      have g131 : px_pa h127 (a + 1) 50 24 evS ev := pa_fi g120 fx129 (by omega)
      have g132 : px_pa h127 (a + 2) 50 24 evK ev := pa_fi g121 fx129 (by omega)
      have g133 : px_pa h127 (a + 3) 50 24 evV ev := pa_fi g122 fx129 (by omega)
      have g134 : px_pa h127 (a + 4) 50 24 evT ev := pa_fi g123 fx129 (by omega)
      have g135 : pRows h127 (a + 5) 16 told := pRows_fi g126 fx129 (by omega)
      have g136 : px_pa h127 (a + 7) 50 24 vN kept := pa_fi g124 fx129 (by omega)
      have g137 : px_pa h127 (a + 8) 50 266 vN un := pa_fi g125 fx129 (by omega)
      have g138 : pCase h127 a ev told os (-2) kept ck un := ⟨g128, g131, g132, g133, g134, g135, g136, g137⟩
      have g139 : pRun h127 (-3) (runO j (evs ev (List.range ev.length))) := pRun_fi g110 fx129 (by omega)
      have g140 : pOrd h45 254 (List.range ev.length) := pOrd_fi g6 fx55 (by omega)
      have g141 : pOrd h95 254 (List.range ev.length) := pOrd_fi g140 fx101 (by omega)
      have g142 : pOrd h127 254 (List.range ev.length) := pOrd_fi g141 fx129 (by omega)
      have g143 : pOrA h127 254 := ⟨_, g142⟩
      have g144 : pOrA h3 256 := pOrA_fi H2 fx7 (by omega)
      have g145 : pOrA h45 256 := pOrA_fi g144 fx55 (by omega)
      have g146 : pOrA h95 256 := pOrA_fi g145 fx101 (by omega)
      have g147 : pOrA h127 256 := pOrA_fi g146 fx129 (by omega)
      have g148 : h127.2.2 249 = some (1, [.ref (250), .ref (252)]) := fi_at g98 fx129 (by omega)
      have g149 : pRows h127 250 96 (if os = 126 then rsort ((runO j (evs ev (List.range ev.length))).2.1) else sa89) := pRows_fi g99 fx129 (by omega)
      have g150 : pRows h127 252 96 (if os = 126 then rsort told else sb90) := pRows_fi g100 fx129 (by omega)
      have g151 : pJud h127 := ⟨g148, ⟨_, g149⟩, _, g150⟩
      exact ⟨rfl, ⟨_, _, g139, Or.inl rfl⟩, g143, g147, g151, g138, fr130⟩
  · skip
    refine e_vret f_114_9 rfl ?_
    have hks : ks = shK j (ev, told, os) ∧ kept = shP j (ev, told, os) kept := by
      rcases p6 with z | z | z
      · exact absurd z c_6
      · unfold shK shP; rw [z.2]; exact ⟨z.1, rfl⟩
      · unfold shK shP; rw [z.2]; exact ⟨z.1, rfl⟩
    rw [← hks.1, ← hks.2]
    exact ⟨rfl, ⟨_, _, H0, Or.inr ⟨rfl, rfl⟩⟩, H1, H2, H3, H4, fr0⟩
