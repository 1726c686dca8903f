theorem tN_app : ∀ (a b : List St), tN (a ++ b) = tN a + tN b
  | [], b => (Nat.zero_add _).symm
  | s :: r, b => by
    show (if s.1 = 116 then 1 else 0) + tN (r ++ b) = (if s.1 = 116 then 1 else 0) + tN r + tN b
    rw [tN_app r b]
    omega
theorem rdStep_1 {tx : List Nat} {s p : Nat} : (rdStep tx s p).2.2.1 = s := by
  unfold rdStep
  repeat' split
  all_goals rfl
theorem rdSteps_tN {tx : List Nat} : ∀ (f tm p : Nat) (j : List St), tN j = tm → tm ≤ 2 → tN (rdSteps tx f tm p j).2.2 ≤ 2
  | 0, tm, p, j, h, h2 => by rw [rdSteps]; show tN j ≤ 2; omega
  | f + 1, tm, p, j, h, h2 => by
    rw [rdSteps]
    split
    · show tN j ≤ 2; omega
    · rename_i c
      split
      · refine rdSteps_tN f _ _ _ ?_ ?_
        · rw [tN_app, h]
          show tm + ((if (rdStep tx (sgn tx p) (skp tx p + 1)).2.2.1 = 116 then 1 else 0) + 0) = _
          rw [rdStep_1]
          split <;> omega
        · split
          · rename_i c2
            have : tm ≠ 2 := fun z => c (Or.inr ⟨c2, z⟩)
            omega
          · exact h2
      · show tN j ≤ 2; omega
theorem rdAll_tN {tx : List Nat} : tN (rdAll tx).2.2.1 ≤ 2 := by
  have h : tN (aJ tx).2.2 ≤ 2 := rdSteps_tN 6 0 _ [] rfl (by decide)
  unfold rdAll
  repeat' split
  all_goals first | exact h | exact Nat.zero_le _
theorem pa_e {H : px_H} {a kd L : Nat} {α : Type} {f : α → Value} {v : Value} (c : H.2.2 a = some (kd, List.replicate L v)) (h31 : L < 2 ^ 31) : px_pa H a kd L f ([] : List α) := ⟨h31, List.replicate L v, c, by rw [List.length_replicate]; exact Nat.zero_add _⟩
theorem pa_f {H : px_H} {a kd L : Nat} {α : Type} {f : α → Value} {v : Value} {x : α} (c : H.2.2 a = some (kd, List.replicate L v)) (h31 : L < 2 ^ 31) (e : f x = v) : px_pa H a kd L f (List.replicate L x) := ⟨h31, [], by rw [List.map_replicate, List.append_nil, e]; exact c, by rw [List.length_replicate]; rfl⟩
theorem i_SM {H : px_H} {a : Nat} (c0 : H.2.2 a = some (9, [.int (-1), .ref (a + 1), .ref (a + 2), .ref (a + 3), .ref (a + 4), .int 0])) (c1 : H.2.2 (a + 1) = some (50, List.replicate 4 (.int 0))) (c2 : H.2.2 (a + 2) = some (50, List.replicate 4 (.int 0))) (c3 : H.2.2 (a + 3) = some (51, List.replicate 96 (.long 0))) (c4 : H.2.2 (a + 4) = some (50, List.replicate 96 (.int 0))) : pSM H a (-1, List.replicate 4 0, List.replicate 4 0, [], []) :=
  ⟨c0, pa_f c1 (by decide) rfl, pa_f c2 (by decide) rfl, pa_e c3 (by decide), ⟨List.replicate 96 0, pa_f c4 (by decide) rfl, List.length_replicate⟩, rfl, rfl⟩
theorem i_Ct {H : px_H} {a : Nat} (c0 : H.2.2 a = some (10, [.int 0, .ref (a + 1), .ref (a + 2), .ref (a + 3), .ref (a + 4), .ref (a + 5), .int 61, .int (-4), .ref (a + 7), .int 0, .int 0, .ref (a + 8)])) (c1 : H.2.2 (a + 1) = some (50, List.replicate 24 (.int 0))) (c2 : H.2.2 (a + 2) = some (50, List.replicate 24 (.int 0))) (c3 : H.2.2 (a + 3) = some (50, List.replicate 24 (.int 0))) (c4 : H.2.2 (a + 4) = some (50, List.replicate 24 (.int 0))) (c5 : H.2.2 (a + 5) = some (5, [.ref (a + 6), .int 0])) (c6 : H.2.2 (a + 6) = some (51, List.replicate 16 (.long 0))) (c7 : H.2.2 (a + 7) = some (50, List.replicate 24 (.int 0))) (c8 : H.2.2 (a + 8) = some (50, List.replicate 266 (.int 0))) : pCT H a ct0 :=
  ⟨c0, pa_e c1 (by decide), pa_e c2 (by decide), pa_e c3 (by decide), pa_e c4 (by decide), ⟨c5, pa_e c6 (by decide)⟩, pa_e c7 (by decide), pa_e c8 (by decide)⟩
theorem i_Jb {H : px_H} {a : Nat} (c0 : H.2.2 a = some (0, [.int 0, .ref (a + 1), .ref (a + 2), .ref (a + 3)])) (c1 : H.2.2 (a + 1) = some (50, List.replicate 6 (.int 0))) (c2 : H.2.2 (a + 2) = some (50, List.replicate 6 (.int 0))) (c3 : H.2.2 (a + 3) = some (50, List.replicate 6 (.int 0))) : pJob H a [] := ⟨c0, pa_e c1 (by decide), pa_e c2 (by decide), pa_e c3 (by decide)⟩
theorem i_Rw {H : px_H} {a : Nat} (c0 : H.2.2 a = some (5, [.ref (a + 1), .int 0])) (c1 : H.2.2 (a + 1) = some (51, List.replicate 96 (.long 0))) : pRows H a 96 [] := ⟨c0, pa_e c1 (by decide)⟩
theorem i_Or {H : px_H} {a : Nat} (c0 : H.2.2 a = some (3, [.ref (a + 1), .int 0])) (c1 : H.2.2 (a + 1) = some (50, List.replicate 24 (.int 0))) : pOrd H a [] := ⟨c0, pa_e c1 (by decide)⟩

set_option maxRecDepth 100000 in
set_option maxHeartbeats 4000000 in
theorem i_CA0 {H : px_H} (hj : ∀ k, k < 252 → H.2.2 (17 + k) = px_jt[k]?) : pCT H 25 ct0 := i_Ct (a := 25) (hj 8 (by decide)) (hj 9 (by decide)) (hj 10 (by decide)) (hj 11 (by decide)) (hj 12 (by decide)) (hj 13 (by decide)) (hj 14 (by decide)) (hj 15 (by decide)) (hj 16 (by decide))

set_option maxRecDepth 100000 in
set_option maxHeartbeats 4000000 in
theorem i_CA1 {H : px_H} (hj : ∀ k, k < 252 → H.2.2 (17 + k) = px_jt[k]?) : pCT H 34 ct0 := i_Ct (a := 34) (hj 17 (by decide)) (hj 18 (by decide)) (hj 19 (by decide)) (hj 20 (by decide)) (hj 21 (by decide)) (hj 22 (by decide)) (hj 23 (by decide)) (hj 24 (by decide)) (hj 25 (by decide))

set_option maxRecDepth 100000 in
set_option maxHeartbeats 4000000 in
theorem i_CA2 {H : px_H} (hj : ∀ k, k < 252 → H.2.2 (17 + k) = px_jt[k]?) : pCT H 43 ct0 := i_Ct (a := 43) (hj 26 (by decide)) (hj 27 (by decide)) (hj 28 (by decide)) (hj 29 (by decide)) (hj 30 (by decide)) (hj 31 (by decide)) (hj 32 (by decide)) (hj 33 (by decide)) (hj 34 (by decide))

set_option maxRecDepth 100000 in
set_option maxHeartbeats 4000000 in
theorem i_CA3 {H : px_H} (hj : ∀ k, k < 252 → H.2.2 (17 + k) = px_jt[k]?) : pCT H 52 ct0 := i_Ct (a := 52) (hj 35 (by decide)) (hj 36 (by decide)) (hj 37 (by decide)) (hj 38 (by decide)) (hj 39 (by decide)) (hj 40 (by decide)) (hj 41 (by decide)) (hj 42 (by decide)) (hj 43 (by decide))

set_option maxRecDepth 100000 in
set_option maxHeartbeats 4000000 in
theorem i_CA4 {H : px_H} (hj : ∀ k, k < 252 → H.2.2 (17 + k) = px_jt[k]?) : pCT H 61 ct0 := i_Ct (a := 61) (hj 44 (by decide)) (hj 45 (by decide)) (hj 46 (by decide)) (hj 47 (by decide)) (hj 48 (by decide)) (hj 49 (by decide)) (hj 50 (by decide)) (hj 51 (by decide)) (hj 52 (by decide))

set_option maxRecDepth 100000 in
set_option maxHeartbeats 4000000 in
theorem i_CA5 {H : px_H} (hj : ∀ k, k < 252 → H.2.2 (17 + k) = px_jt[k]?) : pCT H 70 ct0 := i_Ct (a := 70) (hj 53 (by decide)) (hj 54 (by decide)) (hj 55 (by decide)) (hj 56 (by decide)) (hj 57 (by decide)) (hj 58 (by decide)) (hj 59 (by decide)) (hj 60 (by decide)) (hj 61 (by decide))

set_option maxRecDepth 100000 in
set_option maxHeartbeats 4000000 in
theorem i_CA6 {H : px_H} (hj : ∀ k, k < 252 → H.2.2 (17 + k) = px_jt[k]?) : pCT H 79 ct0 := i_Ct (a := 79) (hj 62 (by decide)) (hj 63 (by decide)) (hj 64 (by decide)) (hj 65 (by decide)) (hj 66 (by decide)) (hj 67 (by decide)) (hj 68 (by decide)) (hj 69 (by decide)) (hj 70 (by decide))

set_option maxRecDepth 100000 in
set_option maxHeartbeats 4000000 in
theorem i_CA7 {H : px_H} (hj : ∀ k, k < 252 → H.2.2 (17 + k) = px_jt[k]?) : pCT H 88 ct0 := i_Ct (a := 88) (hj 71 (by decide)) (hj 72 (by decide)) (hj 73 (by decide)) (hj 74 (by decide)) (hj 75 (by decide)) (hj 76 (by decide)) (hj 77 (by decide)) (hj 78 (by decide)) (hj 79 (by decide))

theorem i_CsA {H : px_H} (hj : ∀ k, k < 252 → H.2.2 (17 + k) = px_jt[k]?) : pCs H 19 [] := fun k hk => by
  rcases (show k = 0 ∨ k = 1 ∨ k = 2 ∨ k = 3 ∨ k = 4 ∨ k = 5 ∨ k = 6 ∨ k = 7 by omega) with e | e | e | e | e | e | e | e
  · subst e; exact ⟨ct0, i_CA0 hj, fun z => absurd z (Nat.not_lt_zero _)⟩
  · subst e; exact ⟨ct0, i_CA1 hj, fun z => absurd z (Nat.not_lt_zero _)⟩
  · subst e; exact ⟨ct0, i_CA2 hj, fun z => absurd z (Nat.not_lt_zero _)⟩
  · subst e; exact ⟨ct0, i_CA3 hj, fun z => absurd z (Nat.not_lt_zero _)⟩
  · subst e; exact ⟨ct0, i_CA4 hj, fun z => absurd z (Nat.not_lt_zero _)⟩
  · subst e; exact ⟨ct0, i_CA5 hj, fun z => absurd z (Nat.not_lt_zero _)⟩
  · subst e; exact ⟨ct0, i_CA6 hj, fun z => absurd z (Nat.not_lt_zero _)⟩
  · subst e; exact ⟨ct0, i_CA7 hj, fun z => absurd z (Nat.not_lt_zero _)⟩

set_option maxRecDepth 100000 in
set_option maxHeartbeats 4000000 in
theorem i_CB0 {H : px_H} (hj : ∀ k, k < 252 → H.2.2 (17 + k) = px_jt[k]?) : pCT H 103 ct0 := i_Ct (a := 103) (hj 86 (by decide)) (hj 87 (by decide)) (hj 88 (by decide)) (hj 89 (by decide)) (hj 90 (by decide)) (hj 91 (by decide)) (hj 92 (by decide)) (hj 93 (by decide)) (hj 94 (by decide))

set_option maxRecDepth 100000 in
set_option maxHeartbeats 4000000 in
theorem i_CB1 {H : px_H} (hj : ∀ k, k < 252 → H.2.2 (17 + k) = px_jt[k]?) : pCT H 112 ct0 := i_Ct (a := 112) (hj 95 (by decide)) (hj 96 (by decide)) (hj 97 (by decide)) (hj 98 (by decide)) (hj 99 (by decide)) (hj 100 (by decide)) (hj 101 (by decide)) (hj 102 (by decide)) (hj 103 (by decide))

set_option maxRecDepth 100000 in
set_option maxHeartbeats 4000000 in
theorem i_CB2 {H : px_H} (hj : ∀ k, k < 252 → H.2.2 (17 + k) = px_jt[k]?) : pCT H 121 ct0 := i_Ct (a := 121) (hj 104 (by decide)) (hj 105 (by decide)) (hj 106 (by decide)) (hj 107 (by decide)) (hj 108 (by decide)) (hj 109 (by decide)) (hj 110 (by decide)) (hj 111 (by decide)) (hj 112 (by decide))

set_option maxRecDepth 100000 in
set_option maxHeartbeats 4000000 in
theorem i_CB3 {H : px_H} (hj : ∀ k, k < 252 → H.2.2 (17 + k) = px_jt[k]?) : pCT H 130 ct0 := i_Ct (a := 130) (hj 113 (by decide)) (hj 114 (by decide)) (hj 115 (by decide)) (hj 116 (by decide)) (hj 117 (by decide)) (hj 118 (by decide)) (hj 119 (by decide)) (hj 120 (by decide)) (hj 121 (by decide))

set_option maxRecDepth 100000 in
set_option maxHeartbeats 4000000 in
theorem i_CB4 {H : px_H} (hj : ∀ k, k < 252 → H.2.2 (17 + k) = px_jt[k]?) : pCT H 139 ct0 := i_Ct (a := 139) (hj 122 (by decide)) (hj 123 (by decide)) (hj 124 (by decide)) (hj 125 (by decide)) (hj 126 (by decide)) (hj 127 (by decide)) (hj 128 (by decide)) (hj 129 (by decide)) (hj 130 (by decide))

set_option maxRecDepth 100000 in
set_option maxHeartbeats 4000000 in
theorem i_CB5 {H : px_H} (hj : ∀ k, k < 252 → H.2.2 (17 + k) = px_jt[k]?) : pCT H 148 ct0 := i_Ct (a := 148) (hj 131 (by decide)) (hj 132 (by decide)) (hj 133 (by decide)) (hj 134 (by decide)) (hj 135 (by decide)) (hj 136 (by decide)) (hj 137 (by decide)) (hj 138 (by decide)) (hj 139 (by decide))

set_option maxRecDepth 100000 in
set_option maxHeartbeats 4000000 in
theorem i_CB6 {H : px_H} (hj : ∀ k, k < 252 → H.2.2 (17 + k) = px_jt[k]?) : pCT H 157 ct0 := i_Ct (a := 157) (hj 140 (by decide)) (hj 141 (by decide)) (hj 142 (by decide)) (hj 143 (by decide)) (hj 144 (by decide)) (hj 145 (by decide)) (hj 146 (by decide)) (hj 147 (by decide)) (hj 148 (by decide))

set_option maxRecDepth 100000 in
set_option maxHeartbeats 4000000 in
theorem i_CB7 {H : px_H} (hj : ∀ k, k < 252 → H.2.2 (17 + k) = px_jt[k]?) : pCT H 166 ct0 := i_Ct (a := 166) (hj 149 (by decide)) (hj 150 (by decide)) (hj 151 (by decide)) (hj 152 (by decide)) (hj 153 (by decide)) (hj 154 (by decide)) (hj 155 (by decide)) (hj 156 (by decide)) (hj 157 (by decide))

theorem i_CsB {H : px_H} (hj : ∀ k, k < 252 → H.2.2 (17 + k) = px_jt[k]?) : pCs H 97 [] := fun k hk => by
  rcases (show k = 0 ∨ k = 1 ∨ k = 2 ∨ k = 3 ∨ k = 4 ∨ k = 5 ∨ k = 6 ∨ k = 7 by omega) with e | e | e | e | e | e | e | e
  · subst e; exact ⟨ct0, i_CB0 hj, fun z => absurd z (Nat.not_lt_zero _)⟩
  · subst e; exact ⟨ct0, i_CB1 hj, fun z => absurd z (Nat.not_lt_zero _)⟩
  · subst e; exact ⟨ct0, i_CB2 hj, fun z => absurd z (Nat.not_lt_zero _)⟩
  · subst e; exact ⟨ct0, i_CB3 hj, fun z => absurd z (Nat.not_lt_zero _)⟩
  · subst e; exact ⟨ct0, i_CB4 hj, fun z => absurd z (Nat.not_lt_zero _)⟩
  · subst e; exact ⟨ct0, i_CB5 hj, fun z => absurd z (Nat.not_lt_zero _)⟩
  · subst e; exact ⟨ct0, i_CB6 hj, fun z => absurd z (Nat.not_lt_zero _)⟩
  · subst e; exact ⟨ct0, i_CB7 hj, fun z => absurd z (Nat.not_lt_zero _)⟩

set_option maxRecDepth 100000 in
set_option maxHeartbeats 4000000 in
theorem i_MA0 {H : px_H} (hj : ∀ k, k < 252 → H.2.2 (17 + k) = px_jt[k]?) : pSM H 184 (-1, List.replicate 4 0, List.replicate 4 0, [], []) := i_SM (a := 184) (hj 167 (by decide)) (hj 168 (by decide)) (hj 169 (by decide)) (hj 170 (by decide)) (hj 171 (by decide))

set_option maxRecDepth 100000 in
set_option maxHeartbeats 4000000 in
theorem i_MA1 {H : px_H} (hj : ∀ k, k < 252 → H.2.2 (17 + k) = px_jt[k]?) : pSM H 189 (-1, List.replicate 4 0, List.replicate 4 0, [], []) := i_SM (a := 189) (hj 172 (by decide)) (hj 173 (by decide)) (hj 174 (by decide)) (hj 175 (by decide)) (hj 176 (by decide))

set_option maxRecDepth 100000 in
set_option maxHeartbeats 4000000 in
theorem i_MA2 {H : px_H} (hj : ∀ k, k < 252 → H.2.2 (17 + k) = px_jt[k]?) : pSM H 194 (-1, List.replicate 4 0, List.replicate 4 0, [], []) := i_SM (a := 194) (hj 177 (by decide)) (hj 178 (by decide)) (hj 179 (by decide)) (hj 180 (by decide)) (hj 181 (by decide))

set_option maxRecDepth 100000 in
set_option maxHeartbeats 4000000 in
theorem i_MA3 {H : px_H} (hj : ∀ k, k < 252 → H.2.2 (17 + k) = px_jt[k]?) : pSM H 199 (-1, List.replicate 4 0, List.replicate 4 0, [], []) := i_SM (a := 199) (hj 182 (by decide)) (hj 183 (by decide)) (hj 184 (by decide)) (hj 185 (by decide)) (hj 186 (by decide))

set_option maxRecDepth 100000 in
set_option maxHeartbeats 4000000 in
theorem i_MA4 {H : px_H} (hj : ∀ k, k < 252 → H.2.2 (17 + k) = px_jt[k]?) : pSM H 204 (-1, List.replicate 4 0, List.replicate 4 0, [], []) := i_SM (a := 204) (hj 187 (by decide)) (hj 188 (by decide)) (hj 189 (by decide)) (hj 190 (by decide)) (hj 191 (by decide))

set_option maxRecDepth 100000 in
set_option maxHeartbeats 4000000 in
theorem i_MA5 {H : px_H} (hj : ∀ k, k < 252 → H.2.2 (17 + k) = px_jt[k]?) : pSM H 209 (-1, List.replicate 4 0, List.replicate 4 0, [], []) := i_SM (a := 209) (hj 192 (by decide)) (hj 193 (by decide)) (hj 194 (by decide)) (hj 195 (by decide)) (hj 196 (by decide))

theorem i_StA {H : px_H} (hj : ∀ k, k < 252 → H.2.2 (17 + k) = px_jt[k]?) : pSt H 182 [] := fun k hk => by
  rcases (show k = 0 ∨ k = 1 ∨ k = 2 ∨ k = 3 ∨ k = 4 ∨ k = 5 by omega) with e | e | e | e | e | e
  · subst e; exact ⟨_, i_MA0 hj, fun z => absurd z (Nat.not_lt_zero _)⟩
  · subst e; exact ⟨_, i_MA1 hj, fun z => absurd z (Nat.not_lt_zero _)⟩
  · subst e; exact ⟨_, i_MA2 hj, fun z => absurd z (Nat.not_lt_zero _)⟩
  · subst e; exact ⟨_, i_MA3 hj, fun z => absurd z (Nat.not_lt_zero _)⟩
  · subst e; exact ⟨_, i_MA4 hj, fun z => absurd z (Nat.not_lt_zero _)⟩
  · subst e; exact ⟨_, i_MA5 hj, fun z => absurd z (Nat.not_lt_zero _)⟩

set_option maxRecDepth 100000 in
set_option maxHeartbeats 4000000 in
theorem i_MB0 {H : px_H} (hj : ∀ k, k < 252 → H.2.2 (17 + k) = px_jt[k]?) : pSM H 216 (-1, List.replicate 4 0, List.replicate 4 0, [], []) := i_SM (a := 216) (hj 199 (by decide)) (hj 200 (by decide)) (hj 201 (by decide)) (hj 202 (by decide)) (hj 203 (by decide))

set_option maxRecDepth 100000 in
set_option maxHeartbeats 4000000 in
theorem i_MB1 {H : px_H} (hj : ∀ k, k < 252 → H.2.2 (17 + k) = px_jt[k]?) : pSM H 221 (-1, List.replicate 4 0, List.replicate 4 0, [], []) := i_SM (a := 221) (hj 204 (by decide)) (hj 205 (by decide)) (hj 206 (by decide)) (hj 207 (by decide)) (hj 208 (by decide))

set_option maxRecDepth 100000 in
set_option maxHeartbeats 4000000 in
theorem i_MB2 {H : px_H} (hj : ∀ k, k < 252 → H.2.2 (17 + k) = px_jt[k]?) : pSM H 226 (-1, List.replicate 4 0, List.replicate 4 0, [], []) := i_SM (a := 226) (hj 209 (by decide)) (hj 210 (by decide)) (hj 211 (by decide)) (hj 212 (by decide)) (hj 213 (by decide))

set_option maxRecDepth 100000 in
set_option maxHeartbeats 4000000 in
theorem i_MB3 {H : px_H} (hj : ∀ k, k < 252 → H.2.2 (17 + k) = px_jt[k]?) : pSM H 231 (-1, List.replicate 4 0, List.replicate 4 0, [], []) := i_SM (a := 231) (hj 214 (by decide)) (hj 215 (by decide)) (hj 216 (by decide)) (hj 217 (by decide)) (hj 218 (by decide))

set_option maxRecDepth 100000 in
set_option maxHeartbeats 4000000 in
theorem i_MB4 {H : px_H} (hj : ∀ k, k < 252 → H.2.2 (17 + k) = px_jt[k]?) : pSM H 236 (-1, List.replicate 4 0, List.replicate 4 0, [], []) := i_SM (a := 236) (hj 219 (by decide)) (hj 220 (by decide)) (hj 221 (by decide)) (hj 222 (by decide)) (hj 223 (by decide))

set_option maxRecDepth 100000 in
set_option maxHeartbeats 4000000 in
theorem i_MB5 {H : px_H} (hj : ∀ k, k < 252 → H.2.2 (17 + k) = px_jt[k]?) : pSM H 241 (-1, List.replicate 4 0, List.replicate 4 0, [], []) := i_SM (a := 241) (hj 224 (by decide)) (hj 225 (by decide)) (hj 226 (by decide)) (hj 227 (by decide)) (hj 228 (by decide))

theorem i_StB {H : px_H} (hj : ∀ k, k < 252 → H.2.2 (17 + k) = px_jt[k]?) : pSt H 214 [] := fun k hk => by
  rcases (show k = 0 ∨ k = 1 ∨ k = 2 ∨ k = 3 ∨ k = 4 ∨ k = 5 by omega) with e | e | e | e | e | e
  · subst e; exact ⟨_, i_MB0 hj, fun z => absurd z (Nat.not_lt_zero _)⟩
  · subst e; exact ⟨_, i_MB1 hj, fun z => absurd z (Nat.not_lt_zero _)⟩
  · subst e; exact ⟨_, i_MB2 hj, fun z => absurd z (Nat.not_lt_zero _)⟩
  · subst e; exact ⟨_, i_MB3 hj, fun z => absurd z (Nat.not_lt_zero _)⟩
  · subst e; exact ⟨_, i_MB4 hj, fun z => absurd z (Nat.not_lt_zero _)⟩
  · subst e; exact ⟨_, i_MB5 hj, fun z => absurd z (Nat.not_lt_zero _)⟩

set_option maxRecDepth 100000 in
set_option maxHeartbeats 4000000 in
theorem i_Run {H : px_H} (hj : ∀ k, k < 252 → H.2.2 (17 + k) = px_jt[k]?) : pRun H (-3) (0, [], none, 0) := ⟨178, 0, false, false, -1, -1, -1, [], List.replicate 30 0, -1, -1, -1, 0, [], rfl, (hj 160 (by decide)), (hj 165 (by decide)), (hj 166 (by decide)), i_StA hj, i_Rw (a := 246) (hj 229 (by decide)) (hj 230 (by decide)), pa_f (hj 231 (by decide)) (by decide) rfl, ⟨(hj 197 (by decide)), (hj 198 (by decide)), i_StB hj⟩⟩

set_option maxRecDepth 100000 in
set_option maxHeartbeats 4000000 in
theorem i_Sc {H : px_H} (hj : ∀ k, k < 252 → H.2.2 (17 + k) = px_jt[k]?) : pSc H := ⟨0, -3, -3, [], List.replicate 4 0, (hj 241 (by decide)), pa_e (hj 242 (by decide)) (by decide), pa_f (hj 243 (by decide)) (by decide) rfl, rfl, fun a b hab z => absurd z.1 (nI_ne3 (by omega))⟩

set_option maxRecDepth 100000 in
set_option maxHeartbeats 4000000 in
theorem i_S1 {H : px_H} {xs : List Int32} (hs : ∀ a, a < 17 → H.2.2 a = px_m0 xs a) : pStr H 1 [60, 61, 62] := ⟨hs 1 (by decide), ⟨by decide, [], hs 9 (by decide), rfl⟩⟩

set_option maxRecDepth 100000 in
set_option maxHeartbeats 4000000 in
theorem i_S2 {H : px_H} {xs : List Int32} (hs : ∀ a, a < 17 → H.2.2 a = px_m0 xs a) : pStr H 2 [43, 45, 42, 47] := ⟨hs 2 (by decide), ⟨by decide, [], hs 10 (by decide), rfl⟩⟩

set_option maxRecDepth 100000 in
set_option maxHeartbeats 4000000 in
theorem i_S3 {H : px_H} {xs : List Int32} (hs : ∀ a, a < 17 → H.2.2 a = px_m0 xs a) : pStr H 3 stepSigns := ⟨hs 3 (by decide), ⟨by decide, [], hs 11 (by decide), rfl⟩⟩

set_option maxRecDepth 100000 in
set_option maxHeartbeats 4000000 in
theorem i_S4 {H : px_H} {xs : List Int32} (hs : ∀ a, a < 17 → H.2.2 a = px_m0 xs a) : pStr H 4 [60, 61, 62] := ⟨hs 4 (by decide), ⟨by decide, [], hs 12 (by decide), rfl⟩⟩

set_option maxRecDepth 100000 in
set_option maxHeartbeats 4000000 in
theorem i_S5 {H : px_H} {xs : List Int32} (hs : ∀ a, a < 17 → H.2.2 a = px_m0 xs a) : pStr H 5 [43, 45, 42, 47] := ⟨hs 5 (by decide), ⟨by decide, [], hs 13 (by decide), rfl⟩⟩

set_option maxRecDepth 100000 in
set_option maxHeartbeats 4000000 in
theorem i_S6 {H : px_H} {xs : List Int32} (hs : ∀ a, a < 17 → H.2.2 a = px_m0 xs a) : pStr H 6 evSigns := ⟨hs 6 (by decide), ⟨by decide, [], hs 14 (by decide), rfl⟩⟩

set_option maxRecDepth 100000 in
set_option maxHeartbeats 4000000 in
theorem i_S7 {H : px_H} {xs : List Int32} (hs : ∀ a, a < 17 → H.2.2 a = px_m0 xs a) : pStr H 7 keyL := ⟨hs 7 (by decide), ⟨by decide, [], hs 15 (by decide), rfl⟩⟩

set_option maxRecDepth 100000 in
set_option maxHeartbeats 4000000 in
theorem i_S8 {H : px_H} {xs : List Int32} (hs : ∀ a, a < 17 → H.2.2 a = px_m0 xs a) : pStr H 8 ordL := ⟨hs 8 (by decide), ⟨by decide, [], hs 16 (by decide), rfl⟩⟩

set_option maxRecDepth 100000 in
set_option maxHeartbeats 4000000 in
theorem i_JT {H : px_H} {xs : List Int32} (hj : ∀ k, k < 252 → H.2.2 (17 + k) = px_jt[k]?) (hs : ∀ a, a < 17 → H.2.2 a = px_m0 xs a) : pJT H [] [] [] := ⟨[], 19, 97, false, false, false, -3, (0, [], none, 0), List.replicate 30 0, List.replicate 30 0, (hj 0 (by decide)), pa_e (hj 1 (by decide)) (by decide), (hj 2 (by decide)), i_Jb (a := 20) (hj 3 (by decide)) (hj 4 (by decide)) (hj 5 (by decide)) (hj 6 (by decide)), (hj 7 (by decide)), i_CsA hj, ⟨0, [], [], (hj 80 (by decide)), i_Jb (a := 98) (hj 81 (by decide)) (hj 82 (by decide)) (hj 83 (by decide)) (hj 84 (by decide)), (hj 85 (by decide)), i_CsB hj⟩, ⟨176, 0, 0, 0, (hj 158 (by decide))⟩, i_Run hj, ⟨(hj 232 (by decide)), ⟨[], i_Rw (a := 250) (hj 233 (by decide)) (hj 234 (by decide))⟩, ⟨[], i_Rw (a := 252) (hj 235 (by decide)) (hj 236 (by decide))⟩⟩, ⟨[], i_Or (a := 254) (hj 237 (by decide)) (hj 238 (by decide))⟩, ⟨[], i_Or (a := 256) (hj 239 (by decide)) (hj 240 (by decide))⟩, i_Sc hj, ⟨[], i_Jb (a := 261) (hj 244 (by decide)) (hj 245 (by decide)) (hj 246 (by decide)) (hj 247 (by decide))⟩, ⟨[], i_Rw (a := 265) (hj 248 (by decide)) (hj 249 (by decide))⟩, pa_f (hj 250 (by decide)) (by decide) rfl, pa_f (hj 251 (by decide)) (by decide) rfl, i_S1 hs, i_S2 hs, i_S3 hs, i_S4 hs, i_S5 hs, i_S6 hs, i_S7 hs, i_S8 hs, rfl, Or.inl ⟨rfl, rfl⟩, fun c hc => (nomatch hc), ⟨⟨by decide, fun s hs => (nomatch hs)⟩, fun s hs => (nomatch hs)⟩, ⟨by decide, fun t ht => (nomatch ht)⟩, fun c hc => absurd hc (Nat.not_lt_zero _), ⟨rfl, fun z => (nomatch z)⟩, rfl, fun z => (nomatch z)⟩

set_option maxRecDepth 100000 in
set_option maxHeartbeats 4000000 in
theorem i_MA {H : px_H} (hm : ∀ k, k < 35 → H.2.2 (269 + k) = px_md[k]?) : pMA H [] := ⟨List.replicate 8 0, List.replicate 192 (0, 0, 0, 0), List.replicate 8 0, List.replicate 128 (0, 0, 0), List.replicate 8 0, pa_f (x := 0) (hm 5 (by decide)) (by decide) rfl, pa_f (x := (0, 0, 0, 0)) (hm 6 (by decide)) (by decide) rfl, pa_f (x := (0, 0, 0, 0)) (hm 7 (by decide)) (by decide) rfl, pa_f (x := (0, 0, 0, 0)) (hm 8 (by decide)) (by decide) rfl, pa_f (x := (0, 0, 0, 0)) (hm 9 (by decide)) (by decide) rfl, pa_f (x := 0) (hm 10 (by decide)) (by decide) rfl, pa_f (x := (0, 0, 0)) (hm 11 (by decide)) (by decide) rfl, pa_f (x := (0, 0, 0)) (hm 12 (by decide)) (by decide) rfl, pa_f (x := (0, 0, 0)) (hm 13 (by decide)) (by decide) rfl, pa_f (x := 0) (hm 14 (by decide)) (by decide) rfl, ⟨rfl, by rw [List.length_replicate], rfl, by rw [List.length_replicate], rfl⟩, fun c hc => absurd hc (Nat.not_lt_zero _)⟩

set_option maxRecDepth 100000 in
set_option maxHeartbeats 4000000 in
theorem i_MD {H : px_H} (hm : ∀ k, k < 35 → H.2.2 (269 + k) = px_md[k]?) : pMD H [] [] [] := ⟨(0, false, 0, 0, 0, 0, 0, 0, 0, 0), (0, false, 0, 0, false, false, false), (0, 0), (0, 0, 0), (0, 0, 0), (0, 0, 0, 0, 0, false, 0, 0, 0), [], List.replicate 3070 0, List.replicate 3070 0, [], [], [], [], List.replicate 30 0, [], [], (hm 0 (by decide)), pa_e (hm 1 (by decide)) (by decide), pa_e (hm 2 (by decide)) (by decide), pa_e (hm 3 (by decide)) (by decide), pa_e (hm 4 (by decide)) (by decide), i_MA hm, pa_e (hm 15 (by decide)) (by decide), pa_e (hm 16 (by decide)) (by decide), pa_e (hm 17 (by decide)) (by decide), pa_f (x := 0) (hm 18 (by decide)) (by decide) rfl, pa_f (x := 0) (hm 19 (by decide)) (by decide) rfl, pa_e (hm 20 (by decide)) (by decide), pa_e (hm 21 (by decide)) (by decide), pa_e (hm 22 (by decide)) (by decide), pa_e (hm 23 (by decide)) (by decide), pa_e (hm 24 (by decide)) (by decide), pa_e (hm 25 (by decide)) (by decide), pa_f (x := 0) (hm 26 (by decide)) (by decide) rfl, pa_e (hm 27 (by decide)) (by decide), pa_e (hm 28 (by decide)) (by decide), pa_e (hm 29 (by decide)) (by decide), pa_e (hm 30 (by decide)) (by decide), pa_e (hm 31 (by decide)) (by decide), pa_e (hm 32 (by decide)) (by decide), pa_e (hm 33 (by decide)) (by decide), pa_e (hm 34 (by decide)) (by decide), fun c hc => (nomatch hc), ⟨⟨by decide, fun s hs => (nomatch hs)⟩, fun s hs => (nomatch hs)⟩, ⟨by decide, fun t ht => (nomatch ht)⟩, ⟨by rw [List.length_replicate], by rw [List.length_replicate], rfl⟩, rfl⟩
