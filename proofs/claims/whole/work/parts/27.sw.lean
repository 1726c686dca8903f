theorem ne_toInt {x : Int32} {n : Nat} (h : ¬ x = nI n) (hn : n < 2 ^ 31) : x.toInt ≠ (n : Int) := fun z => h (Int32.toInt_inj.mp (by rw [z, nI_toInt hn]))
theorem tsw_df {pc t : Nat} {d lo hi : Int} {offs : Array Int} {x : Int32} {r : List Value} (h : x.toInt < lo ∨ hi < x.toInt) (ht : px_tgt pc (some d) r = some (t, r)) : px_tsw pc d lo hi offs (.int x :: r) = some (t, r) := by
  unfold px_tsw
  dsimp only
  rw [if_pos h]
  exact ht
theorem tsw_dfN {pc t n : Nat} {d lo hi : Int} {offs : Array Int} {r : List Value} (hn : n < 2 ^ 31) (h : (n : Int) < lo ∨ hi < (n : Int)) (ht : px_tgt pc (some d) r = some (t, r)) : px_tsw pc d lo hi offs (.int (nI n) :: r) = some (t, r) := tsw_df (by rw [nI_toInt hn]; exact h) ht
theorem lsw_ne {x : Int32} {n : Nat} {o : Int} (h : ¬ x = nI n) : (((n : Int), o) : Int × Int).1 ≠ x.toInt := by
  intro z
  apply h
  apply Int32.toInt_inj.mp
  have h1 := Int32.toInt_lt x
  rw [nI_toInt (by omega), ← z]
theorem lsw_neN {k n : Nat} {o : Int} (hk : k < 2 ^ 31) (h : ¬ k = n) : (((n : Int), o) : Int × Int).1 ≠ (nI k).toInt := by
  rw [nI_toInt hk]
  intro z
  exact h (by omega)
theorem lsw_off {d : Int} {k : Int} : ∀ {ps : List (Int × Int)}, (∀ p ∈ ps, p.1 ≠ k) → Op.lookupswitch.offset ps d k = d
  | [], _ => rfl
  | (a, o) :: r, h => by
    rw [Op.lookupswitch.offset_cons, if_neg (h (a, o) List.mem_cons_self)]
    exact lsw_off (fun p hp => h p (List.mem_cons_of_mem _ hp))
theorem lsw_df {pc t : Nat} {d : Int} {ps : Array (Int × Int)} {x : Int32} {r : List Value} (h : ∀ p ∈ ps.toList, p.1 ≠ x.toInt) (ht : px_tgt pc (some d) r = some (t, r)) : px_lsw pc d ps (.int x :: r) = some (t, r) := by
  unfold px_lsw
  dsimp only
  rw [lsw_off h]
  exact ht
