theorem px_sti_len {L : px_L} {i : Nat} {st : List Value} {z : px_L × List Value} (h : px_sti L i st = some z) : z.1.length = L.length := by
  unfold px_sti at h
  repeat' split at h
  all_goals first | (cases h; done) | (obtain rfl := Option.some.inj h; exact px_st1_len _ _ _)
theorem px_sta_len {L : px_L} {i : Nat} {st : List Value} {z : px_L × List Value} (h : px_sta L i st = some z) : z.1.length = L.length := by
  unfold px_sta at h
  repeat' split at h
  all_goals first | (cases h; done) | (obtain rfl := Option.some.inj h; exact px_st1_len _ _ _)
theorem px_stl_len {L : px_L} {i : Nat} {st : List Value} {z : px_L × List Value} (h : px_stl L i st = some z) : z.1.length = L.length := by
  unfold px_stl at h
  repeat' split at h
  all_goals first | (cases h; done) | (obtain rfl := Option.some.inj h; exact px_st2_len _ _ _)
theorem px_iic_len {L : px_L} {i : Nat} {n : Int} {st : List Value} {z : px_L × List Value} (h : px_iic L i n st = some z) : z.1.length = L.length := by
  unfold px_iic at h
  repeat' split at h
  all_goals first | (cases h; done) | (obtain rfl := Option.some.inj h; exact px_st1_len _ _ _)
theorem px_lop_len {i : Instr} {L : px_L} {st : List Value} {z : px_L × List Value} (h : px_lop i L st = some z) : z.1.length = L.length := by
  cases i with
  | istore_n n => exact px_sti_len h
  | istore n => exact px_sti_len h
  | astore_n n => exact px_sta_len h
  | astore n => exact px_sta_len h
  | lstore_n n => exact px_stl_len h
  | lstore n => exact px_stl_len h
  | iinc n d => exact px_iic_len h
  | _ => exact absurd h (by simp [px_lop])
section PXM
variable {h : px_H} {st : List Value} {q : List Value × px_H}
theorem px_m_getf {ci k : Nat} (hq : px_getf ci k h st = some q) : h.1 ≤ q.2.1 ∧ h.2.1 ≤ q.2.2.1 := by
  unfold px_getf at hq
  repeat' split at hq
  all_goals first | (cases hq; done) | (obtain ⟨v, -, h2⟩ := Option.map_eq_some_iff.mp hq; subst h2; exact ⟨Nat.le_refl _, Nat.le_refl _⟩)
theorem px_m_ald {k : Nat} (hq : px_ald k h st = some q) : h.1 ≤ q.2.1 ∧ h.2.1 ≤ q.2.2.1 := by
  unfold px_ald at hq
  repeat' split at hq
  all_goals first | (cases hq; done) | (obtain ⟨v, -, h2⟩ := Option.map_eq_some_iff.mp hq; subst h2; exact ⟨Nat.le_refl _, Nat.le_refl _⟩)
theorem px_m_aald (hq : px_aald h st = some q) : h.1 ≤ q.2.1 ∧ h.2.1 ≤ q.2.2.1 := by
  unfold px_aald at hq
  repeat' split at hq
  all_goals first | (cases hq; done) | (obtain ⟨v, -, h2⟩ := Option.map_eq_some_iff.mp hq; subst h2; exact ⟨Nat.le_refl _, Nat.le_refl _⟩)
theorem px_m_putf {ci k : Nat} (hq : px_putf ci k h st = some q) : h.1 ≤ q.2.1 ∧ h.2.1 ≤ q.2.2.1 := by
  unfold px_putf at hq
  repeat' split at hq
  all_goals first | (cases hq; done) | (cases hq; exact ⟨Nat.le_refl _, Nat.le_refl _⟩)
theorem px_m_ast {k : Nat} {ty : FieldType} (hq : px_ast k ty h st = some q) : h.1 ≤ q.2.1 ∧ h.2.1 ≤ q.2.2.1 := by
  unfold px_ast at hq
  repeat' split at hq
  all_goals first | (cases hq; done) | (cases hq; exact ⟨Nat.le_refl _, Nat.le_refl _⟩)
theorem px_m_last (hq : px_last h st = some q) : h.1 ≤ q.2.1 ∧ h.2.1 ≤ q.2.2.1 := by
  unfold px_last at hq
  repeat' split at hq
  all_goals first | (cases hq; done) | (cases hq; exact ⟨Nat.le_refl _, Nat.le_refl _⟩)
theorem px_m_aast (hq : px_aast h st = some q) : h.1 ≤ q.2.1 ∧ h.2.1 ≤ q.2.2.1 := by
  unfold px_aast at hq
  repeat' split at hq
  all_goals first | (cases hq; done) | (cases hq; exact ⟨Nat.le_refl _, Nat.le_refl _⟩)
theorem px_m_alen (hq : px_alen h st = some q) : h.1 ≤ q.2.1 ∧ h.2.1 ≤ q.2.2.1 := by
  unfold px_alen at hq
  repeat' split at hq
  all_goals first | (cases hq; done) | (cases hq; exact ⟨Nat.le_refl _, Nat.le_refl _⟩)
theorem px_m_newa {t : Nat} (hq : px_newa t h st = some q) : h.1 ≤ q.2.1 ∧ h.2.1 ≤ q.2.2.1 := by
  unfold px_newa at hq
  repeat' split at hq
  all_goals first | (cases hq; done) | (cases hq; exact ⟨Nat.le_succ _, Nat.le_add_right _ _⟩)
theorem px_m_newo {t : Nat} (hq : px_newo t h st = some q) : h.1 ≤ q.2.1 ∧ h.2.1 ≤ q.2.2.1 := by
  unfold px_newo at hq
  repeat' split at hq
  all_goals first | (cases hq; done) | (cases hq; exact ⟨Nat.le_succ _, Nat.le_add_right _ _⟩)
theorem px_m_oin (hq : px_oin h st = some q) : h.1 ≤ q.2.1 ∧ h.2.1 ≤ q.2.2.1 := by
  unfold px_oin at hq
  repeat' split at hq
  all_goals first | (cases hq; done) | (cases hq; exact ⟨Nat.le_refl _, Nat.le_refl _⟩)
theorem px_m_max (hq : px_max h st = some q) : h.1 ≤ q.2.1 ∧ h.2.1 ≤ q.2.2.1 := by
  unfold px_max at hq
  repeat' split at hq
  all_goals first | (cases hq; done) | (cases hq; exact ⟨Nat.le_refl _, Nat.le_refl _⟩)
theorem px_m_min (hq : px_min h st = some q) : h.1 ≤ q.2.1 ∧ h.2.1 ≤ q.2.2.1 := by
  unfold px_min at hq
  repeat' split at hq
  all_goals first | (cases hq; done) | (cases hq; exact ⟨Nat.le_refl _, Nat.le_refl _⟩)
theorem px_m_acp (hq : px_acp h st = some q) : h.1 ≤ q.2.1 ∧ h.2.1 ≤ q.2.2.1 := by
  unfold px_acp at hq
  repeat' split at hq
  all_goals first | (cases hq; done) | (cases hq; exact ⟨Nat.le_refl _, Nat.le_refl _⟩)
theorem px_m_hop {en : px_E} (hq : px_hop en st h = some q) : h.1 ≤ q.2.1 ∧ h.2.1 ≤ q.2.2.1 := by
  obtain ⟨i, len, x, y, v⟩ := en
  cases i with
  | getfield _ => exact px_m_getf hq
  | putfield _ => exact px_m_putf hq
  | iaload => exact px_m_ald hq
  | laload => exact px_m_ald hq
  | caload => exact px_m_ald hq
  | saload => exact px_m_ald hq
  | baload => exact px_m_ald hq
  | aaload => exact px_m_aald hq
  | iastore => exact px_m_ast hq
  | castore => exact px_m_ast hq
  | sastore => exact px_m_ast hq
  | bastore => exact px_m_ast hq
  | lastore => exact px_m_last hq
  | aastore => exact px_m_aast hq
  | arraylength => exact px_m_alen hq
  | newarray _ => exact px_m_newa hq
  | anewarray _ => exact px_m_newa hq
  | new _ => exact px_m_newo hq
  | ldc _ => obtain rfl := Option.some.inj hq; exact ⟨Nat.le_refl _, Nat.le_refl _⟩
  | ldc_w _ => obtain rfl := Option.some.inj hq; exact ⟨Nat.le_refl _, Nat.le_refl _⟩
  | ldc2_w _ => obtain rfl := Option.some.inj hq; exact ⟨Nat.le_refl _, Nat.le_refl _⟩
  | invokespecial _ => exact px_m_oin hq
  | invokestatic _ =>
    have hq : (if y = 11 then px_max h st else if y = 12 then px_min h st else if y = 16 then px_acp h st else none) = some q := hq
    split at hq
    · exact px_m_max hq
    · split at hq
      · exact px_m_min hq
      · split at hq
        · exact px_m_acp hq
        · cases hq
  | getstatic _ =>
    have hq : (if x < 2 then some (v :: st, h) else none) = some q := hq
    split at hq
    · obtain rfl := Option.some.inj hq; exact ⟨Nat.le_refl _, Nat.le_refl _⟩
    · cases hq
  | _ => exact absurd hq (by simp [px_hop])
theorem px_m_op {en : px_E} {pc : Nat} {L : px_L} {w : Nat × px_L × List Value × px_H} (hq : px_op en pc L st h = some w) : h.1 ≤ w.2.2.2.1 ∧ h.2.1 ≤ w.2.2.2.2.1 := by
  unfold px_op at hq
  split at hq
  · obtain rfl := Option.some.inj hq; exact ⟨Nat.le_refl _, Nat.le_refl _⟩
  · split at hq
    · obtain rfl := Option.some.inj hq; exact ⟨Nat.le_refl _, Nat.le_refl _⟩
    · split at hq
      · obtain rfl := Option.some.inj hq; exact ⟨Nat.le_refl _, Nat.le_refl _⟩
      · obtain ⟨z, h1, h2⟩ := Option.map_eq_some_iff.mp hq
        subst h2
        exact px_m_hop h1
end PXM
theorem px_m_run : ∀ (n m pc : Nat) (L : px_L) (st : List Value) (h : px_H) (r : px_H × Option Value), px_run n m pc L st h = some r → h.1 ≤ r.1.1 ∧ h.2.1 ≤ r.1.2.1 := by
  intro n
  induction n with
  | zero => intro m pc L st h r hq; cases hq
  | succ n ih =>
    intro m pc L st h r hq
    unfold px_run at hq
    split at hq
    · cases hq
    · next e he =>
      split at hq
      · split at hq
        · next w hw =>
          have h1 := px_m_op hw
          have h2 := ih _ _ _ _ _ _ hq
          exact ⟨Nat.le_trans h1.1 h2.1, Nat.le_trans h1.2 h2.2⟩
        · cases hq
      · split at hq
        · split at hq
          · next r1 hr1 =>
            have h1 := ih _ _ _ _ _ _ hr1
            have h2 := ih _ _ _ _ _ _ hq
            exact ⟨Nat.le_trans h1.1 h2.1, Nat.le_trans h1.2 h2.2⟩
          · cases hq
        · cases hq
      · obtain ⟨v, -, h2⟩ := Option.map_eq_some_iff.mp hq
        subst h2
        exact ⟨Nat.le_refl _, Nat.le_refl _⟩
section PXO
variable {p : Program} {l : Launch} {e : Env} {R : Room} {s : State} {m : MethodId} {args : Array Value} {below : List Frame} {meth : Method} {c : Code} {Q : State → Prop} {cc : ByteArray} {pc : Nat} {ls : Array Slot} {G : px_G} {n0 k0 fr lo : Nat} {own mn : String} {h : px_H} {st : List Value}
theorem px_hop_ok (hx : p.tables.exec = Jvm.exec) (hb : c.code = cc) (hown : s.vm.findClass own = some m.cls) (hts : px_T args s) (hK : px_K G s) (hmn : mn = "<init>" → meth.name = "<init>") (hsz : ls.size = c.maxLocals) (hfr : fr ≤ R.frames) (hlo : lo ≤ R.locals) {en : px_E} (hok : px_okl own mn fr lo en = true) (hkd : px_kd en = 0) (hdg : decode cc pc = .ok (en.1, px_len en.1)) {q : List Value × px_H} (hq : px_hop en st h = some q)
    (hn0 : n0 ≤ h.1) (hk0 : k0 ≤ h.2.1) (hc : q.2.1 - n0 ≤ R.cells) (hs : q.2.2.1 - k0 ≤ R.slots)
    (kk : px_Wc p l e R s m args below meth c Q n0 k0 G q.2 (F0 m (pc + px_len en.1) ls (q.1.map (px_tv (px_g G))))) : px_Wc p l e R s m args below meth c Q n0 k0 G h (F0 m pc ls (st.map (px_tv (px_g G)))) := by
  have hmono := px_m_hop hq
  obtain ⟨i, len, x, y, v⟩ := en
  cases i with
  | getfield idx => exact px_getf_ok hx hb hown hts hK hok hdg hq kk
  | putfield idx => exact px_putf_ok hx hb hown hts hK hmn (px_and hok).1 (px_and hok).2 hdg hq kk
  | iaload => exact px_ald_ok hx hb (Or.inl ⟨rfl, rfl⟩) hdg hq kk
  | laload => exact px_ald_ok hx hb (Or.inr (Or.inl ⟨rfl, rfl⟩)) hdg hq kk
  | caload => exact px_ald_ok hx hb (Or.inr (Or.inr (Or.inl ⟨rfl, rfl⟩))) hdg hq kk
  | saload => exact px_ald_ok hx hb (Or.inr (Or.inr (Or.inr (Or.inl ⟨rfl, rfl⟩)))) hdg hq kk
  | baload => exact px_ald_ok hx hb (Or.inr (Or.inr (Or.inr (Or.inr ⟨rfl, rfl⟩)))) hdg hq kk
  | aaload => exact px_aald_ok hx hb hdg hq kk
  | iastore => exact px_ast_ok hx hb (Or.inl ⟨rfl, rfl, rfl⟩) hdg hq kk
  | castore => exact px_ast_ok hx hb (Or.inr (Or.inl ⟨rfl, rfl, rfl⟩)) hdg hq kk
  | sastore => exact px_ast_ok hx hb (Or.inr (Or.inr (Or.inl ⟨rfl, rfl, rfl⟩))) hdg hq kk
  | bastore => exact px_ast_ok hx hb (Or.inr (Or.inr (Or.inr ⟨rfl, rfl, rfl⟩))) hdg hq kk
  | lastore => exact px_last_ok hx hb hdg hq kk
  | aastore => exact px_aast_ok hx hb hK hdg hq kk
  | arraylength => exact px_alen_ok hx hb hdg hq kk
  | newarray a => exact px_newp_ok hx hb hts hK hok hdg hq hn0 hk0 hc hs kk
  | anewarray idx =>
    have hok : ((decide (x = 5) && px_w (.classLink own idx "JobTests$StepMemory")) || (decide (x = 6) && px_w (.classLink own idx "JobTests$TestCase"))) = true := hok
    rcases (Bool.or_eq_true _ _).mp hok with ho | ho
    · obtain rfl := of_decide_eq_true (px_and ho).1
      exact px_newr_ok (tag := 5) hx hb hown hts hK rfl hK.2.2.2.1.1 (px_and ho).2 hdg hq hn0 hk0 hc hs kk
    · obtain rfl := of_decide_eq_true (px_and ho).1
      exact px_newr_ok (tag := 6) hx hb hown hts hK rfl hK.2.2.2.1.2 (px_and ho).2 hdg hq hn0 hk0 hc hs kk
  | new idx => exact px_newo_ok hx hb hown hts hK hok hdg hq hn0 hk0 hc hs kk
  | ldc idx =>
    obtain rfl := Option.some.inj hq
    have hok : px_okld own idx v = true := hok
    cases v with
    | int v => exact px_ldi_ok2 hx hb hown hts hok hdg kk
    | ref z =>
      obtain ⟨w, hw, h1⟩ := List.any_eq_true.mp hok
      obtain ⟨a1, h1⟩ := px_and h1
      obtain ⟨a2, h1⟩ := px_and h1
      obtain ⟨a3, a4⟩ := px_and h1
      have e3 := of_decide_eq_true a3
      subst e3
      exact px_lds_ok hx hb hown hK hw (of_decide_eq_true a1) (of_decide_eq_true a2) (of_decide_eq_true a4) hdg kk
    | _ => cases hok
  | ldc_w idx =>
    obtain rfl := Option.some.inj hq
    have hok : px_oklw own idx v = true := hok
    cases v with
    | int v => exact px_ldiw_ok hx hb hown hts hok hdg kk
    | _ => cases hok
  | ldc2_w idx =>
    obtain rfl := Option.some.inj hq
    have hok : px_okl2 own idx v = true := hok
    cases v with
    | long v => exact px_ldl_ok2 hx hb hown hts hok hdg kk
    | _ => cases hok
  | getstatic idx =>
    have hq : (if x < 2 then some (v :: st, h) else none) = some q := hq
    split at hq
    · obtain rfl := Option.some.inj hq
      have hok : ((decide (x = 0) && (decide (v = .int 1) && px_w (.fieldLink own idx "java/lang/String" "COMPACT_STRINGS" "Z"))) || (decide (x = 1) && (decide (v = .retAddr 0) && px_w (.fieldLink own idx "jdk/internal/util/Preconditions" "SIOOBE_FORMATTER" "Ljava/util/function/BiFunction;")))) = true := hok
      rcases (Bool.or_eq_true _ _).mp hok with ho | ho
      · obtain ⟨-, ho⟩ := px_and ho
        obtain ⟨ho1, ho⟩ := px_and ho
        obtain rfl := of_decide_eq_true ho1
        exact px_gets_ok hx hb hown hts hK.2.2.2.2.2.1 ho hdg kk
      · obtain ⟨-, ho⟩ := px_and ho
        obtain ⟨ho1, ho⟩ := px_and ho
        obtain rfl := of_decide_eq_true ho1
        exact px_gets_ok hx hb hown hts hK.2.2.2.2.2.2 ho hdg kk
    · cases hq
  | invokespecial idx =>
    have hok : (decide (y < 10) || (decide (1 ≤ fr ∧ 20 ≤ lo) && (px_w (.methodLink own idx Lib.objectInit) && (px_w (.instanceMethod Lib.objectInit) && px_w (.code Lib.objectInit ⟨#[0xb1]⟩ 1 none))))) = true := hok
    rcases (Bool.or_eq_true _ _).mp hok with ho | ho
    · have hkd : (if y < 10 then 1 else 0) = 0 := hkd
      rw [if_pos (of_decide_eq_true ho)] at hkd
      cases hkd
    · obtain ⟨w0, ho⟩ := px_and ho
      have w0 := of_decide_eq_true w0
      obtain ⟨w1, ho⟩ := px_and ho
      obtain ⟨w2, w3⟩ := px_and ho
      exact px_oin_ok hx hb hown hts hsz w1 w2 w3 (Nat.le_trans w0.1 hfr) (Nat.le_trans w0.2 hlo) hdg hq kk
  | invokestatic idx =>
    have hq : (if y = 11 then px_max h st else if y = 12 then px_min h st else if y = 16 then px_acp h st else none) = some q := hq
    split at hq
    · next hy =>
      subst hy
      obtain ⟨w0, ho⟩ := px_and hok
      have w0 := of_decide_eq_true w0
      obtain ⟨w1, ho⟩ := px_and ho
      obtain ⟨w2, ho⟩ := px_and ho
      obtain ⟨w3, w4⟩ := px_and ho
      exact px_max_ok hx hb hown hts hsz w1 w2 w3 w4 (Nat.le_trans w0.1 hfr) (Nat.le_trans w0.2 hlo) (Nat.le_trans (Nat.sub_le_sub_right hmono.1 n0) hc) (Nat.le_trans (Nat.sub_le_sub_right hmono.2 k0) hs) hdg hq kk
    · split at hq
      · next hy =>
        subst hy
        obtain ⟨w0, ho⟩ := px_and hok
        have w0 := of_decide_eq_true w0
        obtain ⟨w1, ho⟩ := px_and ho
        obtain ⟨w2, ho⟩ := px_and ho
        obtain ⟨w3, w4⟩ := px_and ho
        exact px_min_ok hx hb hown hts hsz w1 w2 w3 w4 (Nat.le_trans w0.1 hfr) (Nat.le_trans w0.2 hlo) (Nat.le_trans (Nat.sub_le_sub_right hmono.1 n0) hc) (Nat.le_trans (Nat.sub_le_sub_right hmono.2 k0) hs) hdg hq kk
      · split at hq
        · next hy =>
          subst hy
          obtain ⟨w0, ho⟩ := px_and hok
          have w0 := of_decide_eq_true w0
          obtain ⟨w1, ho⟩ := px_and ho
          obtain ⟨w2, ho⟩ := px_and ho
          obtain ⟨w3, w4⟩ := px_and ho
          exact px_acp_ok hx hb hown hts hK hsz w1 w2 w3 w4 (Nat.le_trans w0.1 hfr) (Nat.le_trans w0.2 hlo) hdg hq kk
        · cases hq
  | _ => exact absurd hq (by simp [px_hop])
theorem px_lok_stk {en : px_E} {L : px_L} {st' : List Value} (h1 : px_lok en = true) (h2 : px_stk en.1 L st = some st') : en.2.1 = px_len en.1 := by
  obtain ⟨i, len, x, y, v⟩ := en
  cases i <;> first | exact of_decide_eq_true h1 | exact absurd h2 (by simp [px_stk])
theorem px_lok_lop {en : px_E} {L : px_L} {w : px_L × List Value} (h1 : px_lok en = true) (h2 : px_lop en.1 L st = some w) : en.2.1 = px_len en.1 := by
  obtain ⟨i, len, x, y, v⟩ := en
  cases i <;> first | exact of_decide_eq_true h1 | exact absurd h2 (by simp [px_lop])
theorem px_lok_hop {en : px_E} {w : List Value × px_H} (h1 : px_lok en = true) (h2 : px_hop en st h = some w) : en.2.1 = px_len en.1 := by
  obtain ⟨i, len, x, y, v⟩ := en
  cases i <;> first | exact of_decide_eq_true h1 | exact absurd h2 (by simp [px_hop])
theorem px_op_ok (hx : p.tables.exec = Jvm.exec) (hb : c.code = cc) (hown : s.vm.findClass own = some m.cls) (hts : px_T args s) (hK : px_K G s) (hmn : mn = "<init>" → meth.name = "<init>") (hfr : fr ≤ R.frames) (hlo : lo ≤ R.locals) {en : px_E} (hok : px_okl own mn fr lo en = true) (hokb : px_okb pc en = true) (hlok : px_lok en = true) (hkd : px_kd en = 0) (hdg : decode cc pc = .ok (en.1, en.2.1)) {L : px_L} (hl : px_lr (px_g G) L ls) (hml : L.length = c.maxLocals) {w : Nat × px_L × List Value × px_H} (hq : px_op en pc L st h = some w)
    (hn0 : n0 ≤ h.1) (hk0 : k0 ≤ h.2.1) (hc : w.2.2.2.1 - n0 ≤ R.cells) (hs : w.2.2.2.2.1 - k0 ≤ R.slots)
    (kk : ∀ ls' : Array Slot, px_lr (px_g G) w.2.1 ls' → w.2.1.length = c.maxLocals → px_Wc p l e R s m args below meth c Q n0 k0 G w.2.2.2 (F0 m w.1 ls' (w.2.2.1.map (px_tv (px_g G))))) : px_Wc p l e R s m args below meth c Q n0 k0 G h (F0 m pc ls (st.map (px_tv (px_g G)))) := by
  unfold px_op at hq
  split at hq
  · next st' hstk =>
    obtain rfl := Option.some.inj hq
    rw [px_lok_stk hlok hstk] at hdg
    exact fun H locs hr hS => px_stk_ok hx hb hdg hl hstk (kk ls hl hml H locs hr hS)
  · split at hq
    · next z hlop =>
      obtain rfl := Option.some.inj hq
      rw [px_lok_lop hlok hlop] at hdg
      intro H locs hr hS
      refine px_lop_ok hx hb hdg hl hlop (fun ls' h' => kk ls' h' ?_ H locs hr hS)
      show z.1.length = c.maxLocals
      rw [← hml]
      exact px_lop_len hlop
    · split at hq
      · next z hbr =>
        obtain rfl := Option.some.inj hq
        refine fun H locs hr hS => px_br_ok hx hb hdg ?_ hokb hbr (kk ls hl hml H locs hr hS)
        obtain ⟨i, len, x, y, v⟩ := en
        cases i <;> first | trivial | exact of_decide_eq_true hlok
      · obtain ⟨z, h1, h2⟩ := Option.map_eq_some_iff.mp hq
        subst h2
        rw [px_lok_hop hlok h1] at hdg
        exact px_hop_ok hx hb hown hts hK hmn (hl.1.trans hml) hfr hlo hok hkd hdg h1 hn0 hk0 hc hs (kk ls hl hml)
end PXO
