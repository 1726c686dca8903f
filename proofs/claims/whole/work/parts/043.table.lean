theorem px_and {a b : Bool} (h : (a && b) = true) : a = true ∧ b = true := (Bool.and_eq_true a b).mp h
def px_allok : Nat → List (List (Nat × px_E)) → Bool
  | _, [] => true
  | i, k :: r => k.all (fun q => px_okE i q.1 q.2) && px_allok (i + 1) r
theorem px_allok_at : ∀ (l : List (List (Nat × px_E))) (i : Nat), px_allok i l = true → ∀ (j : Nat) (k : List (Nat × px_E)), l[j]? = some k → k.all (fun q => px_okE (i + j) q.1 q.2) = true := by
  intro l
  induction l with
  | nil => intro i _ j k hk; simp at hk
  | cons a r ih =>
    intro i h j k hk
    obtain ⟨h1, h2⟩ := px_and h
    cases j with
    | zero =>
      cases hk
      exact h1
    | succ j =>
      have h3 := ih (i + 1) h2 j k (by simpa using hk)
      rw [show i + (j + 1) = i + 1 + j by omega]
      exact h3
theorem px_lookup {l : List (Nat × px_E)} {pc : Nat} {e : px_E} (h : l.lookup pc = some e) : (pc, e) ∈ l := by
  induction l with
  | nil => cases h
  | cons a r ih =>
    obtain ⟨a1, a2⟩ := a
    rw [List.lookup_cons] at h
    split at h
    · next hb =>
      cases h
      rw [eq_of_beq hb]
      exact List.mem_cons_self
    · exact List.mem_cons_of_mem _ (ih h)
theorem px_cut_all {α : Type} (p : α → Bool) (l : List α) (n k : Nat) (h1 : ((l.drop n).take k).all p = true) (h2 : (l.drop (n + k)).all p = true) : (l.drop n).all p = true := by
  rw [← List.take_append_drop k (l.drop n), List.all_append, h1, List.drop_drop, h2]
  rfl
set_option maxRecDepth 100000 in
theorem ok_220 : k_220.all (fun q => px_okE 220 q.1 q.2) = true := (px_cut_all _ _ 0 70 ok_220_0 (px_cut_all _ _ 70 70 ok_220_70 (px_cut_all _ _ 140 70 ok_220_140 (px_cut_all _ _ 210 70 ok_220_210 (px_cut_all _ _ 280 70 ok_220_280 (px_cut_all _ _ 350 70 ok_220_350 (px_cut_all _ _ 420 70 ok_220_420 (px_cut_all _ _ 490 70 ok_220_490 (List.all_eq_true.mpr (fun q hq => by rw [List.drop_eq_nil_of_le (by decide)] at hq; cases hq))))))))))
set_option maxRecDepth 100000 in
theorem px_all : px_allok 0 px_codes = true := by
  simp only [px_codes, px_allok, Nat.reduceAdd, Nat.zero_add, Bool.and_true, ok_0, ok_1, ok_2, ok_3, ok_4, ok_5, ok_6, ok_7, ok_8, ok_9, ok_10, ok_11, ok_12, ok_13, ok_14, ok_15, ok_16, ok_17, ok_18, ok_19, ok_20, ok_21, ok_22, ok_23, ok_24, ok_25, ok_26, ok_27, ok_28, ok_29, ok_30, ok_31, ok_32, ok_33, ok_34, ok_35, ok_36, ok_37, ok_38, ok_39, ok_40, ok_41, ok_42, ok_43, ok_44, ok_45, ok_46, ok_47, ok_48, ok_49, ok_50, ok_51, ok_52, ok_53, ok_54, ok_55, ok_56, ok_57, ok_58, ok_59, ok_60, ok_61, ok_62, ok_63, ok_64, ok_65, ok_66, ok_67, ok_68, ok_69, ok_70, ok_71, ok_72, ok_73, ok_74, ok_75, ok_76, ok_77, ok_78, ok_79, ok_80, ok_81, ok_82, ok_83, ok_84, ok_85, ok_86, ok_87, ok_88, ok_89, ok_90, ok_91, ok_92, ok_93, ok_94, ok_95, ok_96, ok_97, ok_98, ok_99, ok_100, ok_101, ok_102, ok_103, ok_104, ok_105, ok_106, ok_107, ok_108, ok_109, ok_110, ok_111, ok_112, ok_113, ok_114, ok_115, ok_116, ok_117, ok_118, ok_119, ok_120, ok_121, ok_122, ok_123, ok_124, ok_125, ok_126, ok_127, ok_128, ok_129, ok_130, ok_131, ok_132, ok_133, ok_134, ok_135, ok_136, ok_137, ok_138, ok_139, ok_140, ok_141, ok_142, ok_143, ok_144, ok_145, ok_146, ok_147, ok_148, ok_149, ok_150, ok_151, ok_152, ok_153, ok_154, ok_155, ok_156, ok_157, ok_158, ok_159, ok_160, ok_161, ok_162, ok_163, ok_164, ok_165, ok_166, ok_167, ok_168, ok_169, ok_170, ok_171, ok_172, ok_173, ok_174, ok_175, ok_176, ok_177, ok_178, ok_179, ok_180, ok_181, ok_182, ok_183, ok_184, ok_185, ok_186, ok_187, ok_188, ok_189, ok_190, ok_191, ok_192, ok_193, ok_194, ok_195, ok_196, ok_197, ok_198, ok_199, ok_200, ok_201, ok_202, ok_203, ok_204, ok_205, ok_206, ok_207, ok_208, ok_209, ok_210, ok_211, ok_212, ok_213, ok_214, ok_215, ok_216, ok_217, ok_218, ok_219, ok_220]
theorem px_ok : px_OK := by
  intro m pc e h
  unfold px_at at h
  have hm := px_lookup h
  cases hk : px_codes[m]? with
  | none =>
    rw [List.getD_eq_getElem?_getD, hk] at hm
    cases hm
  | some k =>
    rw [List.getD_eq_getElem?_getD, hk] at hm
    have h1 := px_allok_at px_codes 0 px_all m k hk
    rw [Nat.zero_add] at h1
    exact List.all_eq_true.mp h1 (pc, e) hm
