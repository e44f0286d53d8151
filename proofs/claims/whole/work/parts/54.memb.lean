/-! The reference embeds. -/
section ME
variable {d s r : Nat} {t : T} {F : Option Value → T → Prop} {f g : St} {n m : Nat} {h : Nat → Nat}
def imP (t : T) (h : Nat → Nat) (u : Nat) : Prop := ∀ w, w < u → t.1 516 w = nI (h w) ∧ h w < 6
theorem l_75c {u w : Nat} {C : Prop} (hd : 3 ≤ d) (hs : s < 184) (hr : r < 184) (hu : u < 6) (hw : w ≤ u) (hf : mS t s = f) (hg : mS t r = g) (hi : imP t h (u + 1)) (k : ∀ (v : Int32) (jv : Value), bo v (C ∧ ∀ p, 6 ≤ p → p < 8 → eP f g h u w p) → twp none d 75 90 [.ref 483, .int (nI s), .int (nI r), .int (nI u), .int (nI (h u)), .int v, .int (nI (w + 1)), jv] [] t F) : ∀ (j p : Nat) (v : Int32), p + j = 8 → 6 ≤ p → bo v (C ∧ ∀ p', 6 ≤ p' → p' < p → eP f g h u w p') → twp none d 75 140 [.ref 483, .int (nI s), .int (nI r), .int (nI u), .int (nI (h u)), .int v, .int (nI w), .int (nI p)] [] t F := by
  have iu := hi u (by omega)
  have iw := hi w (by omega)
  have iu2 := iu.2
  have iw2 := iw.2
  intro j
  induction j with
  | zero =>
    intro p v hp hp6 hv
    have hp : p = 8 := by omega
    subst hp
    refine vc_ok none zH_75 132 false _ 75 140 _ _ _ _ ?_
    simp only [v_75_0, v_75_1, v_75_4, v_75_5, v_75_6, v_75_8, v_75_9, v_75_10, v_75_11, v_75_14, v_75_17, v_75_18, v_75_19, v_75_21, v_75_24, v_75_27, v_75_28, v_75_31, v_75_32, v_75_34, v_75_35, v_75_37, h_75_37, v_75_39, v_75_41, v_75_44, v_75_46, v_75_49, v_75_50, v_75_51, v_75_53, v_75_54, v_75_55, v_75_58, v_75_59, v_75_60, v_75_62, v_75_64, v_75_65, v_75_68, v_75_71, v_75_74, v_75_75, v_75_78, v_75_79, v_75_81, v_75_84, v_75_87, v_75_88, v_75_90, h_75_90, v_75_92, v_75_93, v_75_96, v_75_98, v_75_101, v_75_103, v_75_104, v_75_107, v_75_108, v_75_111, v_75_113, v_75_114, v_75_116, v_75_119, v_75_120, v_75_121, v_75_123, v_75_126, v_75_129, v_75_130, v_75_133, v_75_134, v_75_136, v_75_138, v_75_140, h_75_140, v_75_142, v_75_144, v_75_147, v_75_149, v_75_152, v_75_153, v_75_154, v_75_156, v_75_157, v_75_159, v_75_162, v_75_163, v_75_164, v_75_166, v_75_168, v_75_169, v_75_172, v_75_174, v_75_175, v_75_178, v_75_181, v_75_184, v_75_185, v_75_186, v_75_188, v_75_190, v_75_191, v_75_194, v_75_195, v_75_196, v_75_198, v_75_199, v_75_202, v_75_204, v_75_205, v_75_207, v_75_210, v_75_213, v_75_216, v_75_217, v_75_220, v_75_221, v_75_223, v_75_226, v_75_229, v_75_232, v_75_235, v_75_237, vgi_0, vgi_s, vga_0, vga_s, vset_0, vset_s, vtk_0, vtk_s, vrc_0, vsw_0, vsw_s, List.all_cons, List.all_nil, zc1_i, zc1_r, Bool.and_true, Bool.and_self, true_and, and_true, List.length_cons, List.length_nil, Nat.zero_le, Nat.reduceLeDiff, Nat.reduceAdd, Nat.reduceLT]
    rw [if_neg (by decide), nI_1]
    exact k v _ hv
  | succ j ih =>
    intro p v hp hp6 hv
    have st : ∀ Q : Prop, (eP f g h u w p ↔ Q) → ((C ∧ ∀ p', 6 ≤ p' → p' < p + 1 → eP f g h u w p') ↔ (C ∧ ∀ p', 6 ≤ p' → p' < p → eP f g h u w p') ∧ Q) := by
      intro Q hQ
      constructor
      · rintro ⟨h1, h2⟩
        exact ⟨⟨h1, fun p' h3 h4 => h2 p' h3 (by omega)⟩, hQ.mp (h2 p (by omega) (by omega))⟩
      · rintro ⟨⟨h1, h2⟩, h3⟩
        refine ⟨h1, fun p' h4 h5 => ?_⟩
        by_cases e : p' = p
        · rw [e]; exact hQ.mpr h3
        · exact h2 p' h4 (by omega)
    have st := st (eP f g h u w p) Iff.rfl
    refine vc_ok none zH_75 132 false _ 75 140 _ _ _ _ ?_
    simp only [v_75_0, v_75_1, v_75_4, v_75_5, v_75_6, v_75_8, v_75_9, v_75_10, v_75_11, v_75_14, v_75_17, v_75_18, v_75_19, v_75_21, v_75_24, v_75_27, v_75_28, v_75_31, v_75_32, v_75_34, v_75_35, v_75_37, h_75_37, v_75_39, v_75_41, v_75_44, v_75_46, v_75_49, v_75_50, v_75_51, v_75_53, v_75_54, v_75_55, v_75_58, v_75_59, v_75_60, v_75_62, v_75_64, v_75_65, v_75_68, v_75_71, v_75_74, v_75_75, v_75_78, v_75_79, v_75_81, v_75_84, v_75_87, v_75_88, v_75_90, h_75_90, v_75_92, v_75_93, v_75_96, v_75_98, v_75_101, v_75_103, v_75_104, v_75_107, v_75_108, v_75_111, v_75_113, v_75_114, v_75_116, v_75_119, v_75_120, v_75_121, v_75_123, v_75_126, v_75_129, v_75_130, v_75_133, v_75_134, v_75_136, v_75_138, v_75_140, h_75_140, v_75_142, v_75_144, v_75_147, v_75_149, v_75_152, v_75_153, v_75_154, v_75_156, v_75_157, v_75_159, v_75_162, v_75_163, v_75_164, v_75_166, v_75_168, v_75_169, v_75_172, v_75_174, v_75_175, v_75_178, v_75_181, v_75_184, v_75_185, v_75_186, v_75_188, v_75_190, v_75_191, v_75_194, v_75_195, v_75_196, v_75_198, v_75_199, v_75_202, v_75_204, v_75_205, v_75_207, v_75_210, v_75_213, v_75_216, v_75_217, v_75_220, v_75_221, v_75_223, v_75_226, v_75_229, v_75_232, v_75_235, v_75_237, vgi_0, vgi_s, vga_0, vga_s, vset_0, vset_s, vtk_0, vtk_s, vrc_0, vsw_0, vsw_s, List.all_cons, List.all_nil, zc1_i, zc1_r, Bool.and_true, Bool.and_self, true_and, and_true, List.length_cons, List.length_nil, Nat.zero_le, Nat.reduceLeDiff, Nat.reduceAdd, Nat.reduceLT, tg_483]
    rw [li8, if_pos (nI_lt (by omega) (by omega))]
    rcases hv with ⟨rfl, hP⟩ | ⟨rfl, hP⟩
    · rw [if_neg (by decide)]
      refine c_43 (by omega) hs (by omega) (by omega) (by omega) ?_
      simp only [v_75_0, v_75_1, v_75_4, v_75_5, v_75_6, v_75_8, v_75_9, v_75_10, v_75_11, v_75_14, v_75_17, v_75_18, v_75_19, v_75_21, v_75_24, v_75_27, v_75_28, v_75_31, v_75_32, v_75_34, v_75_35, v_75_37, h_75_37, v_75_39, v_75_41, v_75_44, v_75_46, v_75_49, v_75_50, v_75_51, v_75_53, v_75_54, v_75_55, v_75_58, v_75_59, v_75_60, v_75_62, v_75_64, v_75_65, v_75_68, v_75_71, v_75_74, v_75_75, v_75_78, v_75_79, v_75_81, v_75_84, v_75_87, v_75_88, v_75_90, h_75_90, v_75_92, v_75_93, v_75_96, v_75_98, v_75_101, v_75_103, v_75_104, v_75_107, v_75_108, v_75_111, v_75_113, v_75_114, v_75_116, v_75_119, v_75_120, v_75_121, v_75_123, v_75_126, v_75_129, v_75_130, v_75_133, v_75_134, v_75_136, v_75_138, v_75_140, h_75_140, v_75_142, v_75_144, v_75_147, v_75_149, v_75_152, v_75_153, v_75_154, v_75_156, v_75_157, v_75_159, v_75_162, v_75_163, v_75_164, v_75_166, v_75_168, v_75_169, v_75_172, v_75_174, v_75_175, v_75_178, v_75_181, v_75_184, v_75_185, v_75_186, v_75_188, v_75_190, v_75_191, v_75_194, v_75_195, v_75_196, v_75_198, v_75_199, v_75_202, v_75_204, v_75_205, v_75_207, v_75_210, v_75_213, v_75_216, v_75_217, v_75_220, v_75_221, v_75_223, v_75_226, v_75_229, v_75_232, v_75_235, v_75_237, vgi_0, vgi_s, vga_0, vga_s, vset_0, vset_s, vtk_0, vtk_s, vrc_0, vsw_0, vsw_s, List.all_cons, List.all_nil, zc1_i, zc1_r, Bool.and_true, Bool.and_self, true_and, and_true, List.length_cons, List.length_nil, Nat.zero_le, Nat.reduceLeDiff, Nat.reduceAdd, Nat.reduceLT, Option.toList_some, List.cons_append, List.nil_append, tg_483, tf_483_37, tg_516, ln_516]
      simp (disch := omega) only [nI_clamp, vinb_n, iw.1]
      refine ⟨by omega, ?_⟩
      refine c_43 (by omega) hr (by omega) (by omega) (by omega) ?_
      simp only [v_75_0, v_75_1, v_75_4, v_75_5, v_75_6, v_75_8, v_75_9, v_75_10, v_75_11, v_75_14, v_75_17, v_75_18, v_75_19, v_75_21, v_75_24, v_75_27, v_75_28, v_75_31, v_75_32, v_75_34, v_75_35, v_75_37, h_75_37, v_75_39, v_75_41, v_75_44, v_75_46, v_75_49, v_75_50, v_75_51, v_75_53, v_75_54, v_75_55, v_75_58, v_75_59, v_75_60, v_75_62, v_75_64, v_75_65, v_75_68, v_75_71, v_75_74, v_75_75, v_75_78, v_75_79, v_75_81, v_75_84, v_75_87, v_75_88, v_75_90, h_75_90, v_75_92, v_75_93, v_75_96, v_75_98, v_75_101, v_75_103, v_75_104, v_75_107, v_75_108, v_75_111, v_75_113, v_75_114, v_75_116, v_75_119, v_75_120, v_75_121, v_75_123, v_75_126, v_75_129, v_75_130, v_75_133, v_75_134, v_75_136, v_75_138, v_75_140, h_75_140, v_75_142, v_75_144, v_75_147, v_75_149, v_75_152, v_75_153, v_75_154, v_75_156, v_75_157, v_75_159, v_75_162, v_75_163, v_75_164, v_75_166, v_75_168, v_75_169, v_75_172, v_75_174, v_75_175, v_75_178, v_75_181, v_75_184, v_75_185, v_75_186, v_75_188, v_75_190, v_75_191, v_75_194, v_75_195, v_75_196, v_75_198, v_75_199, v_75_202, v_75_204, v_75_205, v_75_207, v_75_210, v_75_213, v_75_216, v_75_217, v_75_220, v_75_221, v_75_223, v_75_226, v_75_229, v_75_232, v_75_235, v_75_237, vgi_0, vgi_s, vga_0, vga_s, vset_0, vset_s, vtk_0, vtk_s, vrc_0, vsw_0, vsw_s, List.all_cons, List.all_nil, zc1_i, zc1_r, Bool.and_true, Bool.and_self, true_and, and_true, List.length_cons, List.length_nil, Nat.zero_le, Nat.reduceLeDiff, Nat.reduceAdd, Nat.reduceLT, Option.toList_some, List.cons_append, List.nil_append, tg_483]
      refine c_74 (by omega) (fun q1 => ?_) (fun q1 => ?_)
      · simp only [v_75_0, v_75_1, v_75_4, v_75_5, v_75_6, v_75_8, v_75_9, v_75_10, v_75_11, v_75_14, v_75_17, v_75_18, v_75_19, v_75_21, v_75_24, v_75_27, v_75_28, v_75_31, v_75_32, v_75_34, v_75_35, v_75_37, h_75_37, v_75_39, v_75_41, v_75_44, v_75_46, v_75_49, v_75_50, v_75_51, v_75_53, v_75_54, v_75_55, v_75_58, v_75_59, v_75_60, v_75_62, v_75_64, v_75_65, v_75_68, v_75_71, v_75_74, v_75_75, v_75_78, v_75_79, v_75_81, v_75_84, v_75_87, v_75_88, v_75_90, h_75_90, v_75_92, v_75_93, v_75_96, v_75_98, v_75_101, v_75_103, v_75_104, v_75_107, v_75_108, v_75_111, v_75_113, v_75_114, v_75_116, v_75_119, v_75_120, v_75_121, v_75_123, v_75_126, v_75_129, v_75_130, v_75_133, v_75_134, v_75_136, v_75_138, v_75_140, h_75_140, v_75_142, v_75_144, v_75_147, v_75_149, v_75_152, v_75_153, v_75_154, v_75_156, v_75_157, v_75_159, v_75_162, v_75_163, v_75_164, v_75_166, v_75_168, v_75_169, v_75_172, v_75_174, v_75_175, v_75_178, v_75_181, v_75_184, v_75_185, v_75_186, v_75_188, v_75_190, v_75_191, v_75_194, v_75_195, v_75_196, v_75_198, v_75_199, v_75_202, v_75_204, v_75_205, v_75_207, v_75_210, v_75_213, v_75_216, v_75_217, v_75_220, v_75_221, v_75_223, v_75_226, v_75_229, v_75_232, v_75_235, v_75_237, vgi_0, vgi_s, vga_0, vga_s, vset_0, vset_s, vtk_0, vtk_s, vrc_0, vsw_0, vsw_s, List.all_cons, List.all_nil, zc1_i, zc1_r, Bool.and_true, Bool.and_self, true_and, and_true, List.length_cons, List.length_nil, Nat.zero_le, Nat.reduceLeDiff, Nat.reduceAdd, Nat.reduceLT, Option.toList_some, List.cons_append, List.nil_append, tg_483]
        rw [if_neg (by decide)]
        refine c_43 (by omega) hs (by omega) (by omega) (by omega) ?_
        simp only [v_75_0, v_75_1, v_75_4, v_75_5, v_75_6, v_75_8, v_75_9, v_75_10, v_75_11, v_75_14, v_75_17, v_75_18, v_75_19, v_75_21, v_75_24, v_75_27, v_75_28, v_75_31, v_75_32, v_75_34, v_75_35, v_75_37, h_75_37, v_75_39, v_75_41, v_75_44, v_75_46, v_75_49, v_75_50, v_75_51, v_75_53, v_75_54, v_75_55, v_75_58, v_75_59, v_75_60, v_75_62, v_75_64, v_75_65, v_75_68, v_75_71, v_75_74, v_75_75, v_75_78, v_75_79, v_75_81, v_75_84, v_75_87, v_75_88, v_75_90, h_75_90, v_75_92, v_75_93, v_75_96, v_75_98, v_75_101, v_75_103, v_75_104, v_75_107, v_75_108, v_75_111, v_75_113, v_75_114, v_75_116, v_75_119, v_75_120, v_75_121, v_75_123, v_75_126, v_75_129, v_75_130, v_75_133, v_75_134, v_75_136, v_75_138, v_75_140, h_75_140, v_75_142, v_75_144, v_75_147, v_75_149, v_75_152, v_75_153, v_75_154, v_75_156, v_75_157, v_75_159, v_75_162, v_75_163, v_75_164, v_75_166, v_75_168, v_75_169, v_75_172, v_75_174, v_75_175, v_75_178, v_75_181, v_75_184, v_75_185, v_75_186, v_75_188, v_75_190, v_75_191, v_75_194, v_75_195, v_75_196, v_75_198, v_75_199, v_75_202, v_75_204, v_75_205, v_75_207, v_75_210, v_75_213, v_75_216, v_75_217, v_75_220, v_75_221, v_75_223, v_75_226, v_75_229, v_75_232, v_75_235, v_75_237, vgi_0, vgi_s, vga_0, vga_s, vset_0, vset_s, vtk_0, vtk_s, vrc_0, vsw_0, vsw_s, List.all_cons, List.all_nil, zc1_i, zc1_r, Bool.and_true, Bool.and_self, true_and, and_true, List.length_cons, List.length_nil, Nat.zero_le, Nat.reduceLeDiff, Nat.reduceAdd, Nat.reduceLT, Option.toList_some, List.cons_append, List.nil_append, tg_483, tf_483_37, tg_516, ln_516]
        simp (disch := omega) only [nI_clamp, vinb_n, iw.1]
        refine ⟨by omega, ?_⟩
        refine c_43 (by omega) hr (by omega) (by omega) (by omega) ?_
        simp only [v_75_0, v_75_1, v_75_4, v_75_5, v_75_6, v_75_8, v_75_9, v_75_10, v_75_11, v_75_14, v_75_17, v_75_18, v_75_19, v_75_21, v_75_24, v_75_27, v_75_28, v_75_31, v_75_32, v_75_34, v_75_35, v_75_37, h_75_37, v_75_39, v_75_41, v_75_44, v_75_46, v_75_49, v_75_50, v_75_51, v_75_53, v_75_54, v_75_55, v_75_58, v_75_59, v_75_60, v_75_62, v_75_64, v_75_65, v_75_68, v_75_71, v_75_74, v_75_75, v_75_78, v_75_79, v_75_81, v_75_84, v_75_87, v_75_88, v_75_90, h_75_90, v_75_92, v_75_93, v_75_96, v_75_98, v_75_101, v_75_103, v_75_104, v_75_107, v_75_108, v_75_111, v_75_113, v_75_114, v_75_116, v_75_119, v_75_120, v_75_121, v_75_123, v_75_126, v_75_129, v_75_130, v_75_133, v_75_134, v_75_136, v_75_138, v_75_140, h_75_140, v_75_142, v_75_144, v_75_147, v_75_149, v_75_152, v_75_153, v_75_154, v_75_156, v_75_157, v_75_159, v_75_162, v_75_163, v_75_164, v_75_166, v_75_168, v_75_169, v_75_172, v_75_174, v_75_175, v_75_178, v_75_181, v_75_184, v_75_185, v_75_186, v_75_188, v_75_190, v_75_191, v_75_194, v_75_195, v_75_196, v_75_198, v_75_199, v_75_202, v_75_204, v_75_205, v_75_207, v_75_210, v_75_213, v_75_216, v_75_217, v_75_220, v_75_221, v_75_223, v_75_226, v_75_229, v_75_232, v_75_235, v_75_237, vgi_0, vgi_s, vga_0, vga_s, vset_0, vset_s, vtk_0, vtk_s, vrc_0, vsw_0, vsw_s, List.all_cons, List.all_nil, zc1_i, zc1_r, Bool.and_true, Bool.and_self, true_and, and_true, List.length_cons, List.length_nil, Nat.zero_le, Nat.reduceLeDiff, Nat.reduceAdd, Nat.reduceLT, Option.toList_some, List.cons_append, List.nil_append, tg_483]
        refine c_74 (by omega) (fun q2 => ?_) (fun q2 => ?_)
        · simp only [v_75_0, v_75_1, v_75_4, v_75_5, v_75_6, v_75_8, v_75_9, v_75_10, v_75_11, v_75_14, v_75_17, v_75_18, v_75_19, v_75_21, v_75_24, v_75_27, v_75_28, v_75_31, v_75_32, v_75_34, v_75_35, v_75_37, h_75_37, v_75_39, v_75_41, v_75_44, v_75_46, v_75_49, v_75_50, v_75_51, v_75_53, v_75_54, v_75_55, v_75_58, v_75_59, v_75_60, v_75_62, v_75_64, v_75_65, v_75_68, v_75_71, v_75_74, v_75_75, v_75_78, v_75_79, v_75_81, v_75_84, v_75_87, v_75_88, v_75_90, h_75_90, v_75_92, v_75_93, v_75_96, v_75_98, v_75_101, v_75_103, v_75_104, v_75_107, v_75_108, v_75_111, v_75_113, v_75_114, v_75_116, v_75_119, v_75_120, v_75_121, v_75_123, v_75_126, v_75_129, v_75_130, v_75_133, v_75_134, v_75_136, v_75_138, v_75_140, h_75_140, v_75_142, v_75_144, v_75_147, v_75_149, v_75_152, v_75_153, v_75_154, v_75_156, v_75_157, v_75_159, v_75_162, v_75_163, v_75_164, v_75_166, v_75_168, v_75_169, v_75_172, v_75_174, v_75_175, v_75_178, v_75_181, v_75_184, v_75_185, v_75_186, v_75_188, v_75_190, v_75_191, v_75_194, v_75_195, v_75_196, v_75_198, v_75_199, v_75_202, v_75_204, v_75_205, v_75_207, v_75_210, v_75_213, v_75_216, v_75_217, v_75_220, v_75_221, v_75_223, v_75_226, v_75_229, v_75_232, v_75_235, v_75_237, vgi_0, vgi_s, vga_0, vga_s, vset_0, vset_s, vtk_0, vtk_s, vrc_0, vsw_0, vsw_s, List.all_cons, List.all_nil, zc1_i, zc1_r, Bool.and_true, Bool.and_self, true_and, and_true, List.length_cons, List.length_nil, Nat.zero_le, Nat.reduceLeDiff, Nat.reduceAdd, Nat.reduceLT, Option.toList_some, List.cons_append, List.nil_append]
          rw [if_neg (by decide), nI_1]
          rw [hf, hg] at q1 q2
          exact ih (p + 1) 1 (by omega) (by omega) (Or.inl ⟨rfl, st.mpr ⟨hP, q1, q2⟩⟩)
        · simp only [v_75_0, v_75_1, v_75_4, v_75_5, v_75_6, v_75_8, v_75_9, v_75_10, v_75_11, v_75_14, v_75_17, v_75_18, v_75_19, v_75_21, v_75_24, v_75_27, v_75_28, v_75_31, v_75_32, v_75_34, v_75_35, v_75_37, h_75_37, v_75_39, v_75_41, v_75_44, v_75_46, v_75_49, v_75_50, v_75_51, v_75_53, v_75_54, v_75_55, v_75_58, v_75_59, v_75_60, v_75_62, v_75_64, v_75_65, v_75_68, v_75_71, v_75_74, v_75_75, v_75_78, v_75_79, v_75_81, v_75_84, v_75_87, v_75_88, v_75_90, h_75_90, v_75_92, v_75_93, v_75_96, v_75_98, v_75_101, v_75_103, v_75_104, v_75_107, v_75_108, v_75_111, v_75_113, v_75_114, v_75_116, v_75_119, v_75_120, v_75_121, v_75_123, v_75_126, v_75_129, v_75_130, v_75_133, v_75_134, v_75_136, v_75_138, v_75_140, h_75_140, v_75_142, v_75_144, v_75_147, v_75_149, v_75_152, v_75_153, v_75_154, v_75_156, v_75_157, v_75_159, v_75_162, v_75_163, v_75_164, v_75_166, v_75_168, v_75_169, v_75_172, v_75_174, v_75_175, v_75_178, v_75_181, v_75_184, v_75_185, v_75_186, v_75_188, v_75_190, v_75_191, v_75_194, v_75_195, v_75_196, v_75_198, v_75_199, v_75_202, v_75_204, v_75_205, v_75_207, v_75_210, v_75_213, v_75_216, v_75_217, v_75_220, v_75_221, v_75_223, v_75_226, v_75_229, v_75_232, v_75_235, v_75_237, vgi_0, vgi_s, vga_0, vga_s, vset_0, vset_s, vtk_0, vtk_s, vrc_0, vsw_0, vsw_s, List.all_cons, List.all_nil, zc1_i, zc1_r, Bool.and_true, Bool.and_self, true_and, and_true, List.length_cons, List.length_nil, Nat.zero_le, Nat.reduceLeDiff, Nat.reduceAdd, Nat.reduceLT, Option.toList_some, List.cons_append, List.nil_append]
          rw [if_pos trivial, nI_1]
          rw [hf, hg] at q2
          exact ih (p + 1) 0 (by omega) (by omega) (Or.inr ⟨rfl, fun z => q2 (st.mp z).2.2⟩)
      · simp only [v_75_0, v_75_1, v_75_4, v_75_5, v_75_6, v_75_8, v_75_9, v_75_10, v_75_11, v_75_14, v_75_17, v_75_18, v_75_19, v_75_21, v_75_24, v_75_27, v_75_28, v_75_31, v_75_32, v_75_34, v_75_35, v_75_37, h_75_37, v_75_39, v_75_41, v_75_44, v_75_46, v_75_49, v_75_50, v_75_51, v_75_53, v_75_54, v_75_55, v_75_58, v_75_59, v_75_60, v_75_62, v_75_64, v_75_65, v_75_68, v_75_71, v_75_74, v_75_75, v_75_78, v_75_79, v_75_81, v_75_84, v_75_87, v_75_88, v_75_90, h_75_90, v_75_92, v_75_93, v_75_96, v_75_98, v_75_101, v_75_103, v_75_104, v_75_107, v_75_108, v_75_111, v_75_113, v_75_114, v_75_116, v_75_119, v_75_120, v_75_121, v_75_123, v_75_126, v_75_129, v_75_130, v_75_133, v_75_134, v_75_136, v_75_138, v_75_140, h_75_140, v_75_142, v_75_144, v_75_147, v_75_149, v_75_152, v_75_153, v_75_154, v_75_156, v_75_157, v_75_159, v_75_162, v_75_163, v_75_164, v_75_166, v_75_168, v_75_169, v_75_172, v_75_174, v_75_175, v_75_178, v_75_181, v_75_184, v_75_185, v_75_186, v_75_188, v_75_190, v_75_191, v_75_194, v_75_195, v_75_196, v_75_198, v_75_199, v_75_202, v_75_204, v_75_205, v_75_207, v_75_210, v_75_213, v_75_216, v_75_217, v_75_220, v_75_221, v_75_223, v_75_226, v_75_229, v_75_232, v_75_235, v_75_237, vgi_0, vgi_s, vga_0, vga_s, vset_0, vset_s, vtk_0, vtk_s, vrc_0, vsw_0, vsw_s, List.all_cons, List.all_nil, zc1_i, zc1_r, Bool.and_true, Bool.and_self, true_and, and_true, List.length_cons, List.length_nil, Nat.zero_le, Nat.reduceLeDiff, Nat.reduceAdd, Nat.reduceLT, Option.toList_some, List.cons_append, List.nil_append]
        rw [if_pos trivial, nI_1]
        rw [hf, hg] at q1
        exact ih (p + 1) 0 (by omega) (by omega) (Or.inr ⟨rfl, fun z => q1 (st.mp z).2.1⟩)
    · rw [if_pos rfl, nI_1]
      exact ih (p + 1) 0 (by omega) (by omega) (Or.inr ⟨rfl, fun z => hP (st.mp z).1⟩)
theorem l_75b {u : Nat} {B : Prop} (hd : 3 ≤ d) (hs : s < 184) (hr : r < 184) (hu : u < 6) (hf : mS t s = f) (hg : mS t r = g) (hi : imP t h (u + 1)) (k : ∀ (v : Int32), bo v (B ∧ ∀ w, w ≤ u → eM g h u w ∧ ∀ p, 6 ≤ p → p < 8 → eP f g h u w p) → F (some (.int v)) t) : ∀ (j w : Nat) (v : Int32) (jv : Value), w + j = u + 1 → bo v (B ∧ ∀ w', w' < w → eM g h u w' ∧ ∀ p, 6 ≤ p → p < 8 → eP f g h u w' p) → twp none d 75 90 [.ref 483, .int (nI s), .int (nI r), .int (nI u), .int (nI (h u)), .int v, .int (nI w), jv] [] t F := by
  have iu := hi u (by omega)
  have iu2 := iu.2
  intro j
  induction j with
  | zero =>
    intro w v jv hw hv
    have hw : w = u + 1 := by omega
    subst hw
    refine vc_ok none zH_75 132 false _ 75 90 _ _ _ _ ?_
    simp only [v_75_0, v_75_1, v_75_4, v_75_5, v_75_6, v_75_8, v_75_9, v_75_10, v_75_11, v_75_14, v_75_17, v_75_18, v_75_19, v_75_21, v_75_24, v_75_27, v_75_28, v_75_31, v_75_32, v_75_34, v_75_35, v_75_37, h_75_37, v_75_39, v_75_41, v_75_44, v_75_46, v_75_49, v_75_50, v_75_51, v_75_53, v_75_54, v_75_55, v_75_58, v_75_59, v_75_60, v_75_62, v_75_64, v_75_65, v_75_68, v_75_71, v_75_74, v_75_75, v_75_78, v_75_79, v_75_81, v_75_84, v_75_87, v_75_88, v_75_90, h_75_90, v_75_92, v_75_93, v_75_96, v_75_98, v_75_101, v_75_103, v_75_104, v_75_107, v_75_108, v_75_111, v_75_113, v_75_114, v_75_116, v_75_119, v_75_120, v_75_121, v_75_123, v_75_126, v_75_129, v_75_130, v_75_133, v_75_134, v_75_136, v_75_138, v_75_140, h_75_140, v_75_142, v_75_144, v_75_147, v_75_149, v_75_152, v_75_153, v_75_154, v_75_156, v_75_157, v_75_159, v_75_162, v_75_163, v_75_164, v_75_166, v_75_168, v_75_169, v_75_172, v_75_174, v_75_175, v_75_178, v_75_181, v_75_184, v_75_185, v_75_186, v_75_188, v_75_190, v_75_191, v_75_194, v_75_195, v_75_196, v_75_198, v_75_199, v_75_202, v_75_204, v_75_205, v_75_207, v_75_210, v_75_213, v_75_216, v_75_217, v_75_220, v_75_221, v_75_223, v_75_226, v_75_229, v_75_232, v_75_235, v_75_237, vgi_0, vgi_s, vga_0, vga_s, vset_0, vset_s, vtk_0, vtk_s, vrc_0, vsw_0, vsw_s, List.all_cons, List.all_nil, zc1_i, zc1_r, Bool.and_true, Bool.and_self, true_and, and_true, List.length_cons, List.length_nil, Nat.zero_le, Nat.reduceLeDiff, Nat.reduceAdd, Nat.reduceLT]
    simp (disch := omega) only [nI_ltI]
    rw [if_pos (by omega)]
    refine ⟨hv.b, k v (hv.iff ⟨fun q => ⟨q.1, fun w hw => q.2 w (by omega)⟩, fun q => ⟨q.1, fun w hw => q.2 w (by omega)⟩⟩)⟩
  | succ j ih =>
    intro w v jv hw hv
    have iw := hi w (by omega)
    have iw2 := iw.2
    have go : ∀ v2 : Int32, bo v2 ((B ∧ ∀ w', w' < w → eM g h u w' ∧ ∀ p, 6 ≤ p → p < 8 → eP f g h u w' p) ∧ eM g h u w) → twp none d 75 140 [.ref 483, .int (nI s), .int (nI r), .int (nI u), .int (nI (h u)), .int v2, .int (nI w), .int (nI 6)] [] t F := by
      intro v2 hv2
      refine l_75c (by omega) hs hr hu (by omega) hf hg hi (fun v3 jv3 hv3 => ?_) 2 6 v2 (by omega) (by omega) (hv2.iff ⟨fun q => ⟨q, fun p' h1 h2 => by omega⟩, fun q => q.1⟩)
      refine ih (w + 1) v3 jv3 (by omega) (hv3.iff ⟨?_, ?_⟩)
      · rintro ⟨⟨⟨h1, h2⟩, h3⟩, h4⟩
        refine ⟨h1, fun w' hw' => ?_⟩
        by_cases e : w' = w
        · rw [e]; exact ⟨h3, h4⟩
        · exact h2 w' (by omega)
      · rintro ⟨h1, h2⟩
        exact ⟨⟨⟨h1, fun w' hw' => h2 w' (by omega)⟩, (h2 w (by omega)).1⟩, (h2 w (by omega)).2⟩
    refine vc_ok none zH_75 132 false _ 75 90 _ _ _ _ ?_
    simp only [v_75_0, v_75_1, v_75_4, v_75_5, v_75_6, v_75_8, v_75_9, v_75_10, v_75_11, v_75_14, v_75_17, v_75_18, v_75_19, v_75_21, v_75_24, v_75_27, v_75_28, v_75_31, v_75_32, v_75_34, v_75_35, v_75_37, h_75_37, v_75_39, v_75_41, v_75_44, v_75_46, v_75_49, v_75_50, v_75_51, v_75_53, v_75_54, v_75_55, v_75_58, v_75_59, v_75_60, v_75_62, v_75_64, v_75_65, v_75_68, v_75_71, v_75_74, v_75_75, v_75_78, v_75_79, v_75_81, v_75_84, v_75_87, v_75_88, v_75_90, h_75_90, v_75_92, v_75_93, v_75_96, v_75_98, v_75_101, v_75_103, v_75_104, v_75_107, v_75_108, v_75_111, v_75_113, v_75_114, v_75_116, v_75_119, v_75_120, v_75_121, v_75_123, v_75_126, v_75_129, v_75_130, v_75_133, v_75_134, v_75_136, v_75_138, v_75_140, h_75_140, v_75_142, v_75_144, v_75_147, v_75_149, v_75_152, v_75_153, v_75_154, v_75_156, v_75_157, v_75_159, v_75_162, v_75_163, v_75_164, v_75_166, v_75_168, v_75_169, v_75_172, v_75_174, v_75_175, v_75_178, v_75_181, v_75_184, v_75_185, v_75_186, v_75_188, v_75_190, v_75_191, v_75_194, v_75_195, v_75_196, v_75_198, v_75_199, v_75_202, v_75_204, v_75_205, v_75_207, v_75_210, v_75_213, v_75_216, v_75_217, v_75_220, v_75_221, v_75_223, v_75_226, v_75_229, v_75_232, v_75_235, v_75_237, vgi_0, vgi_s, vga_0, vga_s, vset_0, vset_s, vtk_0, vtk_s, vrc_0, vsw_0, vsw_s, List.all_cons, List.all_nil, zc1_i, zc1_r, Bool.and_true, Bool.and_self, true_and, and_true, List.length_cons, List.length_nil, Nat.zero_le, Nat.reduceLeDiff, Nat.reduceAdd, Nat.reduceLT, tg_483, tf_483_37, tg_516, ln_516]
    simp (disch := omega) only [nI_ltI, nI_clamp, vinb_n, iw.1]
    rw [if_neg (by omega)]
    simp (disch := omega) only [nI_eq]
    rcases hv with ⟨rfl, hP⟩ | ⟨rfl, hP⟩
    · rw [if_neg (by decide)]
      by_cases z1 : w = u
      · rw [if_pos z1]
        exact go 1 (Or.inl ⟨rfl, hP, Or.inl z1⟩)
      · rw [if_neg z1]
        refine ⟨by omega, ?_⟩
        by_cases z2 : h w = h u
        · rw [if_pos z2]
          refine c_42 (by omega) hr (by omega) (fun q => ?_) (fun q => ?_)
          · simp only [v_75_0, v_75_1, v_75_4, v_75_5, v_75_6, v_75_8, v_75_9, v_75_10, v_75_11, v_75_14, v_75_17, v_75_18, v_75_19, v_75_21, v_75_24, v_75_27, v_75_28, v_75_31, v_75_32, v_75_34, v_75_35, v_75_37, h_75_37, v_75_39, v_75_41, v_75_44, v_75_46, v_75_49, v_75_50, v_75_51, v_75_53, v_75_54, v_75_55, v_75_58, v_75_59, v_75_60, v_75_62, v_75_64, v_75_65, v_75_68, v_75_71, v_75_74, v_75_75, v_75_78, v_75_79, v_75_81, v_75_84, v_75_87, v_75_88, v_75_90, h_75_90, v_75_92, v_75_93, v_75_96, v_75_98, v_75_101, v_75_103, v_75_104, v_75_107, v_75_108, v_75_111, v_75_113, v_75_114, v_75_116, v_75_119, v_75_120, v_75_121, v_75_123, v_75_126, v_75_129, v_75_130, v_75_133, v_75_134, v_75_136, v_75_138, v_75_140, h_75_140, v_75_142, v_75_144, v_75_147, v_75_149, v_75_152, v_75_153, v_75_154, v_75_156, v_75_157, v_75_159, v_75_162, v_75_163, v_75_164, v_75_166, v_75_168, v_75_169, v_75_172, v_75_174, v_75_175, v_75_178, v_75_181, v_75_184, v_75_185, v_75_186, v_75_188, v_75_190, v_75_191, v_75_194, v_75_195, v_75_196, v_75_198, v_75_199, v_75_202, v_75_204, v_75_205, v_75_207, v_75_210, v_75_213, v_75_216, v_75_217, v_75_220, v_75_221, v_75_223, v_75_226, v_75_229, v_75_232, v_75_235, v_75_237, vgi_0, vgi_s, vga_0, vga_s, vset_0, vset_s, vtk_0, vtk_s, vrc_0, vsw_0, vsw_s, List.all_cons, List.all_nil, zc1_i, zc1_r, Bool.and_true, Bool.and_self, true_and, and_true, List.length_cons, List.length_nil, Nat.zero_le, Nat.reduceLeDiff, Nat.reduceAdd, Nat.reduceLT, Option.toList_some, List.cons_append, List.nil_append]
            rw [if_neg (by decide)]
            rw [hg] at q
            exact go 1 (Or.inl ⟨rfl, hP, Or.inr (Or.inr q)⟩)
          · simp only [v_75_0, v_75_1, v_75_4, v_75_5, v_75_6, v_75_8, v_75_9, v_75_10, v_75_11, v_75_14, v_75_17, v_75_18, v_75_19, v_75_21, v_75_24, v_75_27, v_75_28, v_75_31, v_75_32, v_75_34, v_75_35, v_75_37, h_75_37, v_75_39, v_75_41, v_75_44, v_75_46, v_75_49, v_75_50, v_75_51, v_75_53, v_75_54, v_75_55, v_75_58, v_75_59, v_75_60, v_75_62, v_75_64, v_75_65, v_75_68, v_75_71, v_75_74, v_75_75, v_75_78, v_75_79, v_75_81, v_75_84, v_75_87, v_75_88, v_75_90, h_75_90, v_75_92, v_75_93, v_75_96, v_75_98, v_75_101, v_75_103, v_75_104, v_75_107, v_75_108, v_75_111, v_75_113, v_75_114, v_75_116, v_75_119, v_75_120, v_75_121, v_75_123, v_75_126, v_75_129, v_75_130, v_75_133, v_75_134, v_75_136, v_75_138, v_75_140, h_75_140, v_75_142, v_75_144, v_75_147, v_75_149, v_75_152, v_75_153, v_75_154, v_75_156, v_75_157, v_75_159, v_75_162, v_75_163, v_75_164, v_75_166, v_75_168, v_75_169, v_75_172, v_75_174, v_75_175, v_75_178, v_75_181, v_75_184, v_75_185, v_75_186, v_75_188, v_75_190, v_75_191, v_75_194, v_75_195, v_75_196, v_75_198, v_75_199, v_75_202, v_75_204, v_75_205, v_75_207, v_75_210, v_75_213, v_75_216, v_75_217, v_75_220, v_75_221, v_75_223, v_75_226, v_75_229, v_75_232, v_75_235, v_75_237, vgi_0, vgi_s, vga_0, vga_s, vset_0, vset_s, vtk_0, vtk_s, vrc_0, vsw_0, vsw_s, List.all_cons, List.all_nil, zc1_i, zc1_r, Bool.and_true, Bool.and_self, true_and, and_true, List.length_cons, List.length_nil, Nat.zero_le, Nat.reduceLeDiff, Nat.reduceAdd, Nat.reduceLT, Option.toList_some, List.cons_append, List.nil_append]
            rw [if_pos trivial]
            rw [hg] at q
            refine go 0 (Or.inr ⟨rfl, fun y => ?_⟩)
            rcases y.2 with y | y | y
            · exact z1 y
            · exact y z2
            · exact q y
        · rw [if_neg z2]
          exact go 1 (Or.inl ⟨rfl, hP, Or.inr (Or.inl z2)⟩)
    · rw [if_pos rfl]
      exact go 0 (Or.inr ⟨rfl, fun y => hP y.1⟩)
theorem l_75a {u : Nat} {A : Prop} (hd : 3 ≤ d) (hs : s < 184) (hr : r < 184) (hu : u < 6) (hf : mS t s = f) (hg : mS t r = g) (hi : imP t h (u + 1)) (k : ∀ (v : Int32), bo v ((A ∧ ∀ p, 2 ≤ p → p < 6 → cvd (sg f p u 0) (sg g p (h u) 0)) ∧ ∀ w, w ≤ u → eM g h u w ∧ ∀ p, 6 ≤ p → p < 8 → eP f g h u w p) → F (some (.int v)) t) {j7 : Value} : ∀ (j p : Nat) (v : Int32), p + j = 6 → 2 ≤ p → bo v (A ∧ ∀ p', 2 ≤ p' → p' < p → cvd (sg f p' u 0) (sg g p' (h u) 0)) → twp none d 75 37 [.ref 483, .int (nI s), .int (nI r), .int (nI u), .int (nI (h u)), .int v, .int (nI p), j7] [] t F := by
  have iu := hi u (by omega)
  have iu2 := iu.2
  intro j
  induction j with
  | zero =>
    intro p v hp hp2 hv
    have hp : p = 6 := by omega
    subst hp
    refine vc_ok none zH_75 132 false _ 75 37 _ _ _ _ ?_
    simp only [v_75_0, v_75_1, v_75_4, v_75_5, v_75_6, v_75_8, v_75_9, v_75_10, v_75_11, v_75_14, v_75_17, v_75_18, v_75_19, v_75_21, v_75_24, v_75_27, v_75_28, v_75_31, v_75_32, v_75_34, v_75_35, v_75_37, h_75_37, v_75_39, v_75_41, v_75_44, v_75_46, v_75_49, v_75_50, v_75_51, v_75_53, v_75_54, v_75_55, v_75_58, v_75_59, v_75_60, v_75_62, v_75_64, v_75_65, v_75_68, v_75_71, v_75_74, v_75_75, v_75_78, v_75_79, v_75_81, v_75_84, v_75_87, v_75_88, v_75_90, h_75_90, v_75_92, v_75_93, v_75_96, v_75_98, v_75_101, v_75_103, v_75_104, v_75_107, v_75_108, v_75_111, v_75_113, v_75_114, v_75_116, v_75_119, v_75_120, v_75_121, v_75_123, v_75_126, v_75_129, v_75_130, v_75_133, v_75_134, v_75_136, v_75_138, v_75_140, h_75_140, v_75_142, v_75_144, v_75_147, v_75_149, v_75_152, v_75_153, v_75_154, v_75_156, v_75_157, v_75_159, v_75_162, v_75_163, v_75_164, v_75_166, v_75_168, v_75_169, v_75_172, v_75_174, v_75_175, v_75_178, v_75_181, v_75_184, v_75_185, v_75_186, v_75_188, v_75_190, v_75_191, v_75_194, v_75_195, v_75_196, v_75_198, v_75_199, v_75_202, v_75_204, v_75_205, v_75_207, v_75_210, v_75_213, v_75_216, v_75_217, v_75_220, v_75_221, v_75_223, v_75_226, v_75_229, v_75_232, v_75_235, v_75_237, vgi_0, vgi_s, vga_0, vga_s, vset_0, vset_s, vtk_0, vtk_s, vrc_0, vsw_0, vsw_s, List.all_cons, List.all_nil, zc1_i, zc1_r, Bool.and_true, Bool.and_self, true_and, and_true, List.length_cons, List.length_nil, Nat.zero_le, Nat.reduceLeDiff, Nat.reduceAdd, Nat.reduceLT]
    rw [if_neg (by decide)]
    exact l_75b hd hs hr hu hf hg hi k (u + 1) 0 v _ (by omega) (hv.iff ⟨fun q => ⟨q, fun w hw => by omega⟩, fun q => q.1⟩)
  | succ j ih =>
    intro p v hp hp2 hv
    have st : (A ∧ ∀ p', 2 ≤ p' → p' < p + 1 → cvd (sg f p' u 0) (sg g p' (h u) 0)) ↔ (A ∧ ∀ p', 2 ≤ p' → p' < p → cvd (sg f p' u 0) (sg g p' (h u) 0)) ∧ cvd (sg f p u 0) (sg g p (h u) 0) := by
      constructor
      · rintro ⟨h1, h2⟩
        exact ⟨⟨h1, fun p' h3 h4 => h2 p' h3 (by omega)⟩, h2 p (by omega) (by omega)⟩
      · rintro ⟨⟨h1, h2⟩, h3⟩
        refine ⟨h1, fun p' h4 h5 => ?_⟩
        by_cases e : p' = p
        · rw [e]; exact h3
        · exact h2 p' h4 (by omega)
    refine vc_ok none zH_75 132 false _ 75 37 _ _ _ _ ?_
    simp only [v_75_0, v_75_1, v_75_4, v_75_5, v_75_6, v_75_8, v_75_9, v_75_10, v_75_11, v_75_14, v_75_17, v_75_18, v_75_19, v_75_21, v_75_24, v_75_27, v_75_28, v_75_31, v_75_32, v_75_34, v_75_35, v_75_37, h_75_37, v_75_39, v_75_41, v_75_44, v_75_46, v_75_49, v_75_50, v_75_51, v_75_53, v_75_54, v_75_55, v_75_58, v_75_59, v_75_60, v_75_62, v_75_64, v_75_65, v_75_68, v_75_71, v_75_74, v_75_75, v_75_78, v_75_79, v_75_81, v_75_84, v_75_87, v_75_88, v_75_90, h_75_90, v_75_92, v_75_93, v_75_96, v_75_98, v_75_101, v_75_103, v_75_104, v_75_107, v_75_108, v_75_111, v_75_113, v_75_114, v_75_116, v_75_119, v_75_120, v_75_121, v_75_123, v_75_126, v_75_129, v_75_130, v_75_133, v_75_134, v_75_136, v_75_138, v_75_140, h_75_140, v_75_142, v_75_144, v_75_147, v_75_149, v_75_152, v_75_153, v_75_154, v_75_156, v_75_157, v_75_159, v_75_162, v_75_163, v_75_164, v_75_166, v_75_168, v_75_169, v_75_172, v_75_174, v_75_175, v_75_178, v_75_181, v_75_184, v_75_185, v_75_186, v_75_188, v_75_190, v_75_191, v_75_194, v_75_195, v_75_196, v_75_198, v_75_199, v_75_202, v_75_204, v_75_205, v_75_207, v_75_210, v_75_213, v_75_216, v_75_217, v_75_220, v_75_221, v_75_223, v_75_226, v_75_229, v_75_232, v_75_235, v_75_237, vgi_0, vgi_s, vga_0, vga_s, vset_0, vset_s, vtk_0, vtk_s, vrc_0, vsw_0, vsw_s, List.all_cons, List.all_nil, zc1_i, zc1_r, Bool.and_true, Bool.and_self, true_and, and_true, List.length_cons, List.length_nil, Nat.zero_le, Nat.reduceLeDiff, Nat.reduceAdd, Nat.reduceLT, tg_483]
    rw [li6, if_pos (nI_lt (by omega) (by omega))]
    rcases hv with ⟨rfl, hP⟩ | ⟨rfl, hP⟩
    · rw [if_neg (by decide)]
      refine c_43 (w := 0) (by omega) hs (by omega) (by omega) (by omega) ?_
      simp only [v_75_0, v_75_1, v_75_4, v_75_5, v_75_6, v_75_8, v_75_9, v_75_10, v_75_11, v_75_14, v_75_17, v_75_18, v_75_19, v_75_21, v_75_24, v_75_27, v_75_28, v_75_31, v_75_32, v_75_34, v_75_35, v_75_37, h_75_37, v_75_39, v_75_41, v_75_44, v_75_46, v_75_49, v_75_50, v_75_51, v_75_53, v_75_54, v_75_55, v_75_58, v_75_59, v_75_60, v_75_62, v_75_64, v_75_65, v_75_68, v_75_71, v_75_74, v_75_75, v_75_78, v_75_79, v_75_81, v_75_84, v_75_87, v_75_88, v_75_90, h_75_90, v_75_92, v_75_93, v_75_96, v_75_98, v_75_101, v_75_103, v_75_104, v_75_107, v_75_108, v_75_111, v_75_113, v_75_114, v_75_116, v_75_119, v_75_120, v_75_121, v_75_123, v_75_126, v_75_129, v_75_130, v_75_133, v_75_134, v_75_136, v_75_138, v_75_140, h_75_140, v_75_142, v_75_144, v_75_147, v_75_149, v_75_152, v_75_153, v_75_154, v_75_156, v_75_157, v_75_159, v_75_162, v_75_163, v_75_164, v_75_166, v_75_168, v_75_169, v_75_172, v_75_174, v_75_175, v_75_178, v_75_181, v_75_184, v_75_185, v_75_186, v_75_188, v_75_190, v_75_191, v_75_194, v_75_195, v_75_196, v_75_198, v_75_199, v_75_202, v_75_204, v_75_205, v_75_207, v_75_210, v_75_213, v_75_216, v_75_217, v_75_220, v_75_221, v_75_223, v_75_226, v_75_229, v_75_232, v_75_235, v_75_237, vgi_0, vgi_s, vga_0, vga_s, vset_0, vset_s, vtk_0, vtk_s, vrc_0, vsw_0, vsw_s, List.all_cons, List.all_nil, zc1_i, zc1_r, Bool.and_true, Bool.and_self, true_and, and_true, List.length_cons, List.length_nil, Nat.zero_le, Nat.reduceLeDiff, Nat.reduceAdd, Nat.reduceLT, Option.toList_some, List.cons_append, List.nil_append, tg_483]
      refine c_43 (w := 0) (by omega) hr (by omega) (by omega) (by omega) ?_
      simp only [v_75_0, v_75_1, v_75_4, v_75_5, v_75_6, v_75_8, v_75_9, v_75_10, v_75_11, v_75_14, v_75_17, v_75_18, v_75_19, v_75_21, v_75_24, v_75_27, v_75_28, v_75_31, v_75_32, v_75_34, v_75_35, v_75_37, h_75_37, v_75_39, v_75_41, v_75_44, v_75_46, v_75_49, v_75_50, v_75_51, v_75_53, v_75_54, v_75_55, v_75_58, v_75_59, v_75_60, v_75_62, v_75_64, v_75_65, v_75_68, v_75_71, v_75_74, v_75_75, v_75_78, v_75_79, v_75_81, v_75_84, v_75_87, v_75_88, v_75_90, h_75_90, v_75_92, v_75_93, v_75_96, v_75_98, v_75_101, v_75_103, v_75_104, v_75_107, v_75_108, v_75_111, v_75_113, v_75_114, v_75_116, v_75_119, v_75_120, v_75_121, v_75_123, v_75_126, v_75_129, v_75_130, v_75_133, v_75_134, v_75_136, v_75_138, v_75_140, h_75_140, v_75_142, v_75_144, v_75_147, v_75_149, v_75_152, v_75_153, v_75_154, v_75_156, v_75_157, v_75_159, v_75_162, v_75_163, v_75_164, v_75_166, v_75_168, v_75_169, v_75_172, v_75_174, v_75_175, v_75_178, v_75_181, v_75_184, v_75_185, v_75_186, v_75_188, v_75_190, v_75_191, v_75_194, v_75_195, v_75_196, v_75_198, v_75_199, v_75_202, v_75_204, v_75_205, v_75_207, v_75_210, v_75_213, v_75_216, v_75_217, v_75_220, v_75_221, v_75_223, v_75_226, v_75_229, v_75_232, v_75_235, v_75_237, vgi_0, vgi_s, vga_0, vga_s, vset_0, vset_s, vtk_0, vtk_s, vrc_0, vsw_0, vsw_s, List.all_cons, List.all_nil, zc1_i, zc1_r, Bool.and_true, Bool.and_self, true_and, and_true, List.length_cons, List.length_nil, Nat.zero_le, Nat.reduceLeDiff, Nat.reduceAdd, Nat.reduceLT, Option.toList_some, List.cons_append, List.nil_append, tg_483]
      refine c_74 (by omega) (fun q1 => ?_) (fun q1 => ?_)
      · simp only [v_75_0, v_75_1, v_75_4, v_75_5, v_75_6, v_75_8, v_75_9, v_75_10, v_75_11, v_75_14, v_75_17, v_75_18, v_75_19, v_75_21, v_75_24, v_75_27, v_75_28, v_75_31, v_75_32, v_75_34, v_75_35, v_75_37, h_75_37, v_75_39, v_75_41, v_75_44, v_75_46, v_75_49, v_75_50, v_75_51, v_75_53, v_75_54, v_75_55, v_75_58, v_75_59, v_75_60, v_75_62, v_75_64, v_75_65, v_75_68, v_75_71, v_75_74, v_75_75, v_75_78, v_75_79, v_75_81, v_75_84, v_75_87, v_75_88, v_75_90, h_75_90, v_75_92, v_75_93, v_75_96, v_75_98, v_75_101, v_75_103, v_75_104, v_75_107, v_75_108, v_75_111, v_75_113, v_75_114, v_75_116, v_75_119, v_75_120, v_75_121, v_75_123, v_75_126, v_75_129, v_75_130, v_75_133, v_75_134, v_75_136, v_75_138, v_75_140, h_75_140, v_75_142, v_75_144, v_75_147, v_75_149, v_75_152, v_75_153, v_75_154, v_75_156, v_75_157, v_75_159, v_75_162, v_75_163, v_75_164, v_75_166, v_75_168, v_75_169, v_75_172, v_75_174, v_75_175, v_75_178, v_75_181, v_75_184, v_75_185, v_75_186, v_75_188, v_75_190, v_75_191, v_75_194, v_75_195, v_75_196, v_75_198, v_75_199, v_75_202, v_75_204, v_75_205, v_75_207, v_75_210, v_75_213, v_75_216, v_75_217, v_75_220, v_75_221, v_75_223, v_75_226, v_75_229, v_75_232, v_75_235, v_75_237, vgi_0, vgi_s, vga_0, vga_s, vset_0, vset_s, vtk_0, vtk_s, vrc_0, vsw_0, vsw_s, List.all_cons, List.all_nil, zc1_i, zc1_r, Bool.and_true, Bool.and_self, true_and, and_true, List.length_cons, List.length_nil, Nat.zero_le, Nat.reduceLeDiff, Nat.reduceAdd, Nat.reduceLT, Option.toList_some, List.cons_append, List.nil_append]
        rw [if_neg (by decide), nI_1]
        rw [hf, hg] at q1
        exact ih (p + 1) 1 (by omega) (by omega) (Or.inl ⟨rfl, st.mpr ⟨hP, q1⟩⟩)
      · simp only [v_75_0, v_75_1, v_75_4, v_75_5, v_75_6, v_75_8, v_75_9, v_75_10, v_75_11, v_75_14, v_75_17, v_75_18, v_75_19, v_75_21, v_75_24, v_75_27, v_75_28, v_75_31, v_75_32, v_75_34, v_75_35, v_75_37, h_75_37, v_75_39, v_75_41, v_75_44, v_75_46, v_75_49, v_75_50, v_75_51, v_75_53, v_75_54, v_75_55, v_75_58, v_75_59, v_75_60, v_75_62, v_75_64, v_75_65, v_75_68, v_75_71, v_75_74, v_75_75, v_75_78, v_75_79, v_75_81, v_75_84, v_75_87, v_75_88, v_75_90, h_75_90, v_75_92, v_75_93, v_75_96, v_75_98, v_75_101, v_75_103, v_75_104, v_75_107, v_75_108, v_75_111, v_75_113, v_75_114, v_75_116, v_75_119, v_75_120, v_75_121, v_75_123, v_75_126, v_75_129, v_75_130, v_75_133, v_75_134, v_75_136, v_75_138, v_75_140, h_75_140, v_75_142, v_75_144, v_75_147, v_75_149, v_75_152, v_75_153, v_75_154, v_75_156, v_75_157, v_75_159, v_75_162, v_75_163, v_75_164, v_75_166, v_75_168, v_75_169, v_75_172, v_75_174, v_75_175, v_75_178, v_75_181, v_75_184, v_75_185, v_75_186, v_75_188, v_75_190, v_75_191, v_75_194, v_75_195, v_75_196, v_75_198, v_75_199, v_75_202, v_75_204, v_75_205, v_75_207, v_75_210, v_75_213, v_75_216, v_75_217, v_75_220, v_75_221, v_75_223, v_75_226, v_75_229, v_75_232, v_75_235, v_75_237, vgi_0, vgi_s, vga_0, vga_s, vset_0, vset_s, vtk_0, vtk_s, vrc_0, vsw_0, vsw_s, List.all_cons, List.all_nil, zc1_i, zc1_r, Bool.and_true, Bool.and_self, true_and, and_true, List.length_cons, List.length_nil, Nat.zero_le, Nat.reduceLeDiff, Nat.reduceAdd, Nat.reduceLT, Option.toList_some, List.cons_append, List.nil_append]
        rw [if_pos trivial, nI_1]
        rw [hf, hg] at q1
        exact ih (p + 1) 0 (by omega) (by omega) (Or.inr ⟨rfl, fun z => q1 (st.mp z).2⟩)
    · rw [if_pos rfl, nI_1]
      exact ih (p + 1) 0 (by omega) (by omega) (Or.inr ⟨rfl, fun z => hP (st.mp z).1⟩)
theorem c_75 {u : Nat} (hd : 4 ≤ d) (hs : s < 184) (hr : r < 184) (hu : u < 6) (hf : mS t s = f) (hg : mS t r = g) (hi : imP t h (u + 1)) (k1 : okE f g h u → F (some (.int 1)) t) (k0 : ¬ okE f g h u → F (some (.int 0)) t) : twc d 75 [.ref 483, .int (nI s), .int (nI r), .int (nI u)] t F := by
  have iu := hi u (by omega)
  have iu2 := iu.2
  have go : ∀ (v : Int32) (j7 : Value), bo v (f (3 + 5 * u) = 1 → g (3 + 5 * h u) = 1) → twp none (d - 1) 75 37 [.ref 483, .int (nI s), .int (nI r), .int (nI u), .int (nI (h u)), .int v, .int (nI 2), j7] [] t F := by
    intro v j7 hv
    refine l_75a (by omega) hs hr hu hf hg hi (fun v2 hv2 => ?_) 4 2 v (by omega) (by omega) (hv.iff ⟨fun q => ⟨q, fun p' h1 h2 => by omega⟩, fun q => q.1⟩)
    have hv3 : bo v2 (okE f g h u) := hv2.iff ⟨fun q => ⟨q.1.1, q.1.2, q.2⟩, fun q => ⟨⟨q.1, q.2.1⟩, q.2.2⟩⟩
    rcases hv3 with ⟨rfl, q⟩ | ⟨rfl, q⟩
    · exact k1 q
    · exact k0 q
  refine ⟨by omega, ?_⟩
  rw [ze_75]
  refine vc_ok none zH_75 132 false _ 75 0 _ _ _ _ ?_
  simp only [v_75_0, v_75_1, v_75_4, v_75_5, v_75_6, v_75_8, v_75_9, v_75_10, v_75_11, v_75_14, v_75_17, v_75_18, v_75_19, v_75_21, v_75_24, v_75_27, v_75_28, v_75_31, v_75_32, v_75_34, v_75_35, v_75_37, h_75_37, v_75_39, v_75_41, v_75_44, v_75_46, v_75_49, v_75_50, v_75_51, v_75_53, v_75_54, v_75_55, v_75_58, v_75_59, v_75_60, v_75_62, v_75_64, v_75_65, v_75_68, v_75_71, v_75_74, v_75_75, v_75_78, v_75_79, v_75_81, v_75_84, v_75_87, v_75_88, v_75_90, h_75_90, v_75_92, v_75_93, v_75_96, v_75_98, v_75_101, v_75_103, v_75_104, v_75_107, v_75_108, v_75_111, v_75_113, v_75_114, v_75_116, v_75_119, v_75_120, v_75_121, v_75_123, v_75_126, v_75_129, v_75_130, v_75_133, v_75_134, v_75_136, v_75_138, v_75_140, h_75_140, v_75_142, v_75_144, v_75_147, v_75_149, v_75_152, v_75_153, v_75_154, v_75_156, v_75_157, v_75_159, v_75_162, v_75_163, v_75_164, v_75_166, v_75_168, v_75_169, v_75_172, v_75_174, v_75_175, v_75_178, v_75_181, v_75_184, v_75_185, v_75_186, v_75_188, v_75_190, v_75_191, v_75_194, v_75_195, v_75_196, v_75_198, v_75_199, v_75_202, v_75_204, v_75_205, v_75_207, v_75_210, v_75_213, v_75_216, v_75_217, v_75_220, v_75_221, v_75_223, v_75_226, v_75_229, v_75_232, v_75_235, v_75_237, vgi_0, vgi_s, vga_0, vga_s, vset_0, vset_s, vtk_0, vtk_s, vrc_0, vsw_0, vsw_s, List.all_cons, List.all_nil, zc1_i, zc1_r, Bool.and_true, Bool.and_self, true_and, and_true, List.length_cons, List.length_nil, Nat.zero_le, Nat.reduceLeDiff, Nat.reduceAdd, Nat.reduceLT, tg_483, tf_483_37, tg_516, ln_516]
  simp (disch := omega) only [nI_clamp, vinb_n, iu.1]
  refine ⟨by omega, ?_⟩
  refine c_42 (by omega) hs (by omega) (fun q => ?_) (fun q => ?_)
  · simp only [v_75_0, v_75_1, v_75_4, v_75_5, v_75_6, v_75_8, v_75_9, v_75_10, v_75_11, v_75_14, v_75_17, v_75_18, v_75_19, v_75_21, v_75_24, v_75_27, v_75_28, v_75_31, v_75_32, v_75_34, v_75_35, v_75_37, h_75_37, v_75_39, v_75_41, v_75_44, v_75_46, v_75_49, v_75_50, v_75_51, v_75_53, v_75_54, v_75_55, v_75_58, v_75_59, v_75_60, v_75_62, v_75_64, v_75_65, v_75_68, v_75_71, v_75_74, v_75_75, v_75_78, v_75_79, v_75_81, v_75_84, v_75_87, v_75_88, v_75_90, h_75_90, v_75_92, v_75_93, v_75_96, v_75_98, v_75_101, v_75_103, v_75_104, v_75_107, v_75_108, v_75_111, v_75_113, v_75_114, v_75_116, v_75_119, v_75_120, v_75_121, v_75_123, v_75_126, v_75_129, v_75_130, v_75_133, v_75_134, v_75_136, v_75_138, v_75_140, h_75_140, v_75_142, v_75_144, v_75_147, v_75_149, v_75_152, v_75_153, v_75_154, v_75_156, v_75_157, v_75_159, v_75_162, v_75_163, v_75_164, v_75_166, v_75_168, v_75_169, v_75_172, v_75_174, v_75_175, v_75_178, v_75_181, v_75_184, v_75_185, v_75_186, v_75_188, v_75_190, v_75_191, v_75_194, v_75_195, v_75_196, v_75_198, v_75_199, v_75_202, v_75_204, v_75_205, v_75_207, v_75_210, v_75_213, v_75_216, v_75_217, v_75_220, v_75_221, v_75_223, v_75_226, v_75_229, v_75_232, v_75_235, v_75_237, vgi_0, vgi_s, vga_0, vga_s, vset_0, vset_s, vtk_0, vtk_s, vrc_0, vsw_0, vsw_s, List.all_cons, List.all_nil, zc1_i, zc1_r, Bool.and_true, Bool.and_self, true_and, and_true, List.length_cons, List.length_nil, Nat.zero_le, Nat.reduceLeDiff, Nat.reduceAdd, Nat.reduceLT, Option.toList_some, List.cons_append, List.nil_append, tg_483]
    rw [if_neg (by decide)]
    rw [hf] at q
    refine c_42 (by omega) hr (by omega) (fun q2 => ?_) (fun q2 => ?_)
    · simp only [v_75_0, v_75_1, v_75_4, v_75_5, v_75_6, v_75_8, v_75_9, v_75_10, v_75_11, v_75_14, v_75_17, v_75_18, v_75_19, v_75_21, v_75_24, v_75_27, v_75_28, v_75_31, v_75_32, v_75_34, v_75_35, v_75_37, h_75_37, v_75_39, v_75_41, v_75_44, v_75_46, v_75_49, v_75_50, v_75_51, v_75_53, v_75_54, v_75_55, v_75_58, v_75_59, v_75_60, v_75_62, v_75_64, v_75_65, v_75_68, v_75_71, v_75_74, v_75_75, v_75_78, v_75_79, v_75_81, v_75_84, v_75_87, v_75_88, v_75_90, h_75_90, v_75_92, v_75_93, v_75_96, v_75_98, v_75_101, v_75_103, v_75_104, v_75_107, v_75_108, v_75_111, v_75_113, v_75_114, v_75_116, v_75_119, v_75_120, v_75_121, v_75_123, v_75_126, v_75_129, v_75_130, v_75_133, v_75_134, v_75_136, v_75_138, v_75_140, h_75_140, v_75_142, v_75_144, v_75_147, v_75_149, v_75_152, v_75_153, v_75_154, v_75_156, v_75_157, v_75_159, v_75_162, v_75_163, v_75_164, v_75_166, v_75_168, v_75_169, v_75_172, v_75_174, v_75_175, v_75_178, v_75_181, v_75_184, v_75_185, v_75_186, v_75_188, v_75_190, v_75_191, v_75_194, v_75_195, v_75_196, v_75_198, v_75_199, v_75_202, v_75_204, v_75_205, v_75_207, v_75_210, v_75_213, v_75_216, v_75_217, v_75_220, v_75_221, v_75_223, v_75_226, v_75_229, v_75_232, v_75_235, v_75_237, vgi_0, vgi_s, vga_0, vga_s, vset_0, vset_s, vtk_0, vtk_s, vrc_0, vsw_0, vsw_s, List.all_cons, List.all_nil, zc1_i, zc1_r, Bool.and_true, Bool.and_self, true_and, and_true, List.length_cons, List.length_nil, Nat.zero_le, Nat.reduceLeDiff, Nat.reduceAdd, Nat.reduceLT, Option.toList_some, List.cons_append, List.nil_append]
      rw [if_neg (by decide)]
      rw [hg] at q2
      exact go 1 _ (Or.inl ⟨rfl, fun _ => q2⟩)
    · simp only [v_75_0, v_75_1, v_75_4, v_75_5, v_75_6, v_75_8, v_75_9, v_75_10, v_75_11, v_75_14, v_75_17, v_75_18, v_75_19, v_75_21, v_75_24, v_75_27, v_75_28, v_75_31, v_75_32, v_75_34, v_75_35, v_75_37, h_75_37, v_75_39, v_75_41, v_75_44, v_75_46, v_75_49, v_75_50, v_75_51, v_75_53, v_75_54, v_75_55, v_75_58, v_75_59, v_75_60, v_75_62, v_75_64, v_75_65, v_75_68, v_75_71, v_75_74, v_75_75, v_75_78, v_75_79, v_75_81, v_75_84, v_75_87, v_75_88, v_75_90, h_75_90, v_75_92, v_75_93, v_75_96, v_75_98, v_75_101, v_75_103, v_75_104, v_75_107, v_75_108, v_75_111, v_75_113, v_75_114, v_75_116, v_75_119, v_75_120, v_75_121, v_75_123, v_75_126, v_75_129, v_75_130, v_75_133, v_75_134, v_75_136, v_75_138, v_75_140, h_75_140, v_75_142, v_75_144, v_75_147, v_75_149, v_75_152, v_75_153, v_75_154, v_75_156, v_75_157, v_75_159, v_75_162, v_75_163, v_75_164, v_75_166, v_75_168, v_75_169, v_75_172, v_75_174, v_75_175, v_75_178, v_75_181, v_75_184, v_75_185, v_75_186, v_75_188, v_75_190, v_75_191, v_75_194, v_75_195, v_75_196, v_75_198, v_75_199, v_75_202, v_75_204, v_75_205, v_75_207, v_75_210, v_75_213, v_75_216, v_75_217, v_75_220, v_75_221, v_75_223, v_75_226, v_75_229, v_75_232, v_75_235, v_75_237, vgi_0, vgi_s, vga_0, vga_s, vset_0, vset_s, vtk_0, vtk_s, vrc_0, vsw_0, vsw_s, List.all_cons, List.all_nil, zc1_i, zc1_r, Bool.and_true, Bool.and_self, true_and, and_true, List.length_cons, List.length_nil, Nat.zero_le, Nat.reduceLeDiff, Nat.reduceAdd, Nat.reduceLT, Option.toList_some, List.cons_append, List.nil_append]
      rw [if_pos trivial]
      rw [hg] at q2
      exact go 0 _ (Or.inr ⟨rfl, fun z => q2 (z q)⟩)
  · simp only [v_75_0, v_75_1, v_75_4, v_75_5, v_75_6, v_75_8, v_75_9, v_75_10, v_75_11, v_75_14, v_75_17, v_75_18, v_75_19, v_75_21, v_75_24, v_75_27, v_75_28, v_75_31, v_75_32, v_75_34, v_75_35, v_75_37, h_75_37, v_75_39, v_75_41, v_75_44, v_75_46, v_75_49, v_75_50, v_75_51, v_75_53, v_75_54, v_75_55, v_75_58, v_75_59, v_75_60, v_75_62, v_75_64, v_75_65, v_75_68, v_75_71, v_75_74, v_75_75, v_75_78, v_75_79, v_75_81, v_75_84, v_75_87, v_75_88, v_75_90, h_75_90, v_75_92, v_75_93, v_75_96, v_75_98, v_75_101, v_75_103, v_75_104, v_75_107, v_75_108, v_75_111, v_75_113, v_75_114, v_75_116, v_75_119, v_75_120, v_75_121, v_75_123, v_75_126, v_75_129, v_75_130, v_75_133, v_75_134, v_75_136, v_75_138, v_75_140, h_75_140, v_75_142, v_75_144, v_75_147, v_75_149, v_75_152, v_75_153, v_75_154, v_75_156, v_75_157, v_75_159, v_75_162, v_75_163, v_75_164, v_75_166, v_75_168, v_75_169, v_75_172, v_75_174, v_75_175, v_75_178, v_75_181, v_75_184, v_75_185, v_75_186, v_75_188, v_75_190, v_75_191, v_75_194, v_75_195, v_75_196, v_75_198, v_75_199, v_75_202, v_75_204, v_75_205, v_75_207, v_75_210, v_75_213, v_75_216, v_75_217, v_75_220, v_75_221, v_75_223, v_75_226, v_75_229, v_75_232, v_75_235, v_75_237, vgi_0, vgi_s, vga_0, vga_s, vset_0, vset_s, vtk_0, vtk_s, vrc_0, vsw_0, vsw_s, List.all_cons, List.all_nil, zc1_i, zc1_r, Bool.and_true, Bool.and_self, true_and, and_true, List.length_cons, List.length_nil, Nat.zero_le, Nat.reduceLeDiff, Nat.reduceAdd, Nat.reduceLT, Option.toList_some, List.cons_append, List.nil_append]
    rw [if_pos trivial]
    rw [hf] at q
    exact go 1 _ (Or.inl ⟨rfl, fun z => absurd z q⟩)
def rb (h : Nat → Nat) : Nat → Nat
  | 0 => 0
  | u + 1 => rb h u ||| 2 ^ h u
theorem rb_lt : ∀ u, (∀ v, v < u → h v < 6) → rb h u < 64
  | 0, _ => by show 0 < 64; omega
  | u + 1, e => (bor6 _ (rb_lt u (fun v hv => e v (by omega))) _ (e u (by omega))).2
theorem rb_bit {a : Nat} : ∀ u, (rb h u).testBit a = true ↔ ∃ v, v < u ∧ h v = a
  | 0 => by
    constructor
    · intro q
      have : (0 : Nat).testBit a = true := q
      rw [Nat.zero_testBit] at this
      cases this
    · rintro ⟨v, hv, -⟩; omega
  | u + 1 => by
    show (rb h u ||| 2 ^ h u).testBit a = true ↔ _
    rw [bof6, Bool.or_eq_true, rb_bit u, decide_eq_true_eq]
    constructor
    · rintro (⟨v, h1, h2⟩ | e)
      · exact ⟨v, by omega, h2⟩
      · exact ⟨u, by omega, e⟩
    · rintro ⟨v, h1, h2⟩
      by_cases e : v = u
      · subst e; exact Or.inr h2
      · exact Or.inl ⟨v, by omega, h2⟩
theorem full6 : ∀ R, R < 64 → ∀ m, m ≤ 6 → (∀ x, x < 6 → m ≤ x → R.testBit x = false) → (nI R = (1 : Int32) <<< (nI m &&& 31) - 1 ↔ ∀ x, x < m → R.testBit x = true) := by decide +kernel
theorem l_76 (hn : n ≤ 6) (hm : m ≤ 6) (hi : ∀ w, w < n → t.1 516 w = nI (h w) ∧ h w < m) (k1 : (∀ a, a < m → ∃ u, u < n ∧ h u = a) → F (some (.int 1)) t) (k0 : ¬ (∀ a, a < m → ∃ u, u < n ∧ h u = a) → F (some (.int 0)) t) : ∀ (j u : Nat), u + j = n → twp none d 76 5 [.ref 483, .int (nI n), .int (nI m), .int (nI (rb h u)), .int (nI u)] [] t F := by
  intro j
  induction j with
  | zero =>
    intro u hu
    have hu : u = n := by omega
    subst hu
    have h64 := rb_lt (h := h) u (fun v hv => by have := (hi v hv).2; omega)
    have hf := full6 _ h64 m hm (fun x hx hx2 => by
      rcases hb : (rb h u).testBit x with _ | _
      · rfl
      · obtain ⟨v, h1, h2⟩ := (rb_bit u).mp hb
        have := (hi v h1).2
        omega)
    refine vc_ok none zH_76 39 false _ 76 5 _ _ _ _ ?_
    simp only [v_76_0, v_76_1, v_76_2, v_76_3, v_76_5, h_76_5, v_76_7, v_76_8, v_76_11, v_76_12, v_76_13, v_76_14, v_76_17, v_76_19, v_76_20, v_76_21, v_76_22, v_76_23, v_76_26, v_76_29, v_76_30, v_76_31, v_76_32, v_76_33, v_76_34, v_76_35, v_76_38, v_76_39, v_76_42, v_76_43, vgi_0, vgi_s, vga_0, vga_s, vset_0, vset_s, vtk_0, vtk_s, vrc_0, vsw_0, vsw_s, List.all_cons, List.all_nil, zc1_i, zc1_r, Bool.and_true, Bool.and_self, true_and, and_true, List.length_cons, List.length_nil, Nat.zero_le, Nat.reduceLeDiff, Nat.reduceAdd, Nat.reduceLT]
    simp (disch := omega) only [nI_ltI, Nat.lt_irrefl, if_false]
    by_cases z : nI (rb h u) = (1 : Int32) <<< (nI m &&& 31) - 1
    · rw [if_pos z]
      exact ⟨Or.inr trivial, k1 (fun a ha => (rb_bit u).mp (hf.mp z a ha))⟩
    · rw [if_neg z]
      exact ⟨Or.inl trivial, k0 (fun q => z (hf.mpr (fun x hx => (rb_bit u).mpr (q x hx))))⟩
  | succ j ih =>
    intro u hu
    have iu := hi u (by omega)
    have iu2 := iu.2
    have h64 := rb_lt (h := h) u (fun v hv => by have := (hi v (by omega)).2; omega)
    refine vc_ok none zH_76 39 false _ 76 5 _ _ _ _ ?_
    simp only [v_76_0, v_76_1, v_76_2, v_76_3, v_76_5, h_76_5, v_76_7, v_76_8, v_76_11, v_76_12, v_76_13, v_76_14, v_76_17, v_76_19, v_76_20, v_76_21, v_76_22, v_76_23, v_76_26, v_76_29, v_76_30, v_76_31, v_76_32, v_76_33, v_76_34, v_76_35, v_76_38, v_76_39, v_76_42, v_76_43, vgi_0, vgi_s, vga_0, vga_s, vset_0, vset_s, vtk_0, vtk_s, vrc_0, vsw_0, vsw_s, List.all_cons, List.all_nil, zc1_i, zc1_r, Bool.and_true, Bool.and_self, true_and, and_true, List.length_cons, List.length_nil, Nat.zero_le, Nat.reduceLeDiff, Nat.reduceAdd, Nat.reduceLT, tg_483, tf_483_37, tg_516, ln_516]
    simp (disch := omega) only [nI_ltI, nI_clamp, vinb_n, iu.1]
    rw [if_pos (by omega)]
    refine ⟨by omega, ?_⟩
    rw [nI_1, (bor6 _ h64 _ (by omega)).1]
    exact ih (u + 1) (by omega)
theorem c_76 (hd : 1 ≤ d) (hn : n ≤ 6) (hm : m ≤ 6) (hi : ∀ w, w < n → t.1 516 w = nI (h w) ∧ h w < m) (k1 : (∀ a, a < m → ∃ u, u < n ∧ h u = a) → F (some (.int 1)) t) (k0 : ¬ (∀ a, a < m → ∃ u, u < n ∧ h u = a) → F (some (.int 0)) t) : twc d 76 [.ref 483, .int (nI n), .int (nI m)] t F := by
  refine ⟨by omega, ?_⟩
  rw [ze_76]
  refine vc_ok none zH_76 39 false _ 76 0 _ _ _ _ ?_
  simp only [v_76_0, v_76_1, v_76_2, v_76_3, v_76_5, h_76_5, v_76_7, v_76_8, v_76_11, v_76_12, v_76_13, v_76_14, v_76_17, v_76_19, v_76_20, v_76_21, v_76_22, v_76_23, v_76_26, v_76_29, v_76_30, v_76_31, v_76_32, v_76_33, v_76_34, v_76_35, v_76_38, v_76_39, v_76_42, v_76_43, vgi_0, vgi_s, vga_0, vga_s, vset_0, vset_s, vtk_0, vtk_s, vrc_0, vsw_0, vsw_s, List.all_cons, List.all_nil, zc1_i, zc1_r, Bool.and_true, Bool.and_self, true_and, and_true, List.length_cons, List.length_nil, Nat.zero_le, Nat.reduceLeDiff, Nat.reduceAdd, Nat.reduceLT]
  exact l_76 hn hm hi k1 k0 n 0 (by omega)
theorem nI_pm (u : Nat) : nI (u + 1) + -1 = nI u := by
  rw [← nI_1, Int32.add_assoc]
  show nI u + (1 + -1) = nI u
  rw [show ((1 : Int32) + -1) = 0 from by decide, Int32.add_zero]
/-- from the level u on: found, or back with nothing -/
theorem l_77 (hd : 4 ≤ d) (hs : s < 184) (hr : r < 184) (hn : n ≤ 6) (hm : m ≤ 6) (hf : mS t s = f) (hg : mS t r = g) (k1 : (∃ h, sol f n g m h) → ∀ t', tO [516] t t' → F (some (.int 1)) t') : ∀ (kk u : Nat), u + kk + 1 = n → ∀ (j a : Nat) (h : Nat → Nat) (t' : T), a + j = m → t'.1 516 u + 1 = nI a → (∀ v, v < u → t'.1 516 v = nI (h v) ∧ h v < m ∧ okE f g h v) → tO [516] t t' → (∀ t'', tO [516] t t'' → (∀ v, v < u → t''.1 516 v = nI (h v)) → (∀ h', sol f n g m h' → (∀ v, v < u → h' v = h v) → h' u < a) → twp none d 77 90 [.ref 483, .int (nI s), .int (nI r), .int (nI n), .int (nI m), .int (nI u + -1)] [] t'' F) → twp none d 77 90 [.ref 483, .int (nI s), .int (nI r), .int (nI n), .int (nI m), .int (nI u)] [] t' F := by
  intro kk
  induction kk with
  | zero =>
    intro u hk j
    induction j with
    | zero =>
      intro a h t' ha hc hp hO hb
      have ha : a = m := by omega
      subst ha
      refine vc_ok none zH_77 106 false _ 77 90 _ _ _ _ ?_
      simp only [v_77_0, v_77_1, v_77_4, v_77_7, v_77_8, v_77_11, v_77_14, v_77_15, v_77_16, v_77_17, v_77_20, v_77_21, v_77_22, v_77_23, v_77_26, v_77_29, v_77_32, v_77_33, v_77_34, v_77_35, v_77_38, v_77_39, v_77_40, v_77_41, v_77_44, v_77_47, v_77_50, v_77_51, v_77_52, v_77_53, v_77_54, v_77_57, v_77_58, v_77_59, v_77_60, v_77_63, v_77_65, v_77_66, v_77_69, v_77_71, v_77_74, v_77_75, v_77_78, v_77_79, v_77_80, v_77_81, v_77_83, v_77_84, v_77_87, v_77_88, v_77_89, v_77_90, h_77_90, v_77_92, v_77_95, v_77_96, v_77_99, v_77_101, v_77_102, v_77_103, v_77_104, v_77_105, v_77_106, v_77_107, v_77_110, v_77_112, v_77_113, v_77_115, v_77_118, v_77_121, v_77_124, v_77_125, v_77_126, v_77_127, v_77_129, v_77_132, v_77_135, v_77_137, v_77_138, v_77_139, v_77_140, v_77_143, v_77_146, v_77_147, v_77_150, v_77_152, v_77_153, v_77_154, v_77_157, v_77_158, v_77_159, v_77_161, v_77_164, v_77_167, v_77_168, v_77_169, v_77_170, vgi_0, vgi_s, vga_0, vga_s, vset_0, vset_s, vtk_0, vtk_s, vrc_0, vsw_0, vsw_s, List.all_cons, List.all_nil, zc1_i, zc1_r, Bool.and_true, Bool.and_self, true_and, and_true, List.length_cons, List.length_nil, Nat.zero_le, Nat.reduceLeDiff, Nat.reduceAdd, Nat.reduceLT, tg_483, tf_483_37, tg_516, ln_516]
      simp (disch := omega) only [nI_clamp, vinb_n, hc, tsi_eq, nI_ltI, Nat.lt_irrefl, if_false]
      rw [li0, if_neg (by rw [nI_ltI (by omega) (by omega)]; omega)]
      refine ⟨by omega, by omega, by omega, ?_⟩
      refine hb _ (hO.tr (tO.si (by simp))) (fun v hv => ?_) (fun h' hs' _ => (hs'.1 u (by omega)).1)
      rw [tsi_ne (by omega)]
      exact (hp v hv).1
    | succ j ih =>
      intro a h t' ha hc hp hO hb
      have o2 : tO [516] t (tsi t' 516 u (nI a)) := hO.tr (tO.si (by simp))
      have hi : imP (tsi t' 516 u (nI a)) (eu h u a) (u + 1) := fun w hw => by
        unfold eu
        by_cases e : w = u
        · rw [e, tsi_eq, if_pos rfl]; exact ⟨rfl, by omega⟩
        · have := hp w (by omega)
          rw [tsi_ne (by omega), if_neg e]; exact ⟨this.1, by omega⟩
      have nx : (∀ h', sol f n g m h' → (∀ v, v < u → h' v = h v) → h' u ≠ a) → twp none d 77 90 [.ref 483, .int (nI s), .int (nI r), .int (nI n), .int (nI m), .int (nI u)] [] (tsi t' 516 u (nI a)) F := by
        intro hx
        refine ih (a + 1) h _ (by omega) (by rw [tsi_eq, nI_1]) (fun v hv => ?_) o2 (fun t'' o'' p'' q'' => hb t'' o'' p'' (fun h' s' e' => ?_))
        · rw [tsi_ne (by omega)]; exact hp v hv
        · have := q'' h' s' e'
          have := hx h' s' e'
          omega
      refine vc_ok none zH_77 106 false _ 77 90 _ _ _ _ ?_
      simp only [v_77_0, v_77_1, v_77_4, v_77_7, v_77_8, v_77_11, v_77_14, v_77_15, v_77_16, v_77_17, v_77_20, v_77_21, v_77_22, v_77_23, v_77_26, v_77_29, v_77_32, v_77_33, v_77_34, v_77_35, v_77_38, v_77_39, v_77_40, v_77_41, v_77_44, v_77_47, v_77_50, v_77_51, v_77_52, v_77_53, v_77_54, v_77_57, v_77_58, v_77_59, v_77_60, v_77_63, v_77_65, v_77_66, v_77_69, v_77_71, v_77_74, v_77_75, v_77_78, v_77_79, v_77_80, v_77_81, v_77_83, v_77_84, v_77_87, v_77_88, v_77_89, v_77_90, h_77_90, v_77_92, v_77_95, v_77_96, v_77_99, v_77_101, v_77_102, v_77_103, v_77_104, v_77_105, v_77_106, v_77_107, v_77_110, v_77_112, v_77_113, v_77_115, v_77_118, v_77_121, v_77_124, v_77_125, v_77_126, v_77_127, v_77_129, v_77_132, v_77_135, v_77_137, v_77_138, v_77_139, v_77_140, v_77_143, v_77_146, v_77_147, v_77_150, v_77_152, v_77_153, v_77_154, v_77_157, v_77_158, v_77_159, v_77_161, v_77_164, v_77_167, v_77_168, v_77_169, v_77_170, vgi_0, vgi_s, vga_0, vga_s, vset_0, vset_s, vtk_0, vtk_s, vrc_0, vsw_0, vsw_s, List.all_cons, List.all_nil, zc1_i, zc1_r, Bool.and_true, Bool.and_self, true_and, and_true, List.length_cons, List.length_nil, Nat.zero_le, Nat.reduceLeDiff, Nat.reduceAdd, Nat.reduceLT, tg_483, tf_483_37, tg_516, ln_516]
      simp (disch := omega) only [nI_clamp, vinb_n, hc, tsi_eq, nI_ltI]
      rw [li0, if_neg (by rw [nI_ltI (by omega) (by omega)]; omega), if_pos (by omega)]
      refine ⟨by omega, by omega, by omega, ?_⟩
      refine c_75 (f := f) (g := g) (h := eu h u a) (by omega) hs hr (by omega) ((o2.ms (by decide) s).trans hf) ((o2.ms (by decide) r).trans hg) hi (fun q => ?_) (fun q => ?_)
      · simp only [v_77_0, v_77_1, v_77_4, v_77_7, v_77_8, v_77_11, v_77_14, v_77_15, v_77_16, v_77_17, v_77_20, v_77_21, v_77_22, v_77_23, v_77_26, v_77_29, v_77_32, v_77_33, v_77_34, v_77_35, v_77_38, v_77_39, v_77_40, v_77_41, v_77_44, v_77_47, v_77_50, v_77_51, v_77_52, v_77_53, v_77_54, v_77_57, v_77_58, v_77_59, v_77_60, v_77_63, v_77_65, v_77_66, v_77_69, v_77_71, v_77_74, v_77_75, v_77_78, v_77_79, v_77_80, v_77_81, v_77_83, v_77_84, v_77_87, v_77_88, v_77_89, v_77_90, h_77_90, v_77_92, v_77_95, v_77_96, v_77_99, v_77_101, v_77_102, v_77_103, v_77_104, v_77_105, v_77_106, v_77_107, v_77_110, v_77_112, v_77_113, v_77_115, v_77_118, v_77_121, v_77_124, v_77_125, v_77_126, v_77_127, v_77_129, v_77_132, v_77_135, v_77_137, v_77_138, v_77_139, v_77_140, v_77_143, v_77_146, v_77_147, v_77_150, v_77_152, v_77_153, v_77_154, v_77_157, v_77_158, v_77_159, v_77_161, v_77_164, v_77_167, v_77_168, v_77_169, v_77_170, vgi_0, vgi_s, vga_0, vga_s, vset_0, vset_s, vtk_0, vtk_s, vrc_0, vsw_0, vsw_s, List.all_cons, List.all_nil, zc1_i, zc1_r, Bool.and_true, Bool.and_self, true_and, and_true, List.length_cons, List.length_nil, Nat.zero_le, Nat.reduceLeDiff, Nat.reduceAdd, Nat.reduceLT, Option.toList_some, List.cons_append, List.nil_append, tg_483]
        have hn1 : n = u + 1 := by omega
        subst hn1
        have e1 : nI (u + 1) - 1 = nI u := by rw [Int32.sub_eq_add_neg]; exact nI_pm u
        rw [if_neg (by decide), e1]
        simp (disch := omega) only [nI_ltI, Nat.lt_irrefl, if_false]
        have hok : ∀ v, v < u + 1 → eu h u a v < m ∧ okE f g (eu h u a) v := fun v hv => by
          by_cases e : v = u
          · subst e; refine ⟨?_, q⟩; unfold eu; rw [if_pos rfl]; omega
          · have := (hp v (by omega)).2
            refine ⟨?_, okE_congr (fun w hw => ?_) this.2⟩
            · unfold eu; rw [if_neg e]; exact this.1
            · unfold eu; rw [if_neg (by omega)]
        refine c_76 (h := eu h u a) (by omega) hn hm (fun w hw => ⟨(hi w hw).1, (hok w hw).1⟩) (fun q2 => ?_) (fun q2 => ?_)
        · simp only [v_77_0, v_77_1, v_77_4, v_77_7, v_77_8, v_77_11, v_77_14, v_77_15, v_77_16, v_77_17, v_77_20, v_77_21, v_77_22, v_77_23, v_77_26, v_77_29, v_77_32, v_77_33, v_77_34, v_77_35, v_77_38, v_77_39, v_77_40, v_77_41, v_77_44, v_77_47, v_77_50, v_77_51, v_77_52, v_77_53, v_77_54, v_77_57, v_77_58, v_77_59, v_77_60, v_77_63, v_77_65, v_77_66, v_77_69, v_77_71, v_77_74, v_77_75, v_77_78, v_77_79, v_77_80, v_77_81, v_77_83, v_77_84, v_77_87, v_77_88, v_77_89, v_77_90, h_77_90, v_77_92, v_77_95, v_77_96, v_77_99, v_77_101, v_77_102, v_77_103, v_77_104, v_77_105, v_77_106, v_77_107, v_77_110, v_77_112, v_77_113, v_77_115, v_77_118, v_77_121, v_77_124, v_77_125, v_77_126, v_77_127, v_77_129, v_77_132, v_77_135, v_77_137, v_77_138, v_77_139, v_77_140, v_77_143, v_77_146, v_77_147, v_77_150, v_77_152, v_77_153, v_77_154, v_77_157, v_77_158, v_77_159, v_77_161, v_77_164, v_77_167, v_77_168, v_77_169, v_77_170, vgi_0, vgi_s, vga_0, vga_s, vset_0, vset_s, vtk_0, vtk_s, vrc_0, vsw_0, vsw_s, List.all_cons, List.all_nil, zc1_i, zc1_r, Bool.and_true, Bool.and_self, true_and, and_true, List.length_cons, List.length_nil, Nat.zero_le, Nat.reduceLeDiff, Nat.reduceAdd, Nat.reduceLT, Option.toList_some, List.cons_append, List.nil_append]
          rw [if_neg (by decide)]
          exact ⟨Or.inr trivial, k1 ⟨_, hok, q2⟩ _ o2⟩
        · simp only [v_77_0, v_77_1, v_77_4, v_77_7, v_77_8, v_77_11, v_77_14, v_77_15, v_77_16, v_77_17, v_77_20, v_77_21, v_77_22, v_77_23, v_77_26, v_77_29, v_77_32, v_77_33, v_77_34, v_77_35, v_77_38, v_77_39, v_77_40, v_77_41, v_77_44, v_77_47, v_77_50, v_77_51, v_77_52, v_77_53, v_77_54, v_77_57, v_77_58, v_77_59, v_77_60, v_77_63, v_77_65, v_77_66, v_77_69, v_77_71, v_77_74, v_77_75, v_77_78, v_77_79, v_77_80, v_77_81, v_77_83, v_77_84, v_77_87, v_77_88, v_77_89, v_77_90, h_77_90, v_77_92, v_77_95, v_77_96, v_77_99, v_77_101, v_77_102, v_77_103, v_77_104, v_77_105, v_77_106, v_77_107, v_77_110, v_77_112, v_77_113, v_77_115, v_77_118, v_77_121, v_77_124, v_77_125, v_77_126, v_77_127, v_77_129, v_77_132, v_77_135, v_77_137, v_77_138, v_77_139, v_77_140, v_77_143, v_77_146, v_77_147, v_77_150, v_77_152, v_77_153, v_77_154, v_77_157, v_77_158, v_77_159, v_77_161, v_77_164, v_77_167, v_77_168, v_77_169, v_77_170, vgi_0, vgi_s, vga_0, vga_s, vset_0, vset_s, vtk_0, vtk_s, vrc_0, vsw_0, vsw_s, List.all_cons, List.all_nil, zc1_i, zc1_r, Bool.and_true, Bool.and_self, true_and, and_true, List.length_cons, List.length_nil, Nat.zero_le, Nat.reduceLeDiff, Nat.reduceAdd, Nat.reduceLT, Option.toList_some, List.cons_append, List.nil_append]
          rw [if_pos trivial]
          refine nx (fun h' s' e' ea => q2 (fun b hb => ?_))
          obtain ⟨v, hv, ev⟩ := s'.2 b hb
          refine ⟨v, hv, ?_⟩
          unfold eu
          by_cases e : v = u
          · rw [if_pos e, ← ea, ← e]; exact ev
          · rw [if_neg e, ← e' v (by omega)]; exact ev
      · simp only [v_77_0, v_77_1, v_77_4, v_77_7, v_77_8, v_77_11, v_77_14, v_77_15, v_77_16, v_77_17, v_77_20, v_77_21, v_77_22, v_77_23, v_77_26, v_77_29, v_77_32, v_77_33, v_77_34, v_77_35, v_77_38, v_77_39, v_77_40, v_77_41, v_77_44, v_77_47, v_77_50, v_77_51, v_77_52, v_77_53, v_77_54, v_77_57, v_77_58, v_77_59, v_77_60, v_77_63, v_77_65, v_77_66, v_77_69, v_77_71, v_77_74, v_77_75, v_77_78, v_77_79, v_77_80, v_77_81, v_77_83, v_77_84, v_77_87, v_77_88, v_77_89, v_77_90, h_77_90, v_77_92, v_77_95, v_77_96, v_77_99, v_77_101, v_77_102, v_77_103, v_77_104, v_77_105, v_77_106, v_77_107, v_77_110, v_77_112, v_77_113, v_77_115, v_77_118, v_77_121, v_77_124, v_77_125, v_77_126, v_77_127, v_77_129, v_77_132, v_77_135, v_77_137, v_77_138, v_77_139, v_77_140, v_77_143, v_77_146, v_77_147, v_77_150, v_77_152, v_77_153, v_77_154, v_77_157, v_77_158, v_77_159, v_77_161, v_77_164, v_77_167, v_77_168, v_77_169, v_77_170, vgi_0, vgi_s, vga_0, vga_s, vset_0, vset_s, vtk_0, vtk_s, vrc_0, vsw_0, vsw_s, List.all_cons, List.all_nil, zc1_i, zc1_r, Bool.and_true, Bool.and_self, true_and, and_true, List.length_cons, List.length_nil, Nat.zero_le, Nat.reduceLeDiff, Nat.reduceAdd, Nat.reduceLT, Option.toList_some, List.cons_append, List.nil_append]
        rw [if_pos trivial]
        refine nx (fun h' s' e' ea => q (okE_congr (fun v hv => ?_) (s'.1 u (by omega)).2))
        unfold eu
        by_cases e : v = u
        · rw [if_pos e, e]; exact ea
        · rw [if_neg e]; exact e' v (by omega)
  | succ kk ihk =>
    intro u hk j
    induction j with
    | zero =>
      intro a h t' ha hc hp hO hb
      have ha : a = m := by omega
      subst ha
      refine vc_ok none zH_77 106 false _ 77 90 _ _ _ _ ?_
      simp only [v_77_0, v_77_1, v_77_4, v_77_7, v_77_8, v_77_11, v_77_14, v_77_15, v_77_16, v_77_17, v_77_20, v_77_21, v_77_22, v_77_23, v_77_26, v_77_29, v_77_32, v_77_33, v_77_34, v_77_35, v_77_38, v_77_39, v_77_40, v_77_41, v_77_44, v_77_47, v_77_50, v_77_51, v_77_52, v_77_53, v_77_54, v_77_57, v_77_58, v_77_59, v_77_60, v_77_63, v_77_65, v_77_66, v_77_69, v_77_71, v_77_74, v_77_75, v_77_78, v_77_79, v_77_80, v_77_81, v_77_83, v_77_84, v_77_87, v_77_88, v_77_89, v_77_90, h_77_90, v_77_92, v_77_95, v_77_96, v_77_99, v_77_101, v_77_102, v_77_103, v_77_104, v_77_105, v_77_106, v_77_107, v_77_110, v_77_112, v_77_113, v_77_115, v_77_118, v_77_121, v_77_124, v_77_125, v_77_126, v_77_127, v_77_129, v_77_132, v_77_135, v_77_137, v_77_138, v_77_139, v_77_140, v_77_143, v_77_146, v_77_147, v_77_150, v_77_152, v_77_153, v_77_154, v_77_157, v_77_158, v_77_159, v_77_161, v_77_164, v_77_167, v_77_168, v_77_169, v_77_170, vgi_0, vgi_s, vga_0, vga_s, vset_0, vset_s, vtk_0, vtk_s, vrc_0, vsw_0, vsw_s, List.all_cons, List.all_nil, zc1_i, zc1_r, Bool.and_true, Bool.and_self, true_and, and_true, List.length_cons, List.length_nil, Nat.zero_le, Nat.reduceLeDiff, Nat.reduceAdd, Nat.reduceLT, tg_483, tf_483_37, tg_516, ln_516]
      simp (disch := omega) only [nI_clamp, vinb_n, hc, tsi_eq, nI_ltI, Nat.lt_irrefl, if_false]
      rw [li0, if_neg (by rw [nI_ltI (by omega) (by omega)]; omega)]
      refine ⟨by omega, by omega, by omega, ?_⟩
      refine hb _ (hO.tr (tO.si (by simp))) (fun v hv => ?_) (fun h' hs' _ => (hs'.1 u (by omega)).1)
      rw [tsi_ne (by omega)]
      exact (hp v hv).1
    | succ j ih =>
      intro a h t' ha hc hp hO hb
      have o2 : tO [516] t (tsi t' 516 u (nI a)) := hO.tr (tO.si (by simp))
      have hi : imP (tsi t' 516 u (nI a)) (eu h u a) (u + 1) := fun w hw => by
        unfold eu
        by_cases e : w = u
        · rw [e, tsi_eq, if_pos rfl]; exact ⟨rfl, by omega⟩
        · have := hp w (by omega)
          rw [tsi_ne (by omega), if_neg e]; exact ⟨this.1, by omega⟩
      have nx : ∀ t2, tO [516] t t2 → t2.1 516 u = nI a → (∀ v, v < u → t2.1 516 v = nI (h v)) → (∀ h', sol f n g m h' → (∀ v, v < u → h' v = h v) → h' u ≠ a) → twp none d 77 90 [.ref 483, .int (nI s), .int (nI r), .int (nI n), .int (nI m), .int (nI u)] [] t2 F := by
        intro t2 ot2 et2 pt2 hx
        refine ih (a + 1) h _ (by omega) (by rw [et2, nI_1]) (fun v hv => ⟨pt2 v hv, (hp v hv).2⟩) ot2 (fun t'' o'' p'' q'' => hb t'' o'' p'' (fun h' s' e' => ?_))
        have := q'' h' s' e'
        have := hx h' s' e'
        omega
      refine vc_ok none zH_77 106 false _ 77 90 _ _ _ _ ?_
      simp only [v_77_0, v_77_1, v_77_4, v_77_7, v_77_8, v_77_11, v_77_14, v_77_15, v_77_16, v_77_17, v_77_20, v_77_21, v_77_22, v_77_23, v_77_26, v_77_29, v_77_32, v_77_33, v_77_34, v_77_35, v_77_38, v_77_39, v_77_40, v_77_41, v_77_44, v_77_47, v_77_50, v_77_51, v_77_52, v_77_53, v_77_54, v_77_57, v_77_58, v_77_59, v_77_60, v_77_63, v_77_65, v_77_66, v_77_69, v_77_71, v_77_74, v_77_75, v_77_78, v_77_79, v_77_80, v_77_81, v_77_83, v_77_84, v_77_87, v_77_88, v_77_89, v_77_90, h_77_90, v_77_92, v_77_95, v_77_96, v_77_99, v_77_101, v_77_102, v_77_103, v_77_104, v_77_105, v_77_106, v_77_107, v_77_110, v_77_112, v_77_113, v_77_115, v_77_118, v_77_121, v_77_124, v_77_125, v_77_126, v_77_127, v_77_129, v_77_132, v_77_135, v_77_137, v_77_138, v_77_139, v_77_140, v_77_143, v_77_146, v_77_147, v_77_150, v_77_152, v_77_153, v_77_154, v_77_157, v_77_158, v_77_159, v_77_161, v_77_164, v_77_167, v_77_168, v_77_169, v_77_170, vgi_0, vgi_s, vga_0, vga_s, vset_0, vset_s, vtk_0, vtk_s, vrc_0, vsw_0, vsw_s, List.all_cons, List.all_nil, zc1_i, zc1_r, Bool.and_true, Bool.and_self, true_and, and_true, List.length_cons, List.length_nil, Nat.zero_le, Nat.reduceLeDiff, Nat.reduceAdd, Nat.reduceLT, tg_483, tf_483_37, tg_516, ln_516]
      simp (disch := omega) only [nI_clamp, vinb_n, hc, tsi_eq, nI_ltI]
      rw [li0, if_neg (by rw [nI_ltI (by omega) (by omega)]; omega), if_pos (by omega)]
      refine ⟨by omega, by omega, by omega, ?_⟩
      refine c_75 (f := f) (g := g) (h := eu h u a) (by omega) hs hr (by omega) ((o2.ms (by decide) s).trans hf) ((o2.ms (by decide) r).trans hg) hi (fun q => ?_) (fun q => ?_)
      · simp only [v_77_0, v_77_1, v_77_4, v_77_7, v_77_8, v_77_11, v_77_14, v_77_15, v_77_16, v_77_17, v_77_20, v_77_21, v_77_22, v_77_23, v_77_26, v_77_29, v_77_32, v_77_33, v_77_34, v_77_35, v_77_38, v_77_39, v_77_40, v_77_41, v_77_44, v_77_47, v_77_50, v_77_51, v_77_52, v_77_53, v_77_54, v_77_57, v_77_58, v_77_59, v_77_60, v_77_63, v_77_65, v_77_66, v_77_69, v_77_71, v_77_74, v_77_75, v_77_78, v_77_79, v_77_80, v_77_81, v_77_83, v_77_84, v_77_87, v_77_88, v_77_89, v_77_90, h_77_90, v_77_92, v_77_95, v_77_96, v_77_99, v_77_101, v_77_102, v_77_103, v_77_104, v_77_105, v_77_106, v_77_107, v_77_110, v_77_112, v_77_113, v_77_115, v_77_118, v_77_121, v_77_124, v_77_125, v_77_126, v_77_127, v_77_129, v_77_132, v_77_135, v_77_137, v_77_138, v_77_139, v_77_140, v_77_143, v_77_146, v_77_147, v_77_150, v_77_152, v_77_153, v_77_154, v_77_157, v_77_158, v_77_159, v_77_161, v_77_164, v_77_167, v_77_168, v_77_169, v_77_170, vgi_0, vgi_s, vga_0, vga_s, vset_0, vset_s, vtk_0, vtk_s, vrc_0, vsw_0, vsw_s, List.all_cons, List.all_nil, zc1_i, zc1_r, Bool.and_true, Bool.and_self, true_and, and_true, List.length_cons, List.length_nil, Nat.zero_le, Nat.reduceLeDiff, Nat.reduceAdd, Nat.reduceLT, Option.toList_some, List.cons_append, List.nil_append, tg_483, tf_483_37, tg_516, ln_516]
        obtain ⟨n', rfl⟩ : ∃ n', n = n' + 1 := ⟨n - 1, by omega⟩
        have e1 : nI (n' + 1) - 1 = nI n' := by rw [Int32.sub_eq_add_neg]; exact nI_pm n'
        rw [if_neg (by decide), e1]
        simp (disch := omega) only [nI_ltI, nI_1, nI_clamp, vinb_n]
        rw [if_pos (by omega)]
        refine ⟨by omega, ?_⟩
        have pa : ∀ v, v < u + 1 → (tsi (tsi t' 516 u (nI a)) 516 (u + 1) (-1)).1 516 v = nI (eu h u a v) := fun v hv => by
          rw [tsi_ne (by omega)]; exact (hi v hv).1
        refine ihk (u + 1) (by omega) m 0 (eu h u a) _ (by omega) (by rw [tsi_eq]; rfl) (fun v hv => ⟨pa v hv, ?_⟩) (o2.tr (tO.si (by simp))) (fun t'' o'' p'' q'' => ?_)
        · by_cases e : v = u
          · subst e; refine ⟨?_, q⟩; unfold eu; rw [if_pos rfl]; omega
          · have := (hp v (by omega)).2
            refine ⟨?_, okE_congr (fun w hw => ?_) this.2⟩
            · unfold eu; rw [if_neg e]; exact this.1
            · unfold eu; rw [if_neg (by omega)]
        · rw [nI_pm]
          refine nx t'' o'' ?_ (fun v hv => ?_) (fun h' s' e' ea => ?_)
          · rw [p'' u (by omega)]; unfold eu; rw [if_pos rfl]
          · rw [p'' v (by omega)]; unfold eu; rw [if_neg (by omega)]
          · have := q'' h' s' (fun v hv => by
              unfold eu
              by_cases e : v = u
              · rw [if_pos e, e]; exact ea
              · rw [if_neg e]; exact e' v (by omega))
            omega
      · simp only [v_77_0, v_77_1, v_77_4, v_77_7, v_77_8, v_77_11, v_77_14, v_77_15, v_77_16, v_77_17, v_77_20, v_77_21, v_77_22, v_77_23, v_77_26, v_77_29, v_77_32, v_77_33, v_77_34, v_77_35, v_77_38, v_77_39, v_77_40, v_77_41, v_77_44, v_77_47, v_77_50, v_77_51, v_77_52, v_77_53, v_77_54, v_77_57, v_77_58, v_77_59, v_77_60, v_77_63, v_77_65, v_77_66, v_77_69, v_77_71, v_77_74, v_77_75, v_77_78, v_77_79, v_77_80, v_77_81, v_77_83, v_77_84, v_77_87, v_77_88, v_77_89, v_77_90, h_77_90, v_77_92, v_77_95, v_77_96, v_77_99, v_77_101, v_77_102, v_77_103, v_77_104, v_77_105, v_77_106, v_77_107, v_77_110, v_77_112, v_77_113, v_77_115, v_77_118, v_77_121, v_77_124, v_77_125, v_77_126, v_77_127, v_77_129, v_77_132, v_77_135, v_77_137, v_77_138, v_77_139, v_77_140, v_77_143, v_77_146, v_77_147, v_77_150, v_77_152, v_77_153, v_77_154, v_77_157, v_77_158, v_77_159, v_77_161, v_77_164, v_77_167, v_77_168, v_77_169, v_77_170, vgi_0, vgi_s, vga_0, vga_s, vset_0, vset_s, vtk_0, vtk_s, vrc_0, vsw_0, vsw_s, List.all_cons, List.all_nil, zc1_i, zc1_r, Bool.and_true, Bool.and_self, true_and, and_true, List.length_cons, List.length_nil, Nat.zero_le, Nat.reduceLeDiff, Nat.reduceAdd, Nat.reduceLT, Option.toList_some, List.cons_append, List.nil_append]
        rw [if_pos trivial]
        refine nx _ o2 tsi_eq (fun v hv => by rw [tsi_ne (by omega)]; exact (hp v hv).1) (fun h' s' e' ea => q (okE_congr (fun v hv => ?_) (s'.1 u (by omega)).2))
        unfold eu
        by_cases e : v = u
        · rw [if_pos e, e]; exact ea
        · rw [if_neg e]; exact e' v (by omega)
end ME
