/-! The reference blurs: the walk. -/
section MB2
variable {d s : Nat} {t : T} {F : Option Value → T → Prop} {f : St} {n : Nat}
theorem tO.ms {A : List Nat} {t' : T} (h : tO A t t') (h2 : 484 ∉ A) (r : Nat) : mS t' r = mS t r := by
  funext k
  unfold mS
  rw [h.2 484 h2]
def mbP (t : T) (f : St) (n : Nat) : Prop := mS t 182 = f ∧ ∀ v, v < n → t.1 515 v = nI (PL f n v)
theorem mbP.o {t' : T} (h : mbP t f n) (hs : s ≠ 182) (hO : mG noA (only s) t t') : mbP t' f n :=
  ⟨by rw [hO.2.2 182 (fun z => hs z.symm)]; exact h.1, fun v hv => by rw [hO.2.1 515 (by omega) (fun z => z)]; exact h.2 v hv⟩
theorem jI_neg {p x y u w : Nat} {v : Int32} (h : jI f n p x y u w v) : v < 0 ↔ v = -1 := by
  rcases h with ⟨rfl, -⟩ | ⟨⟨a, ha, rfl⟩, -⟩
  · decide
  · have : ∀ a, a < 3 → (nI a < 0 ↔ nI a = -1) := by decide
    exact this a ha
theorem l_72b {p x y u : Nat} (hd : 3 ≤ d) (hf : wfS f) (hn : n ≤ 6) (hp : 6 ≤ p) (hp2 : p < 8) (hx : x < GR f n) (hy : y < GR f n) (hu : u < n) (hm : mbP t f n) (h : ∀ (v : Int32) (jv : Value), jI f n p x y (u + 1) 0 v → twp none d 72 6 [.ref 483, .int (nI p), .int (nI x), .int (nI y), .int (nI n), .int v, .int (nI (u + 1)), jv] [] t F) : ∀ (j w : Nat) (v : Int32), w + j = n → jI f n p x y u w v → twp none d 72 16 [.ref 483, .int (nI p), .int (nI x), .int (nI y), .int (nI n), .int v, .int (nI u), .int (nI w)] [] t F := by
  have hG := GR_le hf n hn
  intro j
  induction j with
  | zero =>
    intro w v hw hI
    have hw : w = n := by omega
    subst hw
    refine vc_ok none zH_72 58 false _ 72 16 _ _ _ _ ?_
    simp only [v_72_0, v_72_1, v_72_3, v_72_4, v_72_6, h_72_6, v_72_8, v_72_10, v_72_13, v_72_14, v_72_16, h_72_16, v_72_18, v_72_20, v_72_23, v_72_24, v_72_27, v_72_29, v_72_30, v_72_31, v_72_34, v_72_35, v_72_38, v_72_40, v_72_41, v_72_42, v_72_45, v_72_47, v_72_50, v_72_51, v_72_54, v_72_55, v_72_57, v_72_59, v_72_62, v_72_65, v_72_67, v_72_68, v_72_71, v_72_72, v_72_74, v_72_76, v_72_79, v_72_82, v_72_84, v_72_87, v_72_90, v_72_93, v_72_96, v_72_98, vgi_0, vgi_s, vga_0, vga_s, vset_0, vset_s, vtk_0, vtk_s, vrc_0, vsw_0, vsw_s, List.all_cons, List.all_nil, zc1_i, zc1_r, Bool.and_true, Bool.and_self, true_and, and_true, List.length_cons, List.length_nil, Nat.zero_le, Nat.reduceLeDiff, Nat.reduceAdd, Nat.reduceLT]
    simp (disch := omega) only [nI_ltI, Nat.lt_irrefl, if_false]
    rw [nI_1]
    refine h v _ ?_
    rcases hI with ⟨h1, h2⟩ | ⟨h1, h2⟩
    · exact Or.inl ⟨h1, fun z q => h2 z ((SJb_n z).mp q)⟩
    · exact Or.inr ⟨h1, isJ_congr h2 SJb_n⟩
  | succ j ih =>
    intro w v hw hI
    have pu := hm.2 u hu
    have pw := hm.2 w (by omega)
    have lu := PL_lt hf hn hu
    have lw := PL_lt hf hn (show w < n by omega)
    refine vc_ok none zH_72 58 false _ 72 16 _ _ _ _ ?_
    simp only [v_72_0, v_72_1, v_72_3, v_72_4, v_72_6, h_72_6, v_72_8, v_72_10, v_72_13, v_72_14, v_72_16, h_72_16, v_72_18, v_72_20, v_72_23, v_72_24, v_72_27, v_72_29, v_72_30, v_72_31, v_72_34, v_72_35, v_72_38, v_72_40, v_72_41, v_72_42, v_72_45, v_72_47, v_72_50, v_72_51, v_72_54, v_72_55, v_72_57, v_72_59, v_72_62, v_72_65, v_72_67, v_72_68, v_72_71, v_72_72, v_72_74, v_72_76, v_72_79, v_72_82, v_72_84, v_72_87, v_72_90, v_72_93, v_72_96, v_72_98, vgi_0, vgi_s, vga_0, vga_s, vset_0, vset_s, vtk_0, vtk_s, vrc_0, vsw_0, vsw_s, List.all_cons, List.all_nil, zc1_i, zc1_r, Bool.and_true, Bool.and_self, true_and, and_true, List.length_cons, List.length_nil, Nat.zero_le, Nat.reduceLeDiff, Nat.reduceAdd, Nat.reduceLT, tg_483, tf_483_36, tg_515, ln_515]
    simp (disch := omega) only [nI_ltI, nI_clamp, vinb_n, pu, pw]
    rw [if_pos (by omega)]
    simp (disch := omega) only [nI_eq]
    refine ⟨by omega, ?_⟩
    by_cases z1 : PL f n u = x
    · rw [if_pos z1]
      refine ⟨by omega, ?_⟩
      by_cases z2 : PL f n w = y
      · rw [if_pos z2]
        by_cases z3 : v < 0
        · rw [if_pos z3]
          refine c_43 (s := 182) (by omega) (by omega) (by omega) (by omega) (by omega) ?_
          simp only [v_72_0, v_72_1, v_72_3, v_72_4, v_72_6, h_72_6, v_72_8, v_72_10, v_72_13, v_72_14, v_72_16, h_72_16, v_72_18, v_72_20, v_72_23, v_72_24, v_72_27, v_72_29, v_72_30, v_72_31, v_72_34, v_72_35, v_72_38, v_72_40, v_72_41, v_72_42, v_72_45, v_72_47, v_72_50, v_72_51, v_72_54, v_72_55, v_72_57, v_72_59, v_72_62, v_72_65, v_72_67, v_72_68, v_72_71, v_72_72, v_72_74, v_72_76, v_72_79, v_72_82, v_72_84, v_72_87, v_72_90, v_72_93, v_72_96, v_72_98, vgi_0, vgi_s, vga_0, vga_s, vset_0, vset_s, vtk_0, vtk_s, vrc_0, vsw_0, vsw_s, List.all_cons, List.all_nil, zc1_i, zc1_r, Bool.and_true, Bool.and_self, true_and, and_true, List.length_cons, List.length_nil, Nat.zero_le, Nat.reduceLeDiff, Nat.reduceAdd, Nat.reduceLT, Option.toList_some, List.cons_append, List.nil_append, tg_483]
          rw [nI_1, hm.1, sg2 hp hp2]
          exact ih (w + 1) _ (by omega) (jI_one hf hn hp hp2 hu (by omega) hI z1 z2 ((jI_neg hI).mp z3))
        · rw [if_neg z3]
          refine c_43 (s := 182) (by omega) (by omega) (by omega) (by omega) (by omega) ?_
          simp only [v_72_0, v_72_1, v_72_3, v_72_4, v_72_6, h_72_6, v_72_8, v_72_10, v_72_13, v_72_14, v_72_16, h_72_16, v_72_18, v_72_20, v_72_23, v_72_24, v_72_27, v_72_29, v_72_30, v_72_31, v_72_34, v_72_35, v_72_38, v_72_40, v_72_41, v_72_42, v_72_45, v_72_47, v_72_50, v_72_51, v_72_54, v_72_55, v_72_57, v_72_59, v_72_62, v_72_65, v_72_67, v_72_68, v_72_71, v_72_72, v_72_74, v_72_76, v_72_79, v_72_82, v_72_84, v_72_87, v_72_90, v_72_93, v_72_96, v_72_98, vgi_0, vgi_s, vga_0, vga_s, vset_0, vset_s, vtk_0, vtk_s, vrc_0, vsw_0, vsw_s, List.all_cons, List.all_nil, zc1_i, zc1_r, Bool.and_true, Bool.and_self, true_and, and_true, List.length_cons, List.length_nil, Nat.zero_le, Nat.reduceLeDiff, Nat.reduceAdd, Nat.reduceLT, Option.toList_some, List.cons_append, List.nil_append, tg_483]
          refine c_70 (by omega) ?_
          simp only [v_72_0, v_72_1, v_72_3, v_72_4, v_72_6, h_72_6, v_72_8, v_72_10, v_72_13, v_72_14, v_72_16, h_72_16, v_72_18, v_72_20, v_72_23, v_72_24, v_72_27, v_72_29, v_72_30, v_72_31, v_72_34, v_72_35, v_72_38, v_72_40, v_72_41, v_72_42, v_72_45, v_72_47, v_72_50, v_72_51, v_72_54, v_72_55, v_72_57, v_72_59, v_72_62, v_72_65, v_72_67, v_72_68, v_72_71, v_72_72, v_72_74, v_72_76, v_72_79, v_72_82, v_72_84, v_72_87, v_72_90, v_72_93, v_72_96, v_72_98, vgi_0, vgi_s, vga_0, vga_s, vset_0, vset_s, vtk_0, vtk_s, vrc_0, vsw_0, vsw_s, List.all_cons, List.all_nil, zc1_i, zc1_r, Bool.and_true, Bool.and_self, true_and, and_true, List.length_cons, List.length_nil, Nat.zero_le, Nat.reduceLeDiff, Nat.reduceAdd, Nat.reduceLT, Option.toList_some, List.cons_append, List.nil_append, tg_483]
          rw [nI_1, hm.1, sg2 hp hp2]
          exact ih (w + 1) _ (by omega) (jI_add hf hn hp hp2 hu (by omega) hI z1 z2 (fun q => z3 ((jI_neg hI).mpr q)))
      · rw [if_neg z2, nI_1]
        exact ih (w + 1) v (by omega) (jI_skip hu (by omega) hI (fun q => z2 q.2))
    · rw [if_neg z1, nI_1]
      exact ih (w + 1) v (by omega) (jI_skip hu (by omega) hI (fun q => z1 q.1))
theorem l_72a {p x y : Nat} (hd : 3 ≤ d) (hf : wfS f) (hn : n ≤ 6) (hp : 6 ≤ p) (hp2 : p < 8) (hx : x < GR f n) (hy : y < GR f n) (hm : mbP t f n) (h : ∀ v, tri v → isJ (SJ f n p x y) v → F (some (.int v)) t) : ∀ (j u : Nat) (v : Int32) (jv : Value), u + j = n → jI f n p x y u 0 v → twp none d 72 6 [.ref 483, .int (nI p), .int (nI x), .int (nI y), .int (nI n), .int v, .int (nI u), jv] [] t F := by
  intro j
  induction j with
  | zero =>
    intro u v jv hu hI
    have hu : u = n := by omega
    subst hu
    refine vc_ok none zH_72 58 false _ 72 6 _ _ _ _ ?_
    simp only [v_72_0, v_72_1, v_72_3, v_72_4, v_72_6, h_72_6, v_72_8, v_72_10, v_72_13, v_72_14, v_72_16, h_72_16, v_72_18, v_72_20, v_72_23, v_72_24, v_72_27, v_72_29, v_72_30, v_72_31, v_72_34, v_72_35, v_72_38, v_72_40, v_72_41, v_72_42, v_72_45, v_72_47, v_72_50, v_72_51, v_72_54, v_72_55, v_72_57, v_72_59, v_72_62, v_72_65, v_72_67, v_72_68, v_72_71, v_72_72, v_72_74, v_72_76, v_72_79, v_72_82, v_72_84, v_72_87, v_72_90, v_72_93, v_72_96, v_72_98, vgi_0, vgi_s, vga_0, vga_s, vset_0, vset_s, vtk_0, vtk_s, vrc_0, vsw_0, vsw_s, List.all_cons, List.all_nil, zc1_i, zc1_r, Bool.and_true, Bool.and_self, true_and, and_true, List.length_cons, List.length_nil, Nat.zero_le, Nat.reduceLeDiff, Nat.reduceAdd, Nat.reduceLT]
    simp (disch := omega) only [nI_ltI, Nat.lt_irrefl, if_false]
    have := jI_end hp hp2 hx hy hI
    exact h v this.1 this.2
  | succ j ih =>
    intro u v jv hu hI
    refine vc_ok none zH_72 58 false _ 72 6 _ _ _ _ ?_
    simp only [v_72_0, v_72_1, v_72_3, v_72_4, v_72_6, h_72_6, v_72_8, v_72_10, v_72_13, v_72_14, v_72_16, h_72_16, v_72_18, v_72_20, v_72_23, v_72_24, v_72_27, v_72_29, v_72_30, v_72_31, v_72_34, v_72_35, v_72_38, v_72_40, v_72_41, v_72_42, v_72_45, v_72_47, v_72_50, v_72_51, v_72_54, v_72_55, v_72_57, v_72_59, v_72_62, v_72_65, v_72_67, v_72_68, v_72_71, v_72_72, v_72_74, v_72_76, v_72_79, v_72_82, v_72_84, v_72_87, v_72_90, v_72_93, v_72_96, v_72_98, vgi_0, vgi_s, vga_0, vga_s, vset_0, vset_s, vtk_0, vtk_s, vrc_0, vsw_0, vsw_s, List.all_cons, List.all_nil, zc1_i, zc1_r, Bool.and_true, Bool.and_self, true_and, and_true, List.length_cons, List.length_nil, Nat.zero_le, Nat.reduceLeDiff, Nat.reduceAdd, Nat.reduceLT]
    simp (disch := omega) only [nI_ltI]
    rw [if_pos (by omega)]
    exact l_72b hd hf hn hp hp2 hx hy (by omega) hm (fun v2 jv2 hI2 => ih (u + 1) v2 jv2 (by omega) hI2) n 0 v (by omega) hI
theorem c_72 {p x y : Nat} (hd : 4 ≤ d) (hf : wfS f) (hn : n ≤ 6) (hp : 6 ≤ p) (hp2 : p < 8) (hx : x < GR f n) (hy : y < GR f n) (hm : mbP t f n) (h : ∀ v, tri v → isJ (SJ f n p x y) v → F (some (.int v)) t) : twc d 72 [.ref 483, .int (nI p), .int (nI x), .int (nI y), .int (nI n)] t F := by
  refine ⟨by omega, ?_⟩
  rw [ze_72]
  refine vc_ok none zH_72 58 false _ 72 0 _ _ _ _ ?_
  simp only [v_72_0, v_72_1, v_72_3, v_72_4, v_72_6, h_72_6, v_72_8, v_72_10, v_72_13, v_72_14, v_72_16, h_72_16, v_72_18, v_72_20, v_72_23, v_72_24, v_72_27, v_72_29, v_72_30, v_72_31, v_72_34, v_72_35, v_72_38, v_72_40, v_72_41, v_72_42, v_72_45, v_72_47, v_72_50, v_72_51, v_72_54, v_72_55, v_72_57, v_72_59, v_72_62, v_72_65, v_72_67, v_72_68, v_72_71, v_72_72, v_72_74, v_72_76, v_72_79, v_72_82, v_72_84, v_72_87, v_72_90, v_72_93, v_72_96, v_72_98, vgi_0, vgi_s, vga_0, vga_s, vset_0, vset_s, vtk_0, vtk_s, vrc_0, vsw_0, vsw_s, List.all_cons, List.all_nil, zc1_i, zc1_r, Bool.and_true, Bool.and_self, true_and, and_true, List.length_cons, List.length_nil, Nat.zero_le, Nat.reduceLeDiff, Nat.reduceAdd, Nat.reduceLT]
  exact l_72a (by omega) hf hn hp hp2 hx hy hm h n 0 _ _ (by omega) (Or.inl ⟨rfl, SJb_0⟩)
theorem nm_3 (hf : wfS f) {u : Nat} (hu : u < 6) : ((f (4 + 5 * u) * 3 + f (5 + 5 * u)) * 3 + f (6 + 5 * u)) * 3 + f (7 + 5 * u) = nI (nm f u) := by
  obtain ⟨a, ha, ea⟩ := hf.tri (k := 4 + 5 * u) (by omega) (by omega)
  obtain ⟨b, hb, eb⟩ := hf.tri (k := 5 + 5 * u) (by omega) (by omega)
  obtain ⟨c, hc, ec⟩ := hf.tri (k := 6 + 5 * u) (by omega) (by omega)
  obtain ⟨e, he, ee⟩ := hf.tri (k := 7 + 5 * u) (by omega) (by omega)
  have key : ∀ a, a < 3 → ∀ b, b < 3 → ∀ c, c < 3 → ∀ e, e < 3 → ((nI a * 3 + nI b) * 3 + nI c) * 3 + nI e = nI (a * 27 + b * 9 + c * 3 + e) := by decide +kernel
  unfold nm
  rw [ea, eb, ec, ee, nn_nI (by omega), nn_nI (by omega), nn_nI (by omega), nn_nI (by omega)]
  exact key a ha b hb c hc e he
theorem l_71a (hd : 4 ≤ d) (hs : s < 184) (hf : wfS f) (hn : n ≤ 6) (hm : mS t s = f) {j4 j5 j6 j7 : Value} (h : ∀ t', tO [514] t t' → (∀ v, v < n → t'.1 514 v = nI (nm f v)) → twp none d 71 79 [.ref 483, .int (nI s), .int (nI n), .int (nI 0), .int (nI 0), j5, j6, j7] [] t' F) : ∀ (j u : Nat) (t' : T), u + j = n → tO [514] t t' → (∀ v, v < u → t'.1 514 v = nI (nm f v)) → twp none d 71 16 [.ref 483, .int (nI s), .int (nI n), .int (nI u), j4, j5, j6, j7] [] t' F := by
  intro j
  induction j with
  | zero =>
    intro u t' hu hO hI
    have hu : u = n := by omega
    subst hu
    refine vc_ok none zH_71 150 false _ 71 16 _ _ _ _ ?_
    simp only [v_71_0, v_71_1, v_71_2, v_71_5, v_71_8, v_71_9, v_71_10, v_71_13, v_71_14, v_71_15, v_71_16, h_71_16, v_71_17, v_71_18, v_71_21, v_71_22, v_71_25, v_71_26, v_71_27, v_71_28, v_71_29, v_71_30, v_71_31, v_71_34, v_71_35, v_71_36, v_71_37, v_71_38, v_71_39, v_71_40, v_71_41, v_71_44, v_71_45, v_71_46, v_71_47, v_71_48, v_71_49, v_71_50, v_71_51, v_71_52, v_71_55, v_71_56, v_71_57, v_71_58, v_71_59, v_71_60, v_71_61, v_71_62, v_71_63, v_71_66, v_71_67, v_71_68, v_71_71, v_71_74, v_71_75, v_71_76, v_71_77, v_71_79, h_71_79, v_71_81, v_71_83, v_71_86, v_71_87, v_71_89, v_71_90, v_71_92, h_71_92, v_71_94, v_71_95, v_71_98, v_71_99, v_71_102, v_71_104, v_71_105, v_71_107, v_71_110, v_71_111, v_71_114, v_71_116, v_71_117, v_71_118, v_71_119, v_71_121, v_71_124, v_71_127, v_71_129, v_71_132, v_71_133, v_71_134, v_71_135, v_71_138, v_71_139, v_71_140, v_71_143, v_71_146, v_71_147, v_71_149, h_71_149, v_71_151, v_71_153, v_71_156, v_71_157, v_71_158, v_71_160, v_71_161, v_71_164, v_71_167, v_71_170, v_71_171, v_71_172, v_71_173, v_71_174, v_71_177, v_71_178, v_71_180, h_71_180, v_71_182, v_71_183, v_71_186, v_71_187, v_71_189, v_71_190, v_71_192, h_71_192, v_71_194, v_71_195, v_71_198, v_71_199, v_71_202, v_71_204, v_71_205, v_71_207, v_71_210, v_71_212, v_71_213, v_71_216, v_71_218, v_71_221, v_71_224, v_71_225, v_71_228, v_71_229, v_71_230, v_71_232, v_71_233, v_71_235, h_71_235, v_71_237, v_71_239, v_71_242, v_71_243, v_71_244, v_71_246, v_71_248, v_71_249, v_71_252, v_71_253, v_71_256, v_71_258, v_71_260, v_71_261, v_71_264, v_71_267, v_71_270, v_71_273, v_71_276, v_71_279, v_71_280, v_71_281, v_71_282, v_71_283, v_71_285, v_71_286, v_71_287, v_71_289, v_71_290, v_71_293, v_71_294, v_71_297, v_71_298, v_71_301, v_71_302, v_71_304, h_71_304, v_71_306, v_71_307, v_71_310, v_71_311, v_71_312, v_71_314, v_71_316, v_71_318, v_71_321, v_71_322, v_71_324, v_71_326, v_71_328, v_71_329, v_71_332, v_71_335, v_71_336, v_71_337, v_71_339, v_71_341, v_71_343, v_71_346, v_71_347, v_71_349, v_71_351, v_71_353, v_71_354, v_71_357, v_71_360, v_71_363, v_71_366, v_71_369, v_71_372, vgi_0, vgi_s, vga_0, vga_s, vset_0, vset_s, vtk_0, vtk_s, vrc_0, vsw_0, vsw_s, List.all_cons, List.all_nil, zc1_i, zc1_r, Bool.and_true, Bool.and_self, true_and, and_true, List.length_cons, List.length_nil, Nat.zero_le, Nat.reduceLeDiff, Nat.reduceAdd, Nat.reduceLT]
    simp (disch := omega) only [nI_ltI, Nat.lt_irrefl, if_false]
    exact h t' hO hI
  | succ j ih =>
    intro u t' hu hO hI
    have hm' : mS t' s = f := (hO.ms (by decide) s).trans hm
    refine vc_ok none zH_71 150 false _ 71 16 _ _ _ _ ?_
    simp only [v_71_0, v_71_1, v_71_2, v_71_5, v_71_8, v_71_9, v_71_10, v_71_13, v_71_14, v_71_15, v_71_16, h_71_16, v_71_17, v_71_18, v_71_21, v_71_22, v_71_25, v_71_26, v_71_27, v_71_28, v_71_29, v_71_30, v_71_31, v_71_34, v_71_35, v_71_36, v_71_37, v_71_38, v_71_39, v_71_40, v_71_41, v_71_44, v_71_45, v_71_46, v_71_47, v_71_48, v_71_49, v_71_50, v_71_51, v_71_52, v_71_55, v_71_56, v_71_57, v_71_58, v_71_59, v_71_60, v_71_61, v_71_62, v_71_63, v_71_66, v_71_67, v_71_68, v_71_71, v_71_74, v_71_75, v_71_76, v_71_77, v_71_79, h_71_79, v_71_81, v_71_83, v_71_86, v_71_87, v_71_89, v_71_90, v_71_92, h_71_92, v_71_94, v_71_95, v_71_98, v_71_99, v_71_102, v_71_104, v_71_105, v_71_107, v_71_110, v_71_111, v_71_114, v_71_116, v_71_117, v_71_118, v_71_119, v_71_121, v_71_124, v_71_127, v_71_129, v_71_132, v_71_133, v_71_134, v_71_135, v_71_138, v_71_139, v_71_140, v_71_143, v_71_146, v_71_147, v_71_149, h_71_149, v_71_151, v_71_153, v_71_156, v_71_157, v_71_158, v_71_160, v_71_161, v_71_164, v_71_167, v_71_170, v_71_171, v_71_172, v_71_173, v_71_174, v_71_177, v_71_178, v_71_180, h_71_180, v_71_182, v_71_183, v_71_186, v_71_187, v_71_189, v_71_190, v_71_192, h_71_192, v_71_194, v_71_195, v_71_198, v_71_199, v_71_202, v_71_204, v_71_205, v_71_207, v_71_210, v_71_212, v_71_213, v_71_216, v_71_218, v_71_221, v_71_224, v_71_225, v_71_228, v_71_229, v_71_230, v_71_232, v_71_233, v_71_235, h_71_235, v_71_237, v_71_239, v_71_242, v_71_243, v_71_244, v_71_246, v_71_248, v_71_249, v_71_252, v_71_253, v_71_256, v_71_258, v_71_260, v_71_261, v_71_264, v_71_267, v_71_270, v_71_273, v_71_276, v_71_279, v_71_280, v_71_281, v_71_282, v_71_283, v_71_285, v_71_286, v_71_287, v_71_289, v_71_290, v_71_293, v_71_294, v_71_297, v_71_298, v_71_301, v_71_302, v_71_304, h_71_304, v_71_306, v_71_307, v_71_310, v_71_311, v_71_312, v_71_314, v_71_316, v_71_318, v_71_321, v_71_322, v_71_324, v_71_326, v_71_328, v_71_329, v_71_332, v_71_335, v_71_336, v_71_337, v_71_339, v_71_341, v_71_343, v_71_346, v_71_347, v_71_349, v_71_351, v_71_353, v_71_354, v_71_357, v_71_360, v_71_363, v_71_366, v_71_369, v_71_372, vgi_0, vgi_s, vga_0, vga_s, vset_0, vset_s, vtk_0, vtk_s, vrc_0, vsw_0, vsw_s, List.all_cons, List.all_nil, zc1_i, zc1_r, Bool.and_true, Bool.and_self, true_and, and_true, List.length_cons, List.length_nil, Nat.zero_le, Nat.reduceLeDiff, Nat.reduceAdd, Nat.reduceLT, tg_483, tf_483_35, tg_514, ln_514]
    simp (disch := omega) only [nI_ltI]
    rw [if_pos (by omega)]
    refine c_43 (p := 2) (w := 0) (by omega) hs (by omega) (by omega) (by omega) ?_
    simp only [v_71_0, v_71_1, v_71_2, v_71_5, v_71_8, v_71_9, v_71_10, v_71_13, v_71_14, v_71_15, v_71_16, h_71_16, v_71_17, v_71_18, v_71_21, v_71_22, v_71_25, v_71_26, v_71_27, v_71_28, v_71_29, v_71_30, v_71_31, v_71_34, v_71_35, v_71_36, v_71_37, v_71_38, v_71_39, v_71_40, v_71_41, v_71_44, v_71_45, v_71_46, v_71_47, v_71_48, v_71_49, v_71_50, v_71_51, v_71_52, v_71_55, v_71_56, v_71_57, v_71_58, v_71_59, v_71_60, v_71_61, v_71_62, v_71_63, v_71_66, v_71_67, v_71_68, v_71_71, v_71_74, v_71_75, v_71_76, v_71_77, v_71_79, h_71_79, v_71_81, v_71_83, v_71_86, v_71_87, v_71_89, v_71_90, v_71_92, h_71_92, v_71_94, v_71_95, v_71_98, v_71_99, v_71_102, v_71_104, v_71_105, v_71_107, v_71_110, v_71_111, v_71_114, v_71_116, v_71_117, v_71_118, v_71_119, v_71_121, v_71_124, v_71_127, v_71_129, v_71_132, v_71_133, v_71_134, v_71_135, v_71_138, v_71_139, v_71_140, v_71_143, v_71_146, v_71_147, v_71_149, h_71_149, v_71_151, v_71_153, v_71_156, v_71_157, v_71_158, v_71_160, v_71_161, v_71_164, v_71_167, v_71_170, v_71_171, v_71_172, v_71_173, v_71_174, v_71_177, v_71_178, v_71_180, h_71_180, v_71_182, v_71_183, v_71_186, v_71_187, v_71_189, v_71_190, v_71_192, h_71_192, v_71_194, v_71_195, v_71_198, v_71_199, v_71_202, v_71_204, v_71_205, v_71_207, v_71_210, v_71_212, v_71_213, v_71_216, v_71_218, v_71_221, v_71_224, v_71_225, v_71_228, v_71_229, v_71_230, v_71_232, v_71_233, v_71_235, h_71_235, v_71_237, v_71_239, v_71_242, v_71_243, v_71_244, v_71_246, v_71_248, v_71_249, v_71_252, v_71_253, v_71_256, v_71_258, v_71_260, v_71_261, v_71_264, v_71_267, v_71_270, v_71_273, v_71_276, v_71_279, v_71_280, v_71_281, v_71_282, v_71_283, v_71_285, v_71_286, v_71_287, v_71_289, v_71_290, v_71_293, v_71_294, v_71_297, v_71_298, v_71_301, v_71_302, v_71_304, h_71_304, v_71_306, v_71_307, v_71_310, v_71_311, v_71_312, v_71_314, v_71_316, v_71_318, v_71_321, v_71_322, v_71_324, v_71_326, v_71_328, v_71_329, v_71_332, v_71_335, v_71_336, v_71_337, v_71_339, v_71_341, v_71_343, v_71_346, v_71_347, v_71_349, v_71_351, v_71_353, v_71_354, v_71_357, v_71_360, v_71_363, v_71_366, v_71_369, v_71_372, vgi_0, vgi_s, vga_0, vga_s, vset_0, vset_s, vtk_0, vtk_s, vrc_0, vsw_0, vsw_s, List.all_cons, List.all_nil, zc1_i, zc1_r, Bool.and_true, Bool.and_self, true_and, and_true, List.length_cons, List.length_nil, Nat.zero_le, Nat.reduceLeDiff, Nat.reduceAdd, Nat.reduceLT, Option.toList_some, List.cons_append, List.nil_append, tg_483]
    refine c_43 (p := 3) (w := 0) (by omega) hs (by omega) (by omega) (by omega) ?_
    simp only [v_71_0, v_71_1, v_71_2, v_71_5, v_71_8, v_71_9, v_71_10, v_71_13, v_71_14, v_71_15, v_71_16, h_71_16, v_71_17, v_71_18, v_71_21, v_71_22, v_71_25, v_71_26, v_71_27, v_71_28, v_71_29, v_71_30, v_71_31, v_71_34, v_71_35, v_71_36, v_71_37, v_71_38, v_71_39, v_71_40, v_71_41, v_71_44, v_71_45, v_71_46, v_71_47, v_71_48, v_71_49, v_71_50, v_71_51, v_71_52, v_71_55, v_71_56, v_71_57, v_71_58, v_71_59, v_71_60, v_71_61, v_71_62, v_71_63, v_71_66, v_71_67, v_71_68, v_71_71, v_71_74, v_71_75, v_71_76, v_71_77, v_71_79, h_71_79, v_71_81, v_71_83, v_71_86, v_71_87, v_71_89, v_71_90, v_71_92, h_71_92, v_71_94, v_71_95, v_71_98, v_71_99, v_71_102, v_71_104, v_71_105, v_71_107, v_71_110, v_71_111, v_71_114, v_71_116, v_71_117, v_71_118, v_71_119, v_71_121, v_71_124, v_71_127, v_71_129, v_71_132, v_71_133, v_71_134, v_71_135, v_71_138, v_71_139, v_71_140, v_71_143, v_71_146, v_71_147, v_71_149, h_71_149, v_71_151, v_71_153, v_71_156, v_71_157, v_71_158, v_71_160, v_71_161, v_71_164, v_71_167, v_71_170, v_71_171, v_71_172, v_71_173, v_71_174, v_71_177, v_71_178, v_71_180, h_71_180, v_71_182, v_71_183, v_71_186, v_71_187, v_71_189, v_71_190, v_71_192, h_71_192, v_71_194, v_71_195, v_71_198, v_71_199, v_71_202, v_71_204, v_71_205, v_71_207, v_71_210, v_71_212, v_71_213, v_71_216, v_71_218, v_71_221, v_71_224, v_71_225, v_71_228, v_71_229, v_71_230, v_71_232, v_71_233, v_71_235, h_71_235, v_71_237, v_71_239, v_71_242, v_71_243, v_71_244, v_71_246, v_71_248, v_71_249, v_71_252, v_71_253, v_71_256, v_71_258, v_71_260, v_71_261, v_71_264, v_71_267, v_71_270, v_71_273, v_71_276, v_71_279, v_71_280, v_71_281, v_71_282, v_71_283, v_71_285, v_71_286, v_71_287, v_71_289, v_71_290, v_71_293, v_71_294, v_71_297, v_71_298, v_71_301, v_71_302, v_71_304, h_71_304, v_71_306, v_71_307, v_71_310, v_71_311, v_71_312, v_71_314, v_71_316, v_71_318, v_71_321, v_71_322, v_71_324, v_71_326, v_71_328, v_71_329, v_71_332, v_71_335, v_71_336, v_71_337, v_71_339, v_71_341, v_71_343, v_71_346, v_71_347, v_71_349, v_71_351, v_71_353, v_71_354, v_71_357, v_71_360, v_71_363, v_71_366, v_71_369, v_71_372, vgi_0, vgi_s, vga_0, vga_s, vset_0, vset_s, vtk_0, vtk_s, vrc_0, vsw_0, vsw_s, List.all_cons, List.all_nil, zc1_i, zc1_r, Bool.and_true, Bool.and_self, true_and, and_true, List.length_cons, List.length_nil, Nat.zero_le, Nat.reduceLeDiff, Nat.reduceAdd, Nat.reduceLT, Option.toList_some, List.cons_append, List.nil_append, tg_483]
    refine c_43 (p := 4) (w := 0) (by omega) hs (by omega) (by omega) (by omega) ?_
    simp only [v_71_0, v_71_1, v_71_2, v_71_5, v_71_8, v_71_9, v_71_10, v_71_13, v_71_14, v_71_15, v_71_16, h_71_16, v_71_17, v_71_18, v_71_21, v_71_22, v_71_25, v_71_26, v_71_27, v_71_28, v_71_29, v_71_30, v_71_31, v_71_34, v_71_35, v_71_36, v_71_37, v_71_38, v_71_39, v_71_40, v_71_41, v_71_44, v_71_45, v_71_46, v_71_47, v_71_48, v_71_49, v_71_50, v_71_51, v_71_52, v_71_55, v_71_56, v_71_57, v_71_58, v_71_59, v_71_60, v_71_61, v_71_62, v_71_63, v_71_66, v_71_67, v_71_68, v_71_71, v_71_74, v_71_75, v_71_76, v_71_77, v_71_79, h_71_79, v_71_81, v_71_83, v_71_86, v_71_87, v_71_89, v_71_90, v_71_92, h_71_92, v_71_94, v_71_95, v_71_98, v_71_99, v_71_102, v_71_104, v_71_105, v_71_107, v_71_110, v_71_111, v_71_114, v_71_116, v_71_117, v_71_118, v_71_119, v_71_121, v_71_124, v_71_127, v_71_129, v_71_132, v_71_133, v_71_134, v_71_135, v_71_138, v_71_139, v_71_140, v_71_143, v_71_146, v_71_147, v_71_149, h_71_149, v_71_151, v_71_153, v_71_156, v_71_157, v_71_158, v_71_160, v_71_161, v_71_164, v_71_167, v_71_170, v_71_171, v_71_172, v_71_173, v_71_174, v_71_177, v_71_178, v_71_180, h_71_180, v_71_182, v_71_183, v_71_186, v_71_187, v_71_189, v_71_190, v_71_192, h_71_192, v_71_194, v_71_195, v_71_198, v_71_199, v_71_202, v_71_204, v_71_205, v_71_207, v_71_210, v_71_212, v_71_213, v_71_216, v_71_218, v_71_221, v_71_224, v_71_225, v_71_228, v_71_229, v_71_230, v_71_232, v_71_233, v_71_235, h_71_235, v_71_237, v_71_239, v_71_242, v_71_243, v_71_244, v_71_246, v_71_248, v_71_249, v_71_252, v_71_253, v_71_256, v_71_258, v_71_260, v_71_261, v_71_264, v_71_267, v_71_270, v_71_273, v_71_276, v_71_279, v_71_280, v_71_281, v_71_282, v_71_283, v_71_285, v_71_286, v_71_287, v_71_289, v_71_290, v_71_293, v_71_294, v_71_297, v_71_298, v_71_301, v_71_302, v_71_304, h_71_304, v_71_306, v_71_307, v_71_310, v_71_311, v_71_312, v_71_314, v_71_316, v_71_318, v_71_321, v_71_322, v_71_324, v_71_326, v_71_328, v_71_329, v_71_332, v_71_335, v_71_336, v_71_337, v_71_339, v_71_341, v_71_343, v_71_346, v_71_347, v_71_349, v_71_351, v_71_353, v_71_354, v_71_357, v_71_360, v_71_363, v_71_366, v_71_369, v_71_372, vgi_0, vgi_s, vga_0, vga_s, vset_0, vset_s, vtk_0, vtk_s, vrc_0, vsw_0, vsw_s, List.all_cons, List.all_nil, zc1_i, zc1_r, Bool.and_true, Bool.and_self, true_and, and_true, List.length_cons, List.length_nil, Nat.zero_le, Nat.reduceLeDiff, Nat.reduceAdd, Nat.reduceLT, Option.toList_some, List.cons_append, List.nil_append, tg_483]
    refine c_43 (p := 5) (w := 0) (by omega) hs (by omega) (by omega) (by omega) ?_
    simp only [v_71_0, v_71_1, v_71_2, v_71_5, v_71_8, v_71_9, v_71_10, v_71_13, v_71_14, v_71_15, v_71_16, h_71_16, v_71_17, v_71_18, v_71_21, v_71_22, v_71_25, v_71_26, v_71_27, v_71_28, v_71_29, v_71_30, v_71_31, v_71_34, v_71_35, v_71_36, v_71_37, v_71_38, v_71_39, v_71_40, v_71_41, v_71_44, v_71_45, v_71_46, v_71_47, v_71_48, v_71_49, v_71_50, v_71_51, v_71_52, v_71_55, v_71_56, v_71_57, v_71_58, v_71_59, v_71_60, v_71_61, v_71_62, v_71_63, v_71_66, v_71_67, v_71_68, v_71_71, v_71_74, v_71_75, v_71_76, v_71_77, v_71_79, h_71_79, v_71_81, v_71_83, v_71_86, v_71_87, v_71_89, v_71_90, v_71_92, h_71_92, v_71_94, v_71_95, v_71_98, v_71_99, v_71_102, v_71_104, v_71_105, v_71_107, v_71_110, v_71_111, v_71_114, v_71_116, v_71_117, v_71_118, v_71_119, v_71_121, v_71_124, v_71_127, v_71_129, v_71_132, v_71_133, v_71_134, v_71_135, v_71_138, v_71_139, v_71_140, v_71_143, v_71_146, v_71_147, v_71_149, h_71_149, v_71_151, v_71_153, v_71_156, v_71_157, v_71_158, v_71_160, v_71_161, v_71_164, v_71_167, v_71_170, v_71_171, v_71_172, v_71_173, v_71_174, v_71_177, v_71_178, v_71_180, h_71_180, v_71_182, v_71_183, v_71_186, v_71_187, v_71_189, v_71_190, v_71_192, h_71_192, v_71_194, v_71_195, v_71_198, v_71_199, v_71_202, v_71_204, v_71_205, v_71_207, v_71_210, v_71_212, v_71_213, v_71_216, v_71_218, v_71_221, v_71_224, v_71_225, v_71_228, v_71_229, v_71_230, v_71_232, v_71_233, v_71_235, h_71_235, v_71_237, v_71_239, v_71_242, v_71_243, v_71_244, v_71_246, v_71_248, v_71_249, v_71_252, v_71_253, v_71_256, v_71_258, v_71_260, v_71_261, v_71_264, v_71_267, v_71_270, v_71_273, v_71_276, v_71_279, v_71_280, v_71_281, v_71_282, v_71_283, v_71_285, v_71_286, v_71_287, v_71_289, v_71_290, v_71_293, v_71_294, v_71_297, v_71_298, v_71_301, v_71_302, v_71_304, h_71_304, v_71_306, v_71_307, v_71_310, v_71_311, v_71_312, v_71_314, v_71_316, v_71_318, v_71_321, v_71_322, v_71_324, v_71_326, v_71_328, v_71_329, v_71_332, v_71_335, v_71_336, v_71_337, v_71_339, v_71_341, v_71_343, v_71_346, v_71_347, v_71_349, v_71_351, v_71_353, v_71_354, v_71_357, v_71_360, v_71_363, v_71_366, v_71_369, v_71_372, vgi_0, vgi_s, vga_0, vga_s, vset_0, vset_s, vtk_0, vtk_s, vrc_0, vsw_0, vsw_s, List.all_cons, List.all_nil, zc1_i, zc1_r, Bool.and_true, Bool.and_self, true_and, and_true, List.length_cons, List.length_nil, Nat.zero_le, Nat.reduceLeDiff, Nat.reduceAdd, Nat.reduceLT, Option.toList_some, List.cons_append, List.nil_append, tg_483, tg_514, ln_514]
    simp (disch := omega) only [nI_clamp, vinb_n]
    refine ⟨by omega, ?_⟩
    rw [nI_1, hm']
    refine ih (u + 1) _ (by omega) (hO.tr (tO.si (by simp))) (fun v hv => ?_)
    by_cases e : v = u
    · rw [e, tsi_eq, sg_cel (by omega), sg_cel (by omega), sg_cel (by omega), sg_cel (by omega), cel1 (by omega) (by omega), cel1 (by omega) (by omega), cel1 (by omega) (by omega), cel1 (by omega) (by omega)]
      rw [← nm_3 hf (by omega)]
      rw [show 2 + 5 * u + 2 = 4 + 5 * u by omega, show 2 + 5 * u + 3 = 5 + 5 * u by omega, show 2 + 5 * u + 4 = 6 + 5 * u by omega, show 2 + 5 * u + 5 = 7 + 5 * u by omega]
    · rw [tsi_ne (by omega)]
      exact hI v (by omega)
theorem l_71c {v : Nat} (hn : n ≤ 6) (hv : v < 81) (hnm : ∀ x, x < n → nm f x < 81 ∧ t.1 514 x = nI (nm f x)) {j7 : Value} (h : ∀ (t' : T) (j5 j6 : Value), tO [515] t t' → (∀ x, x < n → nm f x < v + 1 → t'.1 515 x = nI (PL f n x)) → twp none d 71 79 [.ref 483, .int (nI s), .int (nI n), .int (nI (plc (prs f n) (v + 1))), .int (nI (v + 1)), j5, j6, j7] [] t' F) : ∀ (j u : Nat) (t' : T) (so : Int32), u + j = n → tO [515] t t' → (∀ x, x < n → nm f x < v → t'.1 515 x = nI (PL f n x)) → (∀ x, x < u → nm f x = v → t'.1 515 x = nI (PL f n x)) → ((so = 1 ∧ ∃ x, x < u ∧ nm f x = v) ∨ (so = 0 ∧ ∀ x, x < u → nm f x ≠ v)) → twp none d 71 92 [.ref 483, .int (nI s), .int (nI n), .int (nI (plc (prs f n) v)), .int (nI v), .int so, .int (nI u), j7] [] t' F := by
  intro j
  induction j with
  | zero =>
    intro u t' so hu hO hI1 hI2 hso
    have hu : u = n := by omega
    subst hu
    have hI3 : ∀ x, x < u → nm f x < v + 1 → t'.1 515 x = nI (PL f u x) := fun x hx hl => by
      by_cases e : nm f x = v
      · exact hI2 x hx e
      · exact hI1 x hx (by omega)
    refine vc_ok none zH_71 150 false _ 71 92 _ _ _ _ ?_
    simp only [v_71_0, v_71_1, v_71_2, v_71_5, v_71_8, v_71_9, v_71_10, v_71_13, v_71_14, v_71_15, v_71_16, h_71_16, v_71_17, v_71_18, v_71_21, v_71_22, v_71_25, v_71_26, v_71_27, v_71_28, v_71_29, v_71_30, v_71_31, v_71_34, v_71_35, v_71_36, v_71_37, v_71_38, v_71_39, v_71_40, v_71_41, v_71_44, v_71_45, v_71_46, v_71_47, v_71_48, v_71_49, v_71_50, v_71_51, v_71_52, v_71_55, v_71_56, v_71_57, v_71_58, v_71_59, v_71_60, v_71_61, v_71_62, v_71_63, v_71_66, v_71_67, v_71_68, v_71_71, v_71_74, v_71_75, v_71_76, v_71_77, v_71_79, h_71_79, v_71_81, v_71_83, v_71_86, v_71_87, v_71_89, v_71_90, v_71_92, h_71_92, v_71_94, v_71_95, v_71_98, v_71_99, v_71_102, v_71_104, v_71_105, v_71_107, v_71_110, v_71_111, v_71_114, v_71_116, v_71_117, v_71_118, v_71_119, v_71_121, v_71_124, v_71_127, v_71_129, v_71_132, v_71_133, v_71_134, v_71_135, v_71_138, v_71_139, v_71_140, v_71_143, v_71_146, v_71_147, v_71_149, h_71_149, v_71_151, v_71_153, v_71_156, v_71_157, v_71_158, v_71_160, v_71_161, v_71_164, v_71_167, v_71_170, v_71_171, v_71_172, v_71_173, v_71_174, v_71_177, v_71_178, v_71_180, h_71_180, v_71_182, v_71_183, v_71_186, v_71_187, v_71_189, v_71_190, v_71_192, h_71_192, v_71_194, v_71_195, v_71_198, v_71_199, v_71_202, v_71_204, v_71_205, v_71_207, v_71_210, v_71_212, v_71_213, v_71_216, v_71_218, v_71_221, v_71_224, v_71_225, v_71_228, v_71_229, v_71_230, v_71_232, v_71_233, v_71_235, h_71_235, v_71_237, v_71_239, v_71_242, v_71_243, v_71_244, v_71_246, v_71_248, v_71_249, v_71_252, v_71_253, v_71_256, v_71_258, v_71_260, v_71_261, v_71_264, v_71_267, v_71_270, v_71_273, v_71_276, v_71_279, v_71_280, v_71_281, v_71_282, v_71_283, v_71_285, v_71_286, v_71_287, v_71_289, v_71_290, v_71_293, v_71_294, v_71_297, v_71_298, v_71_301, v_71_302, v_71_304, h_71_304, v_71_306, v_71_307, v_71_310, v_71_311, v_71_312, v_71_314, v_71_316, v_71_318, v_71_321, v_71_322, v_71_324, v_71_326, v_71_328, v_71_329, v_71_332, v_71_335, v_71_336, v_71_337, v_71_339, v_71_341, v_71_343, v_71_346, v_71_347, v_71_349, v_71_351, v_71_353, v_71_354, v_71_357, v_71_360, v_71_363, v_71_366, v_71_369, v_71_372, vgi_0, vgi_s, vga_0, vga_s, vset_0, vset_s, vtk_0, vtk_s, vrc_0, vsw_0, vsw_s, List.all_cons, List.all_nil, zc1_i, zc1_r, Bool.and_true, Bool.and_self, true_and, and_true, List.length_cons, List.length_nil, Nat.zero_le, Nat.reduceLeDiff, Nat.reduceAdd, Nat.reduceLT]
    simp (disch := omega) only [nI_ltI, Nat.lt_irrefl, if_false]
    rw [nI_1, nI_1]
    rcases hso with ⟨rfl, hx⟩ | ⟨rfl, hx⟩
    · rw [if_neg (by decide)]
      have := h t' (.int 1) (.int (nI u)) hO hI3
      rw [plc_t (show prs f u v from hx)] at this
      exact this
    · rw [if_pos rfl]
      have := h t' (.int 0) (.int (nI u)) hO hI3
      rw [plc_f (fun q => by obtain ⟨x, h1, h2⟩ := q; exact hx x h1 h2 : ¬ prs f u v)] at this
      exact this
  | succ j ih =>
    intro u t' so hu hO hI1 hI2 hso
    have hx := hnm u (by omega)
    have hx2 : t'.1 514 u = nI (nm f u) := by rw [hO.2 514 (by decide)]; exact hx.2
    have hx1 := hx.1
    refine vc_ok none zH_71 150 false _ 71 92 _ _ _ _ ?_
    simp only [v_71_0, v_71_1, v_71_2, v_71_5, v_71_8, v_71_9, v_71_10, v_71_13, v_71_14, v_71_15, v_71_16, h_71_16, v_71_17, v_71_18, v_71_21, v_71_22, v_71_25, v_71_26, v_71_27, v_71_28, v_71_29, v_71_30, v_71_31, v_71_34, v_71_35, v_71_36, v_71_37, v_71_38, v_71_39, v_71_40, v_71_41, v_71_44, v_71_45, v_71_46, v_71_47, v_71_48, v_71_49, v_71_50, v_71_51, v_71_52, v_71_55, v_71_56, v_71_57, v_71_58, v_71_59, v_71_60, v_71_61, v_71_62, v_71_63, v_71_66, v_71_67, v_71_68, v_71_71, v_71_74, v_71_75, v_71_76, v_71_77, v_71_79, h_71_79, v_71_81, v_71_83, v_71_86, v_71_87, v_71_89, v_71_90, v_71_92, h_71_92, v_71_94, v_71_95, v_71_98, v_71_99, v_71_102, v_71_104, v_71_105, v_71_107, v_71_110, v_71_111, v_71_114, v_71_116, v_71_117, v_71_118, v_71_119, v_71_121, v_71_124, v_71_127, v_71_129, v_71_132, v_71_133, v_71_134, v_71_135, v_71_138, v_71_139, v_71_140, v_71_143, v_71_146, v_71_147, v_71_149, h_71_149, v_71_151, v_71_153, v_71_156, v_71_157, v_71_158, v_71_160, v_71_161, v_71_164, v_71_167, v_71_170, v_71_171, v_71_172, v_71_173, v_71_174, v_71_177, v_71_178, v_71_180, h_71_180, v_71_182, v_71_183, v_71_186, v_71_187, v_71_189, v_71_190, v_71_192, h_71_192, v_71_194, v_71_195, v_71_198, v_71_199, v_71_202, v_71_204, v_71_205, v_71_207, v_71_210, v_71_212, v_71_213, v_71_216, v_71_218, v_71_221, v_71_224, v_71_225, v_71_228, v_71_229, v_71_230, v_71_232, v_71_233, v_71_235, h_71_235, v_71_237, v_71_239, v_71_242, v_71_243, v_71_244, v_71_246, v_71_248, v_71_249, v_71_252, v_71_253, v_71_256, v_71_258, v_71_260, v_71_261, v_71_264, v_71_267, v_71_270, v_71_273, v_71_276, v_71_279, v_71_280, v_71_281, v_71_282, v_71_283, v_71_285, v_71_286, v_71_287, v_71_289, v_71_290, v_71_293, v_71_294, v_71_297, v_71_298, v_71_301, v_71_302, v_71_304, h_71_304, v_71_306, v_71_307, v_71_310, v_71_311, v_71_312, v_71_314, v_71_316, v_71_318, v_71_321, v_71_322, v_71_324, v_71_326, v_71_328, v_71_329, v_71_332, v_71_335, v_71_336, v_71_337, v_71_339, v_71_341, v_71_343, v_71_346, v_71_347, v_71_349, v_71_351, v_71_353, v_71_354, v_71_357, v_71_360, v_71_363, v_71_366, v_71_369, v_71_372, vgi_0, vgi_s, vga_0, vga_s, vset_0, vset_s, vtk_0, vtk_s, vrc_0, vsw_0, vsw_s, List.all_cons, List.all_nil, zc1_i, zc1_r, Bool.and_true, Bool.and_self, true_and, and_true, List.length_cons, List.length_nil, Nat.zero_le, Nat.reduceLeDiff, Nat.reduceAdd, Nat.reduceLT, tg_483, tf_483_35, tg_514, ln_514, tf_483_36, tg_515, ln_515]
    simp (disch := omega) only [nI_ltI, nI_clamp, vinb_n, hx2]
    rw [if_pos (by omega)]
    simp (disch := omega) only [nI_eq]
    refine ⟨by omega, ?_⟩
    by_cases z : nm f u = v
    · rw [if_pos z]
      refine ⟨by omega, ?_⟩
      rw [nI_1]
      refine ih (u + 1) _ 1 (by omega) (hO.tr (tO.si (by simp))) (fun x hx hl => ?_) (fun x hx hl => ?_) (Or.inl ⟨rfl, u, by omega, z⟩)
      · rw [tsi_ne (by rintro ⟨-, rfl⟩; omega)]
        exact hI1 x hx hl
      · by_cases e : x = u
        · rw [e, tsi_eq]
          unfold PL
          rw [z]
        · rw [tsi_ne (by omega)]
          exact hI2 x (by omega) hl
    · rw [if_neg z, nI_1]
      refine ih (u + 1) t' so (by omega) hO hI1 (fun x hx hl => hI2 x ?_ hl) ?_
      · have : x ≠ u := by rintro rfl; exact z hl
        omega
      · rcases hso with ⟨h1, x, h2, h3⟩ | ⟨h1, h2⟩
        · exact Or.inl ⟨h1, x, by omega, h3⟩
        · refine Or.inr ⟨h1, fun x hx => ?_⟩
          by_cases e : x = u
          · rw [e]; exact z
          · exact h2 x (by omega)
theorem l_71b (hf : wfS f) (hn : n ≤ 6) (hnm : ∀ x, x < n → t.1 514 x = nI (nm f x)) {j7 : Value} (h : ∀ (t' : T) (j5 j6 : Value), tO [515] t t' → (∀ x, x < n → t'.1 515 x = nI (PL f n x)) → twp none d 71 149 [.ref 483, .int (nI s), .int (nI n), .int (nI (GR f n)), .int (nI 3), j5, j6, j7] [] t' F) : ∀ (j v : Nat) (t' : T) (j5 j6 : Value), v + j = 81 → tO [515] t t' → (∀ x, x < n → nm f x < v → t'.1 515 x = nI (PL f n x)) → twp none d 71 79 [.ref 483, .int (nI s), .int (nI n), .int (nI (plc (prs f n) v)), .int (nI v), j5, j6, j7] [] t' F := by
  intro j
  induction j with
  | zero =>
    intro v t' j5 j6 hv hO hI
    have hv : v = 81 := by omega
    subst hv
    refine vc_ok none zH_71 150 false _ 71 79 _ _ _ _ ?_
    simp only [v_71_0, v_71_1, v_71_2, v_71_5, v_71_8, v_71_9, v_71_10, v_71_13, v_71_14, v_71_15, v_71_16, h_71_16, v_71_17, v_71_18, v_71_21, v_71_22, v_71_25, v_71_26, v_71_27, v_71_28, v_71_29, v_71_30, v_71_31, v_71_34, v_71_35, v_71_36, v_71_37, v_71_38, v_71_39, v_71_40, v_71_41, v_71_44, v_71_45, v_71_46, v_71_47, v_71_48, v_71_49, v_71_50, v_71_51, v_71_52, v_71_55, v_71_56, v_71_57, v_71_58, v_71_59, v_71_60, v_71_61, v_71_62, v_71_63, v_71_66, v_71_67, v_71_68, v_71_71, v_71_74, v_71_75, v_71_76, v_71_77, v_71_79, h_71_79, v_71_81, v_71_83, v_71_86, v_71_87, v_71_89, v_71_90, v_71_92, h_71_92, v_71_94, v_71_95, v_71_98, v_71_99, v_71_102, v_71_104, v_71_105, v_71_107, v_71_110, v_71_111, v_71_114, v_71_116, v_71_117, v_71_118, v_71_119, v_71_121, v_71_124, v_71_127, v_71_129, v_71_132, v_71_133, v_71_134, v_71_135, v_71_138, v_71_139, v_71_140, v_71_143, v_71_146, v_71_147, v_71_149, h_71_149, v_71_151, v_71_153, v_71_156, v_71_157, v_71_158, v_71_160, v_71_161, v_71_164, v_71_167, v_71_170, v_71_171, v_71_172, v_71_173, v_71_174, v_71_177, v_71_178, v_71_180, h_71_180, v_71_182, v_71_183, v_71_186, v_71_187, v_71_189, v_71_190, v_71_192, h_71_192, v_71_194, v_71_195, v_71_198, v_71_199, v_71_202, v_71_204, v_71_205, v_71_207, v_71_210, v_71_212, v_71_213, v_71_216, v_71_218, v_71_221, v_71_224, v_71_225, v_71_228, v_71_229, v_71_230, v_71_232, v_71_233, v_71_235, h_71_235, v_71_237, v_71_239, v_71_242, v_71_243, v_71_244, v_71_246, v_71_248, v_71_249, v_71_252, v_71_253, v_71_256, v_71_258, v_71_260, v_71_261, v_71_264, v_71_267, v_71_270, v_71_273, v_71_276, v_71_279, v_71_280, v_71_281, v_71_282, v_71_283, v_71_285, v_71_286, v_71_287, v_71_289, v_71_290, v_71_293, v_71_294, v_71_297, v_71_298, v_71_301, v_71_302, v_71_304, h_71_304, v_71_306, v_71_307, v_71_310, v_71_311, v_71_312, v_71_314, v_71_316, v_71_318, v_71_321, v_71_322, v_71_324, v_71_326, v_71_328, v_71_329, v_71_332, v_71_335, v_71_336, v_71_337, v_71_339, v_71_341, v_71_343, v_71_346, v_71_347, v_71_349, v_71_351, v_71_353, v_71_354, v_71_357, v_71_360, v_71_363, v_71_366, v_71_369, v_71_372, vgi_0, vgi_s, vga_0, vga_s, vset_0, vset_s, vtk_0, vtk_s, vrc_0, vsw_0, vsw_s, List.all_cons, List.all_nil, zc1_i, zc1_r, Bool.and_true, Bool.and_self, true_and, and_true, List.length_cons, List.length_nil, Nat.zero_le, Nat.reduceLeDiff, Nat.reduceAdd, Nat.reduceLT]
    rw [if_neg (by decide)]
    exact h t' j5 j6 hO (fun x hx => hI x hx (nm_lt hf (by omega)))
  | succ j ih =>
    intro v t' j5 j6 hv hO hI
    refine vc_ok none zH_71 150 false _ 71 79 _ _ _ _ ?_
    simp only [v_71_0, v_71_1, v_71_2, v_71_5, v_71_8, v_71_9, v_71_10, v_71_13, v_71_14, v_71_15, v_71_16, h_71_16, v_71_17, v_71_18, v_71_21, v_71_22, v_71_25, v_71_26, v_71_27, v_71_28, v_71_29, v_71_30, v_71_31, v_71_34, v_71_35, v_71_36, v_71_37, v_71_38, v_71_39, v_71_40, v_71_41, v_71_44, v_71_45, v_71_46, v_71_47, v_71_48, v_71_49, v_71_50, v_71_51, v_71_52, v_71_55, v_71_56, v_71_57, v_71_58, v_71_59, v_71_60, v_71_61, v_71_62, v_71_63, v_71_66, v_71_67, v_71_68, v_71_71, v_71_74, v_71_75, v_71_76, v_71_77, v_71_79, h_71_79, v_71_81, v_71_83, v_71_86, v_71_87, v_71_89, v_71_90, v_71_92, h_71_92, v_71_94, v_71_95, v_71_98, v_71_99, v_71_102, v_71_104, v_71_105, v_71_107, v_71_110, v_71_111, v_71_114, v_71_116, v_71_117, v_71_118, v_71_119, v_71_121, v_71_124, v_71_127, v_71_129, v_71_132, v_71_133, v_71_134, v_71_135, v_71_138, v_71_139, v_71_140, v_71_143, v_71_146, v_71_147, v_71_149, h_71_149, v_71_151, v_71_153, v_71_156, v_71_157, v_71_158, v_71_160, v_71_161, v_71_164, v_71_167, v_71_170, v_71_171, v_71_172, v_71_173, v_71_174, v_71_177, v_71_178, v_71_180, h_71_180, v_71_182, v_71_183, v_71_186, v_71_187, v_71_189, v_71_190, v_71_192, h_71_192, v_71_194, v_71_195, v_71_198, v_71_199, v_71_202, v_71_204, v_71_205, v_71_207, v_71_210, v_71_212, v_71_213, v_71_216, v_71_218, v_71_221, v_71_224, v_71_225, v_71_228, v_71_229, v_71_230, v_71_232, v_71_233, v_71_235, h_71_235, v_71_237, v_71_239, v_71_242, v_71_243, v_71_244, v_71_246, v_71_248, v_71_249, v_71_252, v_71_253, v_71_256, v_71_258, v_71_260, v_71_261, v_71_264, v_71_267, v_71_270, v_71_273, v_71_276, v_71_279, v_71_280, v_71_281, v_71_282, v_71_283, v_71_285, v_71_286, v_71_287, v_71_289, v_71_290, v_71_293, v_71_294, v_71_297, v_71_298, v_71_301, v_71_302, v_71_304, h_71_304, v_71_306, v_71_307, v_71_310, v_71_311, v_71_312, v_71_314, v_71_316, v_71_318, v_71_321, v_71_322, v_71_324, v_71_326, v_71_328, v_71_329, v_71_332, v_71_335, v_71_336, v_71_337, v_71_339, v_71_341, v_71_343, v_71_346, v_71_347, v_71_349, v_71_351, v_71_353, v_71_354, v_71_357, v_71_360, v_71_363, v_71_366, v_71_369, v_71_372, vgi_0, vgi_s, vga_0, vga_s, vset_0, vset_s, vtk_0, vtk_s, vrc_0, vsw_0, vsw_s, List.all_cons, List.all_nil, zc1_i, zc1_r, Bool.and_true, Bool.and_self, true_and, and_true, List.length_cons, List.length_nil, Nat.zero_le, Nat.reduceLeDiff, Nat.reduceAdd, Nat.reduceLT]
    rw [li81, if_pos (nI_lt (by omega) (by omega))]
    exact l_71c hn (by omega) (fun x hx => ⟨nm_lt hf (by omega), by rw [hO.2 514 (by decide)]; exact hnm x hx⟩) (fun t2 k5 k6 o2 hI2 => ih (v + 1) t2 k5 k6 (by omega) (hO.tr o2) hI2) n 0 t' 0 (by omega) tO.rf hI (fun x hx => by omega) (Or.inr ⟨rfl, fun x hx => by omega⟩)
end MB2
