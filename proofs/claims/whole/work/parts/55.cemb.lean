/-! The program embeds. -/
section CE
variable {d a b : Nat} {t : T} {F : Option Value → T → Prop} {f g : St} {n m : Nat} {h : Nat → Nat}
def emP (t : T) (a b : Nat) (f g : St) : Prop := t.2 149 2 = a ∧ t.2 149 3 = b ∧ vtag a = 4 ∧ vtag b = 4 ∧ cS t a = f ∧ cS t b = g
theorem c_120 {p u w x y : Nat} (hd : 3 ≤ d) (he : emP t a b f g) (hp : p < 9) (hu : u < 6) (hw : w < 6) (hx : x < 6) (hy : y < 6) (k1 : cvd (sg f p u w) (sg g p x y) → F (some (.int 1)) t) (k0 : ¬ cvd (sg f p u w) (sg g p x y) → F (some (.int 0)) t) : twc d 120 [.ref 149, .int (nI p), .int (nI u), .int (nI w), .int (nI x), .int (nI y)] t F := by
  obtain ⟨ea, eb, ta, tb, ef, eg⟩ := he
  refine ⟨by omega, ?_⟩
  rw [ze_120]
  refine vc_ok none zH_120 32 false _ 120 0 _ _ _ _ ?_
  simp only [v_120_0, v_120_1, v_120_4, v_120_5, v_120_7, v_120_9, v_120_12, v_120_14, v_120_16, v_120_17, v_120_20, v_120_22, v_120_23, v_120_26, v_120_27, v_120_28, v_120_29, v_120_32, v_120_35, v_120_36, v_120_39, v_120_40, vgi_0, vgi_s, vga_0, vga_s, vset_0, vset_s, vtk_0, vtk_s, vrc_0, vsw_0, vsw_s, List.all_cons, List.all_nil, zc1_i, zc1_r, Bool.and_true, Bool.and_self, true_and, and_true, List.length_cons, List.length_nil, Nat.zero_le, Nat.reduceLeDiff, Nat.reduceAdd, Nat.reduceLT, tg_149, tf_149_3, eb, tb]
  refine c_162 (by omega) tb hp hx hy ?_
  simp only [v_120_0, v_120_1, v_120_4, v_120_5, v_120_7, v_120_9, v_120_12, v_120_14, v_120_16, v_120_17, v_120_20, v_120_22, v_120_23, v_120_26, v_120_27, v_120_28, v_120_29, v_120_32, v_120_35, v_120_36, v_120_39, v_120_40, vgi_0, vgi_s, vga_0, vga_s, vset_0, vset_s, vtk_0, vtk_s, vrc_0, vsw_0, vsw_s, List.all_cons, List.all_nil, zc1_i, zc1_r, Bool.and_true, Bool.and_self, true_and, and_true, List.length_cons, List.length_nil, Nat.zero_le, Nat.reduceLeDiff, Nat.reduceAdd, Nat.reduceLT, Option.toList_some, List.cons_append, List.nil_append, tg_149, tf_149_2, ea, ta]
  rw [eg]
  by_cases z : sg g p x y = 2
  · rw [if_pos z]
    exact ⟨Or.inr trivial, k1 (Or.inr z)⟩
  · rw [if_neg z]
    refine c_162 (by omega) ta hp hu hw ?_
    simp only [v_120_0, v_120_1, v_120_4, v_120_5, v_120_7, v_120_9, v_120_12, v_120_14, v_120_16, v_120_17, v_120_20, v_120_22, v_120_23, v_120_26, v_120_27, v_120_28, v_120_29, v_120_32, v_120_35, v_120_36, v_120_39, v_120_40, vgi_0, vgi_s, vga_0, vga_s, vset_0, vset_s, vtk_0, vtk_s, vrc_0, vsw_0, vsw_s, List.all_cons, List.all_nil, zc1_i, zc1_r, Bool.and_true, Bool.and_self, true_and, and_true, List.length_cons, List.length_nil, Nat.zero_le, Nat.reduceLeDiff, Nat.reduceAdd, Nat.reduceLT, Option.toList_some, List.cons_append, List.nil_append]
    rw [ef]
    by_cases y : sg g p x y = sg f p u w
    · rw [if_pos y]
      exact ⟨Or.inr trivial, k1 (Or.inl y.symm)⟩
    · rw [if_neg y]
      exact ⟨Or.inl trivial, k0 (by
        rintro (q | q)
        · exact y q.symm
        · exact z q)⟩
theorem c_119 {u v : Nat} (hd : 4 ≤ d) (he : emP t a b f g) (hu : u < 6) (hv : v < 6) (iu : t.1 150 u = nI (h u) ∧ h u < 6) (iv : t.1 150 v = nI (h v) ∧ h v < 6) (k1 : (∀ p, 6 ≤ p → p < 8 → cvd (sg f p u v) (sg g p (h u) (h v))) → F (some (.int 1)) t) (k0 : ¬ (∀ p, 6 ≤ p → p < 8 → cvd (sg f p u v) (sg g p (h u) (h v))) → F (some (.int 0)) t) : twc d 119 [.ref 149, .int (nI u), .int (nI v)] t F := by
  have iu2 := iu.2
  have iv2 := iv.2
  refine ⟨by omega, ?_⟩
  rw [ze_119]
  refine vc_ok none zH_119 42 false _ 119 0 _ _ _ _ ?_
  simp only [v_119_0, v_119_1, v_119_3, v_119_4, v_119_5, v_119_6, v_119_9, v_119_10, v_119_11, v_119_12, v_119_15, v_119_16, v_119_17, v_119_20, v_119_23, v_119_24, v_119_26, v_119_27, v_119_28, v_119_29, v_119_32, v_119_33, v_119_34, v_119_35, v_119_38, v_119_39, v_119_40, v_119_43, v_119_46, v_119_47, v_119_50, v_119_51, vgi_0, vgi_s, vga_0, vga_s, vset_0, vset_s, vtk_0, vtk_s, vrc_0, vsw_0, vsw_s, List.all_cons, List.all_nil, zc1_i, zc1_r, Bool.and_true, Bool.and_self, true_and, and_true, List.length_cons, List.length_nil, Nat.zero_le, Nat.reduceLeDiff, Nat.reduceAdd, Nat.reduceLT, tg_149, tf_149_0, tg_150, ln_150]
  simp (disch := omega) only [nI_clamp, vinb_n, iu.1, iv.1]
  refine ⟨by omega, by omega, ?_⟩
  refine c_120 (p := 6) (by omega) he (by omega) hu hv iu2 iv2 (fun q => ?_) (fun q => ?_)
  · simp only [v_119_0, v_119_1, v_119_3, v_119_4, v_119_5, v_119_6, v_119_9, v_119_10, v_119_11, v_119_12, v_119_15, v_119_16, v_119_17, v_119_20, v_119_23, v_119_24, v_119_26, v_119_27, v_119_28, v_119_29, v_119_32, v_119_33, v_119_34, v_119_35, v_119_38, v_119_39, v_119_40, v_119_43, v_119_46, v_119_47, v_119_50, v_119_51, vgi_0, vgi_s, vga_0, vga_s, vset_0, vset_s, vtk_0, vtk_s, vrc_0, vsw_0, vsw_s, List.all_cons, List.all_nil, zc1_i, zc1_r, Bool.and_true, Bool.and_self, true_and, and_true, List.length_cons, List.length_nil, Nat.zero_le, Nat.reduceLeDiff, Nat.reduceAdd, Nat.reduceLT, Option.toList_some, List.cons_append, List.nil_append, tg_149, tf_149_0, tg_150, ln_150]
    simp (disch := omega) only [nI_clamp, vinb_n, iu.1, iv.1]
    rw [if_neg (by decide)]
    refine ⟨by omega, by omega, ?_⟩
    refine c_120 (p := 7) (by omega) he (by omega) hu hv iu2 iv2 (fun q2 => ?_) (fun q2 => ?_)
    · simp only [v_119_0, v_119_1, v_119_3, v_119_4, v_119_5, v_119_6, v_119_9, v_119_10, v_119_11, v_119_12, v_119_15, v_119_16, v_119_17, v_119_20, v_119_23, v_119_24, v_119_26, v_119_27, v_119_28, v_119_29, v_119_32, v_119_33, v_119_34, v_119_35, v_119_38, v_119_39, v_119_40, v_119_43, v_119_46, v_119_47, v_119_50, v_119_51, vgi_0, vgi_s, vga_0, vga_s, vset_0, vset_s, vtk_0, vtk_s, vrc_0, vsw_0, vsw_s, List.all_cons, List.all_nil, zc1_i, zc1_r, Bool.and_true, Bool.and_self, true_and, and_true, List.length_cons, List.length_nil, Nat.zero_le, Nat.reduceLeDiff, Nat.reduceAdd, Nat.reduceLT, Option.toList_some, List.cons_append, List.nil_append]
      rw [if_neg (by decide)]
      refine ⟨Or.inr trivial, k1 (fun p h1 h2 => ?_)⟩
      have : p = 6 ∨ p = 7 := by omega
      rcases this with rfl | rfl
      · exact q
      · exact q2
    · simp only [v_119_0, v_119_1, v_119_3, v_119_4, v_119_5, v_119_6, v_119_9, v_119_10, v_119_11, v_119_12, v_119_15, v_119_16, v_119_17, v_119_20, v_119_23, v_119_24, v_119_26, v_119_27, v_119_28, v_119_29, v_119_32, v_119_33, v_119_34, v_119_35, v_119_38, v_119_39, v_119_40, v_119_43, v_119_46, v_119_47, v_119_50, v_119_51, vgi_0, vgi_s, vga_0, vga_s, vset_0, vset_s, vtk_0, vtk_s, vrc_0, vsw_0, vsw_s, List.all_cons, List.all_nil, zc1_i, zc1_r, Bool.and_true, Bool.and_self, true_and, and_true, List.length_cons, List.length_nil, Nat.zero_le, Nat.reduceLeDiff, Nat.reduceAdd, Nat.reduceLT, Option.toList_some, List.cons_append, List.nil_append]
      rw [if_pos trivial]
      exact ⟨Or.inl trivial, k0 (fun z => q2 (z 7 (by omega) (by omega)))⟩
  · simp only [v_119_0, v_119_1, v_119_3, v_119_4, v_119_5, v_119_6, v_119_9, v_119_10, v_119_11, v_119_12, v_119_15, v_119_16, v_119_17, v_119_20, v_119_23, v_119_24, v_119_26, v_119_27, v_119_28, v_119_29, v_119_32, v_119_33, v_119_34, v_119_35, v_119_38, v_119_39, v_119_40, v_119_43, v_119_46, v_119_47, v_119_50, v_119_51, vgi_0, vgi_s, vga_0, vga_s, vset_0, vset_s, vtk_0, vtk_s, vrc_0, vsw_0, vsw_s, List.all_cons, List.all_nil, zc1_i, zc1_r, Bool.and_true, Bool.and_self, true_and, and_true, List.length_cons, List.length_nil, Nat.zero_le, Nat.reduceLeDiff, Nat.reduceAdd, Nat.reduceLT, Option.toList_some, List.cons_append, List.nil_append]
    rw [if_pos trivial]
    exact ⟨Or.inl trivial, k0 (fun z => q (z 6 (by omega) (by omega)))⟩
theorem l_118b {u : Nat} (hd : 4 ≤ d) (he : emP t a b f g) (hu : u < 6) (hi : ∀ w, w ≤ u → t.1 150 w = nI (h w) ∧ h w < 6) (k1 : (∀ w, w ≤ u → ∀ p, 6 ≤ p → p < 8 → eP f g h u w p) → F (some (.int 1)) t) (k0 : ¬ (∀ w, w ≤ u → ∀ p, 6 ≤ p → p < 8 → eP f g h u w p) → F (some (.int 0)) t) : ∀ (j w : Nat), w + j = u + 1 → (∀ w', w' < w → ∀ p, 6 ≤ p → p < 8 → eP f g h u w' p) → twp none d 118 63 [.ref 149, .int (nI u), .int (nI (h u)), .int (nI w)] [] t F := by
  intro j
  induction j with
  | zero =>
    intro w hw hI
    refine vc_ok none zH_118 65 false _ 118 63 _ _ _ _ ?_
    simp only [v_118_0, v_118_1, v_118_4, v_118_5, v_118_6, v_118_9, v_118_10, v_118_13, v_118_14, v_118_17, v_118_20, v_118_21, v_118_24, v_118_25, v_118_28, v_118_31, v_118_32, v_118_33, v_118_34, v_118_35, h_118_35, v_118_36, v_118_38, v_118_41, v_118_42, v_118_43, v_118_44, v_118_45, v_118_46, v_118_47, v_118_50, v_118_53, v_118_54, v_118_55, v_118_58, v_118_61, v_118_62, v_118_63, h_118_63, v_118_64, v_118_65, v_118_68, v_118_69, v_118_70, v_118_71, v_118_74, v_118_77, v_118_78, v_118_79, v_118_80, v_118_83, v_118_86, v_118_87, v_118_88, v_118_91, v_118_94, v_118_95, vgi_0, vgi_s, vga_0, vga_s, vset_0, vset_s, vtk_0, vtk_s, vrc_0, vsw_0, vsw_s, List.all_cons, List.all_nil, zc1_i, zc1_r, Bool.and_true, Bool.and_self, true_and, and_true, List.length_cons, List.length_nil, Nat.zero_le, Nat.reduceLeDiff, Nat.reduceAdd, Nat.reduceLT]
    simp (disch := omega) only [nI_ltI]
    rw [if_pos (by omega)]
    exact ⟨Or.inr trivial, k1 (fun w' hw' => hI w' (by omega))⟩
  | succ j ih =>
    intro w hw hI
    refine vc_ok none zH_118 65 false _ 118 63 _ _ _ _ ?_
    simp only [v_118_0, v_118_1, v_118_4, v_118_5, v_118_6, v_118_9, v_118_10, v_118_13, v_118_14, v_118_17, v_118_20, v_118_21, v_118_24, v_118_25, v_118_28, v_118_31, v_118_32, v_118_33, v_118_34, v_118_35, h_118_35, v_118_36, v_118_38, v_118_41, v_118_42, v_118_43, v_118_44, v_118_45, v_118_46, v_118_47, v_118_50, v_118_53, v_118_54, v_118_55, v_118_58, v_118_61, v_118_62, v_118_63, h_118_63, v_118_64, v_118_65, v_118_68, v_118_69, v_118_70, v_118_71, v_118_74, v_118_77, v_118_78, v_118_79, v_118_80, v_118_83, v_118_86, v_118_87, v_118_88, v_118_91, v_118_94, v_118_95, vgi_0, vgi_s, vga_0, vga_s, vset_0, vset_s, vtk_0, vtk_s, vrc_0, vsw_0, vsw_s, List.all_cons, List.all_nil, zc1_i, zc1_r, Bool.and_true, Bool.and_self, true_and, and_true, List.length_cons, List.length_nil, Nat.zero_le, Nat.reduceLeDiff, Nat.reduceAdd, Nat.reduceLT, tg_149]
    simp (disch := omega) only [nI_ltI]
    rw [if_neg (by omega)]
    refine c_119 (by omega) he hu (by omega) (hi u (by omega)) (hi w (by omega)) (fun q1 => ?_) (fun q1 => ?_)
    · simp only [v_118_0, v_118_1, v_118_4, v_118_5, v_118_6, v_118_9, v_118_10, v_118_13, v_118_14, v_118_17, v_118_20, v_118_21, v_118_24, v_118_25, v_118_28, v_118_31, v_118_32, v_118_33, v_118_34, v_118_35, h_118_35, v_118_36, v_118_38, v_118_41, v_118_42, v_118_43, v_118_44, v_118_45, v_118_46, v_118_47, v_118_50, v_118_53, v_118_54, v_118_55, v_118_58, v_118_61, v_118_62, v_118_63, h_118_63, v_118_64, v_118_65, v_118_68, v_118_69, v_118_70, v_118_71, v_118_74, v_118_77, v_118_78, v_118_79, v_118_80, v_118_83, v_118_86, v_118_87, v_118_88, v_118_91, v_118_94, v_118_95, vgi_0, vgi_s, vga_0, vga_s, vset_0, vset_s, vtk_0, vtk_s, vrc_0, vsw_0, vsw_s, List.all_cons, List.all_nil, zc1_i, zc1_r, Bool.and_true, Bool.and_self, true_and, and_true, List.length_cons, List.length_nil, Nat.zero_le, Nat.reduceLeDiff, Nat.reduceAdd, Nat.reduceLT, Option.toList_some, List.cons_append, List.nil_append, tg_149]
      rw [if_neg (by decide)]
      refine c_119 (by omega) he (by omega) hu (hi w (by omega)) (hi u (by omega)) (fun q2 => ?_) (fun q2 => ?_)
      · simp only [v_118_0, v_118_1, v_118_4, v_118_5, v_118_6, v_118_9, v_118_10, v_118_13, v_118_14, v_118_17, v_118_20, v_118_21, v_118_24, v_118_25, v_118_28, v_118_31, v_118_32, v_118_33, v_118_34, v_118_35, h_118_35, v_118_36, v_118_38, v_118_41, v_118_42, v_118_43, v_118_44, v_118_45, v_118_46, v_118_47, v_118_50, v_118_53, v_118_54, v_118_55, v_118_58, v_118_61, v_118_62, v_118_63, h_118_63, v_118_64, v_118_65, v_118_68, v_118_69, v_118_70, v_118_71, v_118_74, v_118_77, v_118_78, v_118_79, v_118_80, v_118_83, v_118_86, v_118_87, v_118_88, v_118_91, v_118_94, v_118_95, vgi_0, vgi_s, vga_0, vga_s, vset_0, vset_s, vtk_0, vtk_s, vrc_0, vsw_0, vsw_s, List.all_cons, List.all_nil, zc1_i, zc1_r, Bool.and_true, Bool.and_self, true_and, and_true, List.length_cons, List.length_nil, Nat.zero_le, Nat.reduceLeDiff, Nat.reduceAdd, Nat.reduceLT, Option.toList_some, List.cons_append, List.nil_append, tg_149]
        rw [if_neg (by decide), nI_1]
        refine ih (w + 1) (by omega) (fun w' hw' => ?_)
        by_cases e : w' = w
        · rw [e]; exact fun p h1 h2 => ⟨q1 p h1 h2, q2 p h1 h2⟩
        · exact hI w' (by omega)
      · simp only [v_118_0, v_118_1, v_118_4, v_118_5, v_118_6, v_118_9, v_118_10, v_118_13, v_118_14, v_118_17, v_118_20, v_118_21, v_118_24, v_118_25, v_118_28, v_118_31, v_118_32, v_118_33, v_118_34, v_118_35, h_118_35, v_118_36, v_118_38, v_118_41, v_118_42, v_118_43, v_118_44, v_118_45, v_118_46, v_118_47, v_118_50, v_118_53, v_118_54, v_118_55, v_118_58, v_118_61, v_118_62, v_118_63, h_118_63, v_118_64, v_118_65, v_118_68, v_118_69, v_118_70, v_118_71, v_118_74, v_118_77, v_118_78, v_118_79, v_118_80, v_118_83, v_118_86, v_118_87, v_118_88, v_118_91, v_118_94, v_118_95, vgi_0, vgi_s, vga_0, vga_s, vset_0, vset_s, vtk_0, vtk_s, vrc_0, vsw_0, vsw_s, List.all_cons, List.all_nil, zc1_i, zc1_r, Bool.and_true, Bool.and_self, true_and, and_true, List.length_cons, List.length_nil, Nat.zero_le, Nat.reduceLeDiff, Nat.reduceAdd, Nat.reduceLT, Option.toList_some, List.cons_append, List.nil_append, tg_149]
        rw [if_pos trivial]
        exact ⟨Or.inl trivial, k0 (fun z => q2 (fun p h1 h2 => (z w (by omega) p h1 h2).2))⟩
    · simp only [v_118_0, v_118_1, v_118_4, v_118_5, v_118_6, v_118_9, v_118_10, v_118_13, v_118_14, v_118_17, v_118_20, v_118_21, v_118_24, v_118_25, v_118_28, v_118_31, v_118_32, v_118_33, v_118_34, v_118_35, h_118_35, v_118_36, v_118_38, v_118_41, v_118_42, v_118_43, v_118_44, v_118_45, v_118_46, v_118_47, v_118_50, v_118_53, v_118_54, v_118_55, v_118_58, v_118_61, v_118_62, v_118_63, h_118_63, v_118_64, v_118_65, v_118_68, v_118_69, v_118_70, v_118_71, v_118_74, v_118_77, v_118_78, v_118_79, v_118_80, v_118_83, v_118_86, v_118_87, v_118_88, v_118_91, v_118_94, v_118_95, vgi_0, vgi_s, vga_0, vga_s, vset_0, vset_s, vtk_0, vtk_s, vrc_0, vsw_0, vsw_s, List.all_cons, List.all_nil, zc1_i, zc1_r, Bool.and_true, Bool.and_self, true_and, and_true, List.length_cons, List.length_nil, Nat.zero_le, Nat.reduceLeDiff, Nat.reduceAdd, Nat.reduceLT, Option.toList_some, List.cons_append, List.nil_append, tg_149]
      rw [if_pos trivial]
      exact ⟨Or.inl trivial, k0 (fun z => q1 (fun p h1 h2 => (z w (by omega) p h1 h2).1))⟩
theorem l_118a {u : Nat} (hd : 4 ≤ d) (he : emP t a b f g) (hu : u < 6) (hi : ∀ w, w ≤ u → t.1 150 w = nI (h w) ∧ h w < 6) (k1 : (∀ p, 2 ≤ p → p < 6 → cvd (sg f p u 0) (sg g p (h u) 0)) → (∀ w, w ≤ u → ∀ p, 6 ≤ p → p < 8 → eP f g h u w p) → F (some (.int 1)) t) (k0 : ¬ ((∀ p, 2 ≤ p → p < 6 → cvd (sg f p u 0) (sg g p (h u) 0)) ∧ ∀ w, w ≤ u → ∀ p, 6 ≤ p → p < 8 → eP f g h u w p) → F (some (.int 0)) t) : ∀ (j p : Nat), p + j = 6 → 2 ≤ p → (∀ p', 2 ≤ p' → p' < p → cvd (sg f p' u 0) (sg g p' (h u) 0)) → twp none d 118 35 [.ref 149, .int (nI u), .int (nI (h u)), .int (nI p)] [] t F := by
  intro j
  induction j with
  | zero =>
    intro p hp hp2 hI
    have hp : p = 6 := by omega
    subst hp
    refine vc_ok none zH_118 65 false _ 118 35 _ _ _ _ ?_
    simp only [v_118_0, v_118_1, v_118_4, v_118_5, v_118_6, v_118_9, v_118_10, v_118_13, v_118_14, v_118_17, v_118_20, v_118_21, v_118_24, v_118_25, v_118_28, v_118_31, v_118_32, v_118_33, v_118_34, v_118_35, h_118_35, v_118_36, v_118_38, v_118_41, v_118_42, v_118_43, v_118_44, v_118_45, v_118_46, v_118_47, v_118_50, v_118_53, v_118_54, v_118_55, v_118_58, v_118_61, v_118_62, v_118_63, h_118_63, v_118_64, v_118_65, v_118_68, v_118_69, v_118_70, v_118_71, v_118_74, v_118_77, v_118_78, v_118_79, v_118_80, v_118_83, v_118_86, v_118_87, v_118_88, v_118_91, v_118_94, v_118_95, vgi_0, vgi_s, vga_0, vga_s, vset_0, vset_s, vtk_0, vtk_s, vrc_0, vsw_0, vsw_s, List.all_cons, List.all_nil, zc1_i, zc1_r, Bool.and_true, Bool.and_self, true_and, and_true, List.length_cons, List.length_nil, Nat.zero_le, Nat.reduceLeDiff, Nat.reduceAdd, Nat.reduceLT]
    rw [if_neg (by decide)]
    exact l_118b hd he hu hi (fun q => k1 hI q) (fun q => k0 (fun z => q z.2)) (u + 1) 0 (by omega) (fun w' hw' => by omega)
  | succ j ih =>
    intro p hp hp2 hI
    have iu := (hi u (by omega)).2
    refine vc_ok none zH_118 65 false _ 118 35 _ _ _ _ ?_
    simp only [v_118_0, v_118_1, v_118_4, v_118_5, v_118_6, v_118_9, v_118_10, v_118_13, v_118_14, v_118_17, v_118_20, v_118_21, v_118_24, v_118_25, v_118_28, v_118_31, v_118_32, v_118_33, v_118_34, v_118_35, h_118_35, v_118_36, v_118_38, v_118_41, v_118_42, v_118_43, v_118_44, v_118_45, v_118_46, v_118_47, v_118_50, v_118_53, v_118_54, v_118_55, v_118_58, v_118_61, v_118_62, v_118_63, h_118_63, v_118_64, v_118_65, v_118_68, v_118_69, v_118_70, v_118_71, v_118_74, v_118_77, v_118_78, v_118_79, v_118_80, v_118_83, v_118_86, v_118_87, v_118_88, v_118_91, v_118_94, v_118_95, vgi_0, vgi_s, vga_0, vga_s, vset_0, vset_s, vtk_0, vtk_s, vrc_0, vsw_0, vsw_s, List.all_cons, List.all_nil, zc1_i, zc1_r, Bool.and_true, Bool.and_self, true_and, and_true, List.length_cons, List.length_nil, Nat.zero_le, Nat.reduceLeDiff, Nat.reduceAdd, Nat.reduceLT, tg_149]
    rw [li6, if_pos (nI_lt (by omega) (by omega))]
    refine c_120 (w := 0) (y := 0) (by omega) he (by omega) hu (by omega) iu (by omega) (fun q => ?_) (fun q => ?_)
    · simp only [v_118_0, v_118_1, v_118_4, v_118_5, v_118_6, v_118_9, v_118_10, v_118_13, v_118_14, v_118_17, v_118_20, v_118_21, v_118_24, v_118_25, v_118_28, v_118_31, v_118_32, v_118_33, v_118_34, v_118_35, h_118_35, v_118_36, v_118_38, v_118_41, v_118_42, v_118_43, v_118_44, v_118_45, v_118_46, v_118_47, v_118_50, v_118_53, v_118_54, v_118_55, v_118_58, v_118_61, v_118_62, v_118_63, h_118_63, v_118_64, v_118_65, v_118_68, v_118_69, v_118_70, v_118_71, v_118_74, v_118_77, v_118_78, v_118_79, v_118_80, v_118_83, v_118_86, v_118_87, v_118_88, v_118_91, v_118_94, v_118_95, vgi_0, vgi_s, vga_0, vga_s, vset_0, vset_s, vtk_0, vtk_s, vrc_0, vsw_0, vsw_s, List.all_cons, List.all_nil, zc1_i, zc1_r, Bool.and_true, Bool.and_self, true_and, and_true, List.length_cons, List.length_nil, Nat.zero_le, Nat.reduceLeDiff, Nat.reduceAdd, Nat.reduceLT, Option.toList_some, List.cons_append, List.nil_append]
      rw [if_neg (by decide), nI_1]
      refine ih (p + 1) (by omega) (by omega) (fun p' h1 h2 => ?_)
      by_cases e : p' = p
      · rw [e]; exact q
      · exact hI p' h1 (by omega)
    · simp only [v_118_0, v_118_1, v_118_4, v_118_5, v_118_6, v_118_9, v_118_10, v_118_13, v_118_14, v_118_17, v_118_20, v_118_21, v_118_24, v_118_25, v_118_28, v_118_31, v_118_32, v_118_33, v_118_34, v_118_35, h_118_35, v_118_36, v_118_38, v_118_41, v_118_42, v_118_43, v_118_44, v_118_45, v_118_46, v_118_47, v_118_50, v_118_53, v_118_54, v_118_55, v_118_58, v_118_61, v_118_62, v_118_63, h_118_63, v_118_64, v_118_65, v_118_68, v_118_69, v_118_70, v_118_71, v_118_74, v_118_77, v_118_78, v_118_79, v_118_80, v_118_83, v_118_86, v_118_87, v_118_88, v_118_91, v_118_94, v_118_95, vgi_0, vgi_s, vga_0, vga_s, vset_0, vset_s, vtk_0, vtk_s, vrc_0, vsw_0, vsw_s, List.all_cons, List.all_nil, zc1_i, zc1_r, Bool.and_true, Bool.and_self, true_and, and_true, List.length_cons, List.length_nil, Nat.zero_le, Nat.reduceLeDiff, Nat.reduceAdd, Nat.reduceLT, Option.toList_some, List.cons_append, List.nil_append]
      rw [if_pos trivial]
      exact ⟨Or.inl trivial, k0 (fun z => q (z.1 p (by omega) (by omega)))⟩
theorem c_118 {u : Nat} (hd : 5 ≤ d) (he : emP t a b f g) (hu : u < 6) (hi : ∀ w, w ≤ u → t.1 150 w = nI (h w) ∧ h w < 6) (hh : t.1 151 (h u) = nI (hit h (h u) u)) (k1 : okE f g h u → F (some (.int 1)) t) (k0 : ¬ okE f g h u → F (some (.int 0)) t) : twc d 118 [.ref 149, .int (nI u), .int (nI (h u))] t F := by
  have iu := (hi u (by omega)).2
  have hl := hit_le (h := h) (a := h u) u
  have hz := hit_z (h := h) (a := h u) u
  obtain ⟨ea, eb, ta, tb, ef, eg⟩ := id he
  have fin : ((f (3 + 5 * u) = 1 → g (3 + 5 * h u) = 1) ∧ ∀ w, w ≤ u → eM g h u w) → twp none (d - 1) 118 35 [.ref 149, .int (nI u), .int (nI (h u)), .int (nI 2)] [] t F := fun q =>
    l_118a (by omega) he hu hi (fun q1 q2 => k1 ⟨q.1, q1, fun w hw => ⟨q.2 w hw, q2 w hw⟩⟩) (fun q1 => k0 (fun z => q1 ⟨z.2.1, fun w hw => (z.2.2 w hw).2⟩)) 4 2 (by omega) (by omega) (fun p' h1 h2 => by omega)
  refine ⟨by omega, ?_⟩
  rw [ze_118]
  refine vc_ok none zH_118 65 false _ 118 0 _ _ _ _ ?_
  simp only [v_118_0, v_118_1, v_118_4, v_118_5, v_118_6, v_118_9, v_118_10, v_118_13, v_118_14, v_118_17, v_118_20, v_118_21, v_118_24, v_118_25, v_118_28, v_118_31, v_118_32, v_118_33, v_118_34, v_118_35, h_118_35, v_118_36, v_118_38, v_118_41, v_118_42, v_118_43, v_118_44, v_118_45, v_118_46, v_118_47, v_118_50, v_118_53, v_118_54, v_118_55, v_118_58, v_118_61, v_118_62, v_118_63, h_118_63, v_118_64, v_118_65, v_118_68, v_118_69, v_118_70, v_118_71, v_118_74, v_118_77, v_118_78, v_118_79, v_118_80, v_118_83, v_118_86, v_118_87, v_118_88, v_118_91, v_118_94, v_118_95, vgi_0, vgi_s, vga_0, vga_s, vset_0, vset_s, vtk_0, vtk_s, vrc_0, vsw_0, vsw_s, List.all_cons, List.all_nil, zc1_i, zc1_r, Bool.and_true, Bool.and_self, true_and, and_true, List.length_cons, List.length_nil, Nat.zero_le, Nat.reduceLeDiff, Nat.reduceAdd, Nat.reduceLT, tg_149, tf_149_1, tg_151, ln_151, tf_149_2, ea, ta, tf_149_3, eb, tb]
  simp (disch := omega) only [nI_clamp, vinb_n, hh]
  refine ⟨by omega, ?_⟩
  have no : (0 < hit h (h u) u ∨ f (3 + 5 * u) = 1) → g (3 + 5 * h u) ≠ 1 → ¬ okE f g h u := by
    intro q1 q2 o
    rcases q1 with q1 | q1
    · have : ¬ ∀ v, v < u → h v ≠ h u := fun z => by have := hz.mpr z; omega
      refine this (fun v hv e => ?_)
      rcases (o.2.2 v (by omega)).1 with y | y | y
      · omega
      · exact y e
      · exact q2 y
    · exact q2 (o.1 q1)
  by_cases z : 0 < hit h (h u) u
  · rw [if_pos (by rw [li0, nI_ltI (by omega) (by omega)]; exact z)]
    refine c_165 (by omega) tb iu ?_
    simp only [v_118_0, v_118_1, v_118_4, v_118_5, v_118_6, v_118_9, v_118_10, v_118_13, v_118_14, v_118_17, v_118_20, v_118_21, v_118_24, v_118_25, v_118_28, v_118_31, v_118_32, v_118_33, v_118_34, v_118_35, h_118_35, v_118_36, v_118_38, v_118_41, v_118_42, v_118_43, v_118_44, v_118_45, v_118_46, v_118_47, v_118_50, v_118_53, v_118_54, v_118_55, v_118_58, v_118_61, v_118_62, v_118_63, h_118_63, v_118_64, v_118_65, v_118_68, v_118_69, v_118_70, v_118_71, v_118_74, v_118_77, v_118_78, v_118_79, v_118_80, v_118_83, v_118_86, v_118_87, v_118_88, v_118_91, v_118_94, v_118_95, vgi_0, vgi_s, vga_0, vga_s, vset_0, vset_s, vtk_0, vtk_s, vrc_0, vsw_0, vsw_s, List.all_cons, List.all_nil, zc1_i, zc1_r, Bool.and_true, Bool.and_self, true_and, and_true, List.length_cons, List.length_nil, Nat.zero_le, Nat.reduceLeDiff, Nat.reduceAdd, Nat.reduceLT, Option.toList_some, List.cons_append, List.nil_append]
    rw [eg]
    by_cases y : g (3 + 5 * h u) = 1
    · rw [if_pos y, if_neg (by decide)]
      exact fin ⟨fun _ => y, fun w _ => Or.inr (Or.inr y)⟩
    · rw [if_neg y, if_pos rfl]
      exact ⟨Or.inl trivial, k0 (no (Or.inl z) y)⟩
  · rw [if_neg (by rw [li0, nI_ltI (by omega) (by omega)]; exact z)]
    have hz2 := hz.mp (by omega)
    refine c_165 (by omega) ta hu ?_
    simp only [v_118_0, v_118_1, v_118_4, v_118_5, v_118_6, v_118_9, v_118_10, v_118_13, v_118_14, v_118_17, v_118_20, v_118_21, v_118_24, v_118_25, v_118_28, v_118_31, v_118_32, v_118_33, v_118_34, v_118_35, h_118_35, v_118_36, v_118_38, v_118_41, v_118_42, v_118_43, v_118_44, v_118_45, v_118_46, v_118_47, v_118_50, v_118_53, v_118_54, v_118_55, v_118_58, v_118_61, v_118_62, v_118_63, h_118_63, v_118_64, v_118_65, v_118_68, v_118_69, v_118_70, v_118_71, v_118_74, v_118_77, v_118_78, v_118_79, v_118_80, v_118_83, v_118_86, v_118_87, v_118_88, v_118_91, v_118_94, v_118_95, vgi_0, vgi_s, vga_0, vga_s, vset_0, vset_s, vtk_0, vtk_s, vrc_0, vsw_0, vsw_s, List.all_cons, List.all_nil, zc1_i, zc1_r, Bool.and_true, Bool.and_self, true_and, and_true, List.length_cons, List.length_nil, Nat.zero_le, Nat.reduceLeDiff, Nat.reduceAdd, Nat.reduceLT, Option.toList_some, List.cons_append, List.nil_append, tg_149, tf_149_3, eb, tb]
    rw [ef]
    by_cases x : f (3 + 5 * u) = 1
    · rw [if_pos x, if_neg (by decide)]
      refine c_165 (by omega) tb iu ?_
      simp only [v_118_0, v_118_1, v_118_4, v_118_5, v_118_6, v_118_9, v_118_10, v_118_13, v_118_14, v_118_17, v_118_20, v_118_21, v_118_24, v_118_25, v_118_28, v_118_31, v_118_32, v_118_33, v_118_34, v_118_35, h_118_35, v_118_36, v_118_38, v_118_41, v_118_42, v_118_43, v_118_44, v_118_45, v_118_46, v_118_47, v_118_50, v_118_53, v_118_54, v_118_55, v_118_58, v_118_61, v_118_62, v_118_63, h_118_63, v_118_64, v_118_65, v_118_68, v_118_69, v_118_70, v_118_71, v_118_74, v_118_77, v_118_78, v_118_79, v_118_80, v_118_83, v_118_86, v_118_87, v_118_88, v_118_91, v_118_94, v_118_95, vgi_0, vgi_s, vga_0, vga_s, vset_0, vset_s, vtk_0, vtk_s, vrc_0, vsw_0, vsw_s, List.all_cons, List.all_nil, zc1_i, zc1_r, Bool.and_true, Bool.and_self, true_and, and_true, List.length_cons, List.length_nil, Nat.zero_le, Nat.reduceLeDiff, Nat.reduceAdd, Nat.reduceLT, Option.toList_some, List.cons_append, List.nil_append]
      rw [eg]
      by_cases y : g (3 + 5 * h u) = 1
      · rw [if_pos y, if_neg (by decide)]
        exact fin ⟨fun _ => y, fun w _ => Or.inr (Or.inr y)⟩
      · rw [if_neg y, if_pos rfl]
        exact ⟨Or.inl trivial, k0 (no (Or.inr x) y)⟩
    · rw [if_neg x, if_pos rfl]
      refine fin ⟨fun q => absurd q x, fun w hw => ?_⟩
      by_cases e : w = u
      · exact Or.inl e
      · exact Or.inr (Or.inl (hz2 w (by omega)))
end CE
