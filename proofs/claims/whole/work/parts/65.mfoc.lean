/-! The reference focuses: what it looks for. -/
section MF
variable {d s : Nat} {t : T} {F : Option Value → T → Prop} {f : St} {n p a : Nat}
theorem l_80 (hd : 3 ≤ d) (hs : s < 184) (hf : mS t s = f) (hn : f 0 = nI n) (hn6 : n ≤ 6) (hp6 : 6 ≤ p) (hp8 : p < 16) (ha : 2 ≤ a) (ha6 : a < 6) (k1 : ∀ u, piv p a f n u → F (some (.int (nI u))) t) (k0 : nopiv p a f n → F (some (.int (-1))) t) : ∀ (j u : Nat), u + j = n → (∀ u', u' < u → ¬ isp a f u') → twp none d 80 3 [.ref 483, .int (nI s), .int (nI p), .int (nI a), .int (nI u)] [] t F := by
  intro j
  induction j with
  | zero =>
    intro u hu hI
    have hu : u = n := by omega
    subst hu
    refine vc_ok none zH_80 39 false _ 80 3 _ _ _ _ ?_
    simp only [v_80_0, v_80_1, v_80_3, h_80_3, v_80_5, v_80_6, v_80_7, v_80_10, v_80_13, v_80_14, v_80_15, v_80_18, v_80_19, v_80_20, v_80_21, v_80_23, v_80_24, v_80_27, v_80_28, v_80_31, v_80_32, v_80_33, v_80_35, v_80_38, v_80_41, v_80_43, v_80_44, v_80_47, v_80_50, v_80_51, vgi_0, vgi_s, vga_0, vga_s, vset_0, vset_s, vtk_0, vtk_s, vrc_0, vsw_0, vsw_s, List.all_cons, List.all_nil, zc1_i, zc1_r, Bool.and_true, Bool.and_self, true_and, and_true, List.length_cons, List.length_nil, Nat.zero_le, Nat.reduceLeDiff, Nat.reduceAdd, Nat.reduceLT, tg_483]
    refine c_40 (by omega) hs ?_
    simp only [v_80_0, v_80_1, v_80_3, h_80_3, v_80_5, v_80_6, v_80_7, v_80_10, v_80_13, v_80_14, v_80_15, v_80_18, v_80_19, v_80_20, v_80_21, v_80_23, v_80_24, v_80_27, v_80_28, v_80_31, v_80_32, v_80_33, v_80_35, v_80_38, v_80_41, v_80_43, v_80_44, v_80_47, v_80_50, v_80_51, vgi_0, vgi_s, vga_0, vga_s, vset_0, vset_s, vtk_0, vtk_s, vrc_0, vsw_0, vsw_s, List.all_cons, List.all_nil, zc1_i, zc1_r, Bool.and_true, Bool.and_self, true_and, and_true, List.length_cons, List.length_nil, Nat.zero_le, Nat.reduceLeDiff, Nat.reduceAdd, Nat.reduceLT, Option.toList_some, List.cons_append, List.nil_append]
    rw [hf, hn]
    simp (disch := omega) only [nI_ltI, Nat.lt_irrefl, if_false]
    exact k0 ⟨hp6, hI⟩
  | succ j ih =>
    intro u hu hI
    refine vc_ok none zH_80 39 false _ 80 3 _ _ _ _ ?_
    simp only [v_80_0, v_80_1, v_80_3, h_80_3, v_80_5, v_80_6, v_80_7, v_80_10, v_80_13, v_80_14, v_80_15, v_80_18, v_80_19, v_80_20, v_80_21, v_80_23, v_80_24, v_80_27, v_80_28, v_80_31, v_80_32, v_80_33, v_80_35, v_80_38, v_80_41, v_80_43, v_80_44, v_80_47, v_80_50, v_80_51, vgi_0, vgi_s, vga_0, vga_s, vset_0, vset_s, vtk_0, vtk_s, vrc_0, vsw_0, vsw_s, List.all_cons, List.all_nil, zc1_i, zc1_r, Bool.and_true, Bool.and_self, true_and, and_true, List.length_cons, List.length_nil, Nat.zero_le, Nat.reduceLeDiff, Nat.reduceAdd, Nat.reduceLT, tg_483]
    refine c_40 (by omega) hs ?_
    simp only [v_80_0, v_80_1, v_80_3, h_80_3, v_80_5, v_80_6, v_80_7, v_80_10, v_80_13, v_80_14, v_80_15, v_80_18, v_80_19, v_80_20, v_80_21, v_80_23, v_80_24, v_80_27, v_80_28, v_80_31, v_80_32, v_80_33, v_80_35, v_80_38, v_80_41, v_80_43, v_80_44, v_80_47, v_80_50, v_80_51, vgi_0, vgi_s, vga_0, vga_s, vset_0, vset_s, vtk_0, vtk_s, vrc_0, vsw_0, vsw_s, List.all_cons, List.all_nil, zc1_i, zc1_r, Bool.and_true, Bool.and_self, true_and, and_true, List.length_cons, List.length_nil, Nat.zero_le, Nat.reduceLeDiff, Nat.reduceAdd, Nat.reduceLT, Option.toList_some, List.cons_append, List.nil_append, tg_483]
    rw [hf, hn]
    simp (disch := omega) only [nI_ltI, li5]
    rw [if_pos (by omega), if_pos (by omega)]
    refine c_43 (w := 0) (by omega) hs (by omega) (by omega) (by omega) ?_
    simp only [v_80_0, v_80_1, v_80_3, h_80_3, v_80_5, v_80_6, v_80_7, v_80_10, v_80_13, v_80_14, v_80_15, v_80_18, v_80_19, v_80_20, v_80_21, v_80_23, v_80_24, v_80_27, v_80_28, v_80_31, v_80_32, v_80_33, v_80_35, v_80_38, v_80_41, v_80_43, v_80_44, v_80_47, v_80_50, v_80_51, vgi_0, vgi_s, vga_0, vga_s, vset_0, vset_s, vtk_0, vtk_s, vrc_0, vsw_0, vsw_s, List.all_cons, List.all_nil, zc1_i, zc1_r, Bool.and_true, Bool.and_self, true_and, and_true, List.length_cons, List.length_nil, Nat.zero_le, Nat.reduceLeDiff, Nat.reduceAdd, Nat.reduceLT, Option.toList_some, List.cons_append, List.nil_append, tg_483]
    rw [hf, sg_cel (by omega), cel1 ha ha6]
    have nx : ¬ isp a f u → twp none d 80 3 [.ref 483, .int (nI s), .int (nI p), .int (nI a), .int (nI (u + 1))] [] t F := fun h => ih (u + 1) (by omega) (fun u' hu' => by
      by_cases e : u' = u
      · rw [e]; exact h
      · exact hI u' (by omega))
    by_cases z : f (2 + 5 * u + a) = 1
    · rw [if_pos z]
      refine c_42 (by omega) hs (by omega) (fun y => ?_) (fun y => ?_)
      · simp only [v_80_0, v_80_1, v_80_3, h_80_3, v_80_5, v_80_6, v_80_7, v_80_10, v_80_13, v_80_14, v_80_15, v_80_18, v_80_19, v_80_20, v_80_21, v_80_23, v_80_24, v_80_27, v_80_28, v_80_31, v_80_32, v_80_33, v_80_35, v_80_38, v_80_41, v_80_43, v_80_44, v_80_47, v_80_50, v_80_51, vgi_0, vgi_s, vga_0, vga_s, vset_0, vset_s, vtk_0, vtk_s, vrc_0, vsw_0, vsw_s, List.all_cons, List.all_nil, zc1_i, zc1_r, Bool.and_true, Bool.and_self, true_and, and_true, List.length_cons, List.length_nil, Nat.zero_le, Nat.reduceLeDiff, Nat.reduceAdd, Nat.reduceLT, Option.toList_some, List.cons_append, List.nil_append]
        rw [if_neg (by decide), nI_1]
        exact nx (fun h => h.2 (by rw [← hf]; exact y))
      · simp only [v_80_0, v_80_1, v_80_3, h_80_3, v_80_5, v_80_6, v_80_7, v_80_10, v_80_13, v_80_14, v_80_15, v_80_18, v_80_19, v_80_20, v_80_21, v_80_23, v_80_24, v_80_27, v_80_28, v_80_31, v_80_32, v_80_33, v_80_35, v_80_38, v_80_41, v_80_43, v_80_44, v_80_47, v_80_50, v_80_51, vgi_0, vgi_s, vga_0, vga_s, vset_0, vset_s, vtk_0, vtk_s, vrc_0, vsw_0, vsw_s, List.all_cons, List.all_nil, zc1_i, zc1_r, Bool.and_true, Bool.and_self, true_and, and_true, List.length_cons, List.length_nil, Nat.zero_le, Nat.reduceLeDiff, Nat.reduceAdd, Nat.reduceLT, Option.toList_some, List.cons_append, List.nil_append]
        rw [if_pos trivial]
        exact k1 u (Or.inr ⟨hp6, by omega, ⟨z, by rw [← hf]; exact y⟩, hI⟩)
    · rw [if_neg z, nI_1]
      exact nx (fun h => z h.1)
theorem c_80 (hd : 4 ≤ d) (hs : s < 184) (hf : mS t s = f) (hn : f 0 = nI n) (hn6 : n ≤ 6) (hp8 : p < 16) (ha : 6 ≤ p → 2 ≤ a ∧ a < 6) (ha16 : a < 16) (k1 : ∀ u, 6 ≤ p → piv p a f n u → F (some (.int (nI u))) t) (k0 : p < 6 ∨ nopiv p a f n → F (some (.int (-1))) t) : twc d 80 [.ref 483, .int (nI s), .int (nI p), .int (nI a)] t F := by
  refine ⟨by omega, ?_⟩
  rw [ze_80]
  refine vc_ok none zH_80 39 false _ 80 0 _ _ _ _ ?_
  simp only [v_80_0, v_80_1, v_80_3, h_80_3, v_80_5, v_80_6, v_80_7, v_80_10, v_80_13, v_80_14, v_80_15, v_80_18, v_80_19, v_80_20, v_80_21, v_80_23, v_80_24, v_80_27, v_80_28, v_80_31, v_80_32, v_80_33, v_80_35, v_80_38, v_80_41, v_80_43, v_80_44, v_80_47, v_80_50, v_80_51, vgi_0, vgi_s, vga_0, vga_s, vset_0, vset_s, vtk_0, vtk_s, vrc_0, vsw_0, vsw_s, List.all_cons, List.all_nil, zc1_i, zc1_r, Bool.and_true, Bool.and_self, true_and, and_true, List.length_cons, List.length_nil, Nat.zero_le, Nat.reduceLeDiff, Nat.reduceAdd, Nat.reduceLT]
  by_cases p6 : p < 6
  · refine vc_ok none zH_80 39 false _ 80 3 _ _ _ _ ?_
    simp only [v_80_0, v_80_1, v_80_3, h_80_3, v_80_5, v_80_6, v_80_7, v_80_10, v_80_13, v_80_14, v_80_15, v_80_18, v_80_19, v_80_20, v_80_21, v_80_23, v_80_24, v_80_27, v_80_28, v_80_31, v_80_32, v_80_33, v_80_35, v_80_38, v_80_41, v_80_43, v_80_44, v_80_47, v_80_50, v_80_51, vgi_0, vgi_s, vga_0, vga_s, vset_0, vset_s, vtk_0, vtk_s, vrc_0, vsw_0, vsw_s, List.all_cons, List.all_nil, zc1_i, zc1_r, Bool.and_true, Bool.and_self, true_and, and_true, List.length_cons, List.length_nil, Nat.zero_le, Nat.reduceLeDiff, Nat.reduceAdd, Nat.reduceLT, tg_483]
    refine c_40 (by omega) hs ?_
    simp only [v_80_0, v_80_1, v_80_3, h_80_3, v_80_5, v_80_6, v_80_7, v_80_10, v_80_13, v_80_14, v_80_15, v_80_18, v_80_19, v_80_20, v_80_21, v_80_23, v_80_24, v_80_27, v_80_28, v_80_31, v_80_32, v_80_33, v_80_35, v_80_38, v_80_41, v_80_43, v_80_44, v_80_47, v_80_50, v_80_51, vgi_0, vgi_s, vga_0, vga_s, vset_0, vset_s, vtk_0, vtk_s, vrc_0, vsw_0, vsw_s, List.all_cons, List.all_nil, zc1_i, zc1_r, Bool.and_true, Bool.and_self, true_and, and_true, List.length_cons, List.length_nil, Nat.zero_le, Nat.reduceLeDiff, Nat.reduceAdd, Nat.reduceLT, Option.toList_some, List.cons_append, List.nil_append]
    rw [hf, hn]
    simp (disch := omega) only [li5, li0, nI_ltI]
    by_cases z : 0 < n
    · rw [if_pos z, if_neg (by omega)]
      exact k0 (Or.inl p6)
    · rw [if_neg z]
      exact k0 (Or.inl p6)
  · exact l_80 (by omega) hs hf hn hn6 (by omega) hp8 (ha (by omega)).1 (ha (by omega)).2 (fun u h => k1 u (by omega) h) (fun h => k0 (Or.inr h)) n 0 (by omega) (fun u' hu' => by omega)
theorem l_79 {u : Nat} {uv : Int32} {j5 : Value} (hd : 3 ≤ d) (hs : s < 184) (hf : mS t s = f) (hn : f 0 = nI n) (hn6 : n ≤ 6) (hp2 : 2 ≤ p) (hp8 : p < 8) (hu : p < 6 ∨ (6 ≤ p ∧ uv = nI u ∧ u < 6)) (k1 : ∀ w, dul p u f n w → F (some (.int (nI w))) t) (k0 : (∀ w, w < n → f (fcl p u w) ≠ 2) → F (some (.int (-1))) t) : ∀ (j w : Nat) (j5 : Value), w + j = n → (∀ w', w' < w → f (fcl p u w') ≠ 2) → twp none d 79 3 [.ref 483, .int (nI s), .int (nI p), .int uv, .int (nI w), j5] [] t F := by
  intro j
  induction j with
  | zero =>
    intro w j5 hw hI
    have hw : w = n := by omega
    subst hw
    refine vc_ok none zH_79 47 false _ 79 3 _ _ _ _ ?_
    simp only [v_79_0, v_79_1, v_79_3, h_79_3, v_79_5, v_79_6, v_79_7, v_79_10, v_79_13, v_79_14, v_79_16, v_79_19, v_79_20, v_79_21, v_79_22, v_79_24, v_79_25, v_79_28, v_79_31, v_79_32, v_79_35, v_79_36, v_79_39, v_79_40, v_79_41, v_79_42, v_79_43, v_79_45, v_79_48, v_79_50, v_79_52, v_79_53, v_79_56, v_79_58, v_79_59, v_79_62, v_79_65, v_79_66, vgi_0, vgi_s, vga_0, vga_s, vset_0, vset_s, vtk_0, vtk_s, vrc_0, vsw_0, vsw_s, List.all_cons, List.all_nil, zc1_i, zc1_r, Bool.and_true, Bool.and_self, true_and, and_true, List.length_cons, List.length_nil, Nat.zero_le, Nat.reduceLeDiff, Nat.reduceAdd, Nat.reduceLT, tg_483]
    refine c_40 (by omega) hs ?_
    simp only [v_79_0, v_79_1, v_79_3, h_79_3, v_79_5, v_79_6, v_79_7, v_79_10, v_79_13, v_79_14, v_79_16, v_79_19, v_79_20, v_79_21, v_79_22, v_79_24, v_79_25, v_79_28, v_79_31, v_79_32, v_79_35, v_79_36, v_79_39, v_79_40, v_79_41, v_79_42, v_79_43, v_79_45, v_79_48, v_79_50, v_79_52, v_79_53, v_79_56, v_79_58, v_79_59, v_79_62, v_79_65, v_79_66, vgi_0, vgi_s, vga_0, vga_s, vset_0, vset_s, vtk_0, vtk_s, vrc_0, vsw_0, vsw_s, List.all_cons, List.all_nil, zc1_i, zc1_r, Bool.and_true, Bool.and_self, true_and, and_true, List.length_cons, List.length_nil, Nat.zero_le, Nat.reduceLeDiff, Nat.reduceAdd, Nat.reduceLT, Option.toList_some, List.cons_append, List.nil_append]
    rw [hf, hn]
    simp (disch := omega) only [nI_ltI, Nat.lt_irrefl, if_false]
    exact k0 hI
  | succ j ih =>
    intro w j5 hw hI
    have nx : ∀ j5, f (fcl p u w) ≠ 2 → twp none d 79 3 [.ref 483, .int (nI s), .int (nI p), .int uv, .int (nI (w + 1)), j5] [] t F := fun j5 h => ih (w + 1) j5 (by omega) (fun w' hw' => by
      by_cases e : w' = w
      · rw [e]; exact h
      · exact hI w' (by omega))
    refine vc_ok none zH_79 47 false _ 79 3 _ _ _ _ ?_
    simp only [v_79_0, v_79_1, v_79_3, h_79_3, v_79_5, v_79_6, v_79_7, v_79_10, v_79_13, v_79_14, v_79_16, v_79_19, v_79_20, v_79_21, v_79_22, v_79_24, v_79_25, v_79_28, v_79_31, v_79_32, v_79_35, v_79_36, v_79_39, v_79_40, v_79_41, v_79_42, v_79_43, v_79_45, v_79_48, v_79_50, v_79_52, v_79_53, v_79_56, v_79_58, v_79_59, v_79_62, v_79_65, v_79_66, vgi_0, vgi_s, vga_0, vga_s, vset_0, vset_s, vtk_0, vtk_s, vrc_0, vsw_0, vsw_s, List.all_cons, List.all_nil, zc1_i, zc1_r, Bool.and_true, Bool.and_self, true_and, and_true, List.length_cons, List.length_nil, Nat.zero_le, Nat.reduceLeDiff, Nat.reduceAdd, Nat.reduceLT, tg_483]
    refine c_40 (by omega) hs ?_
    simp only [v_79_0, v_79_1, v_79_3, h_79_3, v_79_5, v_79_6, v_79_7, v_79_10, v_79_13, v_79_14, v_79_16, v_79_19, v_79_20, v_79_21, v_79_22, v_79_24, v_79_25, v_79_28, v_79_31, v_79_32, v_79_35, v_79_36, v_79_39, v_79_40, v_79_41, v_79_42, v_79_43, v_79_45, v_79_48, v_79_50, v_79_52, v_79_53, v_79_56, v_79_58, v_79_59, v_79_62, v_79_65, v_79_66, vgi_0, vgi_s, vga_0, vga_s, vset_0, vset_s, vtk_0, vtk_s, vrc_0, vsw_0, vsw_s, List.all_cons, List.all_nil, zc1_i, zc1_r, Bool.and_true, Bool.and_self, true_and, and_true, List.length_cons, List.length_nil, Nat.zero_le, Nat.reduceLeDiff, Nat.reduceAdd, Nat.reduceLT, Option.toList_some, List.cons_append, List.nil_append, tg_483]
    rw [hf, hn]
    simp (disch := omega) only [nI_ltI, li6]
    rw [if_pos (by omega)]
    by_cases p6 : p < 6
    · rw [if_pos p6]
      refine c_43 (w := 0) (by omega) hs (by omega) (by omega) (by omega) ?_
      simp only [v_79_0, v_79_1, v_79_3, h_79_3, v_79_5, v_79_6, v_79_7, v_79_10, v_79_13, v_79_14, v_79_16, v_79_19, v_79_20, v_79_21, v_79_22, v_79_24, v_79_25, v_79_28, v_79_31, v_79_32, v_79_35, v_79_36, v_79_39, v_79_40, v_79_41, v_79_42, v_79_43, v_79_45, v_79_48, v_79_50, v_79_52, v_79_53, v_79_56, v_79_58, v_79_59, v_79_62, v_79_65, v_79_66, vgi_0, vgi_s, vga_0, vga_s, vset_0, vset_s, vtk_0, vtk_s, vrc_0, vsw_0, vsw_s, List.all_cons, List.all_nil, zc1_i, zc1_r, Bool.and_true, Bool.and_self, true_and, and_true, List.length_cons, List.length_nil, Nat.zero_le, Nat.reduceLeDiff, Nat.reduceAdd, Nat.reduceLT, Option.toList_some, List.cons_append, List.nil_append]
      rw [hf, sg_cel (by omega), cel1 hp2 p6, ← fcl_1 (u := u) p6]
      by_cases z : f (fcl p u w) = 2
      · rw [if_pos z]
        exact k1 w ⟨by omega, z, hI⟩
      · rw [if_neg z, nI_1]
        exact nx _ z
    · rw [if_neg p6]
      have hu : uv = nI u ∧ u < 6 := by
        rcases hu with h | ⟨-, h⟩
        · exact absurd h p6
        · exact h
      obtain ⟨rfl, hu6⟩ := hu
      rw [if_neg (by rw [li0, nI_ltI (by omega) (by omega)]; omega)]
      refine c_43 (by omega) hs (by omega) (by omega) (by omega) ?_
      simp only [v_79_0, v_79_1, v_79_3, h_79_3, v_79_5, v_79_6, v_79_7, v_79_10, v_79_13, v_79_14, v_79_16, v_79_19, v_79_20, v_79_21, v_79_22, v_79_24, v_79_25, v_79_28, v_79_31, v_79_32, v_79_35, v_79_36, v_79_39, v_79_40, v_79_41, v_79_42, v_79_43, v_79_45, v_79_48, v_79_50, v_79_52, v_79_53, v_79_56, v_79_58, v_79_59, v_79_62, v_79_65, v_79_66, vgi_0, vgi_s, vga_0, vga_s, vset_0, vset_s, vtk_0, vtk_s, vrc_0, vsw_0, vsw_s, List.all_cons, List.all_nil, zc1_i, zc1_r, Bool.and_true, Bool.and_self, true_and, and_true, List.length_cons, List.length_nil, Nat.zero_le, Nat.reduceLeDiff, Nat.reduceAdd, Nat.reduceLT, Option.toList_some, List.cons_append, List.nil_append]
      rw [hf, sg_cel (by omega), cel2 (by omega), ← fcl_2 (by omega)]
      by_cases z : f (fcl p u w) = 2
      · rw [if_pos z]
        exact k1 w ⟨by omega, z, hI⟩
      · rw [if_neg z, nI_1]
        exact nx _ z
theorem c_79 {u : Nat} {uv : Int32} (hd : 4 ≤ d) (hs : s < 184) (hf : mS t s = f) (hn : f 0 = nI n) (hn6 : n ≤ 6) (hp2 : 2 ≤ p) (hp8 : p < 8) (hu : p < 6 ∨ (6 ≤ p ∧ uv = nI u ∧ u < 6)) (k1 : ∀ w, dul p u f n w → F (some (.int (nI w))) t) (k0 : (∀ w, w < n → f (fcl p u w) ≠ 2) → F (some (.int (-1))) t) : twc d 79 [.ref 483, .int (nI s), .int (nI p), .int uv] t F := by
  refine ⟨by omega, ?_⟩
  rw [ze_79]
  refine vc_ok none zH_79 47 false _ 79 0 _ _ _ _ ?_
  simp only [v_79_0, v_79_1, v_79_3, h_79_3, v_79_5, v_79_6, v_79_7, v_79_10, v_79_13, v_79_14, v_79_16, v_79_19, v_79_20, v_79_21, v_79_22, v_79_24, v_79_25, v_79_28, v_79_31, v_79_32, v_79_35, v_79_36, v_79_39, v_79_40, v_79_41, v_79_42, v_79_43, v_79_45, v_79_48, v_79_50, v_79_52, v_79_53, v_79_56, v_79_58, v_79_59, v_79_62, v_79_65, v_79_66, vgi_0, vgi_s, vga_0, vga_s, vset_0, vset_s, vtk_0, vtk_s, vrc_0, vsw_0, vsw_s, List.all_cons, List.all_nil, zc1_i, zc1_r, Bool.and_true, Bool.and_self, true_and, and_true, List.length_cons, List.length_nil, Nat.zero_le, Nat.reduceLeDiff, Nat.reduceAdd, Nat.reduceLT]
  exact l_79 (j5 := .int 0) (by omega) hs hf hn hn6 hp2 hp8 hu k1 k0 n 0 _ (by omega) (fun w' hw' => by omega)
theorem l_79n (hd : 3 ≤ d) (hs : s < 184) (hf : mS t s = f) (hn : f 0 = nI n) (hn6 : n ≤ 6) (hp6 : 6 ≤ p) (hp8 : p < 8) (k0 : F (some (.int (-1))) t) : ∀ (j w : Nat) (j5 : Value), w + j = n → twp none d 79 3 [.ref 483, .int (nI s), .int (nI p), .int (-1), .int (nI w), j5] [] t F := by
  intro j
  induction j with
  | zero =>
    intro w j5 hw
    have hw : w = n := by omega
    subst hw
    refine vc_ok none zH_79 47 false _ 79 3 _ _ _ _ ?_
    simp only [v_79_0, v_79_1, v_79_3, h_79_3, v_79_5, v_79_6, v_79_7, v_79_10, v_79_13, v_79_14, v_79_16, v_79_19, v_79_20, v_79_21, v_79_22, v_79_24, v_79_25, v_79_28, v_79_31, v_79_32, v_79_35, v_79_36, v_79_39, v_79_40, v_79_41, v_79_42, v_79_43, v_79_45, v_79_48, v_79_50, v_79_52, v_79_53, v_79_56, v_79_58, v_79_59, v_79_62, v_79_65, v_79_66, vgi_0, vgi_s, vga_0, vga_s, vset_0, vset_s, vtk_0, vtk_s, vrc_0, vsw_0, vsw_s, List.all_cons, List.all_nil, zc1_i, zc1_r, Bool.and_true, Bool.and_self, true_and, and_true, List.length_cons, List.length_nil, Nat.zero_le, Nat.reduceLeDiff, Nat.reduceAdd, Nat.reduceLT, tg_483]
    refine c_40 (by omega) hs ?_
    simp only [v_79_0, v_79_1, v_79_3, h_79_3, v_79_5, v_79_6, v_79_7, v_79_10, v_79_13, v_79_14, v_79_16, v_79_19, v_79_20, v_79_21, v_79_22, v_79_24, v_79_25, v_79_28, v_79_31, v_79_32, v_79_35, v_79_36, v_79_39, v_79_40, v_79_41, v_79_42, v_79_43, v_79_45, v_79_48, v_79_50, v_79_52, v_79_53, v_79_56, v_79_58, v_79_59, v_79_62, v_79_65, v_79_66, vgi_0, vgi_s, vga_0, vga_s, vset_0, vset_s, vtk_0, vtk_s, vrc_0, vsw_0, vsw_s, List.all_cons, List.all_nil, zc1_i, zc1_r, Bool.and_true, Bool.and_self, true_and, and_true, List.length_cons, List.length_nil, Nat.zero_le, Nat.reduceLeDiff, Nat.reduceAdd, Nat.reduceLT, Option.toList_some, List.cons_append, List.nil_append]
    rw [hf, hn]
    simp (disch := omega) only [nI_ltI, Nat.lt_irrefl, if_false]
    exact k0
  | succ j ih =>
    intro w j5 hw
    refine vc_ok none zH_79 47 false _ 79 3 _ _ _ _ ?_
    simp only [v_79_0, v_79_1, v_79_3, h_79_3, v_79_5, v_79_6, v_79_7, v_79_10, v_79_13, v_79_14, v_79_16, v_79_19, v_79_20, v_79_21, v_79_22, v_79_24, v_79_25, v_79_28, v_79_31, v_79_32, v_79_35, v_79_36, v_79_39, v_79_40, v_79_41, v_79_42, v_79_43, v_79_45, v_79_48, v_79_50, v_79_52, v_79_53, v_79_56, v_79_58, v_79_59, v_79_62, v_79_65, v_79_66, vgi_0, vgi_s, vga_0, vga_s, vset_0, vset_s, vtk_0, vtk_s, vrc_0, vsw_0, vsw_s, List.all_cons, List.all_nil, zc1_i, zc1_r, Bool.and_true, Bool.and_self, true_and, and_true, List.length_cons, List.length_nil, Nat.zero_le, Nat.reduceLeDiff, Nat.reduceAdd, Nat.reduceLT, tg_483]
    refine c_40 (by omega) hs ?_
    simp only [v_79_0, v_79_1, v_79_3, h_79_3, v_79_5, v_79_6, v_79_7, v_79_10, v_79_13, v_79_14, v_79_16, v_79_19, v_79_20, v_79_21, v_79_22, v_79_24, v_79_25, v_79_28, v_79_31, v_79_32, v_79_35, v_79_36, v_79_39, v_79_40, v_79_41, v_79_42, v_79_43, v_79_45, v_79_48, v_79_50, v_79_52, v_79_53, v_79_56, v_79_58, v_79_59, v_79_62, v_79_65, v_79_66, vgi_0, vgi_s, vga_0, vga_s, vset_0, vset_s, vtk_0, vtk_s, vrc_0, vsw_0, vsw_s, List.all_cons, List.all_nil, zc1_i, zc1_r, Bool.and_true, Bool.and_self, true_and, and_true, List.length_cons, List.length_nil, Nat.zero_le, Nat.reduceLeDiff, Nat.reduceAdd, Nat.reduceLT, Option.toList_some, List.cons_append, List.nil_append, tg_483]
    rw [hf, hn]
    simp (disch := omega) only [nI_ltI, li6]
    rw [if_pos (by omega), if_neg (by omega), if_pos (by decide), if_neg (by decide), nI_1]
    exact ih (w + 1) _ (by omega)
theorem c_79n (hd : 4 ≤ d) (hs : s < 184) (hf : mS t s = f) (hn : f 0 = nI n) (hn6 : n ≤ 6) (hp6 : 6 ≤ p) (hp8 : p < 8) (k0 : F (some (.int (-1))) t) : twc d 79 [.ref 483, .int (nI s), .int (nI p), .int (-1)] t F := by
  refine ⟨by omega, ?_⟩
  rw [ze_79]
  refine vc_ok none zH_79 47 false _ 79 0 _ _ _ _ ?_
  simp only [v_79_0, v_79_1, v_79_3, h_79_3, v_79_5, v_79_6, v_79_7, v_79_10, v_79_13, v_79_14, v_79_16, v_79_19, v_79_20, v_79_21, v_79_22, v_79_24, v_79_25, v_79_28, v_79_31, v_79_32, v_79_35, v_79_36, v_79_39, v_79_40, v_79_41, v_79_42, v_79_43, v_79_45, v_79_48, v_79_50, v_79_52, v_79_53, v_79_56, v_79_58, v_79_59, v_79_62, v_79_65, v_79_66, vgi_0, vgi_s, vga_0, vga_s, vset_0, vset_s, vtk_0, vtk_s, vrc_0, vsw_0, vsw_s, List.all_cons, List.all_nil, zc1_i, zc1_r, Bool.and_true, Bool.and_self, true_and, and_true, List.length_cons, List.length_nil, Nat.zero_le, Nat.reduceLeDiff, Nat.reduceAdd, Nat.reduceLT]
  exact l_79n (by omega) hs hf hn hn6 hp6 hp8 k0 n 0 _ (by omega)
end MF
