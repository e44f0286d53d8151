/-! The calls on slots. -/
section OP1
variable {d : Nat} {t : T} {F : Option Value → T → Prop}
theorem sl_dec : ∀ s, s < 4 → vtag (243 + 2 * s) = 4 := by decide +kernel
def rowOK (n p : Nat) (uv wv : Int32) : Prop := (2 ≤ p → ∃ u, u < n ∧ uv = nI u) ∧ (6 ≤ p → ∃ w, w < n ∧ wv = nI w)
theorem c_161x {p u w : Nat} {uv wv : Int32} (hd : 1 ≤ d) (hp : p < 9) (hu : 2 ≤ p → uv = nI u ∧ u < 6) (hw : 6 ≤ p → wv = nI w ∧ w < 6) (h : F (some (.int (nI (cel p u w)))) t) : twc d 161 [.int (nI p), .int uv, .int wv] t F := by
  by_cases p6 : 6 ≤ p
  · obtain ⟨rfl, h1⟩ := hu (by omega)
    obtain ⟨rfl, h2⟩ := hw p6
    exact c_161 hd hp (by omega) (by omega) h
  · refine ⟨by omega, ?_⟩
    rw [ze_161]
    refine vc_ok none zH_161 42 false _ 161 0 _ _ _ _ ?_
    simp only [v_161_0, v_161_1, v_161_2, v_161_5, v_161_6, v_161_7, v_161_8, v_161_10, v_161_13, v_161_14, v_161_15, v_161_16, v_161_17, v_161_18, v_161_19, v_161_20, v_161_21, v_161_22, v_161_23, v_161_25, v_161_27, v_161_28, v_161_29, v_161_30, v_161_31, v_161_32, v_161_33, v_161_34, v_161_35, v_161_36, v_161_38, v_161_39, vgi_0, vgi_s, vga_0, vga_s, vset_0, vset_s, vtk_0, vtk_s, vrc_0, vsw_0, vsw_s, List.all_cons, List.all_nil, zc1_i, zc1_r, Bool.and_true, Bool.and_self, true_and, and_true, List.length_cons, List.length_nil, Nat.zero_le, Nat.reduceLeDiff, Nat.reduceAdd, Nat.reduceLT]
    simp (disch := omega) only [li2, li6, nI_ltI]
    by_cases p2 : p < 2
    · rw [if_pos p2]
      have : cel p u w = p := by unfold cel; rw [if_pos p2]
      rw [this] at h
      exact h
    · obtain ⟨rfl, h1⟩ := hu (by omega)
      rw [if_neg p2, if_pos (by omega)]
      have := cel1 (u := u) (w := w) (show 2 ≤ p by omega) (by omega)
      have e : (nI 2 + 5 * nI u + nI p - 1 : Int32) = nI (cel p u w) := by
        rw [li5]
        simp (disch := omega) only [pk_mul, nI_add]
        rw [show 2 + 5 * u + p = cel p u w + 1 by omega]
        exact nI_mp _
      rw [e]
      exact h
theorem c_162x {a p u w : Nat} {uv wv : Int32} (hd : 2 ≤ d) (ha : vtag a = 4) (hp : p < 9) (hu : 2 ≤ p → uv = nI u ∧ u < 6) (hw : 6 ≤ p → wv = nI w ∧ w < 6) (hu6 : u < 6) (hw6 : w < 6) (h : F (some (.int (sg (cS t a) p u w))) t) : twc d 162 [.ref a, .int (nI p), .int uv, .int wv] t F := by
  by_cases p6 : 6 ≤ p
  · obtain ⟨rfl, h1⟩ := hu (by omega)
    obtain ⟨rfl, h2⟩ := hw p6
    exact c_162 hd ha hp h1 h2 h
  · refine ⟨by omega, ?_⟩
    rw [ze_162]
    refine vc_ok none zH_162 26 false _ 162 0 _ _ _ _ ?_
    simp only [v_162_0, v_162_1, v_162_3, v_162_6, v_162_7, v_162_8, v_162_9, v_162_12, v_162_15, v_162_16, v_162_19, v_162_20, v_162_21, v_162_22, v_162_25, v_162_26, vgi_0, vgi_s, vga_0, vga_s, vset_0, vset_s, vtk_0, vtk_s, vrc_0, vsw_0, vsw_s, List.all_cons, List.all_nil, zc1_i, zc1_r, Bool.and_true, Bool.and_self, true_and, and_true, List.length_cons, List.length_nil, Nat.zero_le, Nat.reduceLeDiff, Nat.reduceAdd, Nat.reduceLT, ha, st_row _ ha]
    simp (disch := omega) only [li8, nI_eq]
    rw [if_neg (by omega)]
    refine c_161x (u := u) (w := w) (by omega) hp hu hw ?_
    have hl := cel_lt (p := p) (u := u) (w := w) (by omega) hu6 hw6
    simp only [v_162_0, v_162_1, v_162_3, v_162_6, v_162_7, v_162_8, v_162_9, v_162_12, v_162_15, v_162_16, v_162_19, v_162_20, v_162_21, v_162_22, v_162_25, v_162_26, vgi_0, vgi_s, vga_0, vga_s, vset_0, vset_s, vtk_0, vtk_s, vrc_0, vsw_0, vsw_s, List.all_cons, List.all_nil, zc1_i, zc1_r, Bool.and_true, Bool.and_self, true_and, and_true, List.length_cons, List.length_nil, Nat.zero_le, Nat.reduceLeDiff, Nat.reduceAdd, Nat.reduceLT, Option.toList_some, List.cons_append, List.nil_append, st_tag ha, st_len ha]
    simp (disch := omega) only [nI_clamp, vinb_n]
    refine ⟨by omega, ?_⟩
    rw [sg_cel (by omega), cS_c (by omega)] at h
    exact h
theorem c_163x {a p u w : Nat} {uv wv v : Int32} (hd : 2 ≤ d) (ha : vtag a = 4) (hp : p < 8) (hu : 2 ≤ p → uv = nI u ∧ u < 6) (hw : 6 ≤ p → wv = nI w ∧ w < 6) (hu6 : u < 6) (hw6 : w < 6) (h : ∀ t', tO [a, a + 1] t t' → cS t' a = su (cS t a) (cel p u w + 1) v → F none t') : twc d 163 [.ref a, .int (nI p), .int uv, .int wv, .int v] t F := by
  refine ⟨by omega, ?_⟩
  rw [ze_163]
  refine vc_ok none zH_163 19 false _ 163 0 _ _ _ _ ?_
  simp only [v_163_0, v_163_1, v_163_4, v_163_5, v_163_6, v_163_7, v_163_10, v_163_12, v_163_13, vgi_0, vgi_s, vga_0, vga_s, vset_0, vset_s, vtk_0, vtk_s, vrc_0, vsw_0, vsw_s, List.all_cons, List.all_nil, zc1_i, zc1_r, Bool.and_true, Bool.and_self, true_and, and_true, List.length_cons, List.length_nil, Nat.zero_le, Nat.reduceLeDiff, Nat.reduceAdd, Nat.reduceLT, ha, st_row _ ha]
  refine c_161x (u := u) (w := w) (by omega) (by omega) hu hw ?_
  have hl := cel_lt (p := p) (u := u) (w := w) (by omega) hu6 hw6
  simp only [v_163_0, v_163_1, v_163_4, v_163_5, v_163_6, v_163_7, v_163_10, v_163_12, v_163_13, vgi_0, vgi_s, vga_0, vga_s, vset_0, vset_s, vtk_0, vtk_s, vrc_0, vsw_0, vsw_s, List.all_cons, List.all_nil, zc1_i, zc1_r, Bool.and_true, Bool.and_self, true_and, and_true, List.length_cons, List.length_nil, Nat.zero_le, Nat.reduceLeDiff, Nat.reduceAdd, Nat.reduceLT, Option.toList_some, List.cons_append, List.nil_append, st_tag ha, st_len ha]
  simp (disch := omega) only [nI_clamp, vinb_n]
  exact ⟨by omega, h _ (tO.si (by simp)) (cS_su hl)⟩
theorem c_41x {p u w : Nat} {uv wv : Int32} (hd : 1 ≤ d) (hp : p < 9) (hu : 2 ≤ p → uv = nI u ∧ u < 6) (hw : 6 ≤ p → wv = nI w ∧ w < 6) (h : F (some (.int (nI (cel p u w + 1)))) t) : twc d 41 [.int (nI p), .int uv, .int wv] t F := by
  by_cases p6 : 6 ≤ p
  · obtain ⟨rfl, h1⟩ := hu (by omega)
    obtain ⟨rfl, h2⟩ := hw p6
    exact c_41 hd hp (by omega) (by omega) h
  · refine ⟨by omega, ?_⟩
    rw [ze_41]
    refine vc_ok none zH_41 40 false _ 41 0 _ _ _ _ ?_
    simp only [v_41_0, v_41_1, v_41_2, v_41_5, v_41_6, v_41_7, v_41_8, v_41_11, v_41_12, v_41_14, v_41_17, v_41_18, v_41_19, v_41_20, v_41_21, v_41_22, v_41_23, v_41_24, v_41_27, v_41_29, v_41_30, v_41_32, v_41_33, v_41_34, v_41_35, v_41_36, v_41_37, v_41_38, v_41_39, v_41_40, vgi_0, vgi_s, vga_0, vga_s, vset_0, vset_s, vtk_0, vtk_s, vrc_0, vsw_0, vsw_s, List.all_cons, List.all_nil, zc1_i, zc1_r, Bool.and_true, Bool.and_self, true_and, and_true, List.length_cons, List.length_nil, Nat.zero_le, Nat.reduceLeDiff, Nat.reduceAdd, Nat.reduceLT]
    simp (disch := omega) only [li2, li6, nI_ltI]
    by_cases p2 : p < 2
    · rw [if_pos p2]
      have : cel p u w = p := by unfold cel; rw [if_pos p2]
      rw [this, show p + 1 = 1 + p by omega] at h
      rw [li1, nI_add]
      exact h
    · obtain ⟨rfl, h1⟩ := hu (by omega)
      rw [if_neg p2, if_pos (by omega)]
      rw [cel1 (by omega) (by omega)] at h
      simp (disch := omega) only [li5, pk_mul, nI_add]
      exact h
theorem c_43x {s p u w : Nat} {uv wv : Int32} (hd : 3 ≤ d) (hs : s < 184) (hp : p < 9) (hu : 2 ≤ p → uv = nI u ∧ u < 6) (hw : 6 ≤ p → wv = nI w ∧ w < 6) (hu6 : u < 6) (hw6 : w < 6) (h : F (some (.int (sg (mS t s) p u w))) t) : twc d 43 [.ref 483, .int (nI s), .int (nI p), .int uv, .int wv] t F := by
  by_cases p6 : 6 ≤ p
  · obtain ⟨rfl, h1⟩ := hu (by omega)
    obtain ⟨rfl, h2⟩ := hw p6
    exact c_43 hd hs hp h1 h2 h
  · refine ⟨by omega, ?_⟩
    rw [ze_43]
    refine vc_ok none zH_43 35 false _ 43 0 _ _ _ _ ?_
    simp only [v_43_0, v_43_1, v_43_3, v_43_6, v_43_7, v_43_9, v_43_12, v_43_13, v_43_16, v_43_17, v_43_18, v_43_19, v_43_22, v_43_25, v_43_26, v_43_29, v_43_30, v_43_31, v_43_32, v_43_33, v_43_34, v_43_35, v_43_37, v_43_40, v_43_43, vgi_0, vgi_s, vga_0, vga_s, vset_0, vset_s, vtk_0, vtk_s, vrc_0, vsw_0, vsw_s, List.all_cons, List.all_nil, zc1_i, zc1_r, Bool.and_true, Bool.and_self, true_and, and_true, List.length_cons, List.length_nil, Nat.zero_le, Nat.reduceLeDiff, Nat.reduceAdd, Nat.reduceLT, tg_483]
    simp (disch := omega) only [li8, nI_eq]
    rw [if_neg (by omega)]
    refine c_41x (u := u) (w := w) (by omega) hp hu hw ?_
    simp only [v_43_0, v_43_1, v_43_3, v_43_6, v_43_7, v_43_9, v_43_12, v_43_13, v_43_16, v_43_17, v_43_18, v_43_19, v_43_22, v_43_25, v_43_26, v_43_29, v_43_30, v_43_31, v_43_32, v_43_33, v_43_34, v_43_35, v_43_37, v_43_40, v_43_43, vgi_0, vgi_s, vga_0, vga_s, vset_0, vset_s, vtk_0, vtk_s, vrc_0, vsw_0, vsw_s, List.all_cons, List.all_nil, zc1_i, zc1_r, Bool.and_true, Bool.and_self, true_and, and_true, List.length_cons, List.length_nil, Nat.zero_le, Nat.reduceLeDiff, Nat.reduceAdd, Nat.reduceLT, Option.toList_some, List.cons_append, List.nil_append, tg_483]
    have hr := cel_r (p := p) (u := u) (w := w) (by omega) hu6 hw6
    refine c_38 (by omega) hs hr.2 ?_
    simp only [v_43_0, v_43_1, v_43_3, v_43_6, v_43_7, v_43_9, v_43_12, v_43_13, v_43_16, v_43_17, v_43_18, v_43_19, v_43_22, v_43_25, v_43_26, v_43_29, v_43_30, v_43_31, v_43_32, v_43_33, v_43_34, v_43_35, v_43_37, v_43_40, v_43_43, vgi_0, vgi_s, vga_0, vga_s, vset_0, vset_s, vtk_0, vtk_s, vrc_0, vsw_0, vsw_s, List.all_cons, List.all_nil, zc1_i, zc1_r, Bool.and_true, Bool.and_self, true_and, and_true, List.length_cons, List.length_nil, Nat.zero_le, Nat.reduceLeDiff, Nat.reduceAdd, Nat.reduceLT, Option.toList_some, List.cons_append, List.nil_append]
    rw [sg_cel (by omega)] at h
    exact h
theorem c_51 {s p n : Nat} {uv wv : Int32} (hd : 4 ≤ d) (hs : s < 184) (hp : p < 9) (hn : mS t s 0 = nI n) (hn6 : n ≤ 6) (k1 : rowOK n p uv wv → F (some (.int 1)) t) (k0 : ¬ rowOK n p uv wv → F (some (.int 0)) t) : twc d 51 [.ref 483, .int (nI s), .int (nI p), .int uv, .int wv] t F := by
  refine ⟨by omega, ?_⟩
  rw [ze_51]
  refine vc_ok none zH_51 30 false _ 51 0 _ _ _ _ ?_
  simp only [v_51_0, v_51_1, v_51_2, v_51_5, v_51_6, v_51_7, v_51_8, v_51_11, v_51_14, v_51_15, v_51_17, v_51_20, v_51_21, v_51_22, v_51_24, v_51_27, v_51_30, v_51_31, v_51_34, v_51_35, vgi_0, vgi_s, vga_0, vga_s, vset_0, vset_s, vtk_0, vtk_s, vrc_0, vsw_0, vsw_s, List.all_cons, List.all_nil, zc1_i, zc1_r, Bool.and_true, Bool.and_self, true_and, and_true, List.length_cons, List.length_nil, Nat.zero_le, Nat.reduceLeDiff, Nat.reduceAdd, Nat.reduceLT, tg_483]
  simp (disch := omega) only [li2, li6, nI_ltI]
  by_cases p2 : p < 2
  · rw [if_pos p2]
    exact ⟨Or.inr trivial, k1 ⟨fun z => by omega, fun z => by omega⟩⟩
  · rw [if_neg p2]
    refine c_48 (by omega) hs hn (by omega) (fun u hu eu => ?_) (fun hno => ?_)
    · simp only [v_51_0, v_51_1, v_51_2, v_51_5, v_51_6, v_51_7, v_51_8, v_51_11, v_51_14, v_51_15, v_51_17, v_51_20, v_51_21, v_51_22, v_51_24, v_51_27, v_51_30, v_51_31, v_51_34, v_51_35, vgi_0, vgi_s, vga_0, vga_s, vset_0, vset_s, vtk_0, vtk_s, vrc_0, vsw_0, vsw_s, List.all_cons, List.all_nil, zc1_i, zc1_r, Bool.and_true, Bool.and_self, true_and, and_true, List.length_cons, List.length_nil, Nat.zero_le, Nat.reduceLeDiff, Nat.reduceAdd, Nat.reduceLT, Option.toList_some, List.cons_append, List.nil_append, tg_483]
      rw [if_neg (by decide)]
      simp (disch := omega) only [li6, nI_ltI]
      by_cases p6 : p < 6
      · rw [if_pos p6]
        exact ⟨Or.inr trivial, k1 ⟨fun _ => ⟨u, hu, eu⟩, fun z => by omega⟩⟩
      · rw [if_neg p6]
        refine c_48 (by omega) hs hn (by omega) (fun w hw ew => ?_) (fun hno => ?_)
        · simp only [v_51_0, v_51_1, v_51_2, v_51_5, v_51_6, v_51_7, v_51_8, v_51_11, v_51_14, v_51_15, v_51_17, v_51_20, v_51_21, v_51_22, v_51_24, v_51_27, v_51_30, v_51_31, v_51_34, v_51_35, vgi_0, vgi_s, vga_0, vga_s, vset_0, vset_s, vtk_0, vtk_s, vrc_0, vsw_0, vsw_s, List.all_cons, List.all_nil, zc1_i, zc1_r, Bool.and_true, Bool.and_self, true_and, and_true, List.length_cons, List.length_nil, Nat.zero_le, Nat.reduceLeDiff, Nat.reduceAdd, Nat.reduceLT, Option.toList_some, List.cons_append, List.nil_append]
          rw [if_neg (by decide)]
          exact ⟨Or.inr trivial, k1 ⟨fun _ => ⟨u, hu, eu⟩, fun _ => ⟨w, hw, ew⟩⟩⟩
        · simp only [v_51_0, v_51_1, v_51_2, v_51_5, v_51_6, v_51_7, v_51_8, v_51_11, v_51_14, v_51_15, v_51_17, v_51_20, v_51_21, v_51_22, v_51_24, v_51_27, v_51_30, v_51_31, v_51_34, v_51_35, vgi_0, vgi_s, vga_0, vga_s, vset_0, vset_s, vtk_0, vtk_s, vrc_0, vsw_0, vsw_s, List.all_cons, List.all_nil, zc1_i, zc1_r, Bool.and_true, Bool.and_self, true_and, and_true, List.length_cons, List.length_nil, Nat.zero_le, Nat.reduceLeDiff, Nat.reduceAdd, Nat.reduceLT, Option.toList_some, List.cons_append, List.nil_append]
          rw [if_pos trivial]
          exact ⟨Or.inl trivial, k0 (fun z => by obtain ⟨w, hw, ew⟩ := z.2 (by omega); exact hno w hw ew)⟩
    · simp only [v_51_0, v_51_1, v_51_2, v_51_5, v_51_6, v_51_7, v_51_8, v_51_11, v_51_14, v_51_15, v_51_17, v_51_20, v_51_21, v_51_22, v_51_24, v_51_27, v_51_30, v_51_31, v_51_34, v_51_35, vgi_0, vgi_s, vga_0, vga_s, vset_0, vset_s, vtk_0, vtk_s, vrc_0, vsw_0, vsw_s, List.all_cons, List.all_nil, zc1_i, zc1_r, Bool.and_true, Bool.and_self, true_and, and_true, List.length_cons, List.length_nil, Nat.zero_le, Nat.reduceLeDiff, Nat.reduceAdd, Nat.reduceLT, Option.toList_some, List.cons_append, List.nil_append]
      rw [if_pos trivial]
      exact ⟨Or.inl trivial, k0 (fun z => by obtain ⟨w, hw, ew⟩ := z.1 (by omega); exact hno w hw ew)⟩
theorem c_25 {p : Nat} {sv uv wv : Int32} (hd : 2 ≤ d) (hp : p < 9) (hI : ∀ s, s < 4 → wfS (cS t (243 + 2 * s))) (k1 : ∀ s, s < 4 → sv = nI s → rowOK (sn (cS t (243 + 2 * s))) p uv wv → F (some (.int 1)) t) (k0 : (∀ s, s < 4 → sv = nI s → ¬ rowOK (sn (cS t (243 + 2 * s))) p uv wv) → F (some (.int 0)) t) : twc d 25 [.ref 0, .int sv, .int (nI p), .int uv, .int wv] t F := by
  refine ⟨by omega, ?_⟩
  rw [ze_25]
  refine vc_ok none zH_25 40 false _ 25 0 _ _ _ _ ?_
  simp only [v_25_0, v_25_1, v_25_2, v_25_5, v_25_8, v_25_9, v_25_10, v_25_11, v_25_14, v_25_15, v_25_16, v_25_19, v_25_21, v_25_22, v_25_23, v_25_26, v_25_27, v_25_29, v_25_32, v_25_35, v_25_36, v_25_38, v_25_41, v_25_43, v_25_45, v_25_48, v_25_51, v_25_52, v_25_55, v_25_56, vgi_0, vgi_s, vga_0, vga_s, vset_0, vset_s, vtk_0, vtk_s, vrc_0, vsw_0, vsw_s, List.all_cons, List.all_nil, zc1_i, zc1_r, Bool.and_true, Bool.and_self, true_and, and_true, List.length_cons, List.length_nil, Nat.zero_le, Nat.reduceLeDiff, Nat.reduceAdd, Nat.reduceLT]
  refine c_22 (L := 4) (by omega) (by omega) (fun s hs es => ?_) (fun hno => ?_)
  · subst es
    have st := sl_dec s hs
    obtain ⟨hn, hn6⟩ := (hI s hs).n
    rw [cS_i] at hn
    have only1 : rowOK (sn (cS t (243 + 2 * s))) p uv wv → F (some (.int 1)) t := fun h => k1 s hs rfl h
    have only0 : ¬ rowOK (sn (cS t (243 + 2 * s))) p uv wv → F (some (.int 0)) t := fun h => k0 (fun s' hs' e => by
      have : s' = s := nI_inj (by omega) (by omega) e.symm
      rw [this]; exact h)
    simp only [v_25_0, v_25_1, v_25_2, v_25_5, v_25_8, v_25_9, v_25_10, v_25_11, v_25_14, v_25_15, v_25_16, v_25_19, v_25_21, v_25_22, v_25_23, v_25_26, v_25_27, v_25_29, v_25_32, v_25_35, v_25_36, v_25_38, v_25_41, v_25_43, v_25_45, v_25_48, v_25_51, v_25_52, v_25_55, v_25_56, vgi_0, vgi_s, vga_0, vga_s, vset_0, vset_s, vtk_0, vtk_s, vrc_0, vsw_0, vsw_s, List.all_cons, List.all_nil, zc1_i, zc1_r, Bool.and_true, Bool.and_self, true_and, and_true, List.length_cons, List.length_nil, Nat.zero_le, Nat.reduceLeDiff, Nat.reduceAdd, Nat.reduceLT, Option.toList_some, List.cons_append, List.nil_append, tg_0, tf_0_0, tg_1, ln_1]
    rw [if_neg (by decide)]
    simp (disch := omega) only [nI_clamp, vinb_n, tf_1, st, hn, li2, li6, nI_ltI]
    refine ⟨hs, trivial, ?_⟩
    by_cases p2 : p < 2
    · rw [if_pos p2, if_pos (by omega)]
      exact ⟨Or.inr trivial, only1 ⟨fun z => by omega, fun z => by omega⟩⟩
    · rw [if_neg p2]
      refine c_22 (by omega) (by omega) (fun u hu eu => ?_) (fun hno => ?_)
      · simp only [v_25_0, v_25_1, v_25_2, v_25_5, v_25_8, v_25_9, v_25_10, v_25_11, v_25_14, v_25_15, v_25_16, v_25_19, v_25_21, v_25_22, v_25_23, v_25_26, v_25_27, v_25_29, v_25_32, v_25_35, v_25_36, v_25_38, v_25_41, v_25_43, v_25_45, v_25_48, v_25_51, v_25_52, v_25_55, v_25_56, vgi_0, vgi_s, vga_0, vga_s, vset_0, vset_s, vtk_0, vtk_s, vrc_0, vsw_0, vsw_s, List.all_cons, List.all_nil, zc1_i, zc1_r, Bool.and_true, Bool.and_self, true_and, and_true, List.length_cons, List.length_nil, Nat.zero_le, Nat.reduceLeDiff, Nat.reduceAdd, Nat.reduceLT, Option.toList_some, List.cons_append, List.nil_append]
        rw [if_neg (by decide)]
        simp (disch := omega) only [li6, nI_ltI]
        by_cases p6 : p < 6
        · rw [if_pos p6]
          exact ⟨Or.inr trivial, only1 ⟨fun _ => ⟨u, hu, eu⟩, fun z => by omega⟩⟩
        · rw [if_neg p6]
          refine c_22 (by omega) (by omega) (fun w hw ew => ?_) (fun hno => ?_)
          · simp only [v_25_0, v_25_1, v_25_2, v_25_5, v_25_8, v_25_9, v_25_10, v_25_11, v_25_14, v_25_15, v_25_16, v_25_19, v_25_21, v_25_22, v_25_23, v_25_26, v_25_27, v_25_29, v_25_32, v_25_35, v_25_36, v_25_38, v_25_41, v_25_43, v_25_45, v_25_48, v_25_51, v_25_52, v_25_55, v_25_56, vgi_0, vgi_s, vga_0, vga_s, vset_0, vset_s, vtk_0, vtk_s, vrc_0, vsw_0, vsw_s, List.all_cons, List.all_nil, zc1_i, zc1_r, Bool.and_true, Bool.and_self, true_and, and_true, List.length_cons, List.length_nil, Nat.zero_le, Nat.reduceLeDiff, Nat.reduceAdd, Nat.reduceLT, Option.toList_some, List.cons_append, List.nil_append]
            rw [if_neg (by decide)]
            exact ⟨Or.inr trivial, only1 ⟨fun _ => ⟨u, hu, eu⟩, fun _ => ⟨w, hw, ew⟩⟩⟩
          · simp only [v_25_0, v_25_1, v_25_2, v_25_5, v_25_8, v_25_9, v_25_10, v_25_11, v_25_14, v_25_15, v_25_16, v_25_19, v_25_21, v_25_22, v_25_23, v_25_26, v_25_27, v_25_29, v_25_32, v_25_35, v_25_36, v_25_38, v_25_41, v_25_43, v_25_45, v_25_48, v_25_51, v_25_52, v_25_55, v_25_56, vgi_0, vgi_s, vga_0, vga_s, vset_0, vset_s, vtk_0, vtk_s, vrc_0, vsw_0, vsw_s, List.all_cons, List.all_nil, zc1_i, zc1_r, Bool.and_true, Bool.and_self, true_and, and_true, List.length_cons, List.length_nil, Nat.zero_le, Nat.reduceLeDiff, Nat.reduceAdd, Nat.reduceLT, Option.toList_some, List.cons_append, List.nil_append]
            rw [if_pos trivial]
            exact ⟨Or.inl trivial, only0 (fun z => by obtain ⟨w, hw, ew⟩ := z.2 (by omega); exact hno w hw ew)⟩
      · simp only [v_25_0, v_25_1, v_25_2, v_25_5, v_25_8, v_25_9, v_25_10, v_25_11, v_25_14, v_25_15, v_25_16, v_25_19, v_25_21, v_25_22, v_25_23, v_25_26, v_25_27, v_25_29, v_25_32, v_25_35, v_25_36, v_25_38, v_25_41, v_25_43, v_25_45, v_25_48, v_25_51, v_25_52, v_25_55, v_25_56, vgi_0, vgi_s, vga_0, vga_s, vset_0, vset_s, vtk_0, vtk_s, vrc_0, vsw_0, vsw_s, List.all_cons, List.all_nil, zc1_i, zc1_r, Bool.and_true, Bool.and_self, true_and, and_true, List.length_cons, List.length_nil, Nat.zero_le, Nat.reduceLeDiff, Nat.reduceAdd, Nat.reduceLT, Option.toList_some, List.cons_append, List.nil_append]
        rw [if_pos trivial]
        exact ⟨Or.inl trivial, only0 (fun z => by obtain ⟨w, hw, ew⟩ := z.1 (by omega); exact hno w hw ew)⟩
  · simp only [v_25_0, v_25_1, v_25_2, v_25_5, v_25_8, v_25_9, v_25_10, v_25_11, v_25_14, v_25_15, v_25_16, v_25_19, v_25_21, v_25_22, v_25_23, v_25_26, v_25_27, v_25_29, v_25_32, v_25_35, v_25_36, v_25_38, v_25_41, v_25_43, v_25_45, v_25_48, v_25_51, v_25_52, v_25_55, v_25_56, vgi_0, vgi_s, vga_0, vga_s, vset_0, vset_s, vtk_0, vtk_s, vrc_0, vsw_0, vsw_s, List.all_cons, List.all_nil, zc1_i, zc1_r, Bool.and_true, Bool.and_self, true_and, and_true, List.length_cons, List.length_nil, Nat.zero_le, Nat.reduceLeDiff, Nat.reduceAdd, Nat.reduceLT, Option.toList_some, List.cons_append, List.nil_append]
    rw [if_pos trivial]
    exact ⟨Or.inl trivial, k0 (fun s hs e => absurd e (hno s hs))⟩
end OP1
