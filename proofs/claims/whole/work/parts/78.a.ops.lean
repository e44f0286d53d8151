/-! get, put, summary, universe. -/
section OP3
theorem rowOK_f {n p : Nat} {uv wv : Int32} (hn : n ≤ 6) (h : rowOK n p uv wv) : ∃ u w, u < 6 ∧ w < 6 ∧ (2 ≤ p → uv = nI u ∧ u < 6) ∧ (6 ≤ p → wv = nI w ∧ w < 6) ∧ (2 ≤ p → u < n) ∧ (6 ≤ p → w < n) := by
  by_cases p6 : 6 ≤ p
  · obtain ⟨u, hu, eu⟩ := h.1 (by omega)
    obtain ⟨w, hw, ew⟩ := h.2 p6
    exact ⟨u, w, by omega, by omega, fun _ => ⟨eu, by omega⟩, fun _ => ⟨ew, by omega⟩, fun _ => hu, fun _ => hw⟩
  · by_cases p2 : 2 ≤ p
    · obtain ⟨u, hu, eu⟩ := h.1 p2
      exact ⟨u, 0, by omega, by omega, fun _ => ⟨eu, by omega⟩, fun z => absurd z p6, fun _ => hu, fun z => absurd z p6⟩
    · exact ⟨0, 0, by omega, by omega, fun z => absurd z p2, fun z => absurd z p6, fun z => absurd z p2, fun z => absurd z p6⟩
theorem INV.wfc {t : T} (h : INV t) : ∀ s, s < 4 → wfS (cS t (243 + 2 * s)) := fun s hs => by
  obtain ⟨h1, h2, -⟩ := h.sl hs
  rw [h1]; exact h2
theorem op_get (sv pv uv wv : Int32) : OP 4 53 [.int sv, .int pv, .int uv, .int wv] := by
  intro d t hd hI
  have bad : (∀ s p, s < 4 → p < 9 → sv = nI s → pv = nI p → ¬ rowOK (sn (mS t s)) p uv wv) → twc d 53 [.ref 483, .int sv, .int pv, .int uv, .int wv] t (fun r' t2 => ∃ v, some (Value.int (-1)) = some (Value.int v) ∧ r' = some (Value.int v) ∧ INV t2) := by
    intro hno
    refine ⟨by omega, ?_⟩
    rw [ze_53]
    refine vc_ok none zH_53 34 false _ 53 0 _ _ _ _ ?_
    simp only [v_53_0, v_53_1, v_53_4, v_53_7, v_53_8, v_53_9, v_53_11, v_53_14, v_53_17, v_53_18, v_53_19, v_53_20, v_53_21, v_53_23, v_53_26, v_53_29, v_53_30, v_53_33, v_53_34, v_53_35, v_53_36, v_53_37, v_53_39, v_53_42, vgi_0, vgi_s, vga_0, vga_s, vset_0, vset_s, vtk_0, vtk_s, vrc_0, vsw_0, vsw_s, List.all_cons, List.all_nil, zc1_i, zc1_r, Bool.and_true, Bool.and_self, true_and, and_true, List.length_cons, List.length_nil, Nat.zero_le, Nat.reduceLeDiff, Nat.reduceAdd, Nat.reduceLT]
    refine c_47 (by omega) (fun s hs es => ?_) (fun _ => ?_)
    · subst es
      obtain ⟨-, -, h3, h4⟩ := hI.sl hs
      simp only [v_53_0, v_53_1, v_53_4, v_53_7, v_53_8, v_53_9, v_53_11, v_53_14, v_53_17, v_53_18, v_53_19, v_53_20, v_53_21, v_53_23, v_53_26, v_53_29, v_53_30, v_53_33, v_53_34, v_53_35, v_53_36, v_53_37, v_53_39, v_53_42, vgi_0, vgi_s, vga_0, vga_s, vset_0, vset_s, vtk_0, vtk_s, vrc_0, vsw_0, vsw_s, List.all_cons, List.all_nil, zc1_i, zc1_r, Bool.and_true, Bool.and_self, true_and, and_true, List.length_cons, List.length_nil, Nat.zero_le, Nat.reduceLeDiff, Nat.reduceAdd, Nat.reduceLT, Option.toList_some, List.cons_append, List.nil_append]
      rw [if_neg (by decide)]
      refine c_37 (lo := 0) (hi := 8) (by omega) (by omega) (by omega) (fun p hp1 hp2 ep => ?_) (fun _ => ?_)
      · subst ep
        simp only [v_53_0, v_53_1, v_53_4, v_53_7, v_53_8, v_53_9, v_53_11, v_53_14, v_53_17, v_53_18, v_53_19, v_53_20, v_53_21, v_53_23, v_53_26, v_53_29, v_53_30, v_53_33, v_53_34, v_53_35, v_53_36, v_53_37, v_53_39, v_53_42, vgi_0, vgi_s, vga_0, vga_s, vset_0, vset_s, vtk_0, vtk_s, vrc_0, vsw_0, vsw_s, List.all_cons, List.all_nil, zc1_i, zc1_r, Bool.and_true, Bool.and_self, true_and, and_true, List.length_cons, List.length_nil, Nat.zero_le, Nat.reduceLeDiff, Nat.reduceAdd, Nat.reduceLT, Option.toList_some, List.cons_append, List.nil_append, tg_483]
        rw [if_pos trivial]
        refine c_51 (by omega) (by omega) (by omega) h3 h4 (fun hr => absurd hr (hno s p hs (by omega) rfl rfl)) (fun _ => ?_)
        simp only [v_53_0, v_53_1, v_53_4, v_53_7, v_53_8, v_53_9, v_53_11, v_53_14, v_53_17, v_53_18, v_53_19, v_53_20, v_53_21, v_53_23, v_53_26, v_53_29, v_53_30, v_53_33, v_53_34, v_53_35, v_53_36, v_53_37, v_53_39, v_53_42, vgi_0, vgi_s, vga_0, vga_s, vset_0, vset_s, vtk_0, vtk_s, vrc_0, vsw_0, vsw_s, List.all_cons, List.all_nil, zc1_i, zc1_r, Bool.and_true, Bool.and_self, true_and, and_true, List.length_cons, List.length_nil, Nat.zero_le, Nat.reduceLeDiff, Nat.reduceAdd, Nat.reduceLT, Option.toList_some, List.cons_append, List.nil_append]
        rw [if_pos trivial]
        exact ⟨_, rfl, rfl, hI⟩
      · simp only [v_53_0, v_53_1, v_53_4, v_53_7, v_53_8, v_53_9, v_53_11, v_53_14, v_53_17, v_53_18, v_53_19, v_53_20, v_53_21, v_53_23, v_53_26, v_53_29, v_53_30, v_53_33, v_53_34, v_53_35, v_53_36, v_53_37, v_53_39, v_53_42, vgi_0, vgi_s, vga_0, vga_s, vset_0, vset_s, vtk_0, vtk_s, vrc_0, vsw_0, vsw_s, List.all_cons, List.all_nil, zc1_i, zc1_r, Bool.and_true, Bool.and_self, true_and, and_true, List.length_cons, List.length_nil, Nat.zero_le, Nat.reduceLeDiff, Nat.reduceAdd, Nat.reduceLT, Option.toList_some, List.cons_append, List.nil_append]
        rw [if_neg (by decide)]
        exact ⟨_, rfl, rfl, hI⟩
    · simp only [v_53_0, v_53_1, v_53_4, v_53_7, v_53_8, v_53_9, v_53_11, v_53_14, v_53_17, v_53_18, v_53_19, v_53_20, v_53_21, v_53_23, v_53_26, v_53_29, v_53_30, v_53_33, v_53_34, v_53_35, v_53_36, v_53_37, v_53_39, v_53_42, vgi_0, vgi_s, vga_0, vga_s, vset_0, vset_s, vtk_0, vtk_s, vrc_0, vsw_0, vsw_s, List.all_cons, List.all_nil, zc1_i, zc1_r, Bool.and_true, Bool.and_self, true_and, and_true, List.length_cons, List.length_nil, Nat.zero_le, Nat.reduceLeDiff, Nat.reduceAdd, Nat.reduceLT, Option.toList_some, List.cons_append, List.nil_append]
      rw [if_pos trivial]
      exact ⟨_, rfl, rfl, hI⟩
  refine ⟨by omega, ?_⟩
  rw [ze_4]
  refine vc_ok none zH_4 32 false _ 4 0 _ _ _ _ ?_
  simp only [v_4_0, v_4_1, v_4_3, v_4_6, v_4_9, v_4_10, v_4_11, v_4_12, v_4_13, v_4_15, v_4_18, v_4_21, v_4_22, v_4_23, v_4_24, v_4_27, v_4_28, v_4_29, v_4_30, v_4_31, v_4_33, v_4_36, vgi_0, vgi_s, vga_0, vga_s, vset_0, vset_s, vtk_0, vtk_s, vrc_0, vsw_0, vsw_s, List.all_cons, List.all_nil, zc1_i, zc1_r, Bool.and_true, Bool.and_self, true_and, and_true, List.length_cons, List.length_nil, Nat.zero_le, Nat.reduceLeDiff, Nat.reduceAdd, Nat.reduceLT]
  refine c_22 (L := 9) (by omega) (by omega) (fun p hp ep => ?_) (fun hno => ?_)
  · subst ep
    simp only [v_4_0, v_4_1, v_4_3, v_4_6, v_4_9, v_4_10, v_4_11, v_4_12, v_4_13, v_4_15, v_4_18, v_4_21, v_4_22, v_4_23, v_4_24, v_4_27, v_4_28, v_4_29, v_4_30, v_4_31, v_4_33, v_4_36, vgi_0, vgi_s, vga_0, vga_s, vset_0, vset_s, vtk_0, vtk_s, vrc_0, vsw_0, vsw_s, List.all_cons, List.all_nil, zc1_i, zc1_r, Bool.and_true, Bool.and_self, true_and, and_true, List.length_cons, List.length_nil, Nat.zero_le, Nat.reduceLeDiff, Nat.reduceAdd, Nat.reduceLT, Option.toList_some, List.cons_append, List.nil_append, tg_0]
    rw [if_neg (by decide)]
    refine c_25 (by omega) hp hI.wfc (fun s hs es hr => ?_) (fun hno => ?_)
    · subst es
      obtain ⟨h1, h2, h3, h4⟩ := hI.sl hs
      rw [h1] at hr
      have st := sl_dec s hs
      obtain ⟨u, w, hu, hw, eu, ew, -⟩ := rowOK_f h4 hr
      simp only [v_4_0, v_4_1, v_4_3, v_4_6, v_4_9, v_4_10, v_4_11, v_4_12, v_4_13, v_4_15, v_4_18, v_4_21, v_4_22, v_4_23, v_4_24, v_4_27, v_4_28, v_4_29, v_4_30, v_4_31, v_4_33, v_4_36, vgi_0, vgi_s, vga_0, vga_s, vset_0, vset_s, vtk_0, vtk_s, vrc_0, vsw_0, vsw_s, List.all_cons, List.all_nil, zc1_i, zc1_r, Bool.and_true, Bool.and_self, true_and, and_true, List.length_cons, List.length_nil, Nat.zero_le, Nat.reduceLeDiff, Nat.reduceAdd, Nat.reduceLT, Option.toList_some, List.cons_append, List.nil_append, tg_0, tf_0_0, tg_1, ln_1]
      rw [if_neg (by decide)]
      simp (disch := omega) only [nI_clamp, vinb_n, tf_1, st]
      refine ⟨hs, trivial, ?_⟩
      refine c_162x (by omega) st hp eu ew hu hw ?_
      simp only [v_4_0, v_4_1, v_4_3, v_4_6, v_4_9, v_4_10, v_4_11, v_4_12, v_4_13, v_4_15, v_4_18, v_4_21, v_4_22, v_4_23, v_4_24, v_4_27, v_4_28, v_4_29, v_4_30, v_4_31, v_4_33, v_4_36, vgi_0, vgi_s, vga_0, vga_s, vset_0, vset_s, vtk_0, vtk_s, vrc_0, vsw_0, vsw_s, List.all_cons, List.all_nil, zc1_i, zc1_r, Bool.and_true, Bool.and_self, true_and, and_true, List.length_cons, List.length_nil, Nat.zero_le, Nat.reduceLeDiff, Nat.reduceAdd, Nat.reduceLT, Option.toList_some, List.cons_append, List.nil_append]
      refine ⟨by omega, ?_⟩
      rw [ze_53]
      refine vc_ok none zH_53 34 false _ 53 0 _ _ _ _ ?_
      simp only [v_53_0, v_53_1, v_53_4, v_53_7, v_53_8, v_53_9, v_53_11, v_53_14, v_53_17, v_53_18, v_53_19, v_53_20, v_53_21, v_53_23, v_53_26, v_53_29, v_53_30, v_53_33, v_53_34, v_53_35, v_53_36, v_53_37, v_53_39, v_53_42, vgi_0, vgi_s, vga_0, vga_s, vset_0, vset_s, vtk_0, vtk_s, vrc_0, vsw_0, vsw_s, List.all_cons, List.all_nil, zc1_i, zc1_r, Bool.and_true, Bool.and_self, true_and, and_true, List.length_cons, List.length_nil, Nat.zero_le, Nat.reduceLeDiff, Nat.reduceAdd, Nat.reduceLT]
      refine c_47 (by omega) (fun s' hs' es' => ?_) (fun hno => absurd rfl (hno s hs))
      simp only [v_53_0, v_53_1, v_53_4, v_53_7, v_53_8, v_53_9, v_53_11, v_53_14, v_53_17, v_53_18, v_53_19, v_53_20, v_53_21, v_53_23, v_53_26, v_53_29, v_53_30, v_53_33, v_53_34, v_53_35, v_53_36, v_53_37, v_53_39, v_53_42, vgi_0, vgi_s, vga_0, vga_s, vset_0, vset_s, vtk_0, vtk_s, vrc_0, vsw_0, vsw_s, List.all_cons, List.all_nil, zc1_i, zc1_r, Bool.and_true, Bool.and_self, true_and, and_true, List.length_cons, List.length_nil, Nat.zero_le, Nat.reduceLeDiff, Nat.reduceAdd, Nat.reduceLT, Option.toList_some, List.cons_append, List.nil_append]
      rw [if_neg (by decide)]
      refine c_37 (lo := 0) (hi := 8) (by omega) (by omega) (by omega) (fun p' hp1 hp2 ep => ?_) (fun hno => absurd rfl (hno p (by omega) (by omega)))
      simp only [v_53_0, v_53_1, v_53_4, v_53_7, v_53_8, v_53_9, v_53_11, v_53_14, v_53_17, v_53_18, v_53_19, v_53_20, v_53_21, v_53_23, v_53_26, v_53_29, v_53_30, v_53_33, v_53_34, v_53_35, v_53_36, v_53_37, v_53_39, v_53_42, vgi_0, vgi_s, vga_0, vga_s, vset_0, vset_s, vtk_0, vtk_s, vrc_0, vsw_0, vsw_s, List.all_cons, List.all_nil, zc1_i, zc1_r, Bool.and_true, Bool.and_self, true_and, and_true, List.length_cons, List.length_nil, Nat.zero_le, Nat.reduceLeDiff, Nat.reduceAdd, Nat.reduceLT, Option.toList_some, List.cons_append, List.nil_append, tg_483]
      rw [if_pos trivial]
      refine c_51 (by omega) (by omega) (by omega) h3 h4 (fun _ => ?_) (fun hno => absurd hr hno)
      simp only [v_53_0, v_53_1, v_53_4, v_53_7, v_53_8, v_53_9, v_53_11, v_53_14, v_53_17, v_53_18, v_53_19, v_53_20, v_53_21, v_53_23, v_53_26, v_53_29, v_53_30, v_53_33, v_53_34, v_53_35, v_53_36, v_53_37, v_53_39, v_53_42, vgi_0, vgi_s, vga_0, vga_s, vset_0, vset_s, vtk_0, vtk_s, vrc_0, vsw_0, vsw_s, List.all_cons, List.all_nil, zc1_i, zc1_r, Bool.and_true, Bool.and_self, true_and, and_true, List.length_cons, List.length_nil, Nat.zero_le, Nat.reduceLeDiff, Nat.reduceAdd, Nat.reduceLT, Option.toList_some, List.cons_append, List.nil_append, tg_483]
      rw [if_neg (by decide)]
      refine c_43x (by omega) (by omega) hp eu ew hu hw ?_
      simp only [v_53_0, v_53_1, v_53_4, v_53_7, v_53_8, v_53_9, v_53_11, v_53_14, v_53_17, v_53_18, v_53_19, v_53_20, v_53_21, v_53_23, v_53_26, v_53_29, v_53_30, v_53_33, v_53_34, v_53_35, v_53_36, v_53_37, v_53_39, v_53_42, vgi_0, vgi_s, vga_0, vga_s, vset_0, vset_s, vtk_0, vtk_s, vrc_0, vsw_0, vsw_s, List.all_cons, List.all_nil, zc1_i, zc1_r, Bool.and_true, Bool.and_self, true_and, and_true, List.length_cons, List.length_nil, Nat.zero_le, Nat.reduceLeDiff, Nat.reduceAdd, Nat.reduceLT, Option.toList_some, List.cons_append, List.nil_append]
      exact ⟨_, rfl, by rw [h1], hI⟩
    · simp only [v_4_0, v_4_1, v_4_3, v_4_6, v_4_9, v_4_10, v_4_11, v_4_12, v_4_13, v_4_15, v_4_18, v_4_21, v_4_22, v_4_23, v_4_24, v_4_27, v_4_28, v_4_29, v_4_30, v_4_31, v_4_33, v_4_36, vgi_0, vgi_s, vga_0, vga_s, vset_0, vset_s, vtk_0, vtk_s, vrc_0, vsw_0, vsw_s, List.all_cons, List.all_nil, zc1_i, zc1_r, Bool.and_true, Bool.and_self, true_and, and_true, List.length_cons, List.length_nil, Nat.zero_le, Nat.reduceLeDiff, Nat.reduceAdd, Nat.reduceLT, Option.toList_some, List.cons_append, List.nil_append]
      rw [if_pos trivial]
      refine bad (fun s p' hs hp' es ep' hr => ?_)
      have : p = p' := nI_inj (by omega) (by omega) ep'
      subst this
      refine hno s hs es ?_
      rw [(hI.sl hs).1]; exact hr
  · simp only [v_4_0, v_4_1, v_4_3, v_4_6, v_4_9, v_4_10, v_4_11, v_4_12, v_4_13, v_4_15, v_4_18, v_4_21, v_4_22, v_4_23, v_4_24, v_4_27, v_4_28, v_4_29, v_4_30, v_4_31, v_4_33, v_4_36, vgi_0, vgi_s, vga_0, vga_s, vset_0, vset_s, vtk_0, vtk_s, vrc_0, vsw_0, vsw_s, List.all_cons, List.all_nil, zc1_i, zc1_r, Bool.and_true, Bool.and_self, true_and, and_true, List.length_cons, List.length_nil, Nat.zero_le, Nat.reduceLeDiff, Nat.reduceAdd, Nat.reduceLT, Option.toList_some, List.cons_append, List.nil_append]
    rw [if_pos trivial]
    exact bad (fun s p hs hp es ep => absurd ep (hno p hp))
theorem cel_su_wf {f : St} {n p u w v : Nat} (hf : wfS f) (hn : f 0 = nI n) (hn6 : n ≤ 6) (hp : p < 8) (hu6 : u < 6) (hw6 : w < 6) (hu : 2 ≤ p → u < n) (hw : 6 ≤ p → w < n) (hv : v < 3) : wfS (su f (cel p u w + 1) (nI v)) := by
  have hr := cel_r hp hu6 hw6
  obtain ⟨⟨n', hn', e0, z1, z2, z3⟩, h2, h3, h4⟩ := hf
  have en : n' = n := nI_inj (by omega) (by omega) (e0.symm.trans hn)
  subst en
  have ne : ∀ k, k ≠ cel p u w + 1 → su f (cel p u w + 1) (nI v) k = f k := fun k hk => by unfold su; rw [if_neg hk]
  have ckv : (p < 2 ∧ cel p u w + 1 = p + 1) ∨ (2 ≤ p ∧ p < 6 ∧ u < n' ∧ cel p u w + 1 = 2 + 5 * u + p) ∨ (6 ≤ p ∧ u < n' ∧ w < n' ∧ cel p u w + 1 = 27 + 12 * u + 2 * w + p) := by
    by_cases p2 : p < 2
    · refine Or.inl ⟨p2, ?_⟩; unfold cel; rw [if_pos p2]
    · by_cases p6 : p < 6
      · exact Or.inr (Or.inl ⟨by omega, p6, hu (by omega), cel1 (by omega) p6⟩)
      · exact Or.inr (Or.inr ⟨by omega, hu (by omega), hw (by omega), cel2 (by omega)⟩)
  refine ⟨⟨n', hn', by rw [ne 0 (by omega)]; exact e0, fun x hx hx6 => ?_, fun p' x h1 h2 hx hx6 => ?_, fun p' x y h1 h2 hx hy hxy => ?_⟩, fun k k0 k1 => ?_, fun x hx => ?_, fun k hk => ?_⟩
  · rw [ne _ (by omega)]; exact z1 x hx hx6
  · rw [ne _ (by rw [cel1 h1 h2]; omega)]; exact z2 p' x h1 h2 hx hx6
  · rw [ne _ (by rw [cel2 h1]; omega)]; exact z3 p' x y h1 h2 hx hy hxy
  · by_cases e : k = cel p u w + 1
    · unfold su; rw [if_pos e]; exact ⟨v, hv, rfl⟩
    · rw [ne k e]; exact h2 k k0 k1
  · rw [ne _ (by omega)]; exact h3 x hx
  · rw [ne _ (by omega)]; exact h4 k hk
theorem op_put (sv pv uv wv vv : Int32) : OP 3 52 [.int sv, .int pv, .int uv, .int wv, .int vv] := by
  intro d t hd hI
  have bad : (∀ s p v, s < 4 → p < 8 → v < 3 → sv = nI s → pv = nI p → vv = nI v → ¬ rowOK (sn (mS t s)) p uv wv) → twc d 52 [.ref 483, .int sv, .int pv, .int uv, .int wv, .int vv] t (fun r' t2 => ∃ v, some (Value.int 0) = some (Value.int v) ∧ r' = some (Value.int v) ∧ INV t2) := by
    intro hno
    refine ⟨by omega, ?_⟩
    rw [ze_52]
    refine vc_ok none zH_52 42 false _ 52 0 _ _ _ _ ?_
    simp only [v_52_0, v_52_1, v_52_4, v_52_7, v_52_8, v_52_9, v_52_11, v_52_14, v_52_17, v_52_18, v_52_19, v_52_20, v_52_21, v_52_23, v_52_26, v_52_29, v_52_31, v_52_32, v_52_33, v_52_36, v_52_39, v_52_40, v_52_41, v_52_42, v_52_43, v_52_44, v_52_45, v_52_47, v_52_50, v_52_52, v_52_55, v_52_56, vgi_0, vgi_s, vga_0, vga_s, vset_0, vset_s, vtk_0, vtk_s, vrc_0, vsw_0, vsw_s, List.all_cons, List.all_nil, zc1_i, zc1_r, Bool.and_true, Bool.and_self, true_and, and_true, List.length_cons, List.length_nil, Nat.zero_le, Nat.reduceLeDiff, Nat.reduceAdd, Nat.reduceLT]
    refine c_47 (by omega) (fun s hs es => ?_) (fun _ => ?_)
    · subst es
      obtain ⟨-, -, h3, h4⟩ := hI.sl hs
      simp only [v_52_0, v_52_1, v_52_4, v_52_7, v_52_8, v_52_9, v_52_11, v_52_14, v_52_17, v_52_18, v_52_19, v_52_20, v_52_21, v_52_23, v_52_26, v_52_29, v_52_31, v_52_32, v_52_33, v_52_36, v_52_39, v_52_40, v_52_41, v_52_42, v_52_43, v_52_44, v_52_45, v_52_47, v_52_50, v_52_52, v_52_55, v_52_56, vgi_0, vgi_s, vga_0, vga_s, vset_0, vset_s, vtk_0, vtk_s, vrc_0, vsw_0, vsw_s, List.all_cons, List.all_nil, zc1_i, zc1_r, Bool.and_true, Bool.and_self, true_and, and_true, List.length_cons, List.length_nil, Nat.zero_le, Nat.reduceLeDiff, Nat.reduceAdd, Nat.reduceLT, Option.toList_some, List.cons_append, List.nil_append]
      rw [if_neg (by decide)]
      refine c_37 (lo := 0) (hi := 7) (by omega) (by omega) (by omega) (fun p hp1 hp2 ep => ?_) (fun _ => ?_)
      · subst ep
        simp only [v_52_0, v_52_1, v_52_4, v_52_7, v_52_8, v_52_9, v_52_11, v_52_14, v_52_17, v_52_18, v_52_19, v_52_20, v_52_21, v_52_23, v_52_26, v_52_29, v_52_31, v_52_32, v_52_33, v_52_36, v_52_39, v_52_40, v_52_41, v_52_42, v_52_43, v_52_44, v_52_45, v_52_47, v_52_50, v_52_52, v_52_55, v_52_56, vgi_0, vgi_s, vga_0, vga_s, vset_0, vset_s, vtk_0, vtk_s, vrc_0, vsw_0, vsw_s, List.all_cons, List.all_nil, zc1_i, zc1_r, Bool.and_true, Bool.and_self, true_and, and_true, List.length_cons, List.length_nil, Nat.zero_le, Nat.reduceLeDiff, Nat.reduceAdd, Nat.reduceLT, Option.toList_some, List.cons_append, List.nil_append, tg_483]
        rw [if_pos trivial]
        refine c_51 (by omega) (by omega) (by omega) h3 h4 (fun hr => ?_) (fun _ => ?_)
        · simp only [v_52_0, v_52_1, v_52_4, v_52_7, v_52_8, v_52_9, v_52_11, v_52_14, v_52_17, v_52_18, v_52_19, v_52_20, v_52_21, v_52_23, v_52_26, v_52_29, v_52_31, v_52_32, v_52_33, v_52_36, v_52_39, v_52_40, v_52_41, v_52_42, v_52_43, v_52_44, v_52_45, v_52_47, v_52_50, v_52_52, v_52_55, v_52_56, vgi_0, vgi_s, vga_0, vga_s, vset_0, vset_s, vtk_0, vtk_s, vrc_0, vsw_0, vsw_s, List.all_cons, List.all_nil, zc1_i, zc1_r, Bool.and_true, Bool.and_self, true_and, and_true, List.length_cons, List.length_nil, Nat.zero_le, Nat.reduceLeDiff, Nat.reduceAdd, Nat.reduceLT, Option.toList_some, List.cons_append, List.nil_append]
          rw [if_neg (by decide)]
          refine c_37 (lo := 0) (hi := 2) (by omega) (by omega) (by omega) (fun v hv1 hv2 ev => absurd hr (hno s p v hs (by omega) (by omega) rfl rfl ev)) (fun _ => ?_)
          simp only [v_52_0, v_52_1, v_52_4, v_52_7, v_52_8, v_52_9, v_52_11, v_52_14, v_52_17, v_52_18, v_52_19, v_52_20, v_52_21, v_52_23, v_52_26, v_52_29, v_52_31, v_52_32, v_52_33, v_52_36, v_52_39, v_52_40, v_52_41, v_52_42, v_52_43, v_52_44, v_52_45, v_52_47, v_52_50, v_52_52, v_52_55, v_52_56, vgi_0, vgi_s, vga_0, vga_s, vset_0, vset_s, vtk_0, vtk_s, vrc_0, vsw_0, vsw_s, List.all_cons, List.all_nil, zc1_i, zc1_r, Bool.and_true, Bool.and_self, true_and, and_true, List.length_cons, List.length_nil, Nat.zero_le, Nat.reduceLeDiff, Nat.reduceAdd, Nat.reduceLT, Option.toList_some, List.cons_append, List.nil_append]
          rw [if_neg (by decide)]
          exact ⟨Or.inl trivial, _, rfl, rfl, hI⟩
        · simp only [v_52_0, v_52_1, v_52_4, v_52_7, v_52_8, v_52_9, v_52_11, v_52_14, v_52_17, v_52_18, v_52_19, v_52_20, v_52_21, v_52_23, v_52_26, v_52_29, v_52_31, v_52_32, v_52_33, v_52_36, v_52_39, v_52_40, v_52_41, v_52_42, v_52_43, v_52_44, v_52_45, v_52_47, v_52_50, v_52_52, v_52_55, v_52_56, vgi_0, vgi_s, vga_0, vga_s, vset_0, vset_s, vtk_0, vtk_s, vrc_0, vsw_0, vsw_s, List.all_cons, List.all_nil, zc1_i, zc1_r, Bool.and_true, Bool.and_self, true_and, and_true, List.length_cons, List.length_nil, Nat.zero_le, Nat.reduceLeDiff, Nat.reduceAdd, Nat.reduceLT, Option.toList_some, List.cons_append, List.nil_append]
          rw [if_pos trivial]
          exact ⟨Or.inl trivial, _, rfl, rfl, hI⟩
      · simp only [v_52_0, v_52_1, v_52_4, v_52_7, v_52_8, v_52_9, v_52_11, v_52_14, v_52_17, v_52_18, v_52_19, v_52_20, v_52_21, v_52_23, v_52_26, v_52_29, v_52_31, v_52_32, v_52_33, v_52_36, v_52_39, v_52_40, v_52_41, v_52_42, v_52_43, v_52_44, v_52_45, v_52_47, v_52_50, v_52_52, v_52_55, v_52_56, vgi_0, vgi_s, vga_0, vga_s, vset_0, vset_s, vtk_0, vtk_s, vrc_0, vsw_0, vsw_s, List.all_cons, List.all_nil, zc1_i, zc1_r, Bool.and_true, Bool.and_self, true_and, and_true, List.length_cons, List.length_nil, Nat.zero_le, Nat.reduceLeDiff, Nat.reduceAdd, Nat.reduceLT, Option.toList_some, List.cons_append, List.nil_append]
        rw [if_neg (by decide)]
        exact ⟨Or.inl trivial, _, rfl, rfl, hI⟩
    · simp only [v_52_0, v_52_1, v_52_4, v_52_7, v_52_8, v_52_9, v_52_11, v_52_14, v_52_17, v_52_18, v_52_19, v_52_20, v_52_21, v_52_23, v_52_26, v_52_29, v_52_31, v_52_32, v_52_33, v_52_36, v_52_39, v_52_40, v_52_41, v_52_42, v_52_43, v_52_44, v_52_45, v_52_47, v_52_50, v_52_52, v_52_55, v_52_56, vgi_0, vgi_s, vga_0, vga_s, vset_0, vset_s, vtk_0, vtk_s, vrc_0, vsw_0, vsw_s, List.all_cons, List.all_nil, zc1_i, zc1_r, Bool.and_true, Bool.and_self, true_and, and_true, List.length_cons, List.length_nil, Nat.zero_le, Nat.reduceLeDiff, Nat.reduceAdd, Nat.reduceLT, Option.toList_some, List.cons_append, List.nil_append]
      rw [if_pos trivial]
      exact ⟨Or.inl trivial, _, rfl, rfl, hI⟩
  refine ⟨by omega, ?_⟩
  rw [ze_3]
  refine vc_ok none zH_3 38 false _ 3 0 _ _ _ _ ?_
  simp only [v_3_0, v_3_1, v_3_3, v_3_6, v_3_9, v_3_11, v_3_12, v_3_15, v_3_18, v_3_19, v_3_20, v_3_21, v_3_22, v_3_24, v_3_27, v_3_30, v_3_31, v_3_32, v_3_33, v_3_36, v_3_37, v_3_38, v_3_39, v_3_40, v_3_42, v_3_44, v_3_47, v_3_48, vgi_0, vgi_s, vga_0, vga_s, vset_0, vset_s, vtk_0, vtk_s, vrc_0, vsw_0, vsw_s, List.all_cons, List.all_nil, zc1_i, zc1_r, Bool.and_true, Bool.and_self, true_and, and_true, List.length_cons, List.length_nil, Nat.zero_le, Nat.reduceLeDiff, Nat.reduceAdd, Nat.reduceLT]
  refine c_22 (L := 8) (by omega) (by omega) (fun p hp ep => ?_) (fun hno => ?_)
  · subst ep
    simp only [v_3_0, v_3_1, v_3_3, v_3_6, v_3_9, v_3_11, v_3_12, v_3_15, v_3_18, v_3_19, v_3_20, v_3_21, v_3_22, v_3_24, v_3_27, v_3_30, v_3_31, v_3_32, v_3_33, v_3_36, v_3_37, v_3_38, v_3_39, v_3_40, v_3_42, v_3_44, v_3_47, v_3_48, vgi_0, vgi_s, vga_0, vga_s, vset_0, vset_s, vtk_0, vtk_s, vrc_0, vsw_0, vsw_s, List.all_cons, List.all_nil, zc1_i, zc1_r, Bool.and_true, Bool.and_self, true_and, and_true, List.length_cons, List.length_nil, Nat.zero_le, Nat.reduceLeDiff, Nat.reduceAdd, Nat.reduceLT, Option.toList_some, List.cons_append, List.nil_append]
    rw [if_neg (by decide)]
    refine c_22 (L := 3) (by omega) (by omega) (fun v hv ev => ?_) (fun hno => ?_)
    · subst ev
      simp only [v_3_0, v_3_1, v_3_3, v_3_6, v_3_9, v_3_11, v_3_12, v_3_15, v_3_18, v_3_19, v_3_20, v_3_21, v_3_22, v_3_24, v_3_27, v_3_30, v_3_31, v_3_32, v_3_33, v_3_36, v_3_37, v_3_38, v_3_39, v_3_40, v_3_42, v_3_44, v_3_47, v_3_48, vgi_0, vgi_s, vga_0, vga_s, vset_0, vset_s, vtk_0, vtk_s, vrc_0, vsw_0, vsw_s, List.all_cons, List.all_nil, zc1_i, zc1_r, Bool.and_true, Bool.and_self, true_and, and_true, List.length_cons, List.length_nil, Nat.zero_le, Nat.reduceLeDiff, Nat.reduceAdd, Nat.reduceLT, Option.toList_some, List.cons_append, List.nil_append, tg_0]
      rw [if_neg (by decide)]
      refine c_25 (by omega) (by omega) hI.wfc (fun s hs es hr => ?_) (fun hno => ?_)
      · subst es
        obtain ⟨h1, h2, h3, h4⟩ := hI.sl hs
        rw [h1] at hr
        have st := sl_dec s hs
        obtain ⟨u, w, hu, hw, eu, ew, hun, hwn⟩ := rowOK_f h4 hr
        simp only [v_3_0, v_3_1, v_3_3, v_3_6, v_3_9, v_3_11, v_3_12, v_3_15, v_3_18, v_3_19, v_3_20, v_3_21, v_3_22, v_3_24, v_3_27, v_3_30, v_3_31, v_3_32, v_3_33, v_3_36, v_3_37, v_3_38, v_3_39, v_3_40, v_3_42, v_3_44, v_3_47, v_3_48, vgi_0, vgi_s, vga_0, vga_s, vset_0, vset_s, vtk_0, vtk_s, vrc_0, vsw_0, vsw_s, List.all_cons, List.all_nil, zc1_i, zc1_r, Bool.and_true, Bool.and_self, true_and, and_true, List.length_cons, List.length_nil, Nat.zero_le, Nat.reduceLeDiff, Nat.reduceAdd, Nat.reduceLT, Option.toList_some, List.cons_append, List.nil_append, tg_0, tf_0_0, tg_1, ln_1]
        rw [if_neg (by decide)]
        simp (disch := omega) only [nI_clamp, vinb_n, tf_1, st]
        refine ⟨hs, trivial, ?_⟩
        refine c_163x (by omega) st hp eu ew hu hw (fun t1 o1 e1 => ?_)
        have I1 : INVx t1 s := INVx.cs hI hs (Or.inl rfl) o1
        have m1 : ∀ r, mS t1 r = mS t r := fun r => o1.ms (by simp; omega) r
        simp only [v_3_0, v_3_1, v_3_3, v_3_6, v_3_9, v_3_11, v_3_12, v_3_15, v_3_18, v_3_19, v_3_20, v_3_21, v_3_22, v_3_24, v_3_27, v_3_30, v_3_31, v_3_32, v_3_33, v_3_36, v_3_37, v_3_38, v_3_39, v_3_40, v_3_42, v_3_44, v_3_47, v_3_48, vgi_0, vgi_s, vga_0, vga_s, vset_0, vset_s, vtk_0, vtk_s, vrc_0, vsw_0, vsw_s, List.all_cons, List.all_nil, zc1_i, zc1_r, Bool.and_true, Bool.and_self, true_and, and_true, List.length_cons, List.length_nil, Nat.zero_le, Nat.reduceLeDiff, Nat.reduceAdd, Nat.reduceLT, Option.toList_none, List.nil_append]
        refine ⟨Or.inr trivial, by omega, ?_⟩
        rw [ze_52]
        refine vc_ok none zH_52 42 false _ 52 0 _ _ _ _ ?_
        simp only [v_52_0, v_52_1, v_52_4, v_52_7, v_52_8, v_52_9, v_52_11, v_52_14, v_52_17, v_52_18, v_52_19, v_52_20, v_52_21, v_52_23, v_52_26, v_52_29, v_52_31, v_52_32, v_52_33, v_52_36, v_52_39, v_52_40, v_52_41, v_52_42, v_52_43, v_52_44, v_52_45, v_52_47, v_52_50, v_52_52, v_52_55, v_52_56, vgi_0, vgi_s, vga_0, vga_s, vset_0, vset_s, vtk_0, vtk_s, vrc_0, vsw_0, vsw_s, List.all_cons, List.all_nil, zc1_i, zc1_r, Bool.and_true, Bool.and_self, true_and, and_true, List.length_cons, List.length_nil, Nat.zero_le, Nat.reduceLeDiff, Nat.reduceAdd, Nat.reduceLT]
        refine c_47 (by omega) (fun s' hs' es' => ?_) (fun hno => absurd rfl (hno s hs))
        simp only [v_52_0, v_52_1, v_52_4, v_52_7, v_52_8, v_52_9, v_52_11, v_52_14, v_52_17, v_52_18, v_52_19, v_52_20, v_52_21, v_52_23, v_52_26, v_52_29, v_52_31, v_52_32, v_52_33, v_52_36, v_52_39, v_52_40, v_52_41, v_52_42, v_52_43, v_52_44, v_52_45, v_52_47, v_52_50, v_52_52, v_52_55, v_52_56, vgi_0, vgi_s, vga_0, vga_s, vset_0, vset_s, vtk_0, vtk_s, vrc_0, vsw_0, vsw_s, List.all_cons, List.all_nil, zc1_i, zc1_r, Bool.and_true, Bool.and_self, true_and, and_true, List.length_cons, List.length_nil, Nat.zero_le, Nat.reduceLeDiff, Nat.reduceAdd, Nat.reduceLT, Option.toList_some, List.cons_append, List.nil_append]
        rw [if_neg (by decide)]
        refine c_37 (lo := 0) (hi := 7) (by omega) (by omega) (by omega) (fun p' hp1 hp2 ep => ?_) (fun hno => absurd rfl (hno p (by omega) (by omega)))
        simp only [v_52_0, v_52_1, v_52_4, v_52_7, v_52_8, v_52_9, v_52_11, v_52_14, v_52_17, v_52_18, v_52_19, v_52_20, v_52_21, v_52_23, v_52_26, v_52_29, v_52_31, v_52_32, v_52_33, v_52_36, v_52_39, v_52_40, v_52_41, v_52_42, v_52_43, v_52_44, v_52_45, v_52_47, v_52_50, v_52_52, v_52_55, v_52_56, vgi_0, vgi_s, vga_0, vga_s, vset_0, vset_s, vtk_0, vtk_s, vrc_0, vsw_0, vsw_s, List.all_cons, List.all_nil, zc1_i, zc1_r, Bool.and_true, Bool.and_self, true_and, and_true, List.length_cons, List.length_nil, Nat.zero_le, Nat.reduceLeDiff, Nat.reduceAdd, Nat.reduceLT, Option.toList_some, List.cons_append, List.nil_append, tg_483]
        rw [if_pos trivial]
        refine c_51 (n := sn (mS t s)) (by omega) (by omega) (by omega) (by rw [m1]; exact h3) h4 (fun _ => ?_) (fun hno => absurd hr hno)
        simp only [v_52_0, v_52_1, v_52_4, v_52_7, v_52_8, v_52_9, v_52_11, v_52_14, v_52_17, v_52_18, v_52_19, v_52_20, v_52_21, v_52_23, v_52_26, v_52_29, v_52_31, v_52_32, v_52_33, v_52_36, v_52_39, v_52_40, v_52_41, v_52_42, v_52_43, v_52_44, v_52_45, v_52_47, v_52_50, v_52_52, v_52_55, v_52_56, vgi_0, vgi_s, vga_0, vga_s, vset_0, vset_s, vtk_0, vtk_s, vrc_0, vsw_0, vsw_s, List.all_cons, List.all_nil, zc1_i, zc1_r, Bool.and_true, Bool.and_self, true_and, and_true, List.length_cons, List.length_nil, Nat.zero_le, Nat.reduceLeDiff, Nat.reduceAdd, Nat.reduceLT, Option.toList_some, List.cons_append, List.nil_append]
        rw [if_neg (by decide)]
        refine c_37 (lo := 0) (hi := 2) (by omega) (by omega) (by omega) (fun v' hv1 hv2 ev => ?_) (fun hno => absurd rfl (hno v (by omega) (by omega)))
        simp only [v_52_0, v_52_1, v_52_4, v_52_7, v_52_8, v_52_9, v_52_11, v_52_14, v_52_17, v_52_18, v_52_19, v_52_20, v_52_21, v_52_23, v_52_26, v_52_29, v_52_31, v_52_32, v_52_33, v_52_36, v_52_39, v_52_40, v_52_41, v_52_42, v_52_43, v_52_44, v_52_45, v_52_47, v_52_50, v_52_52, v_52_55, v_52_56, vgi_0, vgi_s, vga_0, vga_s, vset_0, vset_s, vtk_0, vtk_s, vrc_0, vsw_0, vsw_s, List.all_cons, List.all_nil, zc1_i, zc1_r, Bool.and_true, Bool.and_self, true_and, and_true, List.length_cons, List.length_nil, Nat.zero_le, Nat.reduceLeDiff, Nat.reduceAdd, Nat.reduceLT, Option.toList_some, List.cons_append, List.nil_append, tg_483]
        rw [if_pos trivial]
        refine c_41x (by omega) (by omega) eu ew ?_
        have hr2 := cel_r hp hu hw
        simp only [v_52_0, v_52_1, v_52_4, v_52_7, v_52_8, v_52_9, v_52_11, v_52_14, v_52_17, v_52_18, v_52_19, v_52_20, v_52_21, v_52_23, v_52_26, v_52_29, v_52_31, v_52_32, v_52_33, v_52_36, v_52_39, v_52_40, v_52_41, v_52_42, v_52_43, v_52_44, v_52_45, v_52_47, v_52_50, v_52_52, v_52_55, v_52_56, vgi_0, vgi_s, vga_0, vga_s, vset_0, vset_s, vtk_0, vtk_s, vrc_0, vsw_0, vsw_s, List.all_cons, List.all_nil, zc1_i, zc1_r, Bool.and_true, Bool.and_self, true_and, and_true, List.length_cons, List.length_nil, Nat.zero_le, Nat.reduceLeDiff, Nat.reduceAdd, Nat.reduceLT, Option.toList_some, List.cons_append, List.nil_append, tg_483]
        refine c_39s (A := noA) (P := only s) (by omega) (by omega) hr2.2 (n_byte _ (by omega)) rfl (fun t2 o2 e2 => ?_)
        have e2 := e2 s
        rw [if_pos rfl, m1] at e2
        simp only [v_52_0, v_52_1, v_52_4, v_52_7, v_52_8, v_52_9, v_52_11, v_52_14, v_52_17, v_52_18, v_52_19, v_52_20, v_52_21, v_52_23, v_52_26, v_52_29, v_52_31, v_52_32, v_52_33, v_52_36, v_52_39, v_52_40, v_52_41, v_52_42, v_52_43, v_52_44, v_52_45, v_52_47, v_52_50, v_52_52, v_52_55, v_52_56, vgi_0, vgi_s, vga_0, vga_s, vset_0, vset_s, vtk_0, vtk_s, vrc_0, vsw_0, vsw_s, List.all_cons, List.all_nil, zc1_i, zc1_r, Bool.and_true, Bool.and_self, true_and, and_true, List.length_cons, List.length_nil, Nat.zero_le, Nat.reduceLeDiff, Nat.reduceAdd, Nat.reduceLT, Option.toList_none, List.nil_append]
        refine ⟨Or.inr trivial, _, rfl, rfl, I1.ms0 hs o2 (fun r hr => Or.inl hr) (by rw [e1, e2, h1]) ?_⟩
        rw [e2]
        exact cel_su_wf h2 h3 h4 hp hu hw hun hwn hv
      · simp only [v_3_0, v_3_1, v_3_3, v_3_6, v_3_9, v_3_11, v_3_12, v_3_15, v_3_18, v_3_19, v_3_20, v_3_21, v_3_22, v_3_24, v_3_27, v_3_30, v_3_31, v_3_32, v_3_33, v_3_36, v_3_37, v_3_38, v_3_39, v_3_40, v_3_42, v_3_44, v_3_47, v_3_48, vgi_0, vgi_s, vga_0, vga_s, vset_0, vset_s, vtk_0, vtk_s, vrc_0, vsw_0, vsw_s, List.all_cons, List.all_nil, zc1_i, zc1_r, Bool.and_true, Bool.and_self, true_and, and_true, List.length_cons, List.length_nil, Nat.zero_le, Nat.reduceLeDiff, Nat.reduceAdd, Nat.reduceLT, Option.toList_some, List.cons_append, List.nil_append]
        rw [if_pos trivial]
        refine ⟨Or.inl trivial, bad (fun s p' v' hs hp' hv' es ep' ev' hr => ?_)⟩
        have : p = p' := nI_inj (by omega) (by omega) ep'
        subst this
        refine hno s hs es ?_
        rw [(hI.sl hs).1]; exact hr
    · simp only [v_3_0, v_3_1, v_3_3, v_3_6, v_3_9, v_3_11, v_3_12, v_3_15, v_3_18, v_3_19, v_3_20, v_3_21, v_3_22, v_3_24, v_3_27, v_3_30, v_3_31, v_3_32, v_3_33, v_3_36, v_3_37, v_3_38, v_3_39, v_3_40, v_3_42, v_3_44, v_3_47, v_3_48, vgi_0, vgi_s, vga_0, vga_s, vset_0, vset_s, vtk_0, vtk_s, vrc_0, vsw_0, vsw_s, List.all_cons, List.all_nil, zc1_i, zc1_r, Bool.and_true, Bool.and_self, true_and, and_true, List.length_cons, List.length_nil, Nat.zero_le, Nat.reduceLeDiff, Nat.reduceAdd, Nat.reduceLT, Option.toList_some, List.cons_append, List.nil_append]
      rw [if_pos trivial]
      exact ⟨Or.inl trivial, bad (fun s p v hs hp hv es ep ev => absurd ev (hno v hv))⟩
  · simp only [v_3_0, v_3_1, v_3_3, v_3_6, v_3_9, v_3_11, v_3_12, v_3_15, v_3_18, v_3_19, v_3_20, v_3_21, v_3_22, v_3_24, v_3_27, v_3_30, v_3_31, v_3_32, v_3_33, v_3_36, v_3_37, v_3_38, v_3_39, v_3_40, v_3_42, v_3_44, v_3_47, v_3_48, vgi_0, vgi_s, vga_0, vga_s, vset_0, vset_s, vtk_0, vtk_s, vrc_0, vsw_0, vsw_s, List.all_cons, List.all_nil, zc1_i, zc1_r, Bool.and_true, Bool.and_self, true_and, and_true, List.length_cons, List.length_nil, Nat.zero_le, Nat.reduceLeDiff, Nat.reduceAdd, Nat.reduceLT, Option.toList_some, List.cons_append, List.nil_append]
    rw [if_pos trivial]
    exact ⟨Or.inl trivial, bad (fun s p v hs hp hv es ep => absurd ep (hno p hp))⟩
end OP3
