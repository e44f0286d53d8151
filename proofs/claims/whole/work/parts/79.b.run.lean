/-! run: both sides. -/
section RUNB
variable {d b : Nat} {t t' : T} {F : Option Value → T → Prop} {q : FT} {m rc ec : Nat} {ru Es : Nat → Nat → Nat} {S X Y Z : Nat → List St}
theorem l_100a {j2 : Value} (h : ∀ t', mG (fun b => b = 505) noA t t' → (∀ k, k < 48 → t'.1 505 k = 0) → twp none d 100 27 [.ref 483, .int 1, j2] [] t' F) : ∀ (j i : Nat) (t' : T), i + j = 48 → mG (fun b => b = 505) noA t t' → (∀ k, k < i → t'.1 505 k = 0) → twp none d 100 6 [.ref 483, .int (nI i), j2] [] t' F := by
  intro j
  induction j with
  | zero =>
    intro i t' hi hO hI
    have hi : i = 48 := by omega
    subst hi
    refine vc_ok none zH_100 45 false _ 100 6 _ _ _ _ ?_
    simp only [v_100_0, v_100_1, v_100_4, v_100_5, v_100_6, h_100_6, v_100_7, v_100_9, v_100_12, v_100_13, v_100_16, v_100_17, v_100_18, v_100_19, v_100_22, v_100_25, v_100_26, v_100_27, h_100_27, v_100_28, v_100_31, v_100_32, v_100_35, v_100_36, v_100_39, v_100_40, v_100_43, v_100_44, v_100_47, v_100_48, v_100_51, v_100_52, v_100_53, v_100_56, v_100_58, v_100_61, v_100_62, vgi_0, vgi_s, vga_0, vga_s, vset_0, vset_s, vtk_0, vtk_s, vrc_0, vsw_0, vsw_s, List.all_cons, List.all_nil, zc1_i, zc1_r, Bool.and_true, Bool.and_self, true_and, and_true, List.length_cons, List.length_nil, Nat.zero_le, Nat.reduceLeDiff, Nat.reduceAdd, Nat.reduceLT]
    rw [if_neg (by decide)]
    exact h t' hO hI
  | succ j ih =>
    intro i t' hi hO hI
    refine vc_ok none zH_100 45 false _ 100 6 _ _ _ _ ?_
    simp only [v_100_0, v_100_1, v_100_4, v_100_5, v_100_6, h_100_6, v_100_7, v_100_9, v_100_12, v_100_13, v_100_16, v_100_17, v_100_18, v_100_19, v_100_22, v_100_25, v_100_26, v_100_27, h_100_27, v_100_28, v_100_31, v_100_32, v_100_35, v_100_36, v_100_39, v_100_40, v_100_43, v_100_44, v_100_47, v_100_48, v_100_51, v_100_52, v_100_53, v_100_56, v_100_58, v_100_61, v_100_62, vgi_0, vgi_s, vga_0, vga_s, vset_0, vset_s, vtk_0, vtk_s, vrc_0, vsw_0, vsw_s, List.all_cons, List.all_nil, zc1_i, zc1_r, Bool.and_true, Bool.and_self, true_and, and_true, List.length_cons, List.length_nil, Nat.zero_le, Nat.reduceLeDiff, Nat.reduceAdd, Nat.reduceLT, tg_483, tf_483_25, tg_505, ln_505]
    rw [li48, if_pos (nI_lt (by omega) (by omega))]
    simp (disch := omega) only [nI_clamp, vinb_n, nI_1]
    refine ⟨by omega, ?_⟩
    rw [if_neg (by decide)]
    refine ⟨Or.inl trivial, ?_⟩
    refine ih (i + 1) _ (by omega) (hO.tr ⟨rfl, fun y _ hy k => tsi_ne (fun z => hy z.1), fun r _ => by funext k; unfold mS; rw [tsi_ne (by omega)]⟩) (fun k hk => ?_)
    by_cases z : k = i
    · rw [z, tsi_eq]
    · rw [tsi_ne (by omega)]; exact hI k (by omega)
theorem started_m (hS : ∀ p, p < 4 → (S p).length ≤ 12 ∧ (∀ x, x ∈ S p → wfS x) ∧ t.1 504 p = nI (S p).length ∧ rwI t (52 + 12 * p) (S p)) (hO : mW rnA rnR t t') : ∀ p, p < 4 → (S p).length ≤ 12 ∧ (∀ x, x ∈ S p → wfS x) ∧ t'.1 504 p = nI (S p).length ∧ rwI t' (52 + 12 * p) (S p) := fun p hp => by
  obtain ⟨h1, h2, h3, h4⟩ := hS p hp
  refine ⟨h1, h2, by rw [hO.1.2.1 504 (by omega) (fun z => by unfold rnA at z; omega)]; exact h3, fun k hk => ?_⟩
  rw [hO.1.2.2 _ (by unfold rnR; omega)]; exact h4 k hk
theorem l_100b (hd : 16 ≤ d) (hr : rdM t q m ru rc ec Es) (hS : ∀ p, p < 4 → (S p).length ≤ 12 ∧ (∀ x, x ∈ S p → wfS x) ∧ t.1 504 p = nI (S p).length ∧ rwI t (52 + 12 * p) (S p)) (kf : badX q ru rc ec Es S → ∀ t', mW rnA rnR t t' → (∀ p, p < 4 → t'.1 503 p = nI (S p).length ∧ ∃ L, stdL L (S p) ∧ rwI t' (4 + 12 * p) L) → F (some (.int (-3))) t') (k1 : ∀ X, goodX q ru rc ec Es S X → ∀ t', mW rnA rnR t t' → (∀ p, p < 4 → t'.1 503 p = nI (X p).length ∧ ∃ L, stdL L (X p) ∧ rwI t' (4 + 12 * p) L) → F (some (.int (nI (tot X 4)))) t') : ∀ (j : Nat) (X : Nat → List St) (t' : T) (j2 : Value), cn (t'.1 505) 48 + j = 49 → grw q ru rc ec Es S X → mX t' X → dI q ru rc ec Es t' X → mW rnA rnR t t' → twp none d 100 27 [.ref 483, .int 1, j2] [] t' F := by
  have wst : ∀ {t1 t2 : T}, mG noA stR t1 t2 → mW rnA rnR t1 t2 := fun o => mW.of o (fun z => z) (fun x z => z.elim) (fun x z => by unfold stR at z; unfold rnR; omega)
  have wre : ∀ {t1 t2 : T}, mG reA reR t1 t2 → mW rnA rnR t1 t2 := fun o => mW.of o (fun z => by unfold reA at z; omega) (fun x z => by unfold reA at z; unfold rnA; omega) (fun x z => by unfold reR at z; unfold rnR; omega)
  intro j
  induction j with
  | zero =>
    intro X t' j2 hc
    have := cn_le (t'.1 505) 48
    omega
  | succ j ih =>
    intro X t' j2 hc hG hX hD hO
    refine vc_ok none zH_100 45 false _ 100 27 _ _ _ _ ?_
    simp only [v_100_0, v_100_1, v_100_4, v_100_5, v_100_6, h_100_6, v_100_7, v_100_9, v_100_12, v_100_13, v_100_16, v_100_17, v_100_18, v_100_19, v_100_22, v_100_25, v_100_26, v_100_27, h_100_27, v_100_28, v_100_31, v_100_32, v_100_35, v_100_36, v_100_39, v_100_40, v_100_43, v_100_44, v_100_47, v_100_48, v_100_51, v_100_52, v_100_53, v_100_56, v_100_58, v_100_61, v_100_62, vgi_0, vgi_s, vga_0, vga_s, vset_0, vset_s, vtk_0, vtk_s, vrc_0, vsw_0, vsw_s, List.all_cons, List.all_nil, zc1_i, zc1_r, Bool.and_true, Bool.and_self, true_and, and_true, List.length_cons, List.length_nil, Nat.zero_le, Nat.reduceLeDiff, Nat.reduceAdd, Nat.reduceLT, tg_483]
    rw [if_pos (by decide)]
    refine c_99 (X := X) (S := S) (by omega) (hr.k hO) hG hX hD (fun hB t1 o1 => ?_) (fun Y k hY hG2 hk z0 t1 o1 X1 D1 e1 => ?_) (fun hgood => ?_)
    · simp only [v_100_0, v_100_1, v_100_4, v_100_5, v_100_6, h_100_6, v_100_7, v_100_9, v_100_12, v_100_13, v_100_16, v_100_17, v_100_18, v_100_19, v_100_22, v_100_25, v_100_26, v_100_27, h_100_27, v_100_28, v_100_31, v_100_32, v_100_35, v_100_36, v_100_39, v_100_40, v_100_43, v_100_44, v_100_47, v_100_48, v_100_51, v_100_52, v_100_53, v_100_56, v_100_58, v_100_61, v_100_62, vgi_0, vgi_s, vga_0, vga_s, vset_0, vset_s, vtk_0, vtk_s, vrc_0, vsw_0, vsw_s, List.all_cons, List.all_nil, zc1_i, zc1_r, Bool.and_true, Bool.and_self, true_and, and_true, List.length_cons, List.length_nil, Nat.zero_le, Nat.reduceLeDiff, Nat.reduceAdd, Nat.reduceLT, Option.toList_some, List.cons_append, List.nil_append]
      refine vc_ok none zH_100 45 false _ 100 27 _ _ _ _ ?_
      simp only [v_100_0, v_100_1, v_100_4, v_100_5, v_100_6, h_100_6, v_100_7, v_100_9, v_100_12, v_100_13, v_100_16, v_100_17, v_100_18, v_100_19, v_100_22, v_100_25, v_100_26, v_100_27, h_100_27, v_100_28, v_100_31, v_100_32, v_100_35, v_100_36, v_100_39, v_100_40, v_100_43, v_100_44, v_100_47, v_100_48, v_100_51, v_100_52, v_100_53, v_100_56, v_100_58, v_100_61, v_100_62, vgi_0, vgi_s, vga_0, vga_s, vset_0, vset_s, vtk_0, vtk_s, vrc_0, vsw_0, vsw_s, List.all_cons, List.all_nil, zc1_i, zc1_r, Bool.and_true, Bool.and_self, true_and, and_true, List.length_cons, List.length_nil, Nat.zero_le, Nat.reduceLeDiff, Nat.reduceAdd, Nat.reduceLT, tg_483]
      rw [if_neg (by decide), if_pos (by decide)]
      refine c_95 (S := S) (by omega) (started_m hS (hO.tr o1)) (fun t2 o2 f2 => ?_)
      simp only [v_100_0, v_100_1, v_100_4, v_100_5, v_100_6, h_100_6, v_100_7, v_100_9, v_100_12, v_100_13, v_100_16, v_100_17, v_100_18, v_100_19, v_100_22, v_100_25, v_100_26, v_100_27, h_100_27, v_100_28, v_100_31, v_100_32, v_100_35, v_100_36, v_100_39, v_100_40, v_100_43, v_100_44, v_100_47, v_100_48, v_100_51, v_100_52, v_100_53, v_100_56, v_100_58, v_100_61, v_100_62, vgi_0, vgi_s, vga_0, vga_s, vset_0, vset_s, vtk_0, vtk_s, vrc_0, vsw_0, vsw_s, List.all_cons, List.all_nil, zc1_i, zc1_r, Bool.and_true, Bool.and_self, true_and, and_true, List.length_cons, List.length_nil, Nat.zero_le, Nat.reduceLeDiff, Nat.reduceAdd, Nat.reduceLT, Option.toList_none, List.nil_append, tg_483]
      refine c_96 (S := S) (by omega) (fun p hp => ⟨(hS p hp).1, (hS p hp).2.1, f2 p hp⟩) (fun t3 o3 f3 => ?_)
      simp only [v_100_0, v_100_1, v_100_4, v_100_5, v_100_6, h_100_6, v_100_7, v_100_9, v_100_12, v_100_13, v_100_16, v_100_17, v_100_18, v_100_19, v_100_22, v_100_25, v_100_26, v_100_27, h_100_27, v_100_28, v_100_31, v_100_32, v_100_35, v_100_36, v_100_39, v_100_40, v_100_43, v_100_44, v_100_47, v_100_48, v_100_51, v_100_52, v_100_53, v_100_56, v_100_58, v_100_61, v_100_62, vgi_0, vgi_s, vga_0, vga_s, vset_0, vset_s, vtk_0, vtk_s, vrc_0, vsw_0, vsw_s, List.all_cons, List.all_nil, zc1_i, zc1_r, Bool.and_true, Bool.and_self, true_and, and_true, List.length_cons, List.length_nil, Nat.zero_le, Nat.reduceLeDiff, Nat.reduceAdd, Nat.reduceLT, Option.toList_some, List.cons_append, List.nil_append]
      rw [if_pos (by decide)]
      exact kf hB t3 (((hO.tr o1).tr (wre o2)).tr (wst o3)) (fun p hp => ⟨by rw [o3.2.1 503 (by omega) (fun z => z)]; exact (f2 p hp).1, f3 p hp⟩)
    · simp only [v_100_0, v_100_1, v_100_4, v_100_5, v_100_6, h_100_6, v_100_7, v_100_9, v_100_12, v_100_13, v_100_16, v_100_17, v_100_18, v_100_19, v_100_22, v_100_25, v_100_26, v_100_27, h_100_27, v_100_28, v_100_31, v_100_32, v_100_35, v_100_36, v_100_39, v_100_40, v_100_43, v_100_44, v_100_47, v_100_48, v_100_51, v_100_52, v_100_53, v_100_56, v_100_58, v_100_61, v_100_62, vgi_0, vgi_s, vga_0, vga_s, vset_0, vset_s, vtk_0, vtk_s, vrc_0, vsw_0, vsw_s, List.all_cons, List.all_nil, zc1_i, zc1_r, Bool.and_true, Bool.and_self, true_and, and_true, List.length_cons, List.length_nil, Nat.zero_le, Nat.reduceLeDiff, Nat.reduceAdd, Nat.reduceLT, Option.toList_some, List.cons_append, List.nil_append]
      refine ih Y t1 _ ?_ hG2 X1 D1 (hO.tr o1)
      have := cn_set (g := t'.1 505) (g' := t1.1 505) (k := k) z0 e1 48
      rw [if_pos hk] at this
      omega
    · simp only [v_100_0, v_100_1, v_100_4, v_100_5, v_100_6, h_100_6, v_100_7, v_100_9, v_100_12, v_100_13, v_100_16, v_100_17, v_100_18, v_100_19, v_100_22, v_100_25, v_100_26, v_100_27, h_100_27, v_100_28, v_100_31, v_100_32, v_100_35, v_100_36, v_100_39, v_100_40, v_100_43, v_100_44, v_100_47, v_100_48, v_100_51, v_100_52, v_100_53, v_100_56, v_100_58, v_100_61, v_100_62, vgi_0, vgi_s, vga_0, vga_s, vset_0, vset_s, vtk_0, vtk_s, vrc_0, vsw_0, vsw_s, List.all_cons, List.all_nil, zc1_i, zc1_r, Bool.and_true, Bool.and_self, true_and, and_true, List.length_cons, List.length_nil, Nat.zero_le, Nat.reduceLeDiff, Nat.reduceAdd, Nat.reduceLT, Option.toList_some, List.cons_append, List.nil_append]
      refine vc_ok none zH_100 45 false _ 100 27 _ _ _ _ ?_
      simp only [v_100_0, v_100_1, v_100_4, v_100_5, v_100_6, h_100_6, v_100_7, v_100_9, v_100_12, v_100_13, v_100_16, v_100_17, v_100_18, v_100_19, v_100_22, v_100_25, v_100_26, v_100_27, h_100_27, v_100_28, v_100_31, v_100_32, v_100_35, v_100_36, v_100_39, v_100_40, v_100_43, v_100_44, v_100_47, v_100_48, v_100_51, v_100_52, v_100_53, v_100_56, v_100_58, v_100_61, v_100_62, vgi_0, vgi_s, vga_0, vga_s, vset_0, vset_s, vtk_0, vtk_s, vrc_0, vsw_0, vsw_s, List.all_cons, List.all_nil, zc1_i, zc1_r, Bool.and_true, Bool.and_self, true_and, and_true, List.length_cons, List.length_nil, Nat.zero_le, Nat.reduceLeDiff, Nat.reduceAdd, Nat.reduceLT, tg_483]
      rw [if_neg (by decide), if_neg (by decide)]
      refine c_96 (S := X) (by omega) (fun p hp => ⟨(hG p hp).1, fun x hx => ((hG p hp).2.2.2 x hx).1, hX p hp⟩) (fun t3 o3 f3 => ?_)
      simp only [v_100_0, v_100_1, v_100_4, v_100_5, v_100_6, h_100_6, v_100_7, v_100_9, v_100_12, v_100_13, v_100_16, v_100_17, v_100_18, v_100_19, v_100_22, v_100_25, v_100_26, v_100_27, h_100_27, v_100_28, v_100_31, v_100_32, v_100_35, v_100_36, v_100_39, v_100_40, v_100_43, v_100_44, v_100_47, v_100_48, v_100_51, v_100_52, v_100_53, v_100_56, v_100_58, v_100_61, v_100_62, vgi_0, vgi_s, vga_0, vga_s, vset_0, vset_s, vtk_0, vtk_s, vrc_0, vsw_0, vsw_s, List.all_cons, List.all_nil, zc1_i, zc1_r, Bool.and_true, Bool.and_self, true_and, and_true, List.length_cons, List.length_nil, Nat.zero_le, Nat.reduceLeDiff, Nat.reduceAdd, Nat.reduceLT, Option.toList_some, List.cons_append, List.nil_append]
      rw [if_neg (by decide)]
      exact k1 X hgood t3 (hO.tr (wst o3)) (fun p hp => ⟨by rw [o3.2.1 503 (by omega) (fun z => z)]; exact (hX p hp).1, f3 p hp⟩)
theorem c_100 (hd : 17 ≤ d) (hr : rdM t q m ru rc ec Es) (hN : ∀ p, p < 4 → (S p).Nodup) (hS : ∀ p, p < 4 → (S p).length ≤ 12 ∧ (∀ x, x ∈ S p → wfS x) ∧ t.1 504 p = nI (S p).length ∧ rwI t (52 + 12 * p) (S p)) (kf : badX q ru rc ec Es S → ∀ t', mW rnA rnR t t' → (∀ p, p < 4 → t'.1 503 p = nI (S p).length ∧ ∃ L, stdL L (S p) ∧ rwI t' (4 + 12 * p) L) → F (some (.int (-3))) t') (k1 : ∀ X, goodX q ru rc ec Es S X → ∀ t', mW rnA rnR t t' → (∀ p, p < 4 → t'.1 503 p = nI (X p).length ∧ ∃ L, stdL L (X p) ∧ rwI t' (4 + 12 * p) L) → F (some (.int (nI (tot X 4)))) t') : twc d 100 [.ref 483] t F := by
  refine ⟨by omega, ?_⟩
  rw [ze_100]
  refine vc_ok none zH_100 45 false _ 100 0 _ _ _ _ ?_
  simp only [v_100_0, v_100_1, v_100_4, v_100_5, v_100_6, h_100_6, v_100_7, v_100_9, v_100_12, v_100_13, v_100_16, v_100_17, v_100_18, v_100_19, v_100_22, v_100_25, v_100_26, v_100_27, h_100_27, v_100_28, v_100_31, v_100_32, v_100_35, v_100_36, v_100_39, v_100_40, v_100_43, v_100_44, v_100_47, v_100_48, v_100_51, v_100_52, v_100_53, v_100_56, v_100_58, v_100_61, v_100_62, vgi_0, vgi_s, vga_0, vga_s, vset_0, vset_s, vtk_0, vtk_s, vrc_0, vsw_0, vsw_s, List.all_cons, List.all_nil, zc1_i, zc1_r, Bool.and_true, Bool.and_self, true_and, and_true, List.length_cons, List.length_nil, Nat.zero_le, Nat.reduceLeDiff, Nat.reduceAdd, Nat.reduceLT, tg_483]
  refine c_95 (S := S) (by omega) hS (fun t1 o1 f1 => ?_)
  have O1 : mW rnA rnR t t1 := mW.of o1 (fun z => by unfold reA at z; omega) (fun x z => by unfold reA at z; unfold rnA; omega) (fun x z => by unfold reR at z; unfold rnR; omega)
  simp only [v_100_0, v_100_1, v_100_4, v_100_5, v_100_6, h_100_6, v_100_7, v_100_9, v_100_12, v_100_13, v_100_16, v_100_17, v_100_18, v_100_19, v_100_22, v_100_25, v_100_26, v_100_27, h_100_27, v_100_28, v_100_31, v_100_32, v_100_35, v_100_36, v_100_39, v_100_40, v_100_43, v_100_44, v_100_47, v_100_48, v_100_51, v_100_52, v_100_53, v_100_56, v_100_58, v_100_61, v_100_62, vgi_0, vgi_s, vga_0, vga_s, vset_0, vset_s, vtk_0, vtk_s, vrc_0, vsw_0, vsw_s, List.all_cons, List.all_nil, zc1_i, zc1_r, Bool.and_true, Bool.and_self, true_and, and_true, List.length_cons, List.length_nil, Nat.zero_le, Nat.reduceLeDiff, Nat.reduceAdd, Nat.reduceLT, Option.toList_none, List.nil_append]
  refine l_100a (t := t1) (fun t2 o2 z2 => ?_) 48 0 t1 (by omega) mG.rf (fun k hk => by omega)
  have O2 : mW rnA rnR t1 t2 := mW.of o2 (fun z => by omega) (fun x z => by unfold rnA; omega) (fun x z => z.elim)
  refine l_100b (t := t) (S := S) (by omega) hr hS kf k1 (49 - cn (t2.1 505) 48) S t2 _ (by have := cn_le (t2.1 505) 48; omega) (fun p hp => ⟨(hS p hp).1, hN p hp, fun x hx => hx, fun x hx => ⟨(hS p hp).2.1 x hx, 0, hx⟩⟩) (fun p hp => ⟨by rw [o2.2.1 503 (by omega) (by omega)]; exact (f1 p hp).1, fun k hk => by rw [o2.2.2 _ (fun z => z)]; exact (f1 p hp).2 k hk⟩) ⟨fun k hk => Or.inl (z2 k hk), fun p i a1 a2 a3 => z2 _ (by omega), fun p i a1 a2 a3 => ?_⟩ (O1.tr O2)
  have := (hS p a1).1
  rw [z2 _ (by omega)] at a3
  exact absurd a3 (by decide)
theorem Rch.congr {S2 : Nat → List St} {p : Nat} {x : St} (hE : ∀ e, e < ec → ewf q m (Es e)) (hS : ∀ p, p < 4 → ∀ x, x ∈ S p ↔ x ∈ S2 p) (hp : p < 4) (h : Rch q ru rc ec Es S p x) : Rch q ru rc ec Es S2 p x := by
  obtain ⟨k, hk⟩ := h
  exact ⟨k, rch_congr hE (fun p hp x hx => (hS p hp x).mp hx) k p x hp hk⟩
theorem goodX.congr {S2 : Nat → List St} (hE : ∀ e, e < ec → ewf q m (Es e)) (hS : ∀ p, p < 4 → ∀ x, x ∈ S p ↔ x ∈ S2 p) (h : goodX q ru rc ec Es S X) : goodX q ru rc ec Es S2 X := fun p hp => by
  obtain ⟨h1, h2, h3, h4, h5⟩ := h p hp
  exact ⟨h1, h2, fun x hx => h3 x ((hS p hp x).mpr hx), fun x hx => ⟨(h4 x hx).1, (h4 x hx).2.congr hE hS hp⟩, h5⟩
theorem badX.congr {S2 : Nat → List St} (hE : ∀ e, e < ec → ewf q m (Es e)) (hS : ∀ p, p < 4 → ∀ x, x ∈ S p ↔ x ∈ S2 p) (h : badX q ru rc ec Es S) : badX q ru rc ec Es S2 := by
  rcases h with ⟨p, x, e, hp, hx, hR, h⟩ | ⟨p, L, hp, hn, hl, hL⟩
  · exact Or.inl ⟨p, x, e, hp, hx, hR.congr hE hS hp, h⟩
  · exact Or.inr ⟨p, L, hp, hn, hl, fun x hx => (hL x hx).congr hE hS hp⟩
/-- behind run -/
theorem INV.rn {t1 t2 : T} (h : INV t) (hb : t.2 58 3 = b) (o1 : tF (ruF b) t t1) (b1 : bgI t1) (o2 : mW rnA rnR t1 t2) (hL : ∀ p, p < 4 → ∃ L, L.length ≤ 12 ∧ (∀ x, x ∈ L → wfS x) ∧ bL t1 (301 + 52 * p) L ∧ t2.1 503 p = nI L.length ∧ rwI t2 (4 + 12 * p) L) : INV t2 := by
  have hbw := h.bw
  rw [hb] at hbw
  obtain ⟨-, hb3⟩ := hbw
  have bN4 : bN b = 40 := hb3.elim (fun z => z.2.1) (fun z => z.2.1)
  have hb2 : b = 61 ∨ b = 161 := hb3.imp (fun z => z.1) (fun z => z.1)
  obtain ⟨q, m, ru, rc, ec, Es, h1, h2, h3, h4, h5, h6, h7, h8, h9⟩ := h
  have i : ∀ x k, ¬ ruF b x → x < 483 ∨ (485 ≤ x ∧ x ≤ 502) ∨ x = 504 → t2.1 x k = t.1 x k := fun x k hx hx2 => by
    rw [o2.1.2.1 x (by omega) (fun z => by unfold rnA at z; omega)]
    exact (o1 x hx).1 k
  have i2 : ∀ x k, x < 44 ∨ (47 ≤ x ∧ x ≤ 58) ∨ (243 ≤ x ∧ x < 301) ∨ (485 ≤ x ∧ x ≤ 502) ∨ x = 504 → t2.1 x k = t.1 x k := fun x k hx => i x k (ruF.no bN4 hb2 (by omega)) (by omega)
  have i3 : ∀ k, k ≠ 26 → t2.1 483 k = t.1 483 k := fun k hk => by
    rw [o2.2 k hk]; exact (o1 483 (ruF.no bN4 hb2 (by omega))).1 k
  have r : ∀ x k, ¬ ruF b x → t2.2 x k = t.2 x k := fun x k hx => by
    rw [o2.1.1]; exact (o1 x hx).2 k
  have mr : ∀ s, ¬ rnR s → mS t2 s = mS t s := fun s hs => by
    rw [o2.1.2.2 s hs]
    funext k; unfold mS; rw [(o1 484 (ruF.no bN4 hb2 (by omega))).1]
  have nf : ∀ p x, p < 4 → 275 + 52 * p ≤ x → x < 301 + 52 * p → ¬ ruF b x := fun p x hp h1 h2 h => by
    rcases h with h | h | ⟨-, -, p', a1, a2, a3⟩ | h
    · unfold mvF bgF at h; omega
    · omega
    · omega
    · omega
  refine ⟨q, m, ru, rc, ec, Es, h1.k (fun x k a c => i2 x k (by omega)) (fun s hs => mr s (by unfold rnR; omega)), h2.k (fun x k a => i2 x k (by omega)) (i3 1 (by omega)), h3.k (fun x k a => i2 x k (by omega)) (i3 10 (by omega)), h4.k (fun x k a => i2 x k (by omega)) (i3 14 (by omega)) (i2 _ _ (by omega)), fun x hx => ((b1 x hx).q o2.1.1).1, ?_, ?_, fun p hp => ?_, ?_⟩
  · unfold wkI
    rw [r 0 12 (ruF.no bN4 hb2 (by omega)), r 58 3 (ruF.no bN4 hb2 (by omega))]; exact h6
  · have hpw : t.2 0 12 = 61 ∧ b = 161 ∨ t.2 0 12 = 161 ∧ b = 61 := by
      rw [← hb]
      exact h6.elim (fun z => Or.inr z) (fun z => Or.inl z)
    have b61 := bag_w.2.2.1
    have b161 := bag_w.2.2.2
    have no : ∀ x, bgF (t.2 0 12) x → ¬ ruF b x := fun x hx => by
      unfold bgF at hx
      unfold ruF mvF bgF
      rcases hpw with ⟨e1, e2⟩ | ⟨e1, e2⟩ <;> rw [e1] at hx <;> rw [e2] <;> omega
    refine h7.k h5 h6 (r 0 12 (ruF.no bN4 hb2 (by omega))) (fun x k hx => i x k (no x hx) ?_) (fun k => r _ _ (no _ ?_)) (i3 22 (by omega)) (fun s a c => mr s (by unfold rnR; omega))
    · unfold bgF at hx
      rcases hpw with ⟨e1, e2⟩ | ⟨e1, e2⟩ <;> rw [e1] at hx <;> omega
    · unfold bgF
      rcases hpw with ⟨e1, e2⟩ | ⟨e1, e2⟩ <;> rw [e1] <;> omega
  · obtain ⟨L, l1, l2, l3, l4, l5⟩ := hL p hp
    have br4 := bag_r p hp
    exact ⟨L, l1, ⟨bL_k l3 (b1 _ br4.1) (by omega) (fun x k a c => o2.1.2.1 x (by omega) (fun z => by unfold rnA at z; omega) k) (fun k => by rw [o2.1.1]), l2⟩, l4, l5⟩
  · exact h9.k h5 (fun p hp => ⟨fun x k a c => i x k (nf p x hp a c) (by omega), fun k => r _ _ (nf p _ hp (by omega) (by omega))⟩) (fun k => i2 _ _ (by omega)) (fun s a c => mr s (by unfold rnR; omega))
theorem op_run : OP 18 100 [] := by
  intro d t hd hI
  obtain ⟨q, m, ru, rc, ec, Es, h1, h2, h3, h4, h5, h6, h7, h8, h9⟩ := id hI
  obtain ⟨e8, e013, e4814, eEs, eNo⟩ := id h4
  obtain ⟨S, S', hS⟩ := h9.all
  obtain ⟨bw, bb⟩ := hI.bw
  have bq : t.2 58 3 ∈ bags ∧ bN (t.2 58 3) = 40 ∧ (t.2 58 3 = 61 ∨ t.2 58 3 = 161) := by
    rcases bb with ⟨x1, x2, x3⟩ | ⟨x1, x2, x3⟩
    · exact ⟨x3, x2, Or.inl x1⟩
    · exact ⟨x3, x2, Or.inr x1⟩
  have hE : ∀ e, e < ec → ewf q m (Es e) := fun e he => (eEs e he).1
  have hw := h2.1.2.1
  have hmem : ∀ p, p < 4 → ∀ x, x ∈ S p ↔ x ∈ S' p := fun p hp x => (hS p hp).2.2.1.mem_iff
  have hmem' : ∀ p, p < 4 → ∀ x, x ∈ S' p ↔ x ∈ S p := fun p hp x => (hmem p hp x).symm
  have wS : ∀ p, p < 4 → ∀ x, x ∈ S p → wfS x := fun p hp => (hS p hp).2.2.2.1.2
  have mod : ∀ (t1 : T) (G : Option Value → T → Prop), (∀ x k, 483 ≤ x → t1.1 x k = t.1 x k) → (badX q ru rc ec Es S' → ∀ t', mW rnA rnR t1 t' → (∀ p, p < 4 → t'.1 503 p = nI (S' p).length ∧ ∃ L, stdL L (S' p) ∧ rwI t' (4 + 12 * p) L) → G (some (.int (-3))) t') → (∀ X, goodX q ru rc ec Es S' X → ∀ t', mW rnA rnR t1 t' → (∀ p, p < 4 → t'.1 503 p = nI (X p).length ∧ ∃ L, stdL L (X p) ∧ rwI t' (4 + 12 * p) L) → G (some (.int (nI (tot X 4)))) t') → twc d 100 [.ref 483] t1 G := by
    intro t1 G i1 kf k1
    have m1 : ∀ r, mS t1 r = mS t r := fun r => by
      funext k; unfold mS; rw [i1 _ _ (by omega)]
    refine c_100 (S := S') (q := q) (m := m) (ru := ru) (rc := rc) (ec := ec) (Es := Es) (by omega) ⟨h3.1, e8, by rw [i1 _ _ (by omega)]; exact e4814, h2.2.1.k (fun x k a c => i1 x k (by omega)), h3.2.2.k (fun x k a c => i1 x k (by omega)) (i1 _ _ (by omega)), fun e he => ⟨hE e he, (eEs e he).2.2.k (fun x k a c => i1 x k (by omega))⟩⟩ (fun p hp => ?_) (fun p hp => ?_) kf k1
    · exact (hS p hp).2.2.1.nodup_iff.mp (hS p hp).2.1.1
    · obtain ⟨a1, a2, a3, a4, a5, a6⟩ := hS p hp
      exact ⟨by rw [← a3.length_eq]; exact a1, fun x hx => wS p hp x ((hmem p hp x).mpr hx), by rw [i1 _ _ (by omega)]; exact a5, fun k hk => by rw [m1]; exact a6 k hk⟩
  have nf : ∀ x, 483 ≤ x → ¬ ruF (t.2 58 3) x := fun x hx => ruF.no bq.2.1 bq.2.2 (by omega)
  refine c_18 (b := t.2 58 3) (S := S) (q := q) (m := m) (ru := ru) (rc := rc) (ec := ec) (Es := Es) (by omega) ⟨bq.1, bq.2.1, bq.2.2, rfl, h3.1, e8, e013, h2.1, h3.2.1, fun e he => ⟨hE e he, (eEs e he).2.1⟩⟩ h5 (fun p hp => ⟨(hS p hp).1, (hS p hp).2.2.2.1.1⟩) (fun p hp => ⟨(hS p hp).2.1.1, wS p hp⟩) (fun hB t1 o1 b1 X1 => ?_) (fun X hX t1 o1 b1 L1 => ?_)
  · refine mod t1 _ (fun x k hx => (o1 x (nf x hx)).1 k) (fun _ t2 o2 f2 => ?_) (fun Y hY => ?_)
    · refine ⟨_, rfl, rfl, hI.rn rfl o1 b1 o2 (fun p hp => ?_)⟩
      obtain ⟨a1, a2, a3, -⟩ := hS p hp
      obtain ⟨f3, L, f4, f5⟩ := f2 p hp
      have e : L = S p := std_eq f4.2 a2.2 (f4.1.trans a3.symm) (fun x hx => wS p hp x ((f4.1.trans a3.symm).mem_iff.mp hx))
      subst e
      refine ⟨S p, a1, wS p hp, X1 p hp, by rw [f3, a3.length_eq], ?_⟩
      exact f5
    · exact (good_bad hw h3.1 hE (hY.congr hE hmem') hB).elim
  · refine mod t1 _ (fun x k hx => (o1 x (nf x hx)).1 k) (fun hB => ?_) (fun Y hY t2 o2 f2 => ?_)
    · exact (good_bad hw h3.1 hE hX (hB.congr hE hmem')).elim
    · have perm := good_perm hw h3.1 hE hX (S2 := S) (fun p hp x => Iff.rfl) (hY.congr hE hmem')
      have te : tot X 4 = tot Y 4 := by
        show 0 + (X 0).length + (X 1).length + (X 2).length + (X 3).length = 0 + (Y 0).length + (Y 1).length + (Y 2).length + (Y 3).length
        rw [(perm 0 (by omega)).length_eq, (perm 1 (by omega)).length_eq, (perm 2 (by omega)).length_eq, (perm 3 (by omega)).length_eq]
      refine ⟨_, rfl, by rw [te], hI.rn rfl o1 b1 o2 (fun p hp => ?_)⟩
      obtain ⟨L, l1, l2⟩ := L1 p hp
      obtain ⟨f3, M, f4, f5⟩ := f2 p hp
      have pm : M.Perm L := f4.1.trans ((perm p hp).symm.trans l1.1.symm)
      have wX : ∀ x, x ∈ L → wfS x := fun x hx => ((hX p hp).2.2.2.1 x (l1.1.mem_iff.mp hx)).1
      have e : M = L := std_eq f4.2 l1.2 pm (fun x hx => wX x (pm.mem_iff.mp hx))
      subst e
      have := (hX p hp).1
      refine ⟨M, by rw [l1.1.length_eq]; exact this, wX, l2, by rw [f3, ← f4.1.length_eq], f5⟩
end RUNB
