/-! From started to recorded: the reference. -/
section RM
variable {d : Nat} {t t' : T} {F : Option Value → T → Prop}
def reA : Nat → Prop := fun b => b = 503
def reR : Nat → Prop := fun s => 4 ≤ s ∧ s < 52
theorem l_95b {S : Nat → List St} {p : Nat} (hd : 2 ≤ d) (hp : p < 4) (hS : (S p).length ≤ 12) (hw : ∀ x, x ∈ S p → wfS x) (h504 : t.1 504 p = nI (S p).length) (hrw : rwI t (52 + 12 * p) (S p)) (h : ∀ t', mG noA (fun s => 4 + 12 * p ≤ s ∧ s < 16 + 12 * p) t t' → rwI t' (4 + 12 * p) (S p) → ∀ j2, twp none d 95 2 [.ref 483, .int (nI (p + 1)), j2] [] t' F) : ∀ (j i : Nat) (t' : T), i + j = (S p).length → mG noA (fun s => 4 + 12 * p ≤ s ∧ s < 16 + 12 * p) t t' → (∀ k, k < i → mS t' (4 + 12 * p + k) = (S p).getD k z0) → twp none d 95 21 [.ref 483, .int (nI p), .int (nI i)] [] t' F := by
  intro j
  induction j with
  | zero =>
    intro i t' hi hO hI
    have hi : i = (S p).length := by omega
    subst hi
    have h5 : t'.1 504 p = nI (S p).length := by rw [hO.2.1 504 (by omega) (fun z => z)]; exact h504
    refine vc_ok none zH_95 52 false _ 95 21 _ _ _ _ ?_
    simp only [v_95_0, v_95_1, v_95_2, h_95_2, v_95_3, v_95_4, v_95_7, v_95_8, v_95_11, v_95_12, v_95_13, v_95_16, v_95_17, v_95_18, v_95_19, v_95_20, v_95_21, h_95_21, v_95_22, v_95_23, v_95_26, v_95_27, v_95_28, v_95_31, v_95_32, v_95_34, v_95_36, v_95_37, v_95_38, v_95_39, v_95_40, v_95_41, v_95_42, v_95_44, v_95_45, v_95_46, v_95_47, v_95_48, v_95_49, v_95_52, v_95_55, v_95_58, v_95_61, v_95_64, vgi_0, vgi_s, vga_0, vga_s, vset_0, vset_s, vtk_0, vtk_s, vrc_0, vsw_0, vsw_s, List.all_cons, List.all_nil, zc1_i, zc1_r, Bool.and_true, Bool.and_self, true_and, and_true, List.length_cons, List.length_nil, Nat.zero_le, Nat.reduceLeDiff, Nat.reduceAdd, Nat.reduceLT, tg_483, tf_483_24, tg_504, ln_504]
    simp (disch := omega) only [nI_clamp, vinb_n, h5, nI_ltI, Nat.lt_irrefl, if_false]
    rw [nI_1]
    exact ⟨hp, h t' hO hI _⟩
  | succ j ih =>
    intro i t' hi hO hI
    have il : i < (S p).length := by omega
    have h5 : t'.1 504 p = nI (S p).length := by rw [hO.2.1 504 (by omega) (fun z => z)]; exact h504
    have r1 : mS t' (52 + 12 * p + i) = (S p).getD i z0 := by rw [hO.2.2 _ (by omega)]; exact hrw i il
    refine vc_ok none zH_95 52 false _ 95 21 _ _ _ _ ?_
    simp only [v_95_0, v_95_1, v_95_2, h_95_2, v_95_3, v_95_4, v_95_7, v_95_8, v_95_11, v_95_12, v_95_13, v_95_16, v_95_17, v_95_18, v_95_19, v_95_20, v_95_21, h_95_21, v_95_22, v_95_23, v_95_26, v_95_27, v_95_28, v_95_31, v_95_32, v_95_34, v_95_36, v_95_37, v_95_38, v_95_39, v_95_40, v_95_41, v_95_42, v_95_44, v_95_45, v_95_46, v_95_47, v_95_48, v_95_49, v_95_52, v_95_55, v_95_58, v_95_61, v_95_64, vgi_0, vgi_s, vga_0, vga_s, vset_0, vset_s, vtk_0, vtk_s, vrc_0, vsw_0, vsw_s, List.all_cons, List.all_nil, zc1_i, zc1_r, Bool.and_true, Bool.and_self, true_and, and_true, List.length_cons, List.length_nil, Nat.zero_le, Nat.reduceLeDiff, Nat.reduceAdd, Nat.reduceLT, tg_483, tf_483_24, tg_504, ln_504]
    simp (disch := omega) only [nI_clamp, vinb_n, h5, nI_ltI, li52, li12, li4, pk_mul, nI_add]
    refine ⟨hp, ?_⟩
    rw [if_pos il]
    refine c_44g (A := noA) (P := fun s => 4 + 12 * p ≤ s ∧ s < 16 + 12 * p) (by omega) (by omega) (by omega) (by rw [r1]; exact (hw _ (gd_mem il)).b) (by omega) (fun t2 o2 e2 => ?_)
    simp only [v_95_0, v_95_1, v_95_2, h_95_2, v_95_3, v_95_4, v_95_7, v_95_8, v_95_11, v_95_12, v_95_13, v_95_16, v_95_17, v_95_18, v_95_19, v_95_20, v_95_21, h_95_21, v_95_22, v_95_23, v_95_26, v_95_27, v_95_28, v_95_31, v_95_32, v_95_34, v_95_36, v_95_37, v_95_38, v_95_39, v_95_40, v_95_41, v_95_42, v_95_44, v_95_45, v_95_46, v_95_47, v_95_48, v_95_49, v_95_52, v_95_55, v_95_58, v_95_61, v_95_64, vgi_0, vgi_s, vga_0, vga_s, vset_0, vset_s, vtk_0, vtk_s, vrc_0, vsw_0, vsw_s, List.all_cons, List.all_nil, zc1_i, zc1_r, Bool.and_true, Bool.and_self, true_and, and_true, List.length_cons, List.length_nil, Nat.zero_le, Nat.reduceLeDiff, Nat.reduceAdd, Nat.reduceLT, Option.toList_none, List.nil_append]
    rw [nI_1]
    refine ih (i + 1) t2 (by omega) (hO.tr o2) (fun k hk => ?_)
    rw [e2]
    by_cases z : k = i
    · rw [if_pos (by omega), r1, z]
    · rw [if_neg (by omega)]; exact hI k (by omega)
theorem l_95a {S : Nat → List St} (hd : 2 ≤ d) (hS : ∀ p, p < 4 → (S p).length ≤ 12 ∧ (∀ x, x ∈ S p → wfS x) ∧ t.1 504 p = nI (S p).length ∧ rwI t (52 + 12 * p) (S p)) (h : ∀ t', mG reA reR t t' → (∀ p, p < 4 → t'.1 503 p = nI (S p).length ∧ rwI t' (4 + 12 * p) (S p)) → F none t') : ∀ (j p : Nat) (t' : T) (j2 : Value), p + j = 4 → mG reA reR t t' → (∀ p', p' < p → t'.1 503 p' = nI (S p').length ∧ rwI t' (4 + 12 * p') (S p')) → twp none d 95 2 [.ref 483, .int (nI p), j2] [] t' F := by
  intro j
  induction j with
  | zero =>
    intro p t' j2 hp hO hI
    have hp : p = 4 := by omega
    subst hp
    refine vc_ok none zH_95 52 false _ 95 2 _ _ _ _ ?_
    simp only [v_95_0, v_95_1, v_95_2, h_95_2, v_95_3, v_95_4, v_95_7, v_95_8, v_95_11, v_95_12, v_95_13, v_95_16, v_95_17, v_95_18, v_95_19, v_95_20, v_95_21, h_95_21, v_95_22, v_95_23, v_95_26, v_95_27, v_95_28, v_95_31, v_95_32, v_95_34, v_95_36, v_95_37, v_95_38, v_95_39, v_95_40, v_95_41, v_95_42, v_95_44, v_95_45, v_95_46, v_95_47, v_95_48, v_95_49, v_95_52, v_95_55, v_95_58, v_95_61, v_95_64, vgi_0, vgi_s, vga_0, vga_s, vset_0, vset_s, vtk_0, vtk_s, vrc_0, vsw_0, vsw_s, List.all_cons, List.all_nil, zc1_i, zc1_r, Bool.and_true, Bool.and_self, true_and, and_true, List.length_cons, List.length_nil, Nat.zero_le, Nat.reduceLeDiff, Nat.reduceAdd, Nat.reduceLT]
    rw [if_neg (by decide)]
    exact h t' hO hI
  | succ j ih =>
    intro p t' j2 hp hO hI
    have hp4 : p < 4 := by omega
    obtain ⟨s1, s2, s3, s4⟩ := hS p hp4
    have s3' : t'.1 504 p = nI (S p).length := by rw [hO.2.1 504 (by omega) (fun z => by unfold reA at z; omega)]; exact s3
    have m1 : ∀ r, mS (tsi t' 503 p (nI (S p).length)) r = mS t' r := fun r => by
      funext k; unfold mS; rw [tsi_ne (by omega)]
    have o1 : mG reA reR t' (tsi t' 503 p (nI (S p).length)) := ⟨rfl, fun b _ hb k => tsi_ne (fun z => hb z.1), fun r _ => m1 r⟩
    refine vc_ok none zH_95 52 false _ 95 2 _ _ _ _ ?_
    simp only [v_95_0, v_95_1, v_95_2, h_95_2, v_95_3, v_95_4, v_95_7, v_95_8, v_95_11, v_95_12, v_95_13, v_95_16, v_95_17, v_95_18, v_95_19, v_95_20, v_95_21, h_95_21, v_95_22, v_95_23, v_95_26, v_95_27, v_95_28, v_95_31, v_95_32, v_95_34, v_95_36, v_95_37, v_95_38, v_95_39, v_95_40, v_95_41, v_95_42, v_95_44, v_95_45, v_95_46, v_95_47, v_95_48, v_95_49, v_95_52, v_95_55, v_95_58, v_95_61, v_95_64, vgi_0, vgi_s, vga_0, vga_s, vset_0, vset_s, vtk_0, vtk_s, vrc_0, vsw_0, vsw_s, List.all_cons, List.all_nil, zc1_i, zc1_r, Bool.and_true, Bool.and_self, true_and, and_true, List.length_cons, List.length_nil, Nat.zero_le, Nat.reduceLeDiff, Nat.reduceAdd, Nat.reduceLT, tg_483, tf_483_23, tg_503, ln_503, tf_483_24, tg_504, ln_504]
    rw [li4, if_pos (nI_lt (by omega) (by omega))]
    simp (disch := omega) only [nI_clamp, vinb_n, s3']
    refine ⟨hp4, hp4, ?_⟩
    refine l_95b (S := S) (t := tsi t' 503 p (nI (S p).length)) hd hp4 s1 s2 (by rw [tsi_ne (by omega)]; exact s3') (fun k hk => by rw [m1, hO.2.2 _ (by unfold reR; omega)]; exact s4 k hk) (fun t2 o2 r2 k2 => ?_) (S p).length 0 _ (by omega) mG.rf (fun k hk => by omega)
    refine ih (p + 1) t2 k2 (by omega) ((hO.tr o1).tr (o2.mono (fun b z => z.elim) (fun s z => by unfold reR; omega))) (fun p' hp' => ?_)
    have e503 : t2.1 503 p' = (tsi t' 503 p (nI (S p).length)).1 503 p' := o2.2.1 503 (by omega) (fun z => z) p'
    by_cases z : p' = p
    · subst z
      rw [e503, tsi_eq]; exact ⟨rfl, r2⟩
    · obtain ⟨a1, a2⟩ := hI p' (by omega)
      have := (hS p' (by omega)).1
      refine ⟨by rw [e503, tsi_ne (by omega)]; exact a1, fun k hk => ?_⟩
      rw [o2.2.2 _ (by omega), m1]; exact a2 k hk
theorem c_95 {S : Nat → List St} (hd : 3 ≤ d) (hS : ∀ p, p < 4 → (S p).length ≤ 12 ∧ (∀ x, x ∈ S p → wfS x) ∧ t.1 504 p = nI (S p).length ∧ rwI t (52 + 12 * p) (S p)) (h : ∀ t', mG reA reR t t' → (∀ p, p < 4 → t'.1 503 p = nI (S p).length ∧ rwI t' (4 + 12 * p) (S p)) → F none t') : twc d 95 [.ref 483] t F := by
  refine ⟨by omega, ?_⟩
  rw [ze_95]
  refine vc_ok none zH_95 52 false _ 95 0 _ _ _ _ ?_
  simp only [v_95_0, v_95_1, v_95_2, h_95_2, v_95_3, v_95_4, v_95_7, v_95_8, v_95_11, v_95_12, v_95_13, v_95_16, v_95_17, v_95_18, v_95_19, v_95_20, v_95_21, h_95_21, v_95_22, v_95_23, v_95_26, v_95_27, v_95_28, v_95_31, v_95_32, v_95_34, v_95_36, v_95_37, v_95_38, v_95_39, v_95_40, v_95_41, v_95_42, v_95_44, v_95_45, v_95_46, v_95_47, v_95_48, v_95_49, v_95_52, v_95_55, v_95_58, v_95_61, v_95_64, vgi_0, vgi_s, vga_0, vga_s, vset_0, vset_s, vtk_0, vtk_s, vrc_0, vsw_0, vsw_s, List.all_cons, List.all_nil, zc1_i, zc1_r, Bool.and_true, Bool.and_self, true_and, and_true, List.length_cons, List.length_nil, Nat.zero_le, Nat.reduceLeDiff, Nat.reduceAdd, Nat.reduceLT]
  exact l_95a (by omega) hS h 4 0 t _ (by omega) mG.rf (fun p hp => by omega)
def tot (S : Nat → List St) : Nat → Nat
  | 0 => 0
  | p + 1 => tot S p + (S p).length
def stR : Nat → Prop := fun s => (4 ≤ s ∧ s < 52) ∨ s = 183
def stdL (L M : List St) : Prop := L.Perm M ∧ L.Pairwise (fun a b => so a b ≤ 0)
theorem l_96 {S : Nat → List St} (hd : 5 ≤ d) (hS : ∀ p, p < 4 → (S p).length ≤ 12 ∧ (∀ x, x ∈ S p → wfS x) ∧ t.1 503 p = nI (S p).length ∧ rwI t (4 + 12 * p) (S p)) (h : ∀ t', mG noA stR t t' → (∀ p, p < 4 → ∃ L, stdL L (S p) ∧ rwI t' (4 + 12 * p) L) → F (some (.int (nI (tot S 4)))) t') : ∀ (j p : Nat) (t' : T), p + j = 4 → mG noA stR t t' → (∀ p', p' < p → ∃ L, stdL L (S p') ∧ rwI t' (4 + 12 * p') L) → (∀ p', p ≤ p' → p' < 4 → rwI t' (4 + 12 * p') (S p')) → twp none d 96 4 [.ref 483, .int (nI (tot S p)), .int (nI p)] [] t' F := by
  intro j
  induction j with
  | zero =>
    intro p t' hp hO hI hJ
    have hp : p = 4 := by omega
    subst hp
    refine vc_ok none zH_96 39 false _ 96 4 _ _ _ _ ?_
    simp only [v_96_0, v_96_1, v_96_2, v_96_3, v_96_4, h_96_4, v_96_5, v_96_6, v_96_9, v_96_10, v_96_11, v_96_13, v_96_14, v_96_15, v_96_16, v_96_17, v_96_20, v_96_21, v_96_22, v_96_25, v_96_26, v_96_27, v_96_30, v_96_31, v_96_32, v_96_33, v_96_34, v_96_37, v_96_40, v_96_41, vgi_0, vgi_s, vga_0, vga_s, vset_0, vset_s, vtk_0, vtk_s, vrc_0, vsw_0, vsw_s, List.all_cons, List.all_nil, zc1_i, zc1_r, Bool.and_true, Bool.and_self, true_and, and_true, List.length_cons, List.length_nil, Nat.zero_le, Nat.reduceLeDiff, Nat.reduceAdd, Nat.reduceLT]
    rw [if_neg (by decide)]
    exact h t' hO hI
  | succ j ih =>
    intro p t' hp hO hI hJ
    have hp4 : p < 4 := by omega
    obtain ⟨s1, s2, s3, s4⟩ := hS p hp4
    have s3' : t'.1 503 p = nI (S p).length := by rw [hO.2.1 503 (by omega) (fun z => z)]; exact s3
    have r' := hJ p (Nat.le_refl _) hp4
    refine vc_ok none zH_96 39 false _ 96 4 _ _ _ _ ?_
    simp only [v_96_0, v_96_1, v_96_2, v_96_3, v_96_4, h_96_4, v_96_5, v_96_6, v_96_9, v_96_10, v_96_11, v_96_13, v_96_14, v_96_15, v_96_16, v_96_17, v_96_20, v_96_21, v_96_22, v_96_25, v_96_26, v_96_27, v_96_30, v_96_31, v_96_32, v_96_33, v_96_34, v_96_37, v_96_40, v_96_41, vgi_0, vgi_s, vga_0, vga_s, vset_0, vset_s, vtk_0, vtk_s, vrc_0, vsw_0, vsw_s, List.all_cons, List.all_nil, zc1_i, zc1_r, Bool.and_true, Bool.and_self, true_and, and_true, List.length_cons, List.length_nil, Nat.zero_le, Nat.reduceLeDiff, Nat.reduceAdd, Nat.reduceLT, tg_483, tf_483_23, tg_503, ln_503]
    rw [li4, if_pos (nI_lt (by omega) (by omega))]
    simp (disch := omega) only [nI_clamp, vinb_n, s3', li12, pk_mul, nI_add]
    refine ⟨hp4, ?_⟩
    refine c_46 (by omega) (by omega) (fun k hk => by rw [r' k hk]; exact s2 _ (gd_mem hk)) (fun t2 o2 srt2 => ?_)
    have s32 : t2.1 503 p = nI (S p).length := by rw [o2.1.2.1 503 (by omega) (fun z => z)]; exact s3'
    simp only [v_96_0, v_96_1, v_96_2, v_96_3, v_96_4, h_96_4, v_96_5, v_96_6, v_96_9, v_96_10, v_96_11, v_96_13, v_96_14, v_96_15, v_96_16, v_96_17, v_96_20, v_96_21, v_96_22, v_96_25, v_96_26, v_96_27, v_96_30, v_96_31, v_96_32, v_96_33, v_96_34, v_96_37, v_96_40, v_96_41, vgi_0, vgi_s, vga_0, vga_s, vset_0, vset_s, vtk_0, vtk_s, vrc_0, vsw_0, vsw_s, List.all_cons, List.all_nil, zc1_i, zc1_r, Bool.and_true, Bool.and_self, true_and, and_true, List.length_cons, List.length_nil, Nat.zero_le, Nat.reduceLeDiff, Nat.reduceAdd, Nat.reduceLT, Option.toList_none, List.nil_append, tg_483, tf_483_23, tg_503, ln_503]
    simp (disch := omega) only [nI_clamp, vinb_n, s32, nI_add, nI_1]
    refine ⟨hp4, ?_⟩
    refine ih (p + 1) t2 (by omega) (hO.tr (o2.1.mono (fun b z => z) (fun s z => by unfold sP at z; unfold stR; omega))) (fun p' hp' => ?_) (fun p' h1 h2 => ?_)
    · by_cases z : p' = p
      · subst z
        refine ⟨lst (fun k => mS t2 (4 + 12 * p' + k)) (S p').length, ⟨?_, lst_srt _ srt2⟩, fun k hk => ?_⟩
        · have := o2.2
          rw [lst_gd r'] at this
          exact this
        · rw [lst_len] at hk
          rw [lst_get _ k hk]
      · obtain ⟨L, a1, a2⟩ := hI p' (by omega)
        have ll : L.length = (S p').length := a1.1.length_eq
        have := (hS p' (by omega)).1
        exact ⟨L, a1, fun k hk => by rw [o2.1.2.2 _ (by unfold sP; omega)]; exact a2 k hk⟩
    · have := (hS p' h2).1
      exact fun k hk => by rw [o2.1.2.2 _ (by unfold sP; omega)]; exact hJ p' (by omega) h2 k hk
theorem c_96 {S : Nat → List St} (hd : 6 ≤ d) (hS : ∀ p, p < 4 → (S p).length ≤ 12 ∧ (∀ x, x ∈ S p → wfS x) ∧ t.1 503 p = nI (S p).length ∧ rwI t (4 + 12 * p) (S p)) (h : ∀ t', mG noA stR t t' → (∀ p, p < 4 → ∃ L, stdL L (S p) ∧ rwI t' (4 + 12 * p) L) → F (some (.int (nI (tot S 4)))) t') : twc d 96 [.ref 483] t F := by
  refine ⟨by omega, ?_⟩
  rw [ze_96]
  refine vc_ok none zH_96 39 false _ 96 0 _ _ _ _ ?_
  simp only [v_96_0, v_96_1, v_96_2, v_96_3, v_96_4, h_96_4, v_96_5, v_96_6, v_96_9, v_96_10, v_96_11, v_96_13, v_96_14, v_96_15, v_96_16, v_96_17, v_96_20, v_96_21, v_96_22, v_96_25, v_96_26, v_96_27, v_96_30, v_96_31, v_96_32, v_96_33, v_96_34, v_96_37, v_96_40, v_96_41, vgi_0, vgi_s, vga_0, vga_s, vset_0, vset_s, vtk_0, vtk_s, vrc_0, vsw_0, vsw_s, List.all_cons, List.all_nil, zc1_i, zc1_r, Bool.and_true, Bool.and_self, true_and, and_true, List.length_cons, List.length_nil, Nat.zero_le, Nat.reduceLeDiff, Nat.reduceAdd, Nat.reduceLT]
  exact l_96 (by omega) hS h 4 0 t (by omega) mG.rf (fun p hp => by omega) (fun p _ hp => (hS p hp).2.2.2)
end RM
