/-! known. -/
section OP12
variable {d : Nat} {t t' : T} {F : Option Value → T → Prop} {q : FT} {m : Nat}
def kn (g : Nat → Int32) : Nat → Int32
  | 0 => g 0
  | i + 1 => tjoin (kn g i) (g (i + 1))
theorem kn_2 {g : Nat → Int32} {i : Nat} (h : kn g i = 2) : ∀ j, kn g (i + j) = 2
  | 0 => h
  | j + 1 => by
    show tjoin (kn g (i + j)) (g (i + j + 1)) = 2
    rw [kn_2 h j]
    unfold tjoin
    by_cases z : (2 : Int32) = g (i + j + 1)
    · rw [if_pos z]
    · rw [if_neg z]
theorem tri_tj {x y : Int32} (hx : tri x) (hy : tri y) : tri (tjoin x y) := by
  obtain ⟨a, ha, rfl⟩ := hx
  obtain ⟨b, hb, rfl⟩ := hy
  exact tjoin_v a ha b hb
theorem kn_tri {g : Nat → Int32} : ∀ n, (∀ i, i ≤ n → tri (g i)) → tri (kn g n)
  | 0, h => h 0 (by omega)
  | n + 1, h => tri_tj (kn_tri n (fun i hi => h i (by omega))) (h (n + 1) (by omega))
noncomputable def gk (q : FT) (R : List St) (f i : Nat) : Int32 := EV q (R.getD i z0) (sn (R.getD i z0)) f (e2 0 0)
theorem fr0 {i : Nat} (h : fr q i = 0) : ∀ v, ¬ fb q i v := fun v hv => by unfold fb at hv; rw [h, Nat.zero_testBit] at hv; cases hv
theorem gk_tri {R : List St} {f i : Nat} (hw : ∀ i, i < m → fwf q i) (hf : f < m) (h0 : fr q f = 0) (hR : ∀ x, x ∈ R → wfS x) (hi : i < R.length) : tri (gk q R f i) := by
  have w := hR _ (gd_mem hi)
  exact EV_tri hw w w.n.2 f hf _ (fun v hv => absurd hv (fr0 h0 v))
theorem tri_ge {x : Int32} (h : tri x) : ¬ x < 0 := by
  obtain ⟨a, ha, rfl⟩ := h
  rw [li0, nI_ltI (by omega) (by omega)]; omega
theorem l_103 {p f : Nat} {R : List St} (hd : 9 ≤ d) (hp : p < 4) (hR12 : R.length ≤ 12) (hq : foI t q m) (hf : f < m) (h0 : fr q f = 0) (hR : ∀ x, x ∈ R → wfS x) (h503 : t.1 503 p = nI R.length) (hrw : rwI t (4 + 12 * p) R) (h : ∀ t', mG mEb noA t t' → F (some (.int (kn (gk q R f) (R.length - 1)))) t') : ∀ (j i : Nat) (t' : T) (v : Int32) (j5 : Value), i + j = R.length → 0 < R.length → mG mEb noA t t' → (i = 0 → v = -1) → (0 < i → v = kn (gk q R f) (i - 1)) → twp none d 103 40 [.ref 483, .int (nI p), .int (nI f), .int v, .int (nI i), j5] [] t' F := by
  have hw := hq.1.2.1
  intro j
  induction j with
  | zero =>
    intro i t' v j5 hi hpos hO hz hv
    have hi : i = R.length := by omega
    subst hi
    have h5' : t'.1 503 p = nI R.length := by rw [hO.2.1 503 (by omega) (fun z => by have := z.1; omega)]; exact h503
    refine vc_ok none zH_103 64 false _ 103 40 _ _ _ _ ?_
    simp only [v_103_0, v_103_1, v_103_4, v_103_7, v_103_8, v_103_9, v_103_12, v_103_15, v_103_16, v_103_19, v_103_20, v_103_21, v_103_24, v_103_25, v_103_28, v_103_29, v_103_30, v_103_33, v_103_34, v_103_35, v_103_36, v_103_37, v_103_38, v_103_40, h_103_40, v_103_42, v_103_43, v_103_46, v_103_47, v_103_48, v_103_51, v_103_52, v_103_53, v_103_55, v_103_56, v_103_57, v_103_58, v_103_60, v_103_61, v_103_62, v_103_63, v_103_64, v_103_67, v_103_69, v_103_70, v_103_73, v_103_75, v_103_78, v_103_79, v_103_81, v_103_84, v_103_85, v_103_88, v_103_91, v_103_92, vgi_0, vgi_s, vga_0, vga_s, vset_0, vset_s, vtk_0, vtk_s, vrc_0, vsw_0, vsw_s, List.all_cons, List.all_nil, zc1_i, zc1_r, Bool.and_true, Bool.and_self, true_and, and_true, List.length_cons, List.length_nil, Nat.zero_le, Nat.reduceLeDiff, Nat.reduceAdd, Nat.reduceLT, tg_483, tf_483_23, tg_503, ln_503]
    simp (disch := omega) only [nI_clamp, vinb_n, h5', nI_ltI, Nat.lt_irrefl, if_false]
    rw [hv hpos]
    exact ⟨hp, h t' hO⟩
  | succ j ih =>
    intro i t' v j5 hi hpos hO hz hv
    have h5' : t'.1 503 p = nI R.length := by rw [hO.2.1 503 (by omega) (fun z => by have := z.1; omega)]; exact h503
    have il : i < R.length := by omega
    have w := hR _ (gd_mem il)
    have rw1 : mS t' (4 + 12 * p + i) = R.getD i z0 := by rw [hO.2.2 _ (fun z => z)]; exact hrw i il
    have hm : mvq t' q m (4 + 12 * p + i) (R.getD i z0) (sn (R.getD i z0)) := mfq.v (hq.2.1.k (fun b k p1 p2 => hO.2.1 b (by omega) (fun z => by have := z.1; omega) k)) (by omega) rw1 w w.n.1 w.n.2
    have gt := gk_tri hw hf h0 hR il
    refine vc_ok none zH_103 64 false _ 103 40 _ _ _ _ ?_
    simp only [v_103_0, v_103_1, v_103_4, v_103_7, v_103_8, v_103_9, v_103_12, v_103_15, v_103_16, v_103_19, v_103_20, v_103_21, v_103_24, v_103_25, v_103_28, v_103_29, v_103_30, v_103_33, v_103_34, v_103_35, v_103_36, v_103_37, v_103_38, v_103_40, h_103_40, v_103_42, v_103_43, v_103_46, v_103_47, v_103_48, v_103_51, v_103_52, v_103_53, v_103_55, v_103_56, v_103_57, v_103_58, v_103_60, v_103_61, v_103_62, v_103_63, v_103_64, v_103_67, v_103_69, v_103_70, v_103_73, v_103_75, v_103_78, v_103_79, v_103_81, v_103_84, v_103_85, v_103_88, v_103_91, v_103_92, vgi_0, vgi_s, vga_0, vga_s, vset_0, vset_s, vtk_0, vtk_s, vrc_0, vsw_0, vsw_s, List.all_cons, List.all_nil, zc1_i, zc1_r, Bool.and_true, Bool.and_self, true_and, and_true, List.length_cons, List.length_nil, Nat.zero_le, Nat.reduceLeDiff, Nat.reduceAdd, Nat.reduceLT, tg_483, tf_483_23, tg_503, ln_503]
    simp (disch := omega) only [nI_clamp, vinb_n, h5', nI_ltI, li4, li12, pk_mul, nI_add]
    refine ⟨hp, ?_⟩
    rw [if_pos il]
    refine c_68q (x := 0) (y := 0) (by omega) hm hf (by omega) (by omega) (fun v hv => absurd hv (fr0 h0 v)) (fun t2 o2 => ?_)
    have o2 : mG mEb noA t' t2 := mG.tX o2
    simp only [v_103_0, v_103_1, v_103_4, v_103_7, v_103_8, v_103_9, v_103_12, v_103_15, v_103_16, v_103_19, v_103_20, v_103_21, v_103_24, v_103_25, v_103_28, v_103_29, v_103_30, v_103_33, v_103_34, v_103_35, v_103_36, v_103_37, v_103_38, v_103_40, h_103_40, v_103_42, v_103_43, v_103_46, v_103_47, v_103_48, v_103_51, v_103_52, v_103_53, v_103_55, v_103_56, v_103_57, v_103_58, v_103_60, v_103_61, v_103_62, v_103_63, v_103_64, v_103_67, v_103_69, v_103_70, v_103_73, v_103_75, v_103_78, v_103_79, v_103_81, v_103_84, v_103_85, v_103_88, v_103_91, v_103_92, vgi_0, vgi_s, vga_0, vga_s, vset_0, vset_s, vtk_0, vtk_s, vrc_0, vsw_0, vsw_s, List.all_cons, List.all_nil, zc1_i, zc1_r, Bool.and_true, Bool.and_self, true_and, and_true, List.length_cons, List.length_nil, Nat.zero_le, Nat.reduceLeDiff, Nat.reduceAdd, Nat.reduceLT, Option.toList_some, List.cons_append, List.nil_append]
    by_cases z : i = 0
    · rw [hz z, if_pos (by decide), nI_1]
      exact ih (i + 1) t2 _ _ (by omega) hpos (hO.tr o2) (fun h => by omega) (fun _ => by rw [z]; rfl)
    · have hv := hv (by omega)
      have tv : tri v := by rw [hv]; exact kn_tri _ (fun k hk => gk_tri hw hf h0 hR (by omega))
      rw [if_neg (tri_ge tv)]
      refine c_70 (by omega) ?_
      simp only [v_103_0, v_103_1, v_103_4, v_103_7, v_103_8, v_103_9, v_103_12, v_103_15, v_103_16, v_103_19, v_103_20, v_103_21, v_103_24, v_103_25, v_103_28, v_103_29, v_103_30, v_103_33, v_103_34, v_103_35, v_103_36, v_103_37, v_103_38, v_103_40, h_103_40, v_103_42, v_103_43, v_103_46, v_103_47, v_103_48, v_103_51, v_103_52, v_103_53, v_103_55, v_103_56, v_103_57, v_103_58, v_103_60, v_103_61, v_103_62, v_103_63, v_103_64, v_103_67, v_103_69, v_103_70, v_103_73, v_103_75, v_103_78, v_103_79, v_103_81, v_103_84, v_103_85, v_103_88, v_103_91, v_103_92, vgi_0, vgi_s, vga_0, vga_s, vset_0, vset_s, vtk_0, vtk_s, vrc_0, vsw_0, vsw_s, List.all_cons, List.all_nil, zc1_i, zc1_r, Bool.and_true, Bool.and_self, true_and, and_true, List.length_cons, List.length_nil, Nat.zero_le, Nat.reduceLeDiff, Nat.reduceAdd, Nat.reduceLT, Option.toList_some, List.cons_append, List.nil_append]
      rw [nI_1]
      refine ih (i + 1) t2 _ _ (by omega) hpos (hO.tr o2) (fun h => by omega) (fun _ => ?_)
      obtain ⟨i', rfl⟩ : ∃ i', i = i' + 1 := ⟨i - 1, by omega⟩
      rw [hv]
      rfl
theorem l_21 {p f : Nat} {R : List St} (hd : 40 ≤ d) (hp : p < 4) (hR12 : R.length ≤ 12) (hq : foI t q m) (hf : f < m) (h0 : fr q f = 0) (hR : ∀ x, x ∈ R → wfS x) (hb : bwf t (301 + 52 * p)) (hL : bL t (301 + 52 * p) R) (hpos : 0 < R.length) (h : ∀ t', tF (fun b => 44 ≤ b ∧ b ≤ 46) t t' → F (some (.int (kn (gk q R f) (R.length - 1)))) t') : ∀ (j i : Nat) (t' : T), i + j = R.length → 0 < i → tF (fun b => 44 ≤ b ∧ b ≤ 46) t t' → twp none d 21 59 [.ref 0, .int (nI p), .int (nI f), .ref (301 + 52 * p), .int (kn (gk q R f) (i - 1)), .int (nI i)] [] t' F := by
  have hbg := bag_r p hp
  have hbd := bag_all _ hbg.1
  have tb : vtag (301 + 52 * p) = 8 := hbd.2.2.2.2.2.1
  intro j
  induction j with
  | zero =>
    intro i t' hi hi0 hO
    have hi : i = R.length := by omega
    subst hi
    have hc : t'.1 (301 + 52 * p) 1 = nI R.length := by rw [(hO _ (by omega)).1]; exact hL.1
    refine vc_ok none zH_21 69 false _ 21 59 _ _ _ _ ?_
    simp only [v_21_0, v_21_1, v_21_2, v_21_5, v_21_8, v_21_9, v_21_12, v_21_13, v_21_14, v_21_17, v_21_20, v_21_21, v_21_22, v_21_23, v_21_26, v_21_27, v_21_28, v_21_29, v_21_30, v_21_33, v_21_36, v_21_37, v_21_38, v_21_39, v_21_42, v_21_43, v_21_46, v_21_47, v_21_48, v_21_49, v_21_50, v_21_51, v_21_54, v_21_56, v_21_57, v_21_59, h_21_59, v_21_61, v_21_62, v_21_65, v_21_68, v_21_70, v_21_71, v_21_74, v_21_76, v_21_77, v_21_80, v_21_81, v_21_84, v_21_86, v_21_87, v_21_88, v_21_89, v_21_90, v_21_93, v_21_96, v_21_98, v_21_101, v_21_104, v_21_106, vgi_0, vgi_s, vga_0, vga_s, vset_0, vset_s, vtk_0, vtk_s, vrc_0, vsw_0, vsw_s, List.all_cons, List.all_nil, zc1_i, zc1_r, Bool.and_true, Bool.and_self, true_and, and_true, List.length_cons, List.length_nil, Nat.zero_le, Nat.reduceLeDiff, Nat.reduceAdd, Nat.reduceLT, tb, hc]
    simp (disch := omega) only [nI_ltI, Nat.lt_irrefl, if_false]
    exact h t' hO
  | succ j ih =>
    intro i t' hi hi0 hO
    have il : i < R.length := by omega
    have hc : t'.1 (301 + 52 * p) 1 = nI R.length := by rw [(hO _ (by omega)).1]; exact hL.1
    obtain ⟨i1, i2, i3⟩ := hb.1 i (by omega)
    have hbi : t'.2 (301 + 52 * p + 1) i = br t (301 + 52 * p) i := (hO _ (by omega)).2 i
    have w := hR _ (gd_mem il)
    have hci : cS t' (br t (301 + 52 * p) i) = R.getD i z0 := by
      rw [hO.st (by omega) (by omega)]; exact hL.2 i il
    have hq' : cft t' q m := hq.1.k (fun b k p1 p2 => (hO b (by omega)).1 k)
    refine vc_ok none zH_21 69 false _ 21 59 _ _ _ _ ?_
    simp only [v_21_0, v_21_1, v_21_2, v_21_5, v_21_8, v_21_9, v_21_12, v_21_13, v_21_14, v_21_17, v_21_20, v_21_21, v_21_22, v_21_23, v_21_26, v_21_27, v_21_28, v_21_29, v_21_30, v_21_33, v_21_36, v_21_37, v_21_38, v_21_39, v_21_42, v_21_43, v_21_46, v_21_47, v_21_48, v_21_49, v_21_50, v_21_51, v_21_54, v_21_56, v_21_57, v_21_59, h_21_59, v_21_61, v_21_62, v_21_65, v_21_68, v_21_70, v_21_71, v_21_74, v_21_76, v_21_77, v_21_80, v_21_81, v_21_84, v_21_86, v_21_87, v_21_88, v_21_89, v_21_90, v_21_93, v_21_96, v_21_98, v_21_101, v_21_104, v_21_106, vgi_0, vgi_s, vga_0, vga_s, vset_0, vset_s, vtk_0, vtk_s, vrc_0, vsw_0, vsw_s, List.all_cons, List.all_nil, zc1_i, zc1_r, Bool.and_true, Bool.and_self, true_and, and_true, List.length_cons, List.length_nil, Nat.zero_le, Nat.reduceLeDiff, Nat.reduceAdd, Nat.reduceLT, tb, hc]
    simp (disch := omega) only [nI_ltI]
    rw [if_pos il]
    by_cases z : kn (gk q R f) (i - 1) = 2
    · rw [if_pos z]
      have := kn_2 z (R.length - i)
      rw [show i - 1 + (R.length - i) = R.length - 1 by omega] at this
      rw [z, ← this]
      exact h t' hO
    · rw [if_neg z]
      simp only [v_21_0, v_21_1, v_21_2, v_21_5, v_21_8, v_21_9, v_21_12, v_21_13, v_21_14, v_21_17, v_21_20, v_21_21, v_21_22, v_21_23, v_21_26, v_21_27, v_21_28, v_21_29, v_21_30, v_21_33, v_21_36, v_21_37, v_21_38, v_21_39, v_21_42, v_21_43, v_21_46, v_21_47, v_21_48, v_21_49, v_21_50, v_21_51, v_21_54, v_21_56, v_21_57, v_21_59, h_21_59, v_21_61, v_21_62, v_21_65, v_21_68, v_21_70, v_21_71, v_21_74, v_21_76, v_21_77, v_21_80, v_21_81, v_21_84, v_21_86, v_21_87, v_21_88, v_21_89, v_21_90, v_21_93, v_21_96, v_21_98, v_21_101, v_21_104, v_21_106, vgi_0, vgi_s, vga_0, vga_s, vset_0, vset_s, vtk_0, vtk_s, vrc_0, vsw_0, vsw_s, List.all_cons, List.all_nil, zc1_i, zc1_r, Bool.and_true, Bool.and_self, true_and, and_true, List.length_cons, List.length_nil, Nat.zero_le, Nat.reduceLeDiff, Nat.reduceAdd, Nat.reduceLT, tg_0, tf_0_2, tg_44, tb, bag_arr _ hbg.1]
      simp (disch := omega) only [nI_clamp, vinb_n, hbd.2.2.1, bag_ref _ hbg.1, hbi]
      refine ⟨by omega, by omega, by show i < bN (301 + 52 * p); omega, ?_⟩
      refine c_122z (x := 0) (y := 0) (by omega) hq' i3 hci w w.n.1 w.n.2 hf (by omega) (fun v hv => absurd hv (fr0 h0 v)) (fun z => absurd z (fr0 h0 0)) (fun z => absurd z (fr0 h0 1)) (fun t2 o2 => ?_)
      simp only [v_21_0, v_21_1, v_21_2, v_21_5, v_21_8, v_21_9, v_21_12, v_21_13, v_21_14, v_21_17, v_21_20, v_21_21, v_21_22, v_21_23, v_21_26, v_21_27, v_21_28, v_21_29, v_21_30, v_21_33, v_21_36, v_21_37, v_21_38, v_21_39, v_21_42, v_21_43, v_21_46, v_21_47, v_21_48, v_21_49, v_21_50, v_21_51, v_21_54, v_21_56, v_21_57, v_21_59, h_21_59, v_21_61, v_21_62, v_21_65, v_21_68, v_21_70, v_21_71, v_21_74, v_21_76, v_21_77, v_21_80, v_21_81, v_21_84, v_21_86, v_21_87, v_21_88, v_21_89, v_21_90, v_21_93, v_21_96, v_21_98, v_21_101, v_21_104, v_21_106, vgi_0, vgi_s, vga_0, vga_s, vset_0, vset_s, vtk_0, vtk_s, vrc_0, vsw_0, vsw_s, List.all_cons, List.all_nil, zc1_i, zc1_r, Bool.and_true, Bool.and_self, true_and, and_true, List.length_cons, List.length_nil, Nat.zero_le, Nat.reduceLeDiff, Nat.reduceAdd, Nat.reduceLT, Option.toList_some, List.cons_append, List.nil_append]
      refine c_23 (by omega) ?_
      simp only [v_21_0, v_21_1, v_21_2, v_21_5, v_21_8, v_21_9, v_21_12, v_21_13, v_21_14, v_21_17, v_21_20, v_21_21, v_21_22, v_21_23, v_21_26, v_21_27, v_21_28, v_21_29, v_21_30, v_21_33, v_21_36, v_21_37, v_21_38, v_21_39, v_21_42, v_21_43, v_21_46, v_21_47, v_21_48, v_21_49, v_21_50, v_21_51, v_21_54, v_21_56, v_21_57, v_21_59, h_21_59, v_21_61, v_21_62, v_21_65, v_21_68, v_21_70, v_21_71, v_21_74, v_21_76, v_21_77, v_21_80, v_21_81, v_21_84, v_21_86, v_21_87, v_21_88, v_21_89, v_21_90, v_21_93, v_21_96, v_21_98, v_21_101, v_21_104, v_21_106, vgi_0, vgi_s, vga_0, vga_s, vset_0, vset_s, vtk_0, vtk_s, vrc_0, vsw_0, vsw_s, List.all_cons, List.all_nil, zc1_i, zc1_r, Bool.and_true, Bool.and_self, true_and, and_true, List.length_cons, List.length_nil, Nat.zero_le, Nat.reduceLeDiff, Nat.reduceAdd, Nat.reduceLT, Option.toList_some, List.cons_append, List.nil_append]
      rw [nI_1]
      have := ih (i + 1) t2 (by omega) (by omega) (hO.tr o2)
      obtain ⟨i', rfl⟩ : ∃ i', i = i' + 1 := ⟨i - 1, by omega⟩
      exact this
theorem op_known (pv fv : Int32) : OP 21 103 [.int pv, .int fv] := by
  intro d t hd hI
  obtain ⟨q, m, ru, rc, ec, Es, h1, h2, h3, h4, h5, h6, h7, h8, h9⟩ := id hI
  have hm := h2.le
  have bad : (∀ p f, p < 4 → f < m → pv = nI p → fv = nI f → fr q f = 0 → t.1 503 p = 0) → twc d 103 [.ref 483, .int pv, .int fv] t (fun r' t2 => ∃ v, some (Value.int (-1)) = some (Value.int v) ∧ r' = some (Value.int v) ∧ INV t2) := by
    intro hno
    refine ⟨by omega, ?_⟩
    rw [ze_103]
    refine vc_ok none zH_103 64 false _ 103 0 _ _ _ _ ?_
    simp only [v_103_0, v_103_1, v_103_4, v_103_7, v_103_8, v_103_9, v_103_12, v_103_15, v_103_16, v_103_19, v_103_20, v_103_21, v_103_24, v_103_25, v_103_28, v_103_29, v_103_30, v_103_33, v_103_34, v_103_35, v_103_36, v_103_37, v_103_38, v_103_40, h_103_40, v_103_42, v_103_43, v_103_46, v_103_47, v_103_48, v_103_51, v_103_52, v_103_53, v_103_55, v_103_56, v_103_57, v_103_58, v_103_60, v_103_61, v_103_62, v_103_63, v_103_64, v_103_67, v_103_69, v_103_70, v_103_73, v_103_75, v_103_78, v_103_79, v_103_81, v_103_84, v_103_85, v_103_88, v_103_91, v_103_92, vgi_0, vgi_s, vga_0, vga_s, vset_0, vset_s, vtk_0, vtk_s, vrc_0, vsw_0, vsw_s, List.all_cons, List.all_nil, zc1_i, zc1_r, Bool.and_true, Bool.and_self, true_and, and_true, List.length_cons, List.length_nil, Nat.zero_le, Nat.reduceLeDiff, Nat.reduceAdd, Nat.reduceLT]
    refine c_93 (by omega) (fun p hp ep => ?_) (fun _ => ?_)
    · subst ep
      simp only [v_103_0, v_103_1, v_103_4, v_103_7, v_103_8, v_103_9, v_103_12, v_103_15, v_103_16, v_103_19, v_103_20, v_103_21, v_103_24, v_103_25, v_103_28, v_103_29, v_103_30, v_103_33, v_103_34, v_103_35, v_103_36, v_103_37, v_103_38, v_103_40, h_103_40, v_103_42, v_103_43, v_103_46, v_103_47, v_103_48, v_103_51, v_103_52, v_103_53, v_103_55, v_103_56, v_103_57, v_103_58, v_103_60, v_103_61, v_103_62, v_103_63, v_103_64, v_103_67, v_103_69, v_103_70, v_103_73, v_103_75, v_103_78, v_103_79, v_103_81, v_103_84, v_103_85, v_103_88, v_103_91, v_103_92, vgi_0, vgi_s, vga_0, vga_s, vset_0, vset_s, vtk_0, vtk_s, vrc_0, vsw_0, vsw_s, List.all_cons, List.all_nil, zc1_i, zc1_r, Bool.and_true, Bool.and_self, true_and, and_true, List.length_cons, List.length_nil, Nat.zero_le, Nat.reduceLeDiff, Nat.reduceAdd, Nat.reduceLT, Option.toList_some, List.cons_append, List.nil_append, tg_483]
      rw [if_neg (by decide)]
      refine c_55 (by omega) h2 (fun f hf ef => ?_) (fun _ => ?_)
      · subst ef
        obtain ⟨f1, f2, f3⟩ := h2.fr hf
        simp only [v_103_0, v_103_1, v_103_4, v_103_7, v_103_8, v_103_9, v_103_12, v_103_15, v_103_16, v_103_19, v_103_20, v_103_21, v_103_24, v_103_25, v_103_28, v_103_29, v_103_30, v_103_33, v_103_34, v_103_35, v_103_36, v_103_37, v_103_38, v_103_40, h_103_40, v_103_42, v_103_43, v_103_46, v_103_47, v_103_48, v_103_51, v_103_52, v_103_53, v_103_55, v_103_56, v_103_57, v_103_58, v_103_60, v_103_61, v_103_62, v_103_63, v_103_64, v_103_67, v_103_69, v_103_70, v_103_73, v_103_75, v_103_78, v_103_79, v_103_81, v_103_84, v_103_85, v_103_88, v_103_91, v_103_92, vgi_0, vgi_s, vga_0, vga_s, vset_0, vset_s, vtk_0, vtk_s, vrc_0, vsw_0, vsw_s, List.all_cons, List.all_nil, zc1_i, zc1_r, Bool.and_true, Bool.and_self, true_and, and_true, List.length_cons, List.length_nil, Nat.zero_le, Nat.reduceLeDiff, Nat.reduceAdd, Nat.reduceLT, Option.toList_some, List.cons_append, List.nil_append, tg_483, tf_483_8, tg_491, ln_491, tf_483_23, tg_503, ln_503]
        rw [if_neg (by decide)]
        simp (disch := omega) only [nI_clamp, vinb_n, f2]
        refine ⟨by omega, ?_⟩
        by_cases z : fr q f = 0
        · rw [if_pos (by rw [z]; rfl)]
          refine ⟨hp, ?_⟩
          rw [if_pos (hno p f hp hf rfl rfl z)]
          exact ⟨_, rfl, rfl, hI⟩
        · rw [if_neg (by rw [li0, nI_eq (by omega) (by omega)]; exact z)]
          exact ⟨_, rfl, rfl, hI⟩
      · simp only [v_103_0, v_103_1, v_103_4, v_103_7, v_103_8, v_103_9, v_103_12, v_103_15, v_103_16, v_103_19, v_103_20, v_103_21, v_103_24, v_103_25, v_103_28, v_103_29, v_103_30, v_103_33, v_103_34, v_103_35, v_103_36, v_103_37, v_103_38, v_103_40, h_103_40, v_103_42, v_103_43, v_103_46, v_103_47, v_103_48, v_103_51, v_103_52, v_103_53, v_103_55, v_103_56, v_103_57, v_103_58, v_103_60, v_103_61, v_103_62, v_103_63, v_103_64, v_103_67, v_103_69, v_103_70, v_103_73, v_103_75, v_103_78, v_103_79, v_103_81, v_103_84, v_103_85, v_103_88, v_103_91, v_103_92, vgi_0, vgi_s, vga_0, vga_s, vset_0, vset_s, vtk_0, vtk_s, vrc_0, vsw_0, vsw_s, List.all_cons, List.all_nil, zc1_i, zc1_r, Bool.and_true, Bool.and_self, true_and, and_true, List.length_cons, List.length_nil, Nat.zero_le, Nat.reduceLeDiff, Nat.reduceAdd, Nat.reduceLT, Option.toList_some, List.cons_append, List.nil_append]
        rw [if_pos trivial]
        exact ⟨_, rfl, rfl, hI⟩
    · simp only [v_103_0, v_103_1, v_103_4, v_103_7, v_103_8, v_103_9, v_103_12, v_103_15, v_103_16, v_103_19, v_103_20, v_103_21, v_103_24, v_103_25, v_103_28, v_103_29, v_103_30, v_103_33, v_103_34, v_103_35, v_103_36, v_103_37, v_103_38, v_103_40, h_103_40, v_103_42, v_103_43, v_103_46, v_103_47, v_103_48, v_103_51, v_103_52, v_103_53, v_103_55, v_103_56, v_103_57, v_103_58, v_103_60, v_103_61, v_103_62, v_103_63, v_103_64, v_103_67, v_103_69, v_103_70, v_103_73, v_103_75, v_103_78, v_103_79, v_103_81, v_103_84, v_103_85, v_103_88, v_103_91, v_103_92, vgi_0, vgi_s, vga_0, vga_s, vset_0, vset_s, vtk_0, vtk_s, vrc_0, vsw_0, vsw_s, List.all_cons, List.all_nil, zc1_i, zc1_r, Bool.and_true, Bool.and_self, true_and, and_true, List.length_cons, List.length_nil, Nat.zero_le, Nat.reduceLeDiff, Nat.reduceAdd, Nat.reduceLT, Option.toList_some, List.cons_append, List.nil_append]
      rw [if_pos trivial]
      exact ⟨_, rfl, rfl, hI⟩
  refine ⟨by omega, ?_⟩
  rw [ze_21]
  refine vc_ok none zH_21 69 false _ 21 0 _ _ _ _ ?_
  simp only [v_21_0, v_21_1, v_21_2, v_21_5, v_21_8, v_21_9, v_21_12, v_21_13, v_21_14, v_21_17, v_21_20, v_21_21, v_21_22, v_21_23, v_21_26, v_21_27, v_21_28, v_21_29, v_21_30, v_21_33, v_21_36, v_21_37, v_21_38, v_21_39, v_21_42, v_21_43, v_21_46, v_21_47, v_21_48, v_21_49, v_21_50, v_21_51, v_21_54, v_21_56, v_21_57, v_21_59, h_21_59, v_21_61, v_21_62, v_21_65, v_21_68, v_21_70, v_21_71, v_21_74, v_21_76, v_21_77, v_21_80, v_21_81, v_21_84, v_21_86, v_21_87, v_21_88, v_21_89, v_21_90, v_21_93, v_21_96, v_21_98, v_21_101, v_21_104, v_21_106, vgi_0, vgi_s, vga_0, vga_s, vset_0, vset_s, vtk_0, vtk_s, vrc_0, vsw_0, vsw_s, List.all_cons, List.all_nil, zc1_i, zc1_r, Bool.and_true, Bool.and_self, true_and, and_true, List.length_cons, List.length_nil, Nat.zero_le, Nat.reduceLeDiff, Nat.reduceAdd, Nat.reduceLT]
  refine c_22 (L := 4) (by omega) (by omega) (fun p hp ep => ?_) (fun hno => ?_)
  · subst ep
    obtain ⟨R, a1, a2, a3, a4⟩ := h8 p hp
    have hbg := bag_r p hp
    have hbd := bag_all _ hbg.1
    have tb : vtag (301 + 52 * p) = 8 := hbd.2.2.2.2.2.1
    have hc := a2.1.1
    simp only [v_21_0, v_21_1, v_21_2, v_21_5, v_21_8, v_21_9, v_21_12, v_21_13, v_21_14, v_21_17, v_21_20, v_21_21, v_21_22, v_21_23, v_21_26, v_21_27, v_21_28, v_21_29, v_21_30, v_21_33, v_21_36, v_21_37, v_21_38, v_21_39, v_21_42, v_21_43, v_21_46, v_21_47, v_21_48, v_21_49, v_21_50, v_21_51, v_21_54, v_21_56, v_21_57, v_21_59, h_21_59, v_21_61, v_21_62, v_21_65, v_21_68, v_21_70, v_21_71, v_21_74, v_21_76, v_21_77, v_21_80, v_21_81, v_21_84, v_21_86, v_21_87, v_21_88, v_21_89, v_21_90, v_21_93, v_21_96, v_21_98, v_21_101, v_21_104, v_21_106, vgi_0, vgi_s, vga_0, vga_s, vset_0, vset_s, vtk_0, vtk_s, vrc_0, vsw_0, vsw_s, List.all_cons, List.all_nil, zc1_i, zc1_r, Bool.and_true, Bool.and_self, true_and, and_true, List.length_cons, List.length_nil, Nat.zero_le, Nat.reduceLeDiff, Nat.reduceAdd, Nat.reduceLT, Option.toList_some, List.cons_append, List.nil_append, tg_0, tf_0_1, tg_2]
    rw [if_neg (by decide)]
    refine c_134 (k := 0) (by omega) h2 (by omega) (by omega) (fun f hf ef hl => ?_) (fun hno => ?_)
    · subst ef
      have h0 : fr q f = 0 := by omega
      simp only [v_21_0, v_21_1, v_21_2, v_21_5, v_21_8, v_21_9, v_21_12, v_21_13, v_21_14, v_21_17, v_21_20, v_21_21, v_21_22, v_21_23, v_21_26, v_21_27, v_21_28, v_21_29, v_21_30, v_21_33, v_21_36, v_21_37, v_21_38, v_21_39, v_21_42, v_21_43, v_21_46, v_21_47, v_21_48, v_21_49, v_21_50, v_21_51, v_21_54, v_21_56, v_21_57, v_21_59, h_21_59, v_21_61, v_21_62, v_21_65, v_21_68, v_21_70, v_21_71, v_21_74, v_21_76, v_21_77, v_21_80, v_21_81, v_21_84, v_21_86, v_21_87, v_21_88, v_21_89, v_21_90, v_21_93, v_21_96, v_21_98, v_21_101, v_21_104, v_21_106, vgi_0, vgi_s, vga_0, vga_s, vset_0, vset_s, vtk_0, vtk_s, vrc_0, vsw_0, vsw_s, List.all_cons, List.all_nil, zc1_i, zc1_r, Bool.and_true, Bool.and_self, true_and, and_true, List.length_cons, List.length_nil, Nat.zero_le, Nat.reduceLeDiff, Nat.reduceAdd, Nat.reduceLT, Option.toList_some, List.cons_append, List.nil_append, tg_0, tf_0_9, tg_157, ln_157, tf_0_2, tg_44]
      rw [if_neg (by decide)]
      simp (disch := omega) only [nI_clamp, vinb_n, tf_157, tb, hc]
      refine ⟨hp, trivial, ?_⟩
      by_cases r0 : R.length = 0
      · rw [if_pos (by rw [r0]; rfl)]
        refine bad (fun p' f' hp' _ ep' _ _ => ?_)
        have : p = p' := nI_inj (by omega) (by omega) ep'
        subst this
        rw [a3, r0]; rfl
      · rw [if_neg (by rw [li0, nI_eq (by omega) (by omega)]; exact r0)]
        have hbw := h5 _ hbg.1
        obtain ⟨i1, i2, i3⟩ := hbw.1 0 (by omega)
        have hbi : t.2 (301 + 52 * p + 1) 0 = br t (301 + 52 * p) 0 := rfl
        have w := a2.2 _ (gd_mem (show 0 < R.length by omega))
        have c0 : (0 : Int32).toNatClampNeg = 0 := by decide
        have v0 : vinb 0 (vlen (301 + 52 * p + 1)) := by
          rw [li0, vinb_n (by omega)]; show 0 < bN (301 + 52 * p); omega
        have hci : cS t (br t (301 + 52 * p) 0) = R.getD 0 z0 := a2.1.2 0 (by omega)
        simp only [v_21_0, v_21_1, v_21_2, v_21_5, v_21_8, v_21_9, v_21_12, v_21_13, v_21_14, v_21_17, v_21_20, v_21_21, v_21_22, v_21_23, v_21_26, v_21_27, v_21_28, v_21_29, v_21_30, v_21_33, v_21_36, v_21_37, v_21_38, v_21_39, v_21_42, v_21_43, v_21_46, v_21_47, v_21_48, v_21_49, v_21_50, v_21_51, v_21_54, v_21_56, v_21_57, v_21_59, h_21_59, v_21_61, v_21_62, v_21_65, v_21_68, v_21_70, v_21_71, v_21_74, v_21_76, v_21_77, v_21_80, v_21_81, v_21_84, v_21_86, v_21_87, v_21_88, v_21_89, v_21_90, v_21_93, v_21_96, v_21_98, v_21_101, v_21_104, v_21_106, vgi_0, vgi_s, vga_0, vga_s, vset_0, vset_s, vtk_0, vtk_s, vrc_0, vsw_0, vsw_s, List.all_cons, List.all_nil, zc1_i, zc1_r, Bool.and_true, Bool.and_self, true_and, and_true, List.length_cons, List.length_nil, Nat.zero_le, Nat.reduceLeDiff, Nat.reduceAdd, Nat.reduceLT, tb, bag_arr _ hbg.1]
        simp (disch := omega) only [c0, hbd.2.2.1, bag_ref _ hbg.1, hbi]
        refine ⟨by omega, by omega, v0, ?_⟩
        refine c_122z (x := 0) (y := 0) (by omega) h2.1 i3 hci w w.n.1 w.n.2 hf (by omega) (fun v hv => absurd hv (fr0 h0 v)) (fun z => absurd z (fr0 h0 0)) (fun z => absurd z (fr0 h0 1)) (fun t1 o1 => ?_)
        simp only [v_21_0, v_21_1, v_21_2, v_21_5, v_21_8, v_21_9, v_21_12, v_21_13, v_21_14, v_21_17, v_21_20, v_21_21, v_21_22, v_21_23, v_21_26, v_21_27, v_21_28, v_21_29, v_21_30, v_21_33, v_21_36, v_21_37, v_21_38, v_21_39, v_21_42, v_21_43, v_21_46, v_21_47, v_21_48, v_21_49, v_21_50, v_21_51, v_21_54, v_21_56, v_21_57, v_21_59, h_21_59, v_21_61, v_21_62, v_21_65, v_21_68, v_21_70, v_21_71, v_21_74, v_21_76, v_21_77, v_21_80, v_21_81, v_21_84, v_21_86, v_21_87, v_21_88, v_21_89, v_21_90, v_21_93, v_21_96, v_21_98, v_21_101, v_21_104, v_21_106, vgi_0, vgi_s, vga_0, vga_s, vset_0, vset_s, vtk_0, vtk_s, vrc_0, vsw_0, vsw_s, List.all_cons, List.all_nil, zc1_i, zc1_r, Bool.and_true, Bool.and_self, true_and, and_true, List.length_cons, List.length_nil, Nat.zero_le, Nat.reduceLeDiff, Nat.reduceAdd, Nat.reduceLT, Option.toList_some, List.cons_append, List.nil_append]
        obtain ⟨I1, m1⟩ := INVx.ev (a := 0) hI rfl o1
        have h2' : foI t1 q m := h2.k (fun b k a => (o1 b (by omega)).1 k) ((o1 483 (by omega)).1 1)
        have hbw1 := (hbw.k (t' := t1) (fun k => (o1 _ (by omega)).2 k)).1
        have hL1 : bL t1 (301 + 52 * p) R := (a2.k hbw (by omega) (fun x k p1 p2 => (o1 x (by omega)).1 k) (fun k => (o1 _ (by omega)).2 k)).1
        refine l_21 (t := t1) (by omega) hp a1 h2' hf h0 a2.2 hbw1 hL1 (by omega) (fun t2 o2 => ?_) (R.length - 1) 1 t1 (by omega) (by omega) tF.rf
        obtain ⟨I2, m2⟩ := INVx.ev (a := 0) I1 rfl o2
        have h2'' : foI t2 q m := h2'.k (fun b k a => (o2 b (by omega)).1 k) ((o2 483 (by omega)).1 1)
        have h503 : t2.1 503 p = nI R.length := by rw [(o2 _ (by omega)).1, (o1 _ (by omega)).1]; exact a3
        have hrw2 : rwI t2 (4 + 12 * p) R := fun k hk => by rw [m2, m1]; exact a4 k hk
        obtain ⟨f1, f2, f3⟩ := h2''.fr hf
        refine ⟨by omega, ?_⟩
        rw [ze_103]
        refine vc_ok none zH_103 64 false _ 103 0 _ _ _ _ ?_
        simp only [v_103_0, v_103_1, v_103_4, v_103_7, v_103_8, v_103_9, v_103_12, v_103_15, v_103_16, v_103_19, v_103_20, v_103_21, v_103_24, v_103_25, v_103_28, v_103_29, v_103_30, v_103_33, v_103_34, v_103_35, v_103_36, v_103_37, v_103_38, v_103_40, h_103_40, v_103_42, v_103_43, v_103_46, v_103_47, v_103_48, v_103_51, v_103_52, v_103_53, v_103_55, v_103_56, v_103_57, v_103_58, v_103_60, v_103_61, v_103_62, v_103_63, v_103_64, v_103_67, v_103_69, v_103_70, v_103_73, v_103_75, v_103_78, v_103_79, v_103_81, v_103_84, v_103_85, v_103_88, v_103_91, v_103_92, vgi_0, vgi_s, vga_0, vga_s, vset_0, vset_s, vtk_0, vtk_s, vrc_0, vsw_0, vsw_s, List.all_cons, List.all_nil, zc1_i, zc1_r, Bool.and_true, Bool.and_self, true_and, and_true, List.length_cons, List.length_nil, Nat.zero_le, Nat.reduceLeDiff, Nat.reduceAdd, Nat.reduceLT]
        refine c_93 (by omega) (fun p' _ _ => ?_) (fun hn => absurd rfl (hn p hp))
        simp only [v_103_0, v_103_1, v_103_4, v_103_7, v_103_8, v_103_9, v_103_12, v_103_15, v_103_16, v_103_19, v_103_20, v_103_21, v_103_24, v_103_25, v_103_28, v_103_29, v_103_30, v_103_33, v_103_34, v_103_35, v_103_36, v_103_37, v_103_38, v_103_40, h_103_40, v_103_42, v_103_43, v_103_46, v_103_47, v_103_48, v_103_51, v_103_52, v_103_53, v_103_55, v_103_56, v_103_57, v_103_58, v_103_60, v_103_61, v_103_62, v_103_63, v_103_64, v_103_67, v_103_69, v_103_70, v_103_73, v_103_75, v_103_78, v_103_79, v_103_81, v_103_84, v_103_85, v_103_88, v_103_91, v_103_92, vgi_0, vgi_s, vga_0, vga_s, vset_0, vset_s, vtk_0, vtk_s, vrc_0, vsw_0, vsw_s, List.all_cons, List.all_nil, zc1_i, zc1_r, Bool.and_true, Bool.and_self, true_and, and_true, List.length_cons, List.length_nil, Nat.zero_le, Nat.reduceLeDiff, Nat.reduceAdd, Nat.reduceLT, Option.toList_some, List.cons_append, List.nil_append, tg_483]
        rw [if_neg (by decide)]
        refine c_55 (by omega) h2'' (fun j hj ej => ?_) (fun hno => absurd rfl (hno f hf))
        simp only [v_103_0, v_103_1, v_103_4, v_103_7, v_103_8, v_103_9, v_103_12, v_103_15, v_103_16, v_103_19, v_103_20, v_103_21, v_103_24, v_103_25, v_103_28, v_103_29, v_103_30, v_103_33, v_103_34, v_103_35, v_103_36, v_103_37, v_103_38, v_103_40, h_103_40, v_103_42, v_103_43, v_103_46, v_103_47, v_103_48, v_103_51, v_103_52, v_103_53, v_103_55, v_103_56, v_103_57, v_103_58, v_103_60, v_103_61, v_103_62, v_103_63, v_103_64, v_103_67, v_103_69, v_103_70, v_103_73, v_103_75, v_103_78, v_103_79, v_103_81, v_103_84, v_103_85, v_103_88, v_103_91, v_103_92, vgi_0, vgi_s, vga_0, vga_s, vset_0, vset_s, vtk_0, vtk_s, vrc_0, vsw_0, vsw_s, List.all_cons, List.all_nil, zc1_i, zc1_r, Bool.and_true, Bool.and_self, true_and, and_true, List.length_cons, List.length_nil, Nat.zero_le, Nat.reduceLeDiff, Nat.reduceAdd, Nat.reduceLT, Option.toList_some, List.cons_append, List.nil_append, tg_483, tf_483_8, tg_491, ln_491, tf_483_23, tg_503, ln_503]
        rw [if_neg (by decide)]
        simp (disch := omega) only [nI_clamp, vinb_n, f2, h503]
        refine ⟨by omega, ?_⟩
        rw [if_pos (by rw [h0]; rfl)]
        refine ⟨hp, ?_⟩
        rw [if_neg (by rw [li0, nI_eq (by omega) (by omega)]; exact r0)]
        exact l_103 (t := t2) (by omega) hp a1 h2'' hf h0 a2.2 h503 hrw2 (fun t3 o3 => ⟨_, rfl, rfl, INVx.r I2 (mW.of (B := mEb) (R := noA) o3 (fun z => by have := z.1; omega) (fun b z => z) (fun b z => z)) (fun b z => by have := z.1; omega) (fun s z => z.elim)⟩) R.length 0 t2 _ _ (by omega) (by omega) mG.rf (fun _ => rfl) (fun h => by omega)
    · simp only [v_21_0, v_21_1, v_21_2, v_21_5, v_21_8, v_21_9, v_21_12, v_21_13, v_21_14, v_21_17, v_21_20, v_21_21, v_21_22, v_21_23, v_21_26, v_21_27, v_21_28, v_21_29, v_21_30, v_21_33, v_21_36, v_21_37, v_21_38, v_21_39, v_21_42, v_21_43, v_21_46, v_21_47, v_21_48, v_21_49, v_21_50, v_21_51, v_21_54, v_21_56, v_21_57, v_21_59, h_21_59, v_21_61, v_21_62, v_21_65, v_21_68, v_21_70, v_21_71, v_21_74, v_21_76, v_21_77, v_21_80, v_21_81, v_21_84, v_21_86, v_21_87, v_21_88, v_21_89, v_21_90, v_21_93, v_21_96, v_21_98, v_21_101, v_21_104, v_21_106, vgi_0, vgi_s, vga_0, vga_s, vset_0, vset_s, vtk_0, vtk_s, vrc_0, vsw_0, vsw_s, List.all_cons, List.all_nil, zc1_i, zc1_r, Bool.and_true, Bool.and_self, true_and, and_true, List.length_cons, List.length_nil, Nat.zero_le, Nat.reduceLeDiff, Nat.reduceAdd, Nat.reduceLT, Option.toList_some, List.cons_append, List.nil_append]
      rw [if_pos trivial]
      exact bad (fun p' f' _ hf' _ ef' h0 => absurd (Nat.le_of_eq h0) (hno f' hf' ef'))
  · simp only [v_21_0, v_21_1, v_21_2, v_21_5, v_21_8, v_21_9, v_21_12, v_21_13, v_21_14, v_21_17, v_21_20, v_21_21, v_21_22, v_21_23, v_21_26, v_21_27, v_21_28, v_21_29, v_21_30, v_21_33, v_21_36, v_21_37, v_21_38, v_21_39, v_21_42, v_21_43, v_21_46, v_21_47, v_21_48, v_21_49, v_21_50, v_21_51, v_21_54, v_21_56, v_21_57, v_21_59, h_21_59, v_21_61, v_21_62, v_21_65, v_21_68, v_21_70, v_21_71, v_21_74, v_21_76, v_21_77, v_21_80, v_21_81, v_21_84, v_21_86, v_21_87, v_21_88, v_21_89, v_21_90, v_21_93, v_21_96, v_21_98, v_21_101, v_21_104, v_21_106, vgi_0, vgi_s, vga_0, vga_s, vset_0, vset_s, vtk_0, vtk_s, vrc_0, vsw_0, vsw_s, List.all_cons, List.all_nil, zc1_i, zc1_r, Bool.and_true, Bool.and_self, true_and, and_true, List.length_cons, List.length_nil, Nat.zero_le, Nat.reduceLeDiff, Nat.reduceAdd, Nat.reduceLT, Option.toList_some, List.cons_append, List.nil_append]
    rw [if_pos trivial]
    exact bad (fun p f hp _ ep => absurd ep (hno p hp))
end OP12
