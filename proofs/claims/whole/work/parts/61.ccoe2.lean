/-! The program sharpens: rule after rule, turn after turn. -/
section CC2
variable {d a : Nat} {t : T} {F : Option Value → T → Prop} {q : FT} {m n rc : Nat} {ru : Nat → Nat → Nat}
theorem twc.mono {d x : Nat} {as : List Value} {t : T} {F G : Option Value → T → Prop} (h : twc d x as t F) (hF : ∀ r t', F r t' → G r t') : twc d x as t G := ⟨h.1, fun M hM => by
  obtain ⟨n, r, M', t', h1, h2, h3⟩ := h.2 M hM
  exact ⟨n, r, M', t', h1, h2, hF r t' h3⟩⟩
theorem shF_st {t' : T} (ha : vtag a = 4) (h : tO [a, a + 1] t t') : tF (shF a) t t' := tF.of h (fun b hb => by simp at hb; unfold shF; omega)
theorem l_157b {f1 : St} {r u : Nat} (hd : 40 ≤ d) (hr : rwf q m ru rc) (h1 : r < rc) (hu : u < n) (hf1 : wfS f1) (hn1 : f1 0 = nI n) (hn6 : n ≤ 6) (ha : vtag a = 4) (hq : cft t q m) (hm : crl t ru rc) (kf : ∀ t' f', tF (shF a) t t' → (∃ j, stk q n ru rc j f1 f') → fail1 q n ru rc f' → F (some (.int 2)) t') (kn : ∀ (t' : T) (out hol sv : Int32) (j9 : Value), tF (shF a) t t' → EI q n ru rc f1 r (u + 1) 0 out (cS t' a) → seenP q n ru r (cS t' a) out sv hol → twp none d 157 31 [.ref 49, .ref (51 + r), .ref a, .int (nI n), .int (nI (fr q (ru r 0))), .int out, .int hol, .int sv, .int (nI (u + 1)), j9] [] t' F) : ∀ (j w : Nat) (t' : T) (out hol sv : Int32), w + j = n → tF (shF a) t t' → EI q n ru rc f1 r u w out (cS t' a) → seenP q n ru r (cS t' a) out sv hol → twp none d 157 40 [.ref 49, .ref (51 + r), .ref a, .int (nI n), .int (nI (fr q (ru r 0))), .int out, .int hol, .int sv, .int (nI u), .int (nI w)] [] t' F := by
  have rc6 := hr.1
  have tr := rl_tag r (by omega)
  obtain ⟨r1, r2, r3, r4, r5⟩ := hr.2 r h1
  intro j
  induction j with
  | zero =>
    intro w t' out hol sv hw hO hI hS
    have hw : w = n := by omega
    subst hw
    refine vc_ok none zH_157 85 false _ 157 40 _ _ _ _ ?_
    simp only [v_157_0, v_157_1, v_157_4, v_157_5, v_157_6, v_157_9, v_157_10, v_157_13, v_157_14, v_157_17, v_157_19, v_157_20, v_157_22, v_157_23, v_157_25, v_157_26, v_157_28, v_157_29, v_157_31, h_157_31, v_157_33, v_157_34, v_157_37, v_157_38, v_157_40, h_157_40, v_157_42, v_157_43, v_157_46, v_157_47, v_157_48, v_157_51, v_157_53, v_157_55, v_157_58, v_157_59, v_157_62, v_157_65, v_157_67, v_157_69, v_157_71, v_157_74, v_157_77, v_157_78, v_157_81, v_157_82, v_157_83, v_157_86, v_157_88, v_157_90, v_157_93, v_157_95, v_157_97, v_157_99, v_157_101, v_157_102, v_157_105, v_157_106, v_157_107, v_157_109, v_157_111, v_157_114, v_157_117, v_157_118, v_157_119, h_157_119, v_157_121, v_157_122, v_157_125, v_157_126, v_157_129, v_157_131, v_157_133, v_157_136, v_157_139, h_157_139, v_157_142, v_157_145, v_157_147, vgi_0, vgi_s, vga_0, vga_s, vset_0, vset_s, vtk_0, vtk_s, vrc_0, vsw_0, vsw_s, List.all_cons, List.all_nil, zc1_i, zc1_r, Bool.and_true, Bool.and_self, true_and, and_true, List.length_cons, List.length_nil, Nat.zero_le, Nat.reduceLeDiff, Nat.reduceAdd, Nat.reduceLT]
    simp (disch := omega) only [nI_ltI, Nat.lt_irrefl, if_false]
    refine vc_ok none zH_157 85 false _ 157 139 _ _ _ _ ?_
    simp only [v_157_0, v_157_1, v_157_4, v_157_5, v_157_6, v_157_9, v_157_10, v_157_13, v_157_14, v_157_17, v_157_19, v_157_20, v_157_22, v_157_23, v_157_25, v_157_26, v_157_28, v_157_29, v_157_31, h_157_31, v_157_33, v_157_34, v_157_37, v_157_38, v_157_40, h_157_40, v_157_42, v_157_43, v_157_46, v_157_47, v_157_48, v_157_51, v_157_53, v_157_55, v_157_58, v_157_59, v_157_62, v_157_65, v_157_67, v_157_69, v_157_71, v_157_74, v_157_77, v_157_78, v_157_81, v_157_82, v_157_83, v_157_86, v_157_88, v_157_90, v_157_93, v_157_95, v_157_97, v_157_99, v_157_101, v_157_102, v_157_105, v_157_106, v_157_107, v_157_109, v_157_111, v_157_114, v_157_117, v_157_118, v_157_119, h_157_119, v_157_121, v_157_122, v_157_125, v_157_126, v_157_129, v_157_131, v_157_133, v_157_136, v_157_139, h_157_139, v_157_142, v_157_145, v_157_147, vgi_0, vgi_s, vga_0, vga_s, vset_0, vset_s, vtk_0, vtk_s, vrc_0, vsw_0, vsw_s, List.all_cons, List.all_nil, zc1_i, zc1_r, Bool.and_true, Bool.and_self, true_and, and_true, List.length_cons, List.length_nil, Nat.zero_le, Nat.reduceLeDiff, Nat.reduceAdd, Nat.reduceLT]
    rw [nI_1]
    refine kn t' out hol sv _ hO ?_ hS
    obtain ⟨j, e1, e2⟩ := hI
    refine ⟨j, e1, ?_⟩
    rcases e2 with e2 | ⟨e3, e4, e5⟩
    · exact Or.inl e2
    · refine Or.inr ⟨e3, e4, fun u' w' hx hu' hw' => e5 u' w' ?_ hu' hw'⟩
      omega
  | succ j ih =>
    intro w t' out hol sv hw hO hI hS
    obtain ⟨j0, s0, hout⟩ := id hI
    obtain ⟨w1, w2, -, -⟩ := stk.ok hr hf1 hn1 hn6 j0 _ s0
    have hq' := hq.fr ha hO
    have hm' := hm.fr rc6 ha hO
    obtain ⟨g1, g2, g3⟩ := hm'.2 r h1
    have hwn : w < n := by omega
    have nx : ∀ (t2 : T) (hol sv : Int32), tF (shF a) t t2 → cS t2 a = cS t' a → (sg (cS t' a) (ru r 1) u w = nI (ru r 2) ∨ (out = 0 → EVr q n ru (cS t' a) r u w ≠ 1)) → seenP q n ru r (cS t2 a) out sv hol → twp none d 157 40 [.ref 49, .ref (51 + r), .ref a, .int (nI n), .int (nI (fr q (ru r 0))), .int out, .int hol, .int sv, .int (nI u), .int (nI (w + 1))] [] t2 F := by
      intro t2 hol sv o2 m2 hc hS2
      refine ih (w + 1) t2 out hol sv (by omega) o2 ?_ hS2
      rw [m2]
      refine ⟨j0, s0, ?_⟩
      rcases hout with e2 | ⟨e3, e4, e5⟩
      · exact Or.inl e2
      · refine Or.inr ⟨e3, e4, fun u' w' hx hu' hw' => ?_⟩
        by_cases e : u' = u ∧ w' = w
        · rw [e.1, e.2]
          rcases hc with hc | hc
          · exact Or.inl hc
          · exact Or.inr (hc e3)
        · exact e5 u' w' (by omega) hu' hw'
    have due : ∀ (t2 : T) (sv : Int32), tF (shF a) t t2 → cS t2 a = cS t' a → sg (cS t' a) (ru r 1) u w ≠ nI (ru r 2) → EVr q n ru (cS t' a) r u w = 1 → (∀ o f', cle (cS t' a) f' → o = 1 → seenP q n ru r f' o sv 1) → twc d 159 [.ref (51 + r), .ref a, .int (nI u), .int (nI w)] t2 (fun res t3 => (res = some (.int 0) ∧ F (some (.int 2)) t3) ∨ (res = some (.int 1) ∧ twp none d 157 40 [.ref 49, .ref (51 + r), .ref a, .int (nI n), .int (nI (fr q (ru r 0))), .int 1, .int 1, .int sv, .int (nI u), .int (nI (w + 1))] [] t3 F)) := by
      intro t2 sv o2 m2 x1 x2 x3
      refine c_159 (f := cS t' a) (by omega) hr (hm.fr rc6 ha o2) h1 ha (by omega) (by omega) m2 (fun y => Or.inl ⟨rfl, kf t2 _ o2 ⟨j0, s0⟩ ⟨r, u, w, h1, hu, hwn, x1, x2, y⟩⟩) (fun t3 o3 m3 y1 y2 => Or.inr ⟨rfl, ?_⟩)
      have st : stp1 q n ru rc (cS t' a) (cS t3 a) := ⟨r, u, w, h1, hu, hwn, y1, x2, y2, m3⟩
      obtain ⟨-, -, c3, -⟩ := st.ok hr w1 w2 hn6
      exact ih (w + 1) t3 1 1 sv (by omega) (o2.tr (shF_st ha o3)) ⟨j0 + 1, ⟨_, s0, st⟩, Or.inl ⟨rfl, by omega⟩⟩ (x3 1 _ c3 rfl)
    have at1 : ∀ (t2 : T) (sv : Int32), twp none d 157 40 [.ref 49, .ref (51 + r), .ref a, .int (nI n), .int (nI (fr q (ru r 0))), .int 1, .int 1, .int sv, .int (nI u), .int (nI (w + 1))] [] t2 F → twp none d 157 119 [.ref 49, .ref (51 + r), .ref a, .int (nI n), .int (nI (fr q (ru r 0))), .int out, .int 1, .int sv, .int (nI u), .int (nI w)] [] t2 F := by
      intro t2 sv hk
      refine vc_ok none zH_157 85 false _ 157 119 _ _ _ _ ?_
      simp only [v_157_0, v_157_1, v_157_4, v_157_5, v_157_6, v_157_9, v_157_10, v_157_13, v_157_14, v_157_17, v_157_19, v_157_20, v_157_22, v_157_23, v_157_25, v_157_26, v_157_28, v_157_29, v_157_31, h_157_31, v_157_33, v_157_34, v_157_37, v_157_38, v_157_40, h_157_40, v_157_42, v_157_43, v_157_46, v_157_47, v_157_48, v_157_51, v_157_53, v_157_55, v_157_58, v_157_59, v_157_62, v_157_65, v_157_67, v_157_69, v_157_71, v_157_74, v_157_77, v_157_78, v_157_81, v_157_82, v_157_83, v_157_86, v_157_88, v_157_90, v_157_93, v_157_95, v_157_97, v_157_99, v_157_101, v_157_102, v_157_105, v_157_106, v_157_107, v_157_109, v_157_111, v_157_114, v_157_117, v_157_118, v_157_119, h_157_119, v_157_121, v_157_122, v_157_125, v_157_126, v_157_129, v_157_131, v_157_133, v_157_136, v_157_139, h_157_139, v_157_142, v_157_145, v_157_147, vgi_0, vgi_s, vga_0, vga_s, vset_0, vset_s, vtk_0, vtk_s, vrc_0, vsw_0, vsw_s, List.all_cons, List.all_nil, zc1_i, zc1_r, Bool.and_true, Bool.and_self, true_and, and_true, List.length_cons, List.length_nil, Nat.zero_le, Nat.reduceLeDiff, Nat.reduceAdd, Nat.reduceLT]
      rw [if_pos trivial, nI_1]
      exact hk
    have at0 : ∀ (t2 : T) (hol sv : Int32), hol ≠ 1 → twp none d 157 40 [.ref 49, .ref (51 + r), .ref a, .int (nI n), .int (nI (fr q (ru r 0))), .int out, .int hol, .int sv, .int (nI u), .int (nI (w + 1))] [] t2 F → twp none d 157 119 [.ref 49, .ref (51 + r), .ref a, .int (nI n), .int (nI (fr q (ru r 0))), .int out, .int hol, .int sv, .int (nI u), .int (nI w)] [] t2 F := by
      intro t2 hol sv hne hk
      refine vc_ok none zH_157 85 false _ 157 119 _ _ _ _ ?_
      simp only [v_157_0, v_157_1, v_157_4, v_157_5, v_157_6, v_157_9, v_157_10, v_157_13, v_157_14, v_157_17, v_157_19, v_157_20, v_157_22, v_157_23, v_157_25, v_157_26, v_157_28, v_157_29, v_157_31, h_157_31, v_157_33, v_157_34, v_157_37, v_157_38, v_157_40, h_157_40, v_157_42, v_157_43, v_157_46, v_157_47, v_157_48, v_157_51, v_157_53, v_157_55, v_157_58, v_157_59, v_157_62, v_157_65, v_157_67, v_157_69, v_157_71, v_157_74, v_157_77, v_157_78, v_157_81, v_157_82, v_157_83, v_157_86, v_157_88, v_157_90, v_157_93, v_157_95, v_157_97, v_157_99, v_157_101, v_157_102, v_157_105, v_157_106, v_157_107, v_157_109, v_157_111, v_157_114, v_157_117, v_157_118, v_157_119, h_157_119, v_157_121, v_157_122, v_157_125, v_157_126, v_157_129, v_157_131, v_157_133, v_157_136, v_157_139, h_157_139, v_157_142, v_157_145, v_157_147, vgi_0, vgi_s, vga_0, vga_s, vset_0, vset_s, vtk_0, vtk_s, vrc_0, vsw_0, vsw_s, List.all_cons, List.all_nil, zc1_i, zc1_r, Bool.and_true, Bool.and_self, true_and, and_true, List.length_cons, List.length_nil, Nat.zero_le, Nat.reduceLeDiff, Nat.reduceAdd, Nat.reduceLT]
      rw [if_neg hne, nI_1]
      exact hk
    have hI6 : sv = -1 ∨ ∃ x, x < 6 ∧ sv = nI x := by
      rcases hS with hS | ⟨x, y, g, hx, -, e1, -⟩
      · exact Or.inl hS
      · exact Or.inr ⟨x, by omega, e1⟩
    have fr6 : fr q (ru r 0) < 64 := by omega
    refine vc_ok none zH_157 85 false _ 157 40 _ _ _ _ ?_
    simp only [v_157_0, v_157_1, v_157_4, v_157_5, v_157_6, v_157_9, v_157_10, v_157_13, v_157_14, v_157_17, v_157_19, v_157_20, v_157_22, v_157_23, v_157_25, v_157_26, v_157_28, v_157_29, v_157_31, h_157_31, v_157_33, v_157_34, v_157_37, v_157_38, v_157_40, h_157_40, v_157_42, v_157_43, v_157_46, v_157_47, v_157_48, v_157_51, v_157_53, v_157_55, v_157_58, v_157_59, v_157_62, v_157_65, v_157_67, v_157_69, v_157_71, v_157_74, v_157_77, v_157_78, v_157_81, v_157_82, v_157_83, v_157_86, v_157_88, v_157_90, v_157_93, v_157_95, v_157_97, v_157_99, v_157_101, v_157_102, v_157_105, v_157_106, v_157_107, v_157_109, v_157_111, v_157_114, v_157_117, v_157_118, v_157_119, h_157_119, v_157_121, v_157_122, v_157_125, v_157_126, v_157_129, v_157_131, v_157_133, v_157_136, v_157_139, h_157_139, v_157_142, v_157_145, v_157_147, vgi_0, vgi_s, vga_0, vga_s, vset_0, vset_s, vtk_0, vtk_s, vrc_0, vsw_0, vsw_s, List.all_cons, List.all_nil, zc1_i, zc1_r, Bool.and_true, Bool.and_self, true_and, and_true, List.length_cons, List.length_nil, Nat.zero_le, Nat.reduceLeDiff, Nat.reduceAdd, Nat.reduceLT, ha, tr, g2, g3]
    simp (disch := omega) only [nI_ltI]
    rw [if_pos (by omega)]
    refine c_162 (by omega) ha (by omega) (by omega) (by omega) ?_
    simp only [v_157_0, v_157_1, v_157_4, v_157_5, v_157_6, v_157_9, v_157_10, v_157_13, v_157_14, v_157_17, v_157_19, v_157_20, v_157_22, v_157_23, v_157_25, v_157_26, v_157_28, v_157_29, v_157_31, h_157_31, v_157_33, v_157_34, v_157_37, v_157_38, v_157_40, h_157_40, v_157_42, v_157_43, v_157_46, v_157_47, v_157_48, v_157_51, v_157_53, v_157_55, v_157_58, v_157_59, v_157_62, v_157_65, v_157_67, v_157_69, v_157_71, v_157_74, v_157_77, v_157_78, v_157_81, v_157_82, v_157_83, v_157_86, v_157_88, v_157_90, v_157_93, v_157_95, v_157_97, v_157_99, v_157_101, v_157_102, v_157_105, v_157_106, v_157_107, v_157_109, v_157_111, v_157_114, v_157_117, v_157_118, v_157_119, h_157_119, v_157_121, v_157_122, v_157_125, v_157_126, v_157_129, v_157_131, v_157_133, v_157_136, v_157_139, h_157_139, v_157_142, v_157_145, v_157_147, vgi_0, vgi_s, vga_0, vga_s, vset_0, vset_s, vtk_0, vtk_s, vrc_0, vsw_0, vsw_s, List.all_cons, List.all_nil, zc1_i, zc1_r, Bool.and_true, Bool.and_self, true_and, and_true, List.length_cons, List.length_nil, Nat.zero_le, Nat.reduceLeDiff, Nat.reduceAdd, Nat.reduceLT, Option.toList_some, List.cons_append, List.nil_append, tr, g3]
    by_cases z : sg (cS t' a) (ru r 1) u w = nI (ru r 2)
    · rw [if_pos z, nI_1]
      exact nx t' hol sv hO rfl (Or.inl z) hS
    · rw [if_neg z]
      refine c_158 (by omega) fr6 (by omega) hI6 ?_ (fun x hx ex n1 n0 => ?_)
      · simp only [v_157_0, v_157_1, v_157_4, v_157_5, v_157_6, v_157_9, v_157_10, v_157_13, v_157_14, v_157_17, v_157_19, v_157_20, v_157_22, v_157_23, v_157_25, v_157_26, v_157_28, v_157_29, v_157_31, h_157_31, v_157_33, v_157_34, v_157_37, v_157_38, v_157_40, h_157_40, v_157_42, v_157_43, v_157_46, v_157_47, v_157_48, v_157_51, v_157_53, v_157_55, v_157_58, v_157_59, v_157_62, v_157_65, v_157_67, v_157_69, v_157_71, v_157_74, v_157_77, v_157_78, v_157_81, v_157_82, v_157_83, v_157_86, v_157_88, v_157_90, v_157_93, v_157_95, v_157_97, v_157_99, v_157_101, v_157_102, v_157_105, v_157_106, v_157_107, v_157_109, v_157_111, v_157_114, v_157_117, v_157_118, v_157_119, h_157_119, v_157_121, v_157_122, v_157_125, v_157_126, v_157_129, v_157_131, v_157_133, v_157_136, v_157_139, h_157_139, v_157_142, v_157_145, v_157_147, vgi_0, vgi_s, vga_0, vga_s, vset_0, vset_s, vtk_0, vtk_s, vrc_0, vsw_0, vsw_s, List.all_cons, List.all_nil, zc1_i, zc1_r, Bool.and_true, Bool.and_self, true_and, and_true, List.length_cons, List.length_nil, Nat.zero_le, Nat.reduceLeDiff, Nat.reduceAdd, Nat.reduceLT, Option.toList_some, List.cons_append, List.nil_append, tg_49, tf_49_0, tr, g1, tg_44]
        rw [if_neg (by decide)]
        refine c_122w (by omega) hq' ha rfl w1 w2 hn6 r1 r2 (fun v hv => e2_lt hu hwn (fb3 r2 hv)) (fun t2 o2 m2 => ?_)
        have o2 := hO.tr o2
        have sn : ∀ o f', cle (cS t' a) f' → (o = 0 → cS t' a = f') → seenP q n ru r f' o (nI u) (EV q (cS t' a) n (ru r 0) (e2 u w)) := fun o f' hc hz => Or.inr ⟨u, w, cS t' a, hu, hwn, rfl, rfl, w1, w2, hc, hz⟩
        simp only [v_157_0, v_157_1, v_157_4, v_157_5, v_157_6, v_157_9, v_157_10, v_157_13, v_157_14, v_157_17, v_157_19, v_157_20, v_157_22, v_157_23, v_157_25, v_157_26, v_157_28, v_157_29, v_157_31, h_157_31, v_157_33, v_157_34, v_157_37, v_157_38, v_157_40, h_157_40, v_157_42, v_157_43, v_157_46, v_157_47, v_157_48, v_157_51, v_157_53, v_157_55, v_157_58, v_157_59, v_157_62, v_157_65, v_157_67, v_157_69, v_157_71, v_157_74, v_157_77, v_157_78, v_157_81, v_157_82, v_157_83, v_157_86, v_157_88, v_157_90, v_157_93, v_157_95, v_157_97, v_157_99, v_157_101, v_157_102, v_157_105, v_157_106, v_157_107, v_157_109, v_157_111, v_157_114, v_157_117, v_157_118, v_157_119, h_157_119, v_157_121, v_157_122, v_157_125, v_157_126, v_157_129, v_157_131, v_157_133, v_157_136, v_157_139, h_157_139, v_157_142, v_157_145, v_157_147, vgi_0, vgi_s, vga_0, vga_s, vset_0, vset_s, vtk_0, vtk_s, vrc_0, vsw_0, vsw_s, List.all_cons, List.all_nil, zc1_i, zc1_r, Bool.and_true, Bool.and_self, true_and, and_true, List.length_cons, List.length_nil, Nat.zero_le, Nat.reduceLeDiff, Nat.reduceAdd, Nat.reduceLT, Option.toList_some, List.cons_append, List.nil_append, tr]
        by_cases y : EV q (cS t' a) n (ru r 0) (e2 u w) = 1
        · rw [if_pos y]
          refine twc.mono (due t2 (nI u) o2 m2 z y (fun o f' hc ho => ?_)) (fun res t3 hres => ?_)
          · have := sn o f' hc (fun h0 => by rw [ho] at h0; exact absurd h0 (by decide))
            rw [y] at this
            exact this
          · rcases hres with ⟨rfl, hk⟩ | ⟨rfl, hk⟩
            · simp only [v_157_0, v_157_1, v_157_4, v_157_5, v_157_6, v_157_9, v_157_10, v_157_13, v_157_14, v_157_17, v_157_19, v_157_20, v_157_22, v_157_23, v_157_25, v_157_26, v_157_28, v_157_29, v_157_31, h_157_31, v_157_33, v_157_34, v_157_37, v_157_38, v_157_40, h_157_40, v_157_42, v_157_43, v_157_46, v_157_47, v_157_48, v_157_51, v_157_53, v_157_55, v_157_58, v_157_59, v_157_62, v_157_65, v_157_67, v_157_69, v_157_71, v_157_74, v_157_77, v_157_78, v_157_81, v_157_82, v_157_83, v_157_86, v_157_88, v_157_90, v_157_93, v_157_95, v_157_97, v_157_99, v_157_101, v_157_102, v_157_105, v_157_106, v_157_107, v_157_109, v_157_111, v_157_114, v_157_117, v_157_118, v_157_119, h_157_119, v_157_121, v_157_122, v_157_125, v_157_126, v_157_129, v_157_131, v_157_133, v_157_136, v_157_139, h_157_139, v_157_142, v_157_145, v_157_147, vgi_0, vgi_s, vga_0, vga_s, vset_0, vset_s, vtk_0, vtk_s, vrc_0, vsw_0, vsw_s, List.all_cons, List.all_nil, zc1_i, zc1_r, Bool.and_true, Bool.and_self, true_and, and_true, List.length_cons, List.length_nil, Nat.zero_le, Nat.reduceLeDiff, Nat.reduceAdd, Nat.reduceLT, Option.toList_some, List.cons_append, List.nil_append]
              rw [if_pos trivial]
              exact hk
            · simp only [v_157_0, v_157_1, v_157_4, v_157_5, v_157_6, v_157_9, v_157_10, v_157_13, v_157_14, v_157_17, v_157_19, v_157_20, v_157_22, v_157_23, v_157_25, v_157_26, v_157_28, v_157_29, v_157_31, h_157_31, v_157_33, v_157_34, v_157_37, v_157_38, v_157_40, h_157_40, v_157_42, v_157_43, v_157_46, v_157_47, v_157_48, v_157_51, v_157_53, v_157_55, v_157_58, v_157_59, v_157_62, v_157_65, v_157_67, v_157_69, v_157_71, v_157_74, v_157_77, v_157_78, v_157_81, v_157_82, v_157_83, v_157_86, v_157_88, v_157_90, v_157_93, v_157_95, v_157_97, v_157_99, v_157_101, v_157_102, v_157_105, v_157_106, v_157_107, v_157_109, v_157_111, v_157_114, v_157_117, v_157_118, v_157_119, h_157_119, v_157_121, v_157_122, v_157_125, v_157_126, v_157_129, v_157_131, v_157_133, v_157_136, v_157_139, h_157_139, v_157_142, v_157_145, v_157_147, vgi_0, vgi_s, vga_0, vga_s, vset_0, vset_s, vtk_0, vtk_s, vrc_0, vsw_0, vsw_s, List.all_cons, List.all_nil, zc1_i, zc1_r, Bool.and_true, Bool.and_self, true_and, and_true, List.length_cons, List.length_nil, Nat.zero_le, Nat.reduceLeDiff, Nat.reduceAdd, Nat.reduceLT, Option.toList_some, List.cons_append, List.nil_append]
              rw [if_neg (by decide), y]
              exact at1 _ _ hk
        · rw [if_neg y]
          refine at0 _ _ _ y ?_
          exact nx t2 _ _ o2 m2 (Or.inr (fun _ => y)) (by rw [m2]; exact sn _ _ cle_rf (fun _ => rfl))
      · simp only [v_157_0, v_157_1, v_157_4, v_157_5, v_157_6, v_157_9, v_157_10, v_157_13, v_157_14, v_157_17, v_157_19, v_157_20, v_157_22, v_157_23, v_157_25, v_157_26, v_157_28, v_157_29, v_157_31, h_157_31, v_157_33, v_157_34, v_157_37, v_157_38, v_157_40, h_157_40, v_157_42, v_157_43, v_157_46, v_157_47, v_157_48, v_157_51, v_157_53, v_157_55, v_157_58, v_157_59, v_157_62, v_157_65, v_157_67, v_157_69, v_157_71, v_157_74, v_157_77, v_157_78, v_157_81, v_157_82, v_157_83, v_157_86, v_157_88, v_157_90, v_157_93, v_157_95, v_157_97, v_157_99, v_157_101, v_157_102, v_157_105, v_157_106, v_157_107, v_157_109, v_157_111, v_157_114, v_157_117, v_157_118, v_157_119, h_157_119, v_157_121, v_157_122, v_157_125, v_157_126, v_157_129, v_157_131, v_157_133, v_157_136, v_157_139, h_157_139, v_157_142, v_157_145, v_157_147, vgi_0, vgi_s, vga_0, vga_s, vset_0, vset_s, vtk_0, vtk_s, vrc_0, vsw_0, vsw_s, List.all_cons, List.all_nil, zc1_i, zc1_r, Bool.and_true, Bool.and_self, true_and, and_true, List.length_cons, List.length_nil, Nat.zero_le, Nat.reduceLeDiff, Nat.reduceAdd, Nat.reduceLT, Option.toList_some, List.cons_append, List.nil_append, tr]
        rw [if_pos trivial]
        obtain ⟨x1, x2⟩ := seen_use hq.2.1 hr h1 w1 hn6 hu hwn hS hx ex n1 n0
        by_cases y : hol = 1
        · rw [if_pos y]
          refine twc.mono (due t' sv hO rfl z (x1 y) (fun o f' hc ho => ?_)) (fun res t3 hres => ?_)
          · rcases hS with hS | ⟨x, y2, g, b1, b2, b3, b4, b5, b6, b7, b8⟩
            · exact Or.inl hS
            · exact Or.inr ⟨x, y2, g, b1, b2, b3, by rw [← b4]; exact y.symm, b5, b6, cle_tr b7 hc, fun h0 => by rw [ho] at h0; exact absurd h0 (by decide)⟩
          · rcases hres with ⟨rfl, hk⟩ | ⟨rfl, hk⟩
            · simp only [v_157_0, v_157_1, v_157_4, v_157_5, v_157_6, v_157_9, v_157_10, v_157_13, v_157_14, v_157_17, v_157_19, v_157_20, v_157_22, v_157_23, v_157_25, v_157_26, v_157_28, v_157_29, v_157_31, h_157_31, v_157_33, v_157_34, v_157_37, v_157_38, v_157_40, h_157_40, v_157_42, v_157_43, v_157_46, v_157_47, v_157_48, v_157_51, v_157_53, v_157_55, v_157_58, v_157_59, v_157_62, v_157_65, v_157_67, v_157_69, v_157_71, v_157_74, v_157_77, v_157_78, v_157_81, v_157_82, v_157_83, v_157_86, v_157_88, v_157_90, v_157_93, v_157_95, v_157_97, v_157_99, v_157_101, v_157_102, v_157_105, v_157_106, v_157_107, v_157_109, v_157_111, v_157_114, v_157_117, v_157_118, v_157_119, h_157_119, v_157_121, v_157_122, v_157_125, v_157_126, v_157_129, v_157_131, v_157_133, v_157_136, v_157_139, h_157_139, v_157_142, v_157_145, v_157_147, vgi_0, vgi_s, vga_0, vga_s, vset_0, vset_s, vtk_0, vtk_s, vrc_0, vsw_0, vsw_s, List.all_cons, List.all_nil, zc1_i, zc1_r, Bool.and_true, Bool.and_self, true_and, and_true, List.length_cons, List.length_nil, Nat.zero_le, Nat.reduceLeDiff, Nat.reduceAdd, Nat.reduceLT, Option.toList_some, List.cons_append, List.nil_append]
              rw [if_pos trivial]
              exact hk
            · simp only [v_157_0, v_157_1, v_157_4, v_157_5, v_157_6, v_157_9, v_157_10, v_157_13, v_157_14, v_157_17, v_157_19, v_157_20, v_157_22, v_157_23, v_157_25, v_157_26, v_157_28, v_157_29, v_157_31, h_157_31, v_157_33, v_157_34, v_157_37, v_157_38, v_157_40, h_157_40, v_157_42, v_157_43, v_157_46, v_157_47, v_157_48, v_157_51, v_157_53, v_157_55, v_157_58, v_157_59, v_157_62, v_157_65, v_157_67, v_157_69, v_157_71, v_157_74, v_157_77, v_157_78, v_157_81, v_157_82, v_157_83, v_157_86, v_157_88, v_157_90, v_157_93, v_157_95, v_157_97, v_157_99, v_157_101, v_157_102, v_157_105, v_157_106, v_157_107, v_157_109, v_157_111, v_157_114, v_157_117, v_157_118, v_157_119, h_157_119, v_157_121, v_157_122, v_157_125, v_157_126, v_157_129, v_157_131, v_157_133, v_157_136, v_157_139, h_157_139, v_157_142, v_157_145, v_157_147, vgi_0, vgi_s, vga_0, vga_s, vset_0, vset_s, vtk_0, vtk_s, vrc_0, vsw_0, vsw_s, List.all_cons, List.all_nil, zc1_i, zc1_r, Bool.and_true, Bool.and_self, true_and, and_true, List.length_cons, List.length_nil, Nat.zero_le, Nat.reduceLeDiff, Nat.reduceAdd, Nat.reduceLT, Option.toList_some, List.cons_append, List.nil_append]
              rw [if_neg (by decide), y]
              exact at1 _ _ hk
        · rw [if_neg y]
          refine at0 _ _ _ y ?_
          refine nx t' hol sv hO rfl (Or.inr (fun e => ?_)) hS
          rw [← x2 e]; exact y
theorem l_157a {f1 : St} {r : Nat} (hd : 40 ≤ d) (hr : rwf q m ru rc) (h1 : r < rc) (hf1 : wfS f1) (hn1 : f1 0 = nI n) (hn6 : n ≤ 6) (ha : vtag a = 4) (hq : cft t q m) (hm : crl t ru rc) (kf : ∀ t' f', tF (shF a) t t' → (∃ j, stk q n ru rc j f1 f') → fail1 q n ru rc f' → F (some (.int 2)) t') (kn : ∀ (t' : T) (out : Int32), tF (shF a) t t' → EI q n ru rc f1 r n 0 out (cS t' a) → F (some (.int out)) t') : ∀ (j u : Nat) (t' : T) (out hol sv : Int32) (j9 : Value), u + j = n → tF (shF a) t t' → EI q n ru rc f1 r u 0 out (cS t' a) → seenP q n ru r (cS t' a) out sv hol → twp none d 157 31 [.ref 49, .ref (51 + r), .ref a, .int (nI n), .int (nI (fr q (ru r 0))), .int out, .int hol, .int sv, .int (nI u), j9] [] t' F := by
  intro j
  induction j with
  | zero =>
    intro u t' out hol sv j9 hu hO hI hS
    have hu : u = n := by omega
    subst hu
    refine vc_ok none zH_157 85 false _ 157 31 _ _ _ _ ?_
    simp only [v_157_0, v_157_1, v_157_4, v_157_5, v_157_6, v_157_9, v_157_10, v_157_13, v_157_14, v_157_17, v_157_19, v_157_20, v_157_22, v_157_23, v_157_25, v_157_26, v_157_28, v_157_29, v_157_31, h_157_31, v_157_33, v_157_34, v_157_37, v_157_38, v_157_40, h_157_40, v_157_42, v_157_43, v_157_46, v_157_47, v_157_48, v_157_51, v_157_53, v_157_55, v_157_58, v_157_59, v_157_62, v_157_65, v_157_67, v_157_69, v_157_71, v_157_74, v_157_77, v_157_78, v_157_81, v_157_82, v_157_83, v_157_86, v_157_88, v_157_90, v_157_93, v_157_95, v_157_97, v_157_99, v_157_101, v_157_102, v_157_105, v_157_106, v_157_107, v_157_109, v_157_111, v_157_114, v_157_117, v_157_118, v_157_119, h_157_119, v_157_121, v_157_122, v_157_125, v_157_126, v_157_129, v_157_131, v_157_133, v_157_136, v_157_139, h_157_139, v_157_142, v_157_145, v_157_147, vgi_0, vgi_s, vga_0, vga_s, vset_0, vset_s, vtk_0, vtk_s, vrc_0, vsw_0, vsw_s, List.all_cons, List.all_nil, zc1_i, zc1_r, Bool.and_true, Bool.and_self, true_and, and_true, List.length_cons, List.length_nil, Nat.zero_le, Nat.reduceLeDiff, Nat.reduceAdd, Nat.reduceLT]
    simp (disch := omega) only [nI_ltI, Nat.lt_irrefl, if_false]
    exact kn t' out hO hI
  | succ j ih =>
    intro u t' out hol sv j9 hu hO hI hS
    refine vc_ok none zH_157 85 false _ 157 31 _ _ _ _ ?_
    simp only [v_157_0, v_157_1, v_157_4, v_157_5, v_157_6, v_157_9, v_157_10, v_157_13, v_157_14, v_157_17, v_157_19, v_157_20, v_157_22, v_157_23, v_157_25, v_157_26, v_157_28, v_157_29, v_157_31, h_157_31, v_157_33, v_157_34, v_157_37, v_157_38, v_157_40, h_157_40, v_157_42, v_157_43, v_157_46, v_157_47, v_157_48, v_157_51, v_157_53, v_157_55, v_157_58, v_157_59, v_157_62, v_157_65, v_157_67, v_157_69, v_157_71, v_157_74, v_157_77, v_157_78, v_157_81, v_157_82, v_157_83, v_157_86, v_157_88, v_157_90, v_157_93, v_157_95, v_157_97, v_157_99, v_157_101, v_157_102, v_157_105, v_157_106, v_157_107, v_157_109, v_157_111, v_157_114, v_157_117, v_157_118, v_157_119, h_157_119, v_157_121, v_157_122, v_157_125, v_157_126, v_157_129, v_157_131, v_157_133, v_157_136, v_157_139, h_157_139, v_157_142, v_157_145, v_157_147, vgi_0, vgi_s, vga_0, vga_s, vset_0, vset_s, vtk_0, vtk_s, vrc_0, vsw_0, vsw_s, List.all_cons, List.all_nil, zc1_i, zc1_r, Bool.and_true, Bool.and_self, true_and, and_true, List.length_cons, List.length_nil, Nat.zero_le, Nat.reduceLeDiff, Nat.reduceAdd, Nat.reduceLT]
    simp (disch := omega) only [nI_ltI]
    rw [if_pos (by omega)]
    exact l_157b hd hr h1 (by omega) hf1 hn1 hn6 ha hq hm kf (fun t2 out2 hol2 sv2 k9 o2 I2 S2 => ih (u + 1) t2 out2 hol2 sv2 k9 (by omega) o2 I2 S2) n 0 t' out hol sv (by omega) hO hI hS
theorem c_157 {r : Nat} {f1 : St} (hd : 41 ≤ d) (hr : rwf q m ru rc) (h1 : r < rc) (hc : cS t a = f1) (hf1 : wfS f1) (hn1 : f1 0 = nI n) (hn6 : n ≤ 6) (ha : vtag a = 4) (hq : cft t q m) (hm : crl t ru rc) (kf : ∀ t' f', tF (shF a) t t' → (∃ j, stk q n ru rc j f1 f') → fail1 q n ru rc f' → F (some (.int 2)) t') (kn : ∀ (t' : T) (out : Int32), tF (shF a) t t' → EI q n ru rc f1 r n 0 out (cS t' a) → F (some (.int out)) t') : twc d 157 [.ref 49, .ref (51 + r), .ref a] t F := by
  have rc6 := hr.1
  have tr := rl_tag r (by omega)
  obtain ⟨r1, r2, r3, r4, r5⟩ := hr.2 r h1
  obtain ⟨g1, g2, g3⟩ := hm.2 r h1
  have m40 := hq.1
  have hc0 : t.1 a 0 = nI n := by rw [← cS_i, hc]; exact hn1
  have hub : t.1 (4 + ru r 0) 6 = nI (fr q (ru r 0)) := by rw [hq.2.2.2 _ 6 r1 (by omega)]; exact (hq.2.1 _ r1).2.2.2.2.1
  have ft := fo_tag (ru r 0) (by omega)
  refine ⟨by omega, ?_⟩
  rw [ze_157]
  refine vc_ok none zH_157 85 false _ 157 0 _ _ _ _ ?_
  simp only [v_157_0, v_157_1, v_157_4, v_157_5, v_157_6, v_157_9, v_157_10, v_157_13, v_157_14, v_157_17, v_157_19, v_157_20, v_157_22, v_157_23, v_157_25, v_157_26, v_157_28, v_157_29, v_157_31, h_157_31, v_157_33, v_157_34, v_157_37, v_157_38, v_157_40, h_157_40, v_157_42, v_157_43, v_157_46, v_157_47, v_157_48, v_157_51, v_157_53, v_157_55, v_157_58, v_157_59, v_157_62, v_157_65, v_157_67, v_157_69, v_157_71, v_157_74, v_157_77, v_157_78, v_157_81, v_157_82, v_157_83, v_157_86, v_157_88, v_157_90, v_157_93, v_157_95, v_157_97, v_157_99, v_157_101, v_157_102, v_157_105, v_157_106, v_157_107, v_157_109, v_157_111, v_157_114, v_157_117, v_157_118, v_157_119, h_157_119, v_157_121, v_157_122, v_157_125, v_157_126, v_157_129, v_157_131, v_157_133, v_157_136, v_157_139, h_157_139, v_157_142, v_157_145, v_157_147, vgi_0, vgi_s, vga_0, vga_s, vset_0, vset_s, vtk_0, vtk_s, vrc_0, vsw_0, vsw_s, List.all_cons, List.all_nil, zc1_i, zc1_r, Bool.and_true, Bool.and_self, true_and, and_true, List.length_cons, List.length_nil, Nat.zero_le, Nat.reduceLeDiff, Nat.reduceAdd, Nat.reduceLT, ha, hc0, tg_49, tf_49_1, tr, g1, tg_3, ln_3]
  simp (disch := omega) only [nI_clamp, vinb_n, tf_3, hub, ft]
  refine ⟨by omega, trivial, ?_⟩
  exact l_157a (by omega) hr h1 hf1 hn1 hn6 ha hq hm kf kn n 0 t 0 0 (-1) _ (by omega) tF.rf ⟨0, hc.symm, Or.inr ⟨rfl, rfl, fun u' w' hx _ _ => by omega⟩⟩ (Or.inl rfl)
theorem l_156b {f0 f1 : St} {turn : Int32} (hd : 41 ≤ d) (hr : rwf q m ru rc) (hf1 : wfS f1) (hn1 : f1 0 = nI n) (hn6 : n ≤ 6) (ha : vtag a = 4) (hq : cft t q m) (hm : crl t ru rc) (h01 : ∃ k, stk q n ru rc k f0 f1) (kf : ∀ t', tF (shF a) t t' → CO q n ru rc f0 none → F (some (.int 0)) t') (kn : ∀ (t' : T) (mo : Int32) (j4 j5 : Value), tF (shF a) t t' → CI q n ru rc f1 rc 0 mo (cS t' a) → twp none d 156 4 [.ref 49, .ref a, .int mo, .int (turn + 1), j4, j5] [] t' F) : ∀ (j r : Nat) (t' : T) (mo : Int32) (j5 : Value), r + j = rc → tF (shF a) t t' → CI q n ru rc f1 r 0 mo (cS t' a) → twp none d 156 19 [.ref 49, .ref a, .int mo, .int turn, .int (nI r), j5] [] t' F := by
  have rc6 := hr.1
  intro j
  induction j with
  | zero =>
    intro r t' mo j5 hj hO hI
    have hj : r = rc := by omega
    subst hj
    have h3 := (hm.fr rc6 ha hO).1
    refine vc_ok none zH_156 55 false _ 156 19 _ _ _ _ ?_
    simp only [v_156_0, v_156_1, v_156_2, v_156_3, v_156_4, h_156_4, v_156_5, v_156_7, v_156_10, v_156_11, v_156_14, v_156_15, v_156_16, v_156_17, v_156_19, h_156_19, v_156_21, v_156_22, v_156_25, v_156_28, v_156_29, v_156_30, v_156_33, v_156_35, v_156_36, v_156_37, v_156_40, v_156_42, v_156_44, v_156_45, v_156_48, v_156_49, v_156_50, v_156_51, v_156_54, v_156_56, v_156_57, v_156_60, v_156_61, v_156_64, v_156_65, v_156_66, v_156_69, v_156_72, v_156_75, v_156_78, v_156_79, vgi_0, vgi_s, vga_0, vga_s, vset_0, vset_s, vtk_0, vtk_s, vrc_0, vsw_0, vsw_s, List.all_cons, List.all_nil, zc1_i, zc1_r, Bool.and_true, Bool.and_self, true_and, and_true, List.length_cons, List.length_nil, Nat.zero_le, Nat.reduceLeDiff, Nat.reduceAdd, Nat.reduceLT, tg_49, h3]
    simp (disch := omega) only [nI_ltI, Nat.lt_irrefl, if_false]
    exact kn t' mo _ _ hO hI
  | succ j ih =>
    intro r t' mo j5 hj hO hI
    have h3 := (hm.fr rc6 ha hO).1
    obtain ⟨j0, s0, hmo⟩ := id hI
    obtain ⟨w1, w2, -, -⟩ := stk.ok hr hf1 hn1 hn6 j0 _ s0
    have tr := rl_tag r (by omega)
    have step : ∀ (t2 : T) (out : Int32), EI q n ru rc (cS t' a) r n 0 out (cS t2 a) → (out = 0 ∨ out = 1) ∧ (out = 1 → CI q n ru rc f1 (r + 1) 0 1 (cS t2 a)) ∧ (out = 0 → CI q n ru rc f1 (r + 1) 0 mo (cS t2 a)) := by
      rintro t2 out ⟨j2, s2, h2⟩
      rcases h2 with ⟨e1, e2⟩ | ⟨e1, e2, e3⟩
      · refine ⟨Or.inr e1, fun _ => ⟨j0 + j2, stk_tr s0 j2 _ s2, Or.inl ⟨rfl, by omega⟩⟩, fun z => ?_⟩
        rw [e1] at z; exact absurd z (by decide)
      · refine ⟨Or.inl e1, fun z => ?_, fun _ => ?_⟩
        · rw [e1] at z; exact absurd z (by decide)
        · subst e2
          have s2 : cS t' a = cS t2 a := s2
          rw [← s2] at e3 ⊢
          refine hI.rest (fun h r' u w hx hu hw => ?_)
          by_cases e : r' = r
          · subst e
            exact e3 u w (Or.inl hu) hu hw
          · exact h r' u w (by omega) hu hw
    refine vc_ok none zH_156 55 false _ 156 19 _ _ _ _ ?_
    simp only [v_156_0, v_156_1, v_156_2, v_156_3, v_156_4, h_156_4, v_156_5, v_156_7, v_156_10, v_156_11, v_156_14, v_156_15, v_156_16, v_156_17, v_156_19, h_156_19, v_156_21, v_156_22, v_156_25, v_156_28, v_156_29, v_156_30, v_156_33, v_156_35, v_156_36, v_156_37, v_156_40, v_156_42, v_156_44, v_156_45, v_156_48, v_156_49, v_156_50, v_156_51, v_156_54, v_156_56, v_156_57, v_156_60, v_156_61, v_156_64, v_156_65, v_156_66, v_156_69, v_156_72, v_156_75, v_156_78, v_156_79, vgi_0, vgi_s, vga_0, vga_s, vset_0, vset_s, vtk_0, vtk_s, vrc_0, vsw_0, vsw_s, List.all_cons, List.all_nil, zc1_i, zc1_r, Bool.and_true, Bool.and_self, true_and, and_true, List.length_cons, List.length_nil, Nat.zero_le, Nat.reduceLeDiff, Nat.reduceAdd, Nat.reduceLT, tg_49, h3, tf_49_2, tg_50, ln_50]
    simp (disch := omega) only [nI_ltI, nI_clamp, vinb_n, tf_50, tr]
    rw [if_pos (by omega)]
    refine ⟨by omega, ?_⟩
    refine c_157 (by omega) hr (by omega) rfl w1 w2 hn6 ha (hq.fr ha hO) (hm.fr rc6 ha hO) (fun t2 f' o2 s2 hf => ?_) (fun t2 out o2 I2 => ?_)
    · simp only [v_156_0, v_156_1, v_156_2, v_156_3, v_156_4, h_156_4, v_156_5, v_156_7, v_156_10, v_156_11, v_156_14, v_156_15, v_156_16, v_156_17, v_156_19, h_156_19, v_156_21, v_156_22, v_156_25, v_156_28, v_156_29, v_156_30, v_156_33, v_156_35, v_156_36, v_156_37, v_156_40, v_156_42, v_156_44, v_156_45, v_156_48, v_156_49, v_156_50, v_156_51, v_156_54, v_156_56, v_156_57, v_156_60, v_156_61, v_156_64, v_156_65, v_156_66, v_156_69, v_156_72, v_156_75, v_156_78, v_156_79, vgi_0, vgi_s, vga_0, vga_s, vset_0, vset_s, vtk_0, vtk_s, vrc_0, vsw_0, vsw_s, List.all_cons, List.all_nil, zc1_i, zc1_r, Bool.and_true, Bool.and_self, true_and, and_true, List.length_cons, List.length_nil, Nat.zero_le, Nat.reduceLeDiff, Nat.reduceAdd, Nat.reduceLT, Option.toList_some, List.cons_append, List.nil_append]
      rw [if_pos trivial]
      obtain ⟨k0, hk0⟩ := h01
      obtain ⟨j2, s2⟩ := s2
      exact ⟨Or.inl trivial, kf t2 (hO.tr o2) ⟨f', _, stk_tr (stk_tr hk0 j0 _ s0) j2 _ s2, hf⟩⟩
    · obtain ⟨c1, c2, c3⟩ := step t2 out I2
      simp only [v_156_0, v_156_1, v_156_2, v_156_3, v_156_4, h_156_4, v_156_5, v_156_7, v_156_10, v_156_11, v_156_14, v_156_15, v_156_16, v_156_17, v_156_19, h_156_19, v_156_21, v_156_22, v_156_25, v_156_28, v_156_29, v_156_30, v_156_33, v_156_35, v_156_36, v_156_37, v_156_40, v_156_42, v_156_44, v_156_45, v_156_48, v_156_49, v_156_50, v_156_51, v_156_54, v_156_56, v_156_57, v_156_60, v_156_61, v_156_64, v_156_65, v_156_66, v_156_69, v_156_72, v_156_75, v_156_78, v_156_79, vgi_0, vgi_s, vga_0, vga_s, vset_0, vset_s, vtk_0, vtk_s, vrc_0, vsw_0, vsw_s, List.all_cons, List.all_nil, zc1_i, zc1_r, Bool.and_true, Bool.and_self, true_and, and_true, List.length_cons, List.length_nil, Nat.zero_le, Nat.reduceLeDiff, Nat.reduceAdd, Nat.reduceLT, Option.toList_some, List.cons_append, List.nil_append]
      rcases c1 with rfl | rfl
      · rw [if_neg (by decide), nI_1]
        have c3 := c3 rfl
        rcases hmo with ⟨rfl, -⟩ | ⟨rfl, -⟩
        · rw [if_neg (by decide)]
          exact ih (r + 1) t2 1 _ (by omega) (hO.tr o2) c3
        · rw [if_pos rfl, if_neg (by decide)]
          exact ih (r + 1) t2 0 _ (by omega) (hO.tr o2) c3
      · rw [if_neg (by decide), nI_1]
        have c2 := c2 rfl
        rcases hmo with ⟨rfl, -⟩ | ⟨rfl, -⟩
        · rw [if_neg (by decide)]
          exact ih (r + 1) t2 1 _ (by omega) (hO.tr o2) c2
        · rw [if_pos rfl, if_pos rfl]
          exact ih (r + 1) t2 1 _ (by omega) (hO.tr o2) c2
theorem l_156a {f0 : St} (hd : 41 ≤ d) (hr : rwf q m ru rc) (hf0 : wfS f0) (hn0 : f0 0 = nI n) (hn6 : n ≤ 6) (ha : vtag a = 4) (hq : cft t q m) (hm : crl t ru rc) (kf : ∀ t', tF (shF a) t t' → CO q n ru rc f0 none → F (some (.int 0)) t') (k1 : ∀ t', tF (shF a) t t' → CO q n ru rc f0 (some (cS t' a)) → F (some (.int 1)) t') : ∀ (z turn : Nat) (t' : T) (j4 j5 : Value), tF (shF a) t t' → mu (cS t' a) 105 = z → z + turn ≤ 104 → (∃ k, stk q n ru rc k f0 (cS t' a)) → twp none d 156 4 [.ref 49, .ref a, .int 1, .int (nI turn), j4, j5] [] t' F := by
  intro z
  induction z using Nat.strongRecOn with
  | ind z ih =>
    intro turn t' j4 j5 hO hz ht h01
    obtain ⟨j0, s0⟩ := h01
    obtain ⟨w1, w2, -, -⟩ := stk.ok hr hf0 hn0 hn6 j0 _ s0
    refine vc_ok none zH_156 55 false _ 156 4 _ _ _ _ ?_
    simp only [v_156_0, v_156_1, v_156_2, v_156_3, v_156_4, h_156_4, v_156_5, v_156_7, v_156_10, v_156_11, v_156_14, v_156_15, v_156_16, v_156_17, v_156_19, h_156_19, v_156_21, v_156_22, v_156_25, v_156_28, v_156_29, v_156_30, v_156_33, v_156_35, v_156_36, v_156_37, v_156_40, v_156_42, v_156_44, v_156_45, v_156_48, v_156_49, v_156_50, v_156_51, v_156_54, v_156_56, v_156_57, v_156_60, v_156_61, v_156_64, v_156_65, v_156_66, v_156_69, v_156_72, v_156_75, v_156_78, v_156_79, vgi_0, vgi_s, vga_0, vga_s, vset_0, vset_s, vtk_0, vtk_s, vrc_0, vsw_0, vsw_s, List.all_cons, List.all_nil, zc1_i, zc1_r, Bool.and_true, Bool.and_self, true_and, and_true, List.length_cons, List.length_nil, Nat.zero_le, Nat.reduceLeDiff, Nat.reduceAdd, Nat.reduceLT]
    rw [li105, if_pos (nI_lt (by omega) (by omega)), if_neg (by decide)]
    refine l_156b (t := t') (f0 := f0) (f1 := cS t' a) hd hr w1 w2 hn6 ha (hq.fr ha hO) (hm.fr hr.1 ha hO) ⟨j0, s0⟩ (fun t2 o2 c2 => kf t2 (hO.tr o2) c2) (fun t2 mo k4 k5 o2 hI => ?_) rc 0 t' 0 _ (by omega) tF.rf ⟨0, rfl, Or.inr ⟨rfl, rfl, fun r' u w hx _ _ => by omega⟩⟩
    obtain ⟨j2, s2, hmo⟩ := hI
    obtain ⟨x1, x2, x3, x4⟩ := stk.ok hr w1 w2 hn6 j2 _ s2
    rcases hmo with ⟨rfl, hj⟩ | ⟨rfl, hj, hdn⟩
    · rw [nI_1]
      exact ih _ (by omega) (turn + 1) t2 k4 k5 (hO.tr o2) rfl (by omega) ⟨_, stk_tr s0 j2 _ s2⟩
    · have fin : F (some (.int 1)) t2 := k1 t2 (hO.tr o2) ⟨⟨_, stk_tr s0 j2 _ s2⟩, fun r u w h1 h2 h3 => hdn r u w (Or.inl h1) h2 h3⟩
      rw [nI_1]
      refine vc_ok none zH_156 55 false _ 156 4 _ _ _ _ ?_
      simp only [v_156_0, v_156_1, v_156_2, v_156_3, v_156_4, h_156_4, v_156_5, v_156_7, v_156_10, v_156_11, v_156_14, v_156_15, v_156_16, v_156_17, v_156_19, h_156_19, v_156_21, v_156_22, v_156_25, v_156_28, v_156_29, v_156_30, v_156_33, v_156_35, v_156_36, v_156_37, v_156_40, v_156_42, v_156_44, v_156_45, v_156_48, v_156_49, v_156_50, v_156_51, v_156_54, v_156_56, v_156_57, v_156_60, v_156_61, v_156_64, v_156_65, v_156_66, v_156_69, v_156_72, v_156_75, v_156_78, v_156_79, vgi_0, vgi_s, vga_0, vga_s, vset_0, vset_s, vtk_0, vtk_s, vrc_0, vsw_0, vsw_s, List.all_cons, List.all_nil, zc1_i, zc1_r, Bool.and_true, Bool.and_self, true_and, and_true, List.length_cons, List.length_nil, Nat.zero_le, Nat.reduceLeDiff, Nat.reduceAdd, Nat.reduceLT]
      by_cases y : nI (turn + 1) < 105
      · rw [if_pos y, if_pos trivial]
        exact ⟨Or.inr trivial, fin⟩
      · rw [if_neg y]
        exact ⟨Or.inr trivial, fin⟩
theorem c_156 {f0 : St} (hd : 42 ≤ d) (hr : rwf q m ru rc) (hc : cS t a = f0) (hf0 : wfS f0) (hn0 : f0 0 = nI n) (hn6 : n ≤ 6) (ha : vtag a = 4) (hq : cft t q m) (hm : crl t ru rc) (kf : ∀ t', tF (shF a) t t' → CO q n ru rc f0 none → F (some (.int 0)) t') (k1 : ∀ t', tF (shF a) t t' → CO q n ru rc f0 (some (cS t' a)) → F (some (.int 1)) t') : twc d 156 [.ref 49, .ref a] t F := by
  have := mu_le (f := cS t a) 104
  refine ⟨by omega, ?_⟩
  rw [ze_156]
  refine vc_ok none zH_156 55 false _ 156 0 _ _ _ _ ?_
  simp only [v_156_0, v_156_1, v_156_2, v_156_3, v_156_4, h_156_4, v_156_5, v_156_7, v_156_10, v_156_11, v_156_14, v_156_15, v_156_16, v_156_17, v_156_19, h_156_19, v_156_21, v_156_22, v_156_25, v_156_28, v_156_29, v_156_30, v_156_33, v_156_35, v_156_36, v_156_37, v_156_40, v_156_42, v_156_44, v_156_45, v_156_48, v_156_49, v_156_50, v_156_51, v_156_54, v_156_56, v_156_57, v_156_60, v_156_61, v_156_64, v_156_65, v_156_66, v_156_69, v_156_72, v_156_75, v_156_78, v_156_79, vgi_0, vgi_s, vga_0, vga_s, vset_0, vset_s, vtk_0, vtk_s, vrc_0, vsw_0, vsw_s, List.all_cons, List.all_nil, zc1_i, zc1_r, Bool.and_true, Bool.and_self, true_and, and_true, List.length_cons, List.length_nil, Nat.zero_le, Nat.reduceLeDiff, Nat.reduceAdd, Nat.reduceLT]
  exact l_156a (by omega) hr hf0 hn0 hn6 ha hq hm kf k1 _ 0 t _ _ tF.rf rfl (by omega) ⟨0, hc.symm⟩
end CC2
