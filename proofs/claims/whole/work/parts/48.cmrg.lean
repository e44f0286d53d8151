/-! The merger's methods. -/
theorem nI_p0 (a : Nat) : nI a + 0 = nI a := by rw [show (0 : Int32) = nI 0 from rfl, nI_add]; rfl
section CMR
variable {d a : Nat} {t : T} {F : Option Value → T → Prop} {f : St} {n : Nat}
theorem l_143 {u : Nat} (hu : u < 6) (hnum : ∀ v, v ≤ u → t.1 146 v = nI (nm f v)) (hlt : ∀ v, v ≤ u → nm f v < 81) (h1 : fst1 f u → F (some (.int 1)) t) (h0 : ¬ fst1 f u → F (some (.int 0)) t) : ∀ (j v : Nat), v + j = u → (∀ x, x < v → nm f x ≠ nm f u) → twp none d 143 2 [.ref 143, .int (nI u), .int (nI v)] [] t F := by
  intro j
  induction j with
  | zero =>
    intro v hv hne
    have hv : v = u := by omega
    subst hv
    refine vc_ok none zH_143 30 false _ 143 2 _ _ _ _ ?_
    simp only [v_143_0, v_143_1, v_143_2, h_143_2, v_143_3, v_143_4, v_143_7, v_143_8, v_143_11, v_143_12, v_143_13, v_143_14, v_143_17, v_143_18, v_143_19, v_143_22, v_143_23, v_143_24, v_143_27, v_143_30, v_143_31, vgi_0, vgi_s, vga_0, vga_s, vset_0, vset_s, vtk_0, vtk_s, vrc_0, vsw_0, vsw_s, List.all_cons, List.all_nil, zc1_i, zc1_r, Bool.and_true, Bool.and_self, true_and, and_true, List.length_cons, List.length_nil, Nat.zero_le, Nat.reduceLeDiff, Nat.reduceAdd, Nat.reduceLT]
    simp (disch := omega) only [nI_ltI, Nat.lt_irrefl, if_false]
    exact ⟨Or.inr trivial, h1 hne⟩
  | succ j ih =>
    intro v hv hne
    have l1 := hlt v (by omega)
    have l2 := hlt u (by omega)
    refine vc_ok none zH_143 30 false _ 143 2 _ _ _ _ ?_
    simp only [v_143_0, v_143_1, v_143_2, h_143_2, v_143_3, v_143_4, v_143_7, v_143_8, v_143_11, v_143_12, v_143_13, v_143_14, v_143_17, v_143_18, v_143_19, v_143_22, v_143_23, v_143_24, v_143_27, v_143_30, v_143_31, vgi_0, vgi_s, vga_0, vga_s, vset_0, vset_s, vtk_0, vtk_s, vrc_0, vsw_0, vsw_s, List.all_cons, List.all_nil, zc1_i, zc1_r, Bool.and_true, Bool.and_self, true_and, and_true, List.length_cons, List.length_nil, Nat.zero_le, Nat.reduceLeDiff, Nat.reduceAdd, Nat.reduceLT, tg_143, tf_143_1, tg_146, ln_146]
    simp (disch := omega) only [nI_ltI, nI_clamp, vinb_n]
    rw [if_pos (by omega), hnum v (by omega), hnum u (by omega)]
    simp (disch := omega) only [nI_eq]
    refine ⟨by omega, by omega, ?_⟩
    by_cases z : nm f v = nm f u
    · rw [if_pos z]
      exact ⟨Or.inl trivial, h0 (fun q => q v (by omega) z)⟩
    · rw [if_neg z, nI_1]
      refine ih (v + 1) (by omega) (fun x hx => ?_)
      by_cases y : x = v
      · rw [y]; exact z
      · exact hne x (by omega)
theorem c_143 {u : Nat} (hd : 1 ≤ d) (hu : u < 6) (hnum : ∀ v, v ≤ u → t.1 146 v = nI (nm f v)) (hlt : ∀ v, v ≤ u → nm f v < 81) (h1 : fst1 f u → F (some (.int 1)) t) (h0 : ¬ fst1 f u → F (some (.int 0)) t) : twc d 143 [.ref 143, .int (nI u)] t F := by
  refine ⟨by omega, ?_⟩
  rw [ze_143]
  refine vc_ok none zH_143 30 false _ 143 0 _ _ _ _ ?_
  simp only [v_143_0, v_143_1, v_143_2, h_143_2, v_143_3, v_143_4, v_143_7, v_143_8, v_143_11, v_143_12, v_143_13, v_143_14, v_143_17, v_143_18, v_143_19, v_143_22, v_143_23, v_143_24, v_143_27, v_143_30, v_143_31, vgi_0, vgi_s, vga_0, vga_s, vset_0, vset_s, vtk_0, vtk_s, vrc_0, vsw_0, vsw_s, List.all_cons, List.all_nil, zc1_i, zc1_r, Bool.and_true, Bool.and_self, true_and, and_true, List.length_cons, List.length_nil, Nat.zero_le, Nat.reduceLeDiff, Nat.reduceAdd, Nat.reduceLT]
  exact l_143 hu hnum hlt h1 h0 u 0 (by omega) (fun x hx => by omega)
noncomputable def ldv (f : St) (u : Nat) : Int32 := @ite _ (fst1 f u) (Classical.propDecidable _) 1 0
theorem ldv_1 {u : Nat} (h : fst1 f u) : ldv f u = 1 := by unfold ldv; rw [if_pos h]
theorem ldv_0 {u : Nat} (h : ¬ fst1 f u) : ldv f u = 0 := by unfold ldv; rw [if_neg h]
def mgA : List Nat := [146, 147, 148]
theorem l_142c {u : Nat} (hu : u < n) (hn : n ≤ 6) (hlt : ∀ v, v < n → nm f v < 81) (h : ∀ (t' : T) (jv : Value), tO mgA t t' → (∀ v, v < n → t'.1 146 v = nI (nm f v) ∧ t'.1 147 v = ldv f v) → (∀ v, v < u + 1 → t'.1 148 v = nI (PL f n v)) → twp none d 142 102 [.ref 143, .int (nI n), .int (nI (GR f n)), .int (nI (u + 1)), jv] [] t' F) : ∀ (j v : Nat) (t' : T), v + j = n → tO mgA t t' → (∀ v, v < n → t'.1 146 v = nI (nm f v) ∧ t'.1 147 v = ldv f v) → (∀ v, v < u → t'.1 148 v = nI (PL f n v)) → t'.1 148 u = nI (cnf f (nm f u) v) → twp none d 142 117 [.ref 143, .int (nI n), .int (nI (GR f n)), .int (nI u), .int (nI v)] [] t' F := by
  intro j
  induction j with
  | zero =>
    intro v t' hv hO h1 h2 h3
    have hv : v = n := by omega
    subst hv
    refine vc_ok none zH_142 119 false _ 142 117 _ _ _ _ ?_
    simp only [v_142_0, v_142_1, v_142_2, v_142_3, v_142_4, h_142_4, v_142_5, v_142_6, v_142_9, v_142_10, v_142_13, v_142_14, v_142_15, v_142_18, v_142_19, v_142_20, v_142_21, v_142_24, v_142_26, v_142_27, v_142_28, v_142_31, v_142_32, v_142_33, v_142_34, v_142_37, v_142_39, v_142_40, v_142_41, v_142_42, v_142_45, v_142_46, v_142_47, v_142_48, v_142_51, v_142_52, v_142_53, v_142_54, v_142_55, v_142_58, v_142_59, v_142_60, v_142_61, v_142_64, v_142_65, v_142_66, v_142_67, v_142_70, v_142_71, v_142_72, v_142_73, v_142_76, v_142_77, v_142_78, v_142_79, v_142_82, v_142_83, v_142_84, v_142_87, v_142_88, v_142_91, v_142_92, v_142_93, v_142_94, v_142_97, v_142_100, v_142_101, v_142_102, h_142_102, v_142_103, v_142_104, v_142_107, v_142_108, v_142_111, v_142_112, v_142_113, v_142_114, v_142_115, v_142_117, h_142_117, v_142_119, v_142_120, v_142_123, v_142_124, v_142_127, v_142_128, v_142_129, v_142_130, v_142_131, v_142_134, v_142_136, v_142_137, v_142_140, v_142_141, v_142_144, v_142_146, v_142_147, v_142_148, v_142_151, v_142_152, v_142_153, v_142_156, v_142_157, v_142_160, v_142_161, v_142_162, v_142_163, v_142_166, v_142_169, v_142_172, v_142_175, v_142_176, vgi_0, vgi_s, vga_0, vga_s, vset_0, vset_s, vtk_0, vtk_s, vrc_0, vsw_0, vsw_s, List.all_cons, List.all_nil, zc1_i, zc1_r, Bool.and_true, Bool.and_self, true_and, and_true, List.length_cons, List.length_nil, Nat.zero_le, Nat.reduceLeDiff, Nat.reduceAdd, Nat.reduceLT]
    simp (disch := omega) only [nI_ltI, Nat.lt_irrefl, if_false]
    rw [nI_1]
    refine h t' _ hO h1 (fun x hx => ?_)
    by_cases z : x = u
    · rw [z, h3, cnf_plc]; rfl
    · exact h2 x (by omega)
  | succ j ih =>
    intro v t' hv hO h1 h2 h3
    have l1 := hlt v (by omega)
    have l2 := hlt u hu
    have hvn := h1 v (by omega)
    have hun := h1 u hu
    have fin : ∀ c : Nat, c = cnf f (nm f u) (v + 1) → twp none d 142 117 [.ref 143, .int (nI n), .int (nI (GR f n)), .int (nI u), .int (nI (v + 1))] [] (tsi t' 148 u (nI c)) F := by
      intro c hc
      refine ih (v + 1) _ (by omega) (hO.tr (tO.si (by simp [mgA]))) (fun x hx => ?_) (fun x hx => ?_) ?_
      · rw [tsi_ne (by omega), tsi_ne (by omega)]; exact h1 x hx
      · rw [tsi_ne (by omega)]; exact h2 x hx
      · rw [tsi_eq, hc]
    refine vc_ok none zH_142 119 false _ 142 117 _ _ _ _ ?_
    simp only [v_142_0, v_142_1, v_142_2, v_142_3, v_142_4, h_142_4, v_142_5, v_142_6, v_142_9, v_142_10, v_142_13, v_142_14, v_142_15, v_142_18, v_142_19, v_142_20, v_142_21, v_142_24, v_142_26, v_142_27, v_142_28, v_142_31, v_142_32, v_142_33, v_142_34, v_142_37, v_142_39, v_142_40, v_142_41, v_142_42, v_142_45, v_142_46, v_142_47, v_142_48, v_142_51, v_142_52, v_142_53, v_142_54, v_142_55, v_142_58, v_142_59, v_142_60, v_142_61, v_142_64, v_142_65, v_142_66, v_142_67, v_142_70, v_142_71, v_142_72, v_142_73, v_142_76, v_142_77, v_142_78, v_142_79, v_142_82, v_142_83, v_142_84, v_142_87, v_142_88, v_142_91, v_142_92, v_142_93, v_142_94, v_142_97, v_142_100, v_142_101, v_142_102, h_142_102, v_142_103, v_142_104, v_142_107, v_142_108, v_142_111, v_142_112, v_142_113, v_142_114, v_142_115, v_142_117, h_142_117, v_142_119, v_142_120, v_142_123, v_142_124, v_142_127, v_142_128, v_142_129, v_142_130, v_142_131, v_142_134, v_142_136, v_142_137, v_142_140, v_142_141, v_142_144, v_142_146, v_142_147, v_142_148, v_142_151, v_142_152, v_142_153, v_142_156, v_142_157, v_142_160, v_142_161, v_142_162, v_142_163, v_142_166, v_142_169, v_142_172, v_142_175, v_142_176, vgi_0, vgi_s, vga_0, vga_s, vset_0, vset_s, vtk_0, vtk_s, vrc_0, vsw_0, vsw_s, List.all_cons, List.all_nil, zc1_i, zc1_r, Bool.and_true, Bool.and_self, true_and, and_true, List.length_cons, List.length_nil, Nat.zero_le, Nat.reduceLeDiff, Nat.reduceAdd, Nat.reduceLT, tg_143, tf_143_1, tg_146, ln_146, tf_143_2, tg_147, ln_147, tf_143_3, tg_148, ln_148]
    simp (disch := omega) only [nI_ltI, nI_clamp, vinb_n]
    rw [if_pos (by omega), h3, hvn.1, hvn.2, hun.1]
    simp (disch := omega) only [nI_ltI]
    refine ⟨by omega, Or.inr trivial, by omega, ?_⟩
    by_cases hl : fst1 f v
    · rw [ldv_1 hl, if_neg (by decide)]
      refine ⟨by omega, by omega, ?_⟩
      by_cases hl2 : nm f v < nm f u
      · rw [if_pos hl2, nI_1, nI_1]
        exact ⟨by omega, fin _ (cnf_t ⟨hl, hl2⟩).symm⟩
      · rw [if_neg hl2, nI_p0, nI_1]
        exact ⟨by omega, fin _ (cnf_f (fun q => hl2 q.2)).symm⟩
    · rw [ldv_0 hl, if_pos rfl, nI_p0, nI_1]
      exact ⟨by omega, fin _ (cnf_f (fun q => hl q.1)).symm⟩
theorem l_142b (hn : n ≤ 6) (hlt : ∀ v, v < n → nm f v < 81) (h : ∀ t', tO mgA t t' → (∀ v, v < n → t'.1 147 v = ldv f v ∧ t'.1 148 v = nI (PL f n v)) → F (some (.int (nI (GR f n)))) t') : ∀ (j u : Nat) (t' : T) (jv : Value), u + j = n → tO mgA t t' → (∀ v, v < n → t'.1 146 v = nI (nm f v) ∧ t'.1 147 v = ldv f v) → (∀ v, v < u → t'.1 148 v = nI (PL f n v)) → twp none d 142 102 [.ref 143, .int (nI n), .int (nI (GR f n)), .int (nI u), jv] [] t' F := by
  intro j
  induction j with
  | zero =>
    intro u t' jv hu hO h1 h2
    have hu : u = n := by omega
    subst hu
    refine vc_ok none zH_142 119 false _ 142 102 _ _ _ _ ?_
    simp only [v_142_0, v_142_1, v_142_2, v_142_3, v_142_4, h_142_4, v_142_5, v_142_6, v_142_9, v_142_10, v_142_13, v_142_14, v_142_15, v_142_18, v_142_19, v_142_20, v_142_21, v_142_24, v_142_26, v_142_27, v_142_28, v_142_31, v_142_32, v_142_33, v_142_34, v_142_37, v_142_39, v_142_40, v_142_41, v_142_42, v_142_45, v_142_46, v_142_47, v_142_48, v_142_51, v_142_52, v_142_53, v_142_54, v_142_55, v_142_58, v_142_59, v_142_60, v_142_61, v_142_64, v_142_65, v_142_66, v_142_67, v_142_70, v_142_71, v_142_72, v_142_73, v_142_76, v_142_77, v_142_78, v_142_79, v_142_82, v_142_83, v_142_84, v_142_87, v_142_88, v_142_91, v_142_92, v_142_93, v_142_94, v_142_97, v_142_100, v_142_101, v_142_102, h_142_102, v_142_103, v_142_104, v_142_107, v_142_108, v_142_111, v_142_112, v_142_113, v_142_114, v_142_115, v_142_117, h_142_117, v_142_119, v_142_120, v_142_123, v_142_124, v_142_127, v_142_128, v_142_129, v_142_130, v_142_131, v_142_134, v_142_136, v_142_137, v_142_140, v_142_141, v_142_144, v_142_146, v_142_147, v_142_148, v_142_151, v_142_152, v_142_153, v_142_156, v_142_157, v_142_160, v_142_161, v_142_162, v_142_163, v_142_166, v_142_169, v_142_172, v_142_175, v_142_176, vgi_0, vgi_s, vga_0, vga_s, vset_0, vset_s, vtk_0, vtk_s, vrc_0, vsw_0, vsw_s, List.all_cons, List.all_nil, zc1_i, zc1_r, Bool.and_true, Bool.and_self, true_and, and_true, List.length_cons, List.length_nil, Nat.zero_le, Nat.reduceLeDiff, Nat.reduceAdd, Nat.reduceLT]
    simp (disch := omega) only [nI_ltI, Nat.lt_irrefl, if_false]
    exact h t' hO (fun v hv => ⟨(h1 v hv).2, h2 v hv⟩)
  | succ j ih =>
    intro u t' jv hu hO h1 h2
    refine vc_ok none zH_142 119 false _ 142 102 _ _ _ _ ?_
    simp only [v_142_0, v_142_1, v_142_2, v_142_3, v_142_4, h_142_4, v_142_5, v_142_6, v_142_9, v_142_10, v_142_13, v_142_14, v_142_15, v_142_18, v_142_19, v_142_20, v_142_21, v_142_24, v_142_26, v_142_27, v_142_28, v_142_31, v_142_32, v_142_33, v_142_34, v_142_37, v_142_39, v_142_40, v_142_41, v_142_42, v_142_45, v_142_46, v_142_47, v_142_48, v_142_51, v_142_52, v_142_53, v_142_54, v_142_55, v_142_58, v_142_59, v_142_60, v_142_61, v_142_64, v_142_65, v_142_66, v_142_67, v_142_70, v_142_71, v_142_72, v_142_73, v_142_76, v_142_77, v_142_78, v_142_79, v_142_82, v_142_83, v_142_84, v_142_87, v_142_88, v_142_91, v_142_92, v_142_93, v_142_94, v_142_97, v_142_100, v_142_101, v_142_102, h_142_102, v_142_103, v_142_104, v_142_107, v_142_108, v_142_111, v_142_112, v_142_113, v_142_114, v_142_115, v_142_117, h_142_117, v_142_119, v_142_120, v_142_123, v_142_124, v_142_127, v_142_128, v_142_129, v_142_130, v_142_131, v_142_134, v_142_136, v_142_137, v_142_140, v_142_141, v_142_144, v_142_146, v_142_147, v_142_148, v_142_151, v_142_152, v_142_153, v_142_156, v_142_157, v_142_160, v_142_161, v_142_162, v_142_163, v_142_166, v_142_169, v_142_172, v_142_175, v_142_176, vgi_0, vgi_s, vga_0, vga_s, vset_0, vset_s, vtk_0, vtk_s, vrc_0, vsw_0, vsw_s, List.all_cons, List.all_nil, zc1_i, zc1_r, Bool.and_true, Bool.and_self, true_and, and_true, List.length_cons, List.length_nil, Nat.zero_le, Nat.reduceLeDiff, Nat.reduceAdd, Nat.reduceLT, tg_143, tf_143_3, tg_148, ln_148]
    simp (disch := omega) only [nI_ltI, nI_clamp, vinb_n]
    rw [if_pos (by omega)]
    refine ⟨by omega, ?_⟩
    refine l_142c (t := t) (u := u) (by omega) hn hlt (fun t2 jv2 o2 g1 g2 => ih (u + 1) t2 jv2 (by omega) o2 g1 g2) n 0 _ (by omega) (hO.tr (tO.si (by simp [mgA]))) (fun v hv => ?_) (fun v hv => ?_) tsi_eq
    · rw [tsi_ne (by omega), tsi_ne (by omega)]; exact h1 v hv
    · rw [tsi_ne (by omega)]; exact h2 v hv
theorem l_142a (hd : 2 ≤ d) (hf : wfS f) (hn : n ≤ 6) (hold : cS t 144 = f) (h : ∀ t', tO mgA t t' → (∀ v, v < n → t'.1 147 v = ldv f v ∧ t'.1 148 v = nI (PL f n v)) → F (some (.int (nI (GR f n)))) t') : ∀ (j u : Nat) (t' : T) (jv : Value), u + j = n → tO mgA t t' → (∀ v, v < u → t'.1 146 v = nI (nm f v) ∧ t'.1 147 v = ldv f v) → twp none d 142 4 [.ref 143, .int (nI n), .int (nI (cnf f 81 u)), .int (nI u), jv] [] t' F := by
  have hlt : ∀ v, v < n → nm f v < 81 := fun v hv => nm_lt hf (by omega)
  intro j
  induction j with
  | zero =>
    intro u t' jv hu hO h1
    have hu : u = n := by omega
    subst hu
    refine vc_ok none zH_142 119 false _ 142 4 _ _ _ _ ?_
    simp only [v_142_0, v_142_1, v_142_2, v_142_3, v_142_4, h_142_4, v_142_5, v_142_6, v_142_9, v_142_10, v_142_13, v_142_14, v_142_15, v_142_18, v_142_19, v_142_20, v_142_21, v_142_24, v_142_26, v_142_27, v_142_28, v_142_31, v_142_32, v_142_33, v_142_34, v_142_37, v_142_39, v_142_40, v_142_41, v_142_42, v_142_45, v_142_46, v_142_47, v_142_48, v_142_51, v_142_52, v_142_53, v_142_54, v_142_55, v_142_58, v_142_59, v_142_60, v_142_61, v_142_64, v_142_65, v_142_66, v_142_67, v_142_70, v_142_71, v_142_72, v_142_73, v_142_76, v_142_77, v_142_78, v_142_79, v_142_82, v_142_83, v_142_84, v_142_87, v_142_88, v_142_91, v_142_92, v_142_93, v_142_94, v_142_97, v_142_100, v_142_101, v_142_102, h_142_102, v_142_103, v_142_104, v_142_107, v_142_108, v_142_111, v_142_112, v_142_113, v_142_114, v_142_115, v_142_117, h_142_117, v_142_119, v_142_120, v_142_123, v_142_124, v_142_127, v_142_128, v_142_129, v_142_130, v_142_131, v_142_134, v_142_136, v_142_137, v_142_140, v_142_141, v_142_144, v_142_146, v_142_147, v_142_148, v_142_151, v_142_152, v_142_153, v_142_156, v_142_157, v_142_160, v_142_161, v_142_162, v_142_163, v_142_166, v_142_169, v_142_172, v_142_175, v_142_176, vgi_0, vgi_s, vga_0, vga_s, vset_0, vset_s, vtk_0, vtk_s, vrc_0, vsw_0, vsw_s, List.all_cons, List.all_nil, zc1_i, zc1_r, Bool.and_true, Bool.and_self, true_and, and_true, List.length_cons, List.length_nil, Nat.zero_le, Nat.reduceLeDiff, Nat.reduceAdd, Nat.reduceLT]
    simp (disch := omega) only [nI_ltI, Nat.lt_irrefl, if_false]
    rw [cnf_plc]
    exact l_142b hn hlt h u 0 t' _ (by omega) hO h1 (fun v hv => by omega)
  | succ j ih =>
    intro u t' jv hu hO h1
    have hst : cS t' 144 = f := by rw [hO.str (by simp [mgA]) (by simp [mgA])]; exact hold
    have hv : ∀ p, 2 ≤ p → p < 6 → sg (cS t' 144) p u 0 = nI (nn (f (2 + 5 * u + p))) := fun p h2 h3 => by
      rw [hst, sg_cel (by omega), cel1 h2 h3]
      obtain ⟨v, hv, e⟩ := hf.tri (k := 2 + 5 * u + p) (by omega) (by omega)
      rw [e, nn_nI (by omega)]
    refine vc_ok none zH_142 119 false _ 142 4 _ _ _ _ ?_
    simp only [v_142_0, v_142_1, v_142_2, v_142_3, v_142_4, h_142_4, v_142_5, v_142_6, v_142_9, v_142_10, v_142_13, v_142_14, v_142_15, v_142_18, v_142_19, v_142_20, v_142_21, v_142_24, v_142_26, v_142_27, v_142_28, v_142_31, v_142_32, v_142_33, v_142_34, v_142_37, v_142_39, v_142_40, v_142_41, v_142_42, v_142_45, v_142_46, v_142_47, v_142_48, v_142_51, v_142_52, v_142_53, v_142_54, v_142_55, v_142_58, v_142_59, v_142_60, v_142_61, v_142_64, v_142_65, v_142_66, v_142_67, v_142_70, v_142_71, v_142_72, v_142_73, v_142_76, v_142_77, v_142_78, v_142_79, v_142_82, v_142_83, v_142_84, v_142_87, v_142_88, v_142_91, v_142_92, v_142_93, v_142_94, v_142_97, v_142_100, v_142_101, v_142_102, h_142_102, v_142_103, v_142_104, v_142_107, v_142_108, v_142_111, v_142_112, v_142_113, v_142_114, v_142_115, v_142_117, h_142_117, v_142_119, v_142_120, v_142_123, v_142_124, v_142_127, v_142_128, v_142_129, v_142_130, v_142_131, v_142_134, v_142_136, v_142_137, v_142_140, v_142_141, v_142_144, v_142_146, v_142_147, v_142_148, v_142_151, v_142_152, v_142_153, v_142_156, v_142_157, v_142_160, v_142_161, v_142_162, v_142_163, v_142_166, v_142_169, v_142_172, v_142_175, v_142_176, vgi_0, vgi_s, vga_0, vga_s, vset_0, vset_s, vtk_0, vtk_s, vrc_0, vsw_0, vsw_s, List.all_cons, List.all_nil, zc1_i, zc1_r, Bool.and_true, Bool.and_self, true_and, and_true, List.length_cons, List.length_nil, Nat.zero_le, Nat.reduceLeDiff, Nat.reduceAdd, Nat.reduceLT, tg_143, tf_143_0, tf_143_1, tg_144]
    simp (disch := omega) only [nI_ltI]
    rw [if_pos (by omega)]
    refine c_162 (p := 2) (w := 0) (by omega) tg_144 (by omega) (by omega) (by omega) ?_
    simp only [v_142_0, v_142_1, v_142_2, v_142_3, v_142_4, h_142_4, v_142_5, v_142_6, v_142_9, v_142_10, v_142_13, v_142_14, v_142_15, v_142_18, v_142_19, v_142_20, v_142_21, v_142_24, v_142_26, v_142_27, v_142_28, v_142_31, v_142_32, v_142_33, v_142_34, v_142_37, v_142_39, v_142_40, v_142_41, v_142_42, v_142_45, v_142_46, v_142_47, v_142_48, v_142_51, v_142_52, v_142_53, v_142_54, v_142_55, v_142_58, v_142_59, v_142_60, v_142_61, v_142_64, v_142_65, v_142_66, v_142_67, v_142_70, v_142_71, v_142_72, v_142_73, v_142_76, v_142_77, v_142_78, v_142_79, v_142_82, v_142_83, v_142_84, v_142_87, v_142_88, v_142_91, v_142_92, v_142_93, v_142_94, v_142_97, v_142_100, v_142_101, v_142_102, h_142_102, v_142_103, v_142_104, v_142_107, v_142_108, v_142_111, v_142_112, v_142_113, v_142_114, v_142_115, v_142_117, h_142_117, v_142_119, v_142_120, v_142_123, v_142_124, v_142_127, v_142_128, v_142_129, v_142_130, v_142_131, v_142_134, v_142_136, v_142_137, v_142_140, v_142_141, v_142_144, v_142_146, v_142_147, v_142_148, v_142_151, v_142_152, v_142_153, v_142_156, v_142_157, v_142_160, v_142_161, v_142_162, v_142_163, v_142_166, v_142_169, v_142_172, v_142_175, v_142_176, vgi_0, vgi_s, vga_0, vga_s, vset_0, vset_s, vtk_0, vtk_s, vrc_0, vsw_0, vsw_s, List.all_cons, List.all_nil, zc1_i, zc1_r, Bool.and_true, Bool.and_self, true_and, and_true, List.length_cons, List.length_nil, Nat.zero_le, Nat.reduceLeDiff, Nat.reduceAdd, Nat.reduceLT, Option.toList_some, List.cons_append, List.nil_append, tg_143, tf_143_0, tg_144]
    refine c_162 (p := 3) (w := 0) (by omega) tg_144 (by omega) (by omega) (by omega) ?_
    simp only [v_142_0, v_142_1, v_142_2, v_142_3, v_142_4, h_142_4, v_142_5, v_142_6, v_142_9, v_142_10, v_142_13, v_142_14, v_142_15, v_142_18, v_142_19, v_142_20, v_142_21, v_142_24, v_142_26, v_142_27, v_142_28, v_142_31, v_142_32, v_142_33, v_142_34, v_142_37, v_142_39, v_142_40, v_142_41, v_142_42, v_142_45, v_142_46, v_142_47, v_142_48, v_142_51, v_142_52, v_142_53, v_142_54, v_142_55, v_142_58, v_142_59, v_142_60, v_142_61, v_142_64, v_142_65, v_142_66, v_142_67, v_142_70, v_142_71, v_142_72, v_142_73, v_142_76, v_142_77, v_142_78, v_142_79, v_142_82, v_142_83, v_142_84, v_142_87, v_142_88, v_142_91, v_142_92, v_142_93, v_142_94, v_142_97, v_142_100, v_142_101, v_142_102, h_142_102, v_142_103, v_142_104, v_142_107, v_142_108, v_142_111, v_142_112, v_142_113, v_142_114, v_142_115, v_142_117, h_142_117, v_142_119, v_142_120, v_142_123, v_142_124, v_142_127, v_142_128, v_142_129, v_142_130, v_142_131, v_142_134, v_142_136, v_142_137, v_142_140, v_142_141, v_142_144, v_142_146, v_142_147, v_142_148, v_142_151, v_142_152, v_142_153, v_142_156, v_142_157, v_142_160, v_142_161, v_142_162, v_142_163, v_142_166, v_142_169, v_142_172, v_142_175, v_142_176, vgi_0, vgi_s, vga_0, vga_s, vset_0, vset_s, vtk_0, vtk_s, vrc_0, vsw_0, vsw_s, List.all_cons, List.all_nil, zc1_i, zc1_r, Bool.and_true, Bool.and_self, true_and, and_true, List.length_cons, List.length_nil, Nat.zero_le, Nat.reduceLeDiff, Nat.reduceAdd, Nat.reduceLT, Option.toList_some, List.cons_append, List.nil_append, tg_143, tf_143_0, tg_144]
    refine c_162 (p := 4) (w := 0) (by omega) tg_144 (by omega) (by omega) (by omega) ?_
    simp only [v_142_0, v_142_1, v_142_2, v_142_3, v_142_4, h_142_4, v_142_5, v_142_6, v_142_9, v_142_10, v_142_13, v_142_14, v_142_15, v_142_18, v_142_19, v_142_20, v_142_21, v_142_24, v_142_26, v_142_27, v_142_28, v_142_31, v_142_32, v_142_33, v_142_34, v_142_37, v_142_39, v_142_40, v_142_41, v_142_42, v_142_45, v_142_46, v_142_47, v_142_48, v_142_51, v_142_52, v_142_53, v_142_54, v_142_55, v_142_58, v_142_59, v_142_60, v_142_61, v_142_64, v_142_65, v_142_66, v_142_67, v_142_70, v_142_71, v_142_72, v_142_73, v_142_76, v_142_77, v_142_78, v_142_79, v_142_82, v_142_83, v_142_84, v_142_87, v_142_88, v_142_91, v_142_92, v_142_93, v_142_94, v_142_97, v_142_100, v_142_101, v_142_102, h_142_102, v_142_103, v_142_104, v_142_107, v_142_108, v_142_111, v_142_112, v_142_113, v_142_114, v_142_115, v_142_117, h_142_117, v_142_119, v_142_120, v_142_123, v_142_124, v_142_127, v_142_128, v_142_129, v_142_130, v_142_131, v_142_134, v_142_136, v_142_137, v_142_140, v_142_141, v_142_144, v_142_146, v_142_147, v_142_148, v_142_151, v_142_152, v_142_153, v_142_156, v_142_157, v_142_160, v_142_161, v_142_162, v_142_163, v_142_166, v_142_169, v_142_172, v_142_175, v_142_176, vgi_0, vgi_s, vga_0, vga_s, vset_0, vset_s, vtk_0, vtk_s, vrc_0, vsw_0, vsw_s, List.all_cons, List.all_nil, zc1_i, zc1_r, Bool.and_true, Bool.and_self, true_and, and_true, List.length_cons, List.length_nil, Nat.zero_le, Nat.reduceLeDiff, Nat.reduceAdd, Nat.reduceLT, Option.toList_some, List.cons_append, List.nil_append, tg_143, tf_143_0, tg_144]
    refine c_162 (p := 5) (w := 0) (by omega) tg_144 (by omega) (by omega) (by omega) ?_
    simp only [v_142_0, v_142_1, v_142_2, v_142_3, v_142_4, h_142_4, v_142_5, v_142_6, v_142_9, v_142_10, v_142_13, v_142_14, v_142_15, v_142_18, v_142_19, v_142_20, v_142_21, v_142_24, v_142_26, v_142_27, v_142_28, v_142_31, v_142_32, v_142_33, v_142_34, v_142_37, v_142_39, v_142_40, v_142_41, v_142_42, v_142_45, v_142_46, v_142_47, v_142_48, v_142_51, v_142_52, v_142_53, v_142_54, v_142_55, v_142_58, v_142_59, v_142_60, v_142_61, v_142_64, v_142_65, v_142_66, v_142_67, v_142_70, v_142_71, v_142_72, v_142_73, v_142_76, v_142_77, v_142_78, v_142_79, v_142_82, v_142_83, v_142_84, v_142_87, v_142_88, v_142_91, v_142_92, v_142_93, v_142_94, v_142_97, v_142_100, v_142_101, v_142_102, h_142_102, v_142_103, v_142_104, v_142_107, v_142_108, v_142_111, v_142_112, v_142_113, v_142_114, v_142_115, v_142_117, h_142_117, v_142_119, v_142_120, v_142_123, v_142_124, v_142_127, v_142_128, v_142_129, v_142_130, v_142_131, v_142_134, v_142_136, v_142_137, v_142_140, v_142_141, v_142_144, v_142_146, v_142_147, v_142_148, v_142_151, v_142_152, v_142_153, v_142_156, v_142_157, v_142_160, v_142_161, v_142_162, v_142_163, v_142_166, v_142_169, v_142_172, v_142_175, v_142_176, vgi_0, vgi_s, vga_0, vga_s, vset_0, vset_s, vtk_0, vtk_s, vrc_0, vsw_0, vsw_s, List.all_cons, List.all_nil, zc1_i, zc1_r, Bool.and_true, Bool.and_self, true_and, and_true, List.length_cons, List.length_nil, Nat.zero_le, Nat.reduceLeDiff, Nat.reduceAdd, Nat.reduceLT, Option.toList_some, List.cons_append, List.nil_append, tg_143, tf_143_2, tg_146, ln_146]
    rw [hv 2 (by omega) (by omega), hv 3 (by omega) (by omega), hv 4 (by omega) (by omega), hv 5 (by omega) (by omega)]
    simp (disch := omega) only [li27, li9, li3, pk_mul, nI_add, nI_clamp, vinb_n]
    have hnm : nn (f (2 + 5 * u + 2)) * 27 + nn (f (2 + 5 * u + 3)) * 9 + nn (f (2 + 5 * u + 4)) * 3 + nn (f (2 + 5 * u + 5)) = nm f u := by
      rw [show 2 + 5 * u + 2 = 4 + 5 * u by omega, show 2 + 5 * u + 3 = 5 + 5 * u by omega, show 2 + 5 * u + 4 = 6 + 5 * u by omega, show 2 + 5 * u + 5 = 7 + 5 * u by omega]
      rfl
    rw [hnm]
    refine ⟨by omega, ?_⟩
    have hnum : ∀ v, v ≤ u → (tsi t' 146 u (nI (nm f u))).1 146 v = nI (nm f v) := fun v hv => by
      by_cases z : v = u
      · rw [z, tsi_eq]
      · rw [tsi_ne (by omega)]; exact (h1 v (by omega)).1
    have fin : ∀ l : Int32, l = ldv f u → ∀ c : Nat, c = cnf f 81 (u + 1) → twp none d 142 4 [.ref 143, .int (nI n), .int (nI c), .int (nI (u + 1)), jv] [] (tsi (tsi t' 146 u (nI (nm f u))) 147 u l) F := by
      intro l hl c hc
      rw [hc]
      refine ih (u + 1) _ jv (by omega) ((hO.tr (tO.si (by simp [mgA]))).tr (tO.si (by simp [mgA]))) (fun v hv => ?_)
      refine ⟨by rw [tsi_ne (by omega)]; exact hnum v (by omega), ?_⟩
      by_cases z : v = u
      · rw [z, tsi_eq, hl]
      · rw [tsi_ne (by omega), tsi_ne (by omega)]; exact (h1 v (by omega)).2
    refine c_143 (f := f) (by omega) (by omega) hnum (fun v hv => hlt v (by omega)) (fun hl => ?_) (fun hl => ?_)
    · simp only [v_142_0, v_142_1, v_142_2, v_142_3, v_142_4, h_142_4, v_142_5, v_142_6, v_142_9, v_142_10, v_142_13, v_142_14, v_142_15, v_142_18, v_142_19, v_142_20, v_142_21, v_142_24, v_142_26, v_142_27, v_142_28, v_142_31, v_142_32, v_142_33, v_142_34, v_142_37, v_142_39, v_142_40, v_142_41, v_142_42, v_142_45, v_142_46, v_142_47, v_142_48, v_142_51, v_142_52, v_142_53, v_142_54, v_142_55, v_142_58, v_142_59, v_142_60, v_142_61, v_142_64, v_142_65, v_142_66, v_142_67, v_142_70, v_142_71, v_142_72, v_142_73, v_142_76, v_142_77, v_142_78, v_142_79, v_142_82, v_142_83, v_142_84, v_142_87, v_142_88, v_142_91, v_142_92, v_142_93, v_142_94, v_142_97, v_142_100, v_142_101, v_142_102, h_142_102, v_142_103, v_142_104, v_142_107, v_142_108, v_142_111, v_142_112, v_142_113, v_142_114, v_142_115, v_142_117, h_142_117, v_142_119, v_142_120, v_142_123, v_142_124, v_142_127, v_142_128, v_142_129, v_142_130, v_142_131, v_142_134, v_142_136, v_142_137, v_142_140, v_142_141, v_142_144, v_142_146, v_142_147, v_142_148, v_142_151, v_142_152, v_142_153, v_142_156, v_142_157, v_142_160, v_142_161, v_142_162, v_142_163, v_142_166, v_142_169, v_142_172, v_142_175, v_142_176, vgi_0, vgi_s, vga_0, vga_s, vset_0, vset_s, vtk_0, vtk_s, vrc_0, vsw_0, vsw_s, List.all_cons, List.all_nil, zc1_i, zc1_r, Bool.and_true, Bool.and_self, true_and, and_true, List.length_cons, List.length_nil, Nat.zero_le, Nat.reduceLeDiff, Nat.reduceAdd, Nat.reduceLT, Option.toList_some, List.cons_append, List.nil_append, tg_143, tf_143_2, tg_147, ln_147]
      simp (disch := omega) only [nI_clamp, vinb_n]
      rw [if_neg (by omega), tsi_eq, if_neg (by decide), nI_1, nI_1]
      exact ⟨by omega, Or.inr trivial, Or.inr trivial, by omega, fin 1 (ldv_1 hl).symm _ (cnf_t ⟨hl, hlt u (by omega)⟩).symm⟩
    · simp only [v_142_0, v_142_1, v_142_2, v_142_3, v_142_4, h_142_4, v_142_5, v_142_6, v_142_9, v_142_10, v_142_13, v_142_14, v_142_15, v_142_18, v_142_19, v_142_20, v_142_21, v_142_24, v_142_26, v_142_27, v_142_28, v_142_31, v_142_32, v_142_33, v_142_34, v_142_37, v_142_39, v_142_40, v_142_41, v_142_42, v_142_45, v_142_46, v_142_47, v_142_48, v_142_51, v_142_52, v_142_53, v_142_54, v_142_55, v_142_58, v_142_59, v_142_60, v_142_61, v_142_64, v_142_65, v_142_66, v_142_67, v_142_70, v_142_71, v_142_72, v_142_73, v_142_76, v_142_77, v_142_78, v_142_79, v_142_82, v_142_83, v_142_84, v_142_87, v_142_88, v_142_91, v_142_92, v_142_93, v_142_94, v_142_97, v_142_100, v_142_101, v_142_102, h_142_102, v_142_103, v_142_104, v_142_107, v_142_108, v_142_111, v_142_112, v_142_113, v_142_114, v_142_115, v_142_117, h_142_117, v_142_119, v_142_120, v_142_123, v_142_124, v_142_127, v_142_128, v_142_129, v_142_130, v_142_131, v_142_134, v_142_136, v_142_137, v_142_140, v_142_141, v_142_144, v_142_146, v_142_147, v_142_148, v_142_151, v_142_152, v_142_153, v_142_156, v_142_157, v_142_160, v_142_161, v_142_162, v_142_163, v_142_166, v_142_169, v_142_172, v_142_175, v_142_176, vgi_0, vgi_s, vga_0, vga_s, vset_0, vset_s, vtk_0, vtk_s, vrc_0, vsw_0, vsw_s, List.all_cons, List.all_nil, zc1_i, zc1_r, Bool.and_true, Bool.and_self, true_and, and_true, List.length_cons, List.length_nil, Nat.zero_le, Nat.reduceLeDiff, Nat.reduceAdd, Nat.reduceLT, Option.toList_some, List.cons_append, List.nil_append, tg_143, tf_143_2, tg_147, ln_147]
      simp (disch := omega) only [nI_clamp, vinb_n]
      rw [if_neg (by omega), tsi_eq, if_pos rfl, nI_p0, nI_1]
      exact ⟨by omega, Or.inl trivial, Or.inr trivial, by omega, fin 0 (ldv_0 hl).symm _ (cnf_f (fun q => hl q.1)).symm⟩
theorem c_142 (hd : 3 ≤ d) (hf : wfS f) (hn : n ≤ 6) (hold : cS t 144 = f) (h : ∀ t', tO mgA t t' → (∀ v, v < n → t'.1 147 v = ldv f v ∧ t'.1 148 v = nI (PL f n v)) → F (some (.int (nI (GR f n)))) t') : twc d 142 [.ref 143, .int (nI n)] t F := by
  refine ⟨by omega, ?_⟩
  rw [ze_142]
  refine vc_ok none zH_142 119 false _ 142 0 _ _ _ _ ?_
  simp only [v_142_0, v_142_1, v_142_2, v_142_3, v_142_4, h_142_4, v_142_5, v_142_6, v_142_9, v_142_10, v_142_13, v_142_14, v_142_15, v_142_18, v_142_19, v_142_20, v_142_21, v_142_24, v_142_26, v_142_27, v_142_28, v_142_31, v_142_32, v_142_33, v_142_34, v_142_37, v_142_39, v_142_40, v_142_41, v_142_42, v_142_45, v_142_46, v_142_47, v_142_48, v_142_51, v_142_52, v_142_53, v_142_54, v_142_55, v_142_58, v_142_59, v_142_60, v_142_61, v_142_64, v_142_65, v_142_66, v_142_67, v_142_70, v_142_71, v_142_72, v_142_73, v_142_76, v_142_77, v_142_78, v_142_79, v_142_82, v_142_83, v_142_84, v_142_87, v_142_88, v_142_91, v_142_92, v_142_93, v_142_94, v_142_97, v_142_100, v_142_101, v_142_102, h_142_102, v_142_103, v_142_104, v_142_107, v_142_108, v_142_111, v_142_112, v_142_113, v_142_114, v_142_115, v_142_117, h_142_117, v_142_119, v_142_120, v_142_123, v_142_124, v_142_127, v_142_128, v_142_129, v_142_130, v_142_131, v_142_134, v_142_136, v_142_137, v_142_140, v_142_141, v_142_144, v_142_146, v_142_147, v_142_148, v_142_151, v_142_152, v_142_153, v_142_156, v_142_157, v_142_160, v_142_161, v_142_162, v_142_163, v_142_166, v_142_169, v_142_172, v_142_175, v_142_176, vgi_0, vgi_s, vga_0, vga_s, vset_0, vset_s, vtk_0, vtk_s, vrc_0, vsw_0, vsw_s, List.all_cons, List.all_nil, zc1_i, zc1_r, Bool.and_true, Bool.and_self, true_and, and_true, List.length_cons, List.length_nil, Nat.zero_le, Nat.reduceLeDiff, Nat.reduceAdd, Nat.reduceLT]
  exact l_142a (by omega) hf hn hold h n 0 t _ (by omega) tO.rf (fun v hv => by omega)
end CMR
