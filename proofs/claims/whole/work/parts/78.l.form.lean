/-! formula. -/
section FM4
variable {d : Nat} {t t' : T} {F : Option Value → T → Prop} {q : FT} {m : Nat} {a b c e : Int32}
theorem foM.w (h : foM t q m) (hm : m < 40) (h1 : ∀ x k, ¬ (485 ≤ x ∧ x ≤ 492 ∧ k = m) → t'.1 x k = t.1 x k) : foM t' q m := by
  refine ⟨h.1, by rw [h1 _ _ (by omega)]; exact h.2.1, fun i hi => ?_⟩
  rw [h1 _ _ (by omega), h1 _ _ (by omega), h1 _ _ (by omega)]; exact h.2.2 i hi
theorem c_60 {kv : Int32} (hd : 5 ≤ d) (hfo : foM t q m) (kb : (∀ k, k < 9 → kv = nI k → ¬ mkb q m k a b c e) → F (some (.int (-1))) t) (kf : ∀ k, k < 9 → kv = nI k → mkb q m k a b c e → m = 40 → F (some (.int (-2))) t) (k1 : ∀ k, k < 9 → kv = nI k → mkb q m k a b c e → m < 40 → ∀ t', t'.2 = t.2 → (∀ x j, ¬ (485 ≤ x ∧ x ≤ 492 ∧ j = m) → ¬ (x = 483 ∧ j = 1) → t'.1 x j = t.1 x j) → t'.1 483 1 = nI (m + 1) → (∀ j, j < 8 → t'.1 (485 + j) m = nro q k a b c e j) → F (some (.int (nI m))) t') : twc d 60 [.ref 483, .int kv, .int a, .int b, .int c, .int e] t F := by
  have hm4 := hfo.le
  have h1 := hfo.2.1
  refine ⟨by omega, ?_⟩
  rw [ze_60]
  refine vc_ok none zH_60 118 false _ 60 0 _ _ _ _ ?_
  simp only [v_60_0, v_60_1, v_60_2, v_60_3, v_60_4, v_60_6, v_60_8, v_60_11, v_60_14, v_60_15, v_60_16, v_60_18, v_60_20, v_60_23, v_60_24, v_60_27, v_60_28, v_60_29, v_60_30, v_60_33, v_60_35, v_60_38, v_60_40, v_60_41, v_60_42, v_60_45, v_60_47, v_60_48, v_60_51, v_60_53, v_60_54, v_60_55, v_60_56, v_60_59, v_60_61, v_60_62, v_60_63, v_60_64, v_60_67, v_60_69, v_60_70, v_60_71, v_60_72, v_60_75, v_60_77, v_60_79, v_60_80, v_60_81, v_60_84, v_60_86, v_60_88, v_60_89, v_60_90, v_60_93, v_60_95, v_60_96, v_60_97, v_60_99, v_60_101, v_60_104, v_60_105, v_60_106, v_60_109, v_60_111, v_60_112, v_60_113, v_60_114, v_60_115, v_60_117, v_60_119, v_60_122, v_60_123, v_60_124, v_60_127, v_60_129, v_60_130, v_60_132, v_60_135, v_60_136, v_60_137, v_60_140, v_60_141, v_60_144, v_60_146, v_60_147, v_60_150, v_60_151, v_60_152, v_60_155, v_60_156, v_60_157, v_60_160, v_60_161, v_60_164, v_60_166, v_60_167, v_60_170, v_60_171, v_60_174, v_60_175, h_60_175, v_60_176, v_60_177_int, v_60_177_ref, v_60_178, v_60_181, v_60_182, v_60_183, v_60_186, v_60_188, vgi_0, vgi_s, vga_0, vga_s, vset_0, vset_s, vtk_0, vtk_s, vrc_0, vsw_0, vsw_s, List.all_cons, List.all_nil, zc1_i, zc1_r, Bool.and_true, Bool.and_self, true_and, and_true, List.length_cons, List.length_nil, Nat.zero_le, Nat.reduceLeDiff, Nat.reduceAdd, Nat.reduceLT, tg_483]
  refine c_57 (by omega) hfo (fun k hk ek hm => ?_) (fun hno => ?_)
  · subst ek
    have nb : ∀ k', k' < 9 → nI k = nI k' → k' = k := fun k' hk' e2 => (nI_inj (by omega) (by omega) e2).symm
    simp only [v_60_0, v_60_1, v_60_2, v_60_3, v_60_4, v_60_6, v_60_8, v_60_11, v_60_14, v_60_15, v_60_16, v_60_18, v_60_20, v_60_23, v_60_24, v_60_27, v_60_28, v_60_29, v_60_30, v_60_33, v_60_35, v_60_38, v_60_40, v_60_41, v_60_42, v_60_45, v_60_47, v_60_48, v_60_51, v_60_53, v_60_54, v_60_55, v_60_56, v_60_59, v_60_61, v_60_62, v_60_63, v_60_64, v_60_67, v_60_69, v_60_70, v_60_71, v_60_72, v_60_75, v_60_77, v_60_79, v_60_80, v_60_81, v_60_84, v_60_86, v_60_88, v_60_89, v_60_90, v_60_93, v_60_95, v_60_96, v_60_97, v_60_99, v_60_101, v_60_104, v_60_105, v_60_106, v_60_109, v_60_111, v_60_112, v_60_113, v_60_114, v_60_115, v_60_117, v_60_119, v_60_122, v_60_123, v_60_124, v_60_127, v_60_129, v_60_130, v_60_132, v_60_135, v_60_136, v_60_137, v_60_140, v_60_141, v_60_144, v_60_146, v_60_147, v_60_150, v_60_151, v_60_152, v_60_155, v_60_156, v_60_157, v_60_160, v_60_161, v_60_164, v_60_166, v_60_167, v_60_170, v_60_171, v_60_174, v_60_175, h_60_175, v_60_176, v_60_177_int, v_60_177_ref, v_60_178, v_60_181, v_60_182, v_60_183, v_60_186, v_60_188, vgi_0, vgi_s, vga_0, vga_s, vset_0, vset_s, vtk_0, vtk_s, vrc_0, vsw_0, vsw_s, List.all_cons, List.all_nil, zc1_i, zc1_r, Bool.and_true, Bool.and_self, true_and, and_true, List.length_cons, List.length_nil, Nat.zero_le, Nat.reduceLeDiff, Nat.reduceAdd, Nat.reduceLT, Option.toList_some, List.cons_append, List.nil_append, tg_483]
    rw [if_neg (by decide)]
    refine c_58 (by omega) hfo hk hm ?_
    have dl : nD q k (nn c) (nn e) ≤ 9 := by
      have hp : ∀ c : Int32, (∃ y, y < m ∧ c = nI y) → dp q (nn c) ≤ 4 := by
        rintro c ⟨y, hy, rfl⟩
        rw [nn_nI (by omega)]; exact (hfo.dp hy).2.2.1
      unfold nD
      by_cases k3 : k < 3
      · rw [if_pos k3]; omega
      · rw [if_neg k3]
        by_cases k45 : k = 4 ∨ k = 5
        · rw [if_pos k45]
          have g1 := hp c ((mkm_4 k45).mp hm).1
          have g2 := hp e ((mkm_4 k45).mp hm).2
          omega
        · rw [if_neg k45]
          have : k = 3 ∨ (k = 6 ∨ k = 7) ∨ k = 8 := by omega
          rcases this with rfl | z | rfl
          · have := hp c (mkm_3.mp hm); omega
          · have := hp c ((mkm_6 z).mp hm).2; omega
          · obtain ⟨-, -, y, hy, ey, -⟩ := mkm_8.mp hm
            have := hp c ⟨y, hy, ey⟩; omega
    simp only [v_60_0, v_60_1, v_60_2, v_60_3, v_60_4, v_60_6, v_60_8, v_60_11, v_60_14, v_60_15, v_60_16, v_60_18, v_60_20, v_60_23, v_60_24, v_60_27, v_60_28, v_60_29, v_60_30, v_60_33, v_60_35, v_60_38, v_60_40, v_60_41, v_60_42, v_60_45, v_60_47, v_60_48, v_60_51, v_60_53, v_60_54, v_60_55, v_60_56, v_60_59, v_60_61, v_60_62, v_60_63, v_60_64, v_60_67, v_60_69, v_60_70, v_60_71, v_60_72, v_60_75, v_60_77, v_60_79, v_60_80, v_60_81, v_60_84, v_60_86, v_60_88, v_60_89, v_60_90, v_60_93, v_60_95, v_60_96, v_60_97, v_60_99, v_60_101, v_60_104, v_60_105, v_60_106, v_60_109, v_60_111, v_60_112, v_60_113, v_60_114, v_60_115, v_60_117, v_60_119, v_60_122, v_60_123, v_60_124, v_60_127, v_60_129, v_60_130, v_60_132, v_60_135, v_60_136, v_60_137, v_60_140, v_60_141, v_60_144, v_60_146, v_60_147, v_60_150, v_60_151, v_60_152, v_60_155, v_60_156, v_60_157, v_60_160, v_60_161, v_60_164, v_60_166, v_60_167, v_60_170, v_60_171, v_60_174, v_60_175, h_60_175, v_60_176, v_60_177_int, v_60_177_ref, v_60_178, v_60_181, v_60_182, v_60_183, v_60_186, v_60_188, vgi_0, vgi_s, vga_0, vga_s, vset_0, vset_s, vtk_0, vtk_s, vrc_0, vsw_0, vsw_s, List.all_cons, List.all_nil, zc1_i, zc1_r, Bool.and_true, Bool.and_self, true_and, and_true, List.length_cons, List.length_nil, Nat.zero_le, Nat.reduceLeDiff, Nat.reduceAdd, Nat.reduceLT, Option.toList_some, List.cons_append, List.nil_append, tg_483, h1, tf_483_2, tg_485, ln_485, tf_483_3, tg_486, ln_486, tf_483_4, tg_487, ln_487, tf_483_5, tg_488, ln_488, tf_483_6, tg_489, ln_489, tf_483_7, tg_490, ln_490]
    simp (disch := omega) only [li4, nI_ltI]
    by_cases d4 : 4 < nD q k (nn c) (nn e)
    · rw [if_pos d4]
      exact kb (fun k' hk' e2 hb => by
        have := nb k' hk' e2
        subst this
        have := ((mkb_iff hm4 hk').mp hb).2
        omega)
    · rw [if_neg d4]
      have hb : mkb q m k a b c e := (mkb_iff hm4 hk).mpr ⟨hm, by omega⟩
      by_cases m40 : m = 40
      · rw [if_pos (by rw [m40]; rfl)]
        exact kf k hk rfl hb m40
      · rw [if_neg (by rw [li40, nI_eq (by omega) (by omega)]; exact m40)]
        have mlt : m < 40 := by omega
        simp (disch := omega) only [nI_clamp, vinb_n]
        refine ⟨mlt, mlt, mlt, mlt, mlt, ?_⟩
        have i5 : ∀ x j, ¬ (485 ≤ x ∧ x ≤ 489 ∧ j = m) → (tsi (tsi (tsi (tsi (tsi t 485 m (nI k)) 486 m a) 487 m b) 488 m c) 489 m e).1 x j = t.1 x j := fun x j hx => by rw [tsi_ne (by omega), tsi_ne (by omega), tsi_ne (by omega), tsi_ne (by omega), tsi_ne (by omega)]
        refine c_58 (by omega) (hfo.w mlt (fun x j hx => i5 x j (by omega))) hk hm ?_
        simp only [v_60_0, v_60_1, v_60_2, v_60_3, v_60_4, v_60_6, v_60_8, v_60_11, v_60_14, v_60_15, v_60_16, v_60_18, v_60_20, v_60_23, v_60_24, v_60_27, v_60_28, v_60_29, v_60_30, v_60_33, v_60_35, v_60_38, v_60_40, v_60_41, v_60_42, v_60_45, v_60_47, v_60_48, v_60_51, v_60_53, v_60_54, v_60_55, v_60_56, v_60_59, v_60_61, v_60_62, v_60_63, v_60_64, v_60_67, v_60_69, v_60_70, v_60_71, v_60_72, v_60_75, v_60_77, v_60_79, v_60_80, v_60_81, v_60_84, v_60_86, v_60_88, v_60_89, v_60_90, v_60_93, v_60_95, v_60_96, v_60_97, v_60_99, v_60_101, v_60_104, v_60_105, v_60_106, v_60_109, v_60_111, v_60_112, v_60_113, v_60_114, v_60_115, v_60_117, v_60_119, v_60_122, v_60_123, v_60_124, v_60_127, v_60_129, v_60_130, v_60_132, v_60_135, v_60_136, v_60_137, v_60_140, v_60_141, v_60_144, v_60_146, v_60_147, v_60_150, v_60_151, v_60_152, v_60_155, v_60_156, v_60_157, v_60_160, v_60_161, v_60_164, v_60_166, v_60_167, v_60_170, v_60_171, v_60_174, v_60_175, h_60_175, v_60_176, v_60_177_int, v_60_177_ref, v_60_178, v_60_181, v_60_182, v_60_183, v_60_186, v_60_188, vgi_0, vgi_s, vga_0, vga_s, vset_0, vset_s, vtk_0, vtk_s, vrc_0, vsw_0, vsw_s, List.all_cons, List.all_nil, zc1_i, zc1_r, Bool.and_true, Bool.and_self, true_and, and_true, List.length_cons, List.length_nil, Nat.zero_le, Nat.reduceLeDiff, Nat.reduceAdd, Nat.reduceLT, Option.toList_some, List.cons_append, List.nil_append, tg_483, tg_490, ln_490, tf_483_8, tg_491, ln_491]
        simp (disch := omega) only [nI_clamp, vinb_n]
        refine ⟨mlt, ?_⟩
        have i6 : ∀ x j, ¬ (485 ≤ x ∧ x ≤ 490 ∧ j = m) → (tsi (tsi (tsi (tsi (tsi (tsi t 485 m (nI k)) 486 m a) 487 m b) 488 m c) 489 m e) 490 m (nI (nD q k (nn c) (nn e)))).1 x j = t.1 x j := fun x j hx => by rw [tsi_ne (by omega)]; exact i5 x j (by omega)
        refine c_59 (by omega) (hfo.w mlt (fun x j hx => i6 x j (by omega))) hk hm ?_
        obtain ⟨T7, hT⟩ : ∃ T7, T7 = tsi (tsi (tsi (tsi (tsi (tsi (tsi t 485 m (nI k)) 486 m a) 487 m b) 488 m c) 489 m e) 490 m (nI (nD q k (nn c) (nn e)))) 491 m (nI (nU q k (nn a) (nn b) (nn c) (nn e))) := ⟨_, rfl⟩
        have i7 : ∀ x j, ¬ (485 ≤ x ∧ x ≤ 491 ∧ j = m) → T7.1 x j = t.1 x j := fun x j hx => by rw [hT, tsi_ne (by omega)]; exact i6 x j (by omega)
        have r7 : T7.2 = t.2 := by rw [hT]; rfl
        have j7 : ∀ j, j < 7 → T7.1 (485 + j) m = nro q k a b c e j := fun j hj => by
          have : j = 0 ∨ j = 1 ∨ j = 2 ∨ j = 3 ∨ j = 4 ∨ j = 5 ∨ j = 6 := by omega
          rw [hT]
          rcases this with rfl | rfl | rfl | rfl | rfl | rfl | rfl
          · rw [tsi_ne (by omega), tsi_ne (by omega), tsi_ne (by omega), tsi_ne (by omega), tsi_ne (by omega), tsi_ne (by omega), tsi_eq]; rfl
          · rw [tsi_ne (by omega), tsi_ne (by omega), tsi_ne (by omega), tsi_ne (by omega), tsi_ne (by omega), tsi_eq]; rfl
          · rw [tsi_ne (by omega), tsi_ne (by omega), tsi_ne (by omega), tsi_ne (by omega), tsi_eq]; rfl
          · rw [tsi_ne (by omega), tsi_ne (by omega), tsi_ne (by omega), tsi_eq]; rfl
          · rw [tsi_ne (by omega), tsi_ne (by omega), tsi_eq]; rfl
          · rw [tsi_ne (by omega), tsi_eq]; rfl
          · rw [tsi_eq]; rfl
        simp only [v_60_0, v_60_1, v_60_2, v_60_3, v_60_4, v_60_6, v_60_8, v_60_11, v_60_14, v_60_15, v_60_16, v_60_18, v_60_20, v_60_23, v_60_24, v_60_27, v_60_28, v_60_29, v_60_30, v_60_33, v_60_35, v_60_38, v_60_40, v_60_41, v_60_42, v_60_45, v_60_47, v_60_48, v_60_51, v_60_53, v_60_54, v_60_55, v_60_56, v_60_59, v_60_61, v_60_62, v_60_63, v_60_64, v_60_67, v_60_69, v_60_70, v_60_71, v_60_72, v_60_75, v_60_77, v_60_79, v_60_80, v_60_81, v_60_84, v_60_86, v_60_88, v_60_89, v_60_90, v_60_93, v_60_95, v_60_96, v_60_97, v_60_99, v_60_101, v_60_104, v_60_105, v_60_106, v_60_109, v_60_111, v_60_112, v_60_113, v_60_114, v_60_115, v_60_117, v_60_119, v_60_122, v_60_123, v_60_124, v_60_127, v_60_129, v_60_130, v_60_132, v_60_135, v_60_136, v_60_137, v_60_140, v_60_141, v_60_144, v_60_146, v_60_147, v_60_150, v_60_151, v_60_152, v_60_155, v_60_156, v_60_157, v_60_160, v_60_161, v_60_164, v_60_166, v_60_167, v_60_170, v_60_171, v_60_174, v_60_175, h_60_175, v_60_176, v_60_177_int, v_60_177_ref, v_60_178, v_60_181, v_60_182, v_60_183, v_60_186, v_60_188, vgi_0, vgi_s, vga_0, vga_s, vset_0, vset_s, vtk_0, vtk_s, vrc_0, vsw_0, vsw_s, List.all_cons, List.all_nil, zc1_i, zc1_r, Bool.and_true, Bool.and_self, true_and, and_true, List.length_cons, List.length_nil, Nat.zero_le, Nat.reduceLeDiff, Nat.reduceAdd, Nat.reduceLT, Option.toList_some, List.cons_append, List.nil_append, tg_483, tg_491, ln_491, tf_483_9, tg_492, ln_492]
        simp (disch := omega) only [nI_clamp, vinb_n]
        rw [← hT]
        refine ⟨mlt, ?_⟩
        have at175 : ∀ C : Nat, C = nC q k (nn c) (nn e) → C < 2 → twp none (d - 1) 60 175 [.ref 483, .int (nI k), .int a, .int b, .int c, .int e, .int (nI m)] [.int (nI C), .int (nI m), .ref 492] T7 F := by
          intro C hC hC2
          have e1 : T7.1 483 1 = nI m := by rw [i7 _ _ (by omega)]; exact h1
          have e2 : ∀ v, (tsi T7 492 m v).1 483 1 = nI m := fun v => by rw [tsi_ne (by omega)]; exact e1
          refine vc_ok none zH_60 118 false _ 60 175 _ _ _ _ ?_
          simp only [v_60_0, v_60_1, v_60_2, v_60_3, v_60_4, v_60_6, v_60_8, v_60_11, v_60_14, v_60_15, v_60_16, v_60_18, v_60_20, v_60_23, v_60_24, v_60_27, v_60_28, v_60_29, v_60_30, v_60_33, v_60_35, v_60_38, v_60_40, v_60_41, v_60_42, v_60_45, v_60_47, v_60_48, v_60_51, v_60_53, v_60_54, v_60_55, v_60_56, v_60_59, v_60_61, v_60_62, v_60_63, v_60_64, v_60_67, v_60_69, v_60_70, v_60_71, v_60_72, v_60_75, v_60_77, v_60_79, v_60_80, v_60_81, v_60_84, v_60_86, v_60_88, v_60_89, v_60_90, v_60_93, v_60_95, v_60_96, v_60_97, v_60_99, v_60_101, v_60_104, v_60_105, v_60_106, v_60_109, v_60_111, v_60_112, v_60_113, v_60_114, v_60_115, v_60_117, v_60_119, v_60_122, v_60_123, v_60_124, v_60_127, v_60_129, v_60_130, v_60_132, v_60_135, v_60_136, v_60_137, v_60_140, v_60_141, v_60_144, v_60_146, v_60_147, v_60_150, v_60_151, v_60_152, v_60_155, v_60_156, v_60_157, v_60_160, v_60_161, v_60_164, v_60_166, v_60_167, v_60_170, v_60_171, v_60_174, v_60_175, h_60_175, v_60_176, v_60_177_int, v_60_177_ref, v_60_178, v_60_181, v_60_182, v_60_183, v_60_186, v_60_188, vgi_0, vgi_s, vga_0, vga_s, vset_0, vset_s, vtk_0, vtk_s, vrc_0, vsw_0, vsw_s, List.all_cons, List.all_nil, zc1_i, zc1_r, Bool.and_true, Bool.and_self, true_and, and_true, List.length_cons, List.length_nil, Nat.zero_le, Nat.reduceLeDiff, Nat.reduceAdd, Nat.reduceLT, tg_492, ln_492, tg_483]
          simp (disch := omega) only [nI_clamp, vinb_n, e2, nI_1]
          rw [if_neg (by omega)]
          refine ⟨mlt, ?_, ?_⟩
          · have : C = 0 ∨ C = 1 := by omega
            rcases this with z | z <;> rw [z]
            · exact Or.inl rfl
            · exact Or.inr rfl
          · refine k1 k hk rfl hb mlt _ r7 (fun x j p1 p2 => ?_) tsi_eq (fun j hj => ?_)
            · rw [tsi_ne (by omega), tsi_ne (by omega)]; exact i7 x j (by omega)
            · rw [tsi_ne (by omega)]
              by_cases j7' : j = 7
              · subst j7'
                rw [tsi_eq, hC]; rfl
              · rw [tsi_ne (by omega)]; exact j7 j (by omega)
        have f492 : ∀ y, y < m → T7.1 492 y = nI (cl q y) ∧ cl q y < 2 := fun y hy => by
          obtain ⟨-, -, -, -, f5, f6⟩ := hfo.dp hy
          exact ⟨by rw [i7 _ _ (by omega)]; exact f5, f6⟩
        have ifk : ∀ (n : Nat) (n' : Int32) (P Q : Prop), n < 100 → n' = nI n → (if nI k = n' then P else Q) = (if k = n then P else Q) := fun n n' P Q hn en => by
          rw [en]
          simp (disch := omega) only [nI_eq]
        have kc : k = 0 ∨ k = 1 ∨ k = 2 ∨ k = 3 ∨ k = 4 ∨ k = 5 ∨ k = 6 ∨ k = 7 ∨ k = 8 := by omega
        rcases kc with rfl | rfl | rfl | rfl | rfl | rfl | rfl | rfl | rfl
        · rw [if_neg (by decide), if_neg (by decide), if_neg (by decide), if_neg (by decide)]
          exact at175 0 (by unfold nC; rw [if_neg (by omega), if_neg (by omega), if_neg (by omega)]) (by omega)
        · rw [if_neg (by decide), if_neg (by decide), if_neg (by decide), if_neg (by decide)]
          exact at175 0 (by unfold nC; rw [if_neg (by omega), if_neg (by omega), if_neg (by omega)]) (by omega)
        · rw [if_neg (by decide), if_neg (by decide), if_neg (by decide), if_neg (by decide)]
          exact at175 0 (by unfold nC; rw [if_neg (by omega), if_neg (by omega), if_neg (by omega)]) (by omega)
        · obtain ⟨y, hy, rfl⟩ := mkm_3.mp hm
          obtain ⟨g1, g2⟩ := f492 y hy
          have ny : nn (nI y) = y := nn_nI (by omega)
          have eC : nC q 3 (nn (nI y)) (nn e) = cl q y := by rw [ny]; unfold nC; rw [if_neg (by omega), if_neg (by omega), if_pos (by omega)]
          rw [if_neg (by decide), if_pos (by decide)]
          simp (disch := omega) only [nI_clamp, vinb_n, g1]
          refine ⟨Or.inr trivial, by omega, ?_⟩
          by_cases z : cl q y = 0
          · rw [if_pos (by rw [z]; rfl), if_neg (by decide), if_neg (by decide)]
            exact at175 0 (by rw [eC, z]) (by omega)
          · rw [if_neg (by rw [li0, nI_eq (by omega) (by omega)]; exact z)]
            exact at175 1 (by rw [eC]; omega) (by omega)
        · obtain ⟨⟨y, hy, rfl⟩, w, hw, rfl⟩ := (mkm_4 (by omega)).mp hm
          obtain ⟨g1, g2⟩ := f492 y hy
          obtain ⟨w1, w2⟩ := f492 w hw
          have ny : nn (nI y) = y := nn_nI (by omega)
          have nw : nn (nI w) = w := nn_nI (by omega)
          have eC : nC q 4 (nn (nI y)) (nn (nI w)) = if cl q y = 1 ∨ cl q w = 1 then 1 else 0 := by rw [ny, nw]; unfold nC; rw [if_neg (by omega), if_pos (by omega)]
          rw [if_neg (by decide), if_pos (by decide)]
          simp (disch := omega) only [nI_clamp, vinb_n, g1, w1]
          refine ⟨Or.inr trivial, by omega, ?_⟩
          by_cases z : cl q y = 0
          · rw [if_pos (by rw [z]; rfl), if_pos (by decide)]
            refine ⟨Or.inr trivial, by omega, ?_⟩
            by_cases x : cl q w = 0
            · rw [if_pos (by rw [x]; rfl)]
              exact at175 0 (by rw [eC, if_neg (by omega)]) (by omega)
            · rw [if_neg (by rw [li0, nI_eq (by omega) (by omega)]; exact x)]
              exact at175 1 (by rw [eC, if_pos (by omega)]) (by omega)
          · rw [if_neg (by rw [li0, nI_eq (by omega) (by omega)]; exact z)]
            exact at175 1 (by rw [eC, if_pos (by omega)]) (by omega)
        · obtain ⟨⟨y, hy, rfl⟩, w, hw, rfl⟩ := (mkm_4 (by omega)).mp hm
          obtain ⟨g1, g2⟩ := f492 y hy
          obtain ⟨w1, w2⟩ := f492 w hw
          have ny : nn (nI y) = y := nn_nI (by omega)
          have nw : nn (nI w) = w := nn_nI (by omega)
          have eC : nC q 5 (nn (nI y)) (nn (nI w)) = if cl q y = 1 ∨ cl q w = 1 then 1 else 0 := by rw [ny, nw]; unfold nC; rw [if_neg (by omega), if_pos (by omega)]
          rw [if_neg (by decide), if_pos (by decide)]
          simp (disch := omega) only [nI_clamp, vinb_n, g1, w1]
          refine ⟨Or.inr trivial, by omega, ?_⟩
          by_cases z : cl q y = 0
          · rw [if_pos (by rw [z]; rfl), if_neg (by decide), if_pos (by decide)]
            refine ⟨Or.inr trivial, by omega, ?_⟩
            by_cases x : cl q w = 0
            · rw [if_pos (by rw [x]; rfl)]
              exact at175 0 (by rw [eC, if_neg (by omega)]) (by omega)
            · rw [if_neg (by rw [li0, nI_eq (by omega) (by omega)]; exact x)]
              exact at175 1 (by rw [eC, if_pos (by omega)]) (by omega)
          · rw [if_neg (by rw [li0, nI_eq (by omega) (by omega)]; exact z)]
            exact at175 1 (by rw [eC, if_pos (by omega)]) (by omega)
        · obtain ⟨y, hy, rfl⟩ := ((mkm_6 (by omega)).mp hm).2
          obtain ⟨g1, g2⟩ := f492 y hy
          have ny : nn (nI y) = y := nn_nI (by omega)
          have eC : nC q 6 (nn (nI y)) (nn e) = cl q y := by rw [ny]; unfold nC; rw [if_neg (by omega), if_neg (by omega), if_pos (by omega)]
          rw [if_neg (by decide), if_pos (by decide)]
          simp (disch := omega) only [nI_clamp, vinb_n, g1]
          refine ⟨Or.inr trivial, by omega, ?_⟩
          by_cases z : cl q y = 0
          · rw [if_pos (by rw [z]; rfl), if_neg (by decide), if_neg (by decide)]
            exact at175 0 (by rw [eC, z]) (by omega)
          · rw [if_neg (by rw [li0, nI_eq (by omega) (by omega)]; exact z)]
            exact at175 1 (by rw [eC]; omega) (by omega)
        · obtain ⟨y, hy, rfl⟩ := ((mkm_6 (by omega)).mp hm).2
          obtain ⟨g1, g2⟩ := f492 y hy
          have ny : nn (nI y) = y := nn_nI (by omega)
          have eC : nC q 7 (nn (nI y)) (nn e) = cl q y := by rw [ny]; unfold nC; rw [if_neg (by omega), if_neg (by omega), if_pos (by omega)]
          rw [if_neg (by decide), if_pos (by decide)]
          simp (disch := omega) only [nI_clamp, vinb_n, g1]
          refine ⟨Or.inr trivial, by omega, ?_⟩
          by_cases z : cl q y = 0
          · rw [if_pos (by rw [z]; rfl), if_neg (by decide), if_neg (by decide)]
            exact at175 0 (by rw [eC, z]) (by omega)
          · rw [if_neg (by rw [li0, nI_eq (by omega) (by omega)]; exact z)]
            exact at175 1 (by rw [eC]; omega) (by omega)
        · rw [if_pos (by decide)]
          exact at175 1 (by unfold nC; rw [if_pos rfl]) (by omega)
  · simp only [v_60_0, v_60_1, v_60_2, v_60_3, v_60_4, v_60_6, v_60_8, v_60_11, v_60_14, v_60_15, v_60_16, v_60_18, v_60_20, v_60_23, v_60_24, v_60_27, v_60_28, v_60_29, v_60_30, v_60_33, v_60_35, v_60_38, v_60_40, v_60_41, v_60_42, v_60_45, v_60_47, v_60_48, v_60_51, v_60_53, v_60_54, v_60_55, v_60_56, v_60_59, v_60_61, v_60_62, v_60_63, v_60_64, v_60_67, v_60_69, v_60_70, v_60_71, v_60_72, v_60_75, v_60_77, v_60_79, v_60_80, v_60_81, v_60_84, v_60_86, v_60_88, v_60_89, v_60_90, v_60_93, v_60_95, v_60_96, v_60_97, v_60_99, v_60_101, v_60_104, v_60_105, v_60_106, v_60_109, v_60_111, v_60_112, v_60_113, v_60_114, v_60_115, v_60_117, v_60_119, v_60_122, v_60_123, v_60_124, v_60_127, v_60_129, v_60_130, v_60_132, v_60_135, v_60_136, v_60_137, v_60_140, v_60_141, v_60_144, v_60_146, v_60_147, v_60_150, v_60_151, v_60_152, v_60_155, v_60_156, v_60_157, v_60_160, v_60_161, v_60_164, v_60_166, v_60_167, v_60_170, v_60_171, v_60_174, v_60_175, h_60_175, v_60_176, v_60_177_int, v_60_177_ref, v_60_178, v_60_181, v_60_182, v_60_183, v_60_186, v_60_188, vgi_0, vgi_s, vga_0, vga_s, vset_0, vset_s, vtk_0, vtk_s, vrc_0, vsw_0, vsw_s, List.all_cons, List.all_nil, zc1_i, zc1_r, Bool.and_true, Bool.and_self, true_and, and_true, List.length_cons, List.length_nil, Nat.zero_le, Nat.reduceLeDiff, Nat.reduceAdd, Nat.reduceLT, Option.toList_some, List.cons_append, List.nil_append]
    rw [if_pos trivial]
    exact kb (fun k hk ek hb => hno k hk ek ((mkb_iff hm4 hk).mp hb).1)
end FM4
