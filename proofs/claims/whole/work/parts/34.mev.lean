/-! The reference's evaluator: its pieces. -/
section MEV
variable {d : Nat} {t : T} {F : Option Value → T → Prop} {q : FT} {m s n i : Nat} {f : St} {e : Nat → Nat}
def mvp (t : T) (q : FT) (m s : Nat) (f : St) (n : Nat) : Prop := m ≤ 40 ∧ (∀ i, i < m → fwf q i) ∧ (∀ i k, i < m → k < 8 → t.1 (485 + k) i = q i k) ∧ s < 184 ∧ mS t s = f ∧ wfS f ∧ f 0 = nI n ∧ n ≤ 6
def mve (t : T) (e : Nat → Nat) : Prop := ∀ v, v < 6 → t.1 506 v = nI (e v) ∧ e v < 6
theorem mvp.keep {t' : T} (h : mvp t q m s f n) (h2 : ∀ b k, b < 506 → t'.1 b k = t.1 b k) : mvp t' q m s f n := by
  obtain ⟨g1, g2, g3, g4, g5, g6⟩ := h
  refine ⟨g1, g2, fun i k hi hk => by rw [h2 _ _ (by omega)]; exact g3 i k hi hk, g4, ?_, g6⟩
  rw [← g5]
  funext k
  unfold mS
  rw [h2 484 _ (by omega)]
theorem mvp.cnt (h : mvp t q m s f n) : mS t s 0 = nI n := by rw [h.2.2.2.2.1]; exact h.2.2.2.2.2.2.1
theorem c_64 {top : Nat} {g : Int32} (hd : 1 ≤ d) (ht : top < 8) (h : F none (tsi (tsi t 507 top g) 508 top 0)) : twc d 64 [.ref 483, .int (nI top), .int g] t F := by
  refine ⟨by omega, ?_⟩
  rw [ze_64]
  refine vc_ok none zH_64 21 false _ 64 0 _ _ _ _ ?_
  simp only [v_64_0, v_64_1, v_64_4, v_64_5, v_64_6, v_64_7, v_64_8, v_64_11, v_64_12, v_64_13, v_64_14, vgi_0, vgi_s, vga_0, vga_s, vset_0, vset_s, vtk_0, vtk_s, vrc_0, vsw_0, vsw_s, List.all_cons, List.all_nil, zc1_i, zc1_r, Bool.and_true, Bool.and_self, true_and, and_true, List.length_cons, List.length_nil, Nat.zero_le, Nat.reduceLeDiff, Nat.reduceAdd, tg_483, tf_483_28, tf_483_29, tg_507, ln_507, tg_508, ln_508]
  simp (disch := omega) only [nI_clamp, vinb_n]
  exact ⟨by omega, by omega, h⟩
theorem c_62 (hd : 5 ≤ d) (hq : mvp t q m s f n) (he : mve t e) (hi : i < m) (hk : kd q i < 3) (h : F (some (.int (EV q f n i e))) t) : twc d 62 [.ref 483, .int (nI s), .int (nI i)] t F := by
  have hm := hq.1
  have hwi := hq.2.1 i hi
  obtain ⟨k0, k9, -, -, -, -, -, -, w0, w1, w2, -⟩ := hwi
  have hs := hq.2.2.2.1
  have hf := hq.2.2.2.2.1
  have r0 : t.1 485 i = nI (kd q i) := (hq.2.2.1 i 0 hi (by omega)).trans k0
  have r1 : t.1 486 i = q i 1 := hq.2.2.1 i 1 hi (by omega)
  have r2 : t.1 487 i = q i 2 := hq.2.2.1 i 2 hi (by omega)
  have r3 : t.1 488 i = q i 3 := hq.2.2.1 i 3 hi (by omega)
  refine ⟨by omega, ?_⟩
  rw [ze_62]
  refine vc_ok none zH_62 95 false _ 62 0 _ _ _ _ ?_
  simp only [v_62_0, v_62_1, v_62_4, v_62_5, v_62_6, v_62_9, v_62_10, v_62_13, v_62_14, v_62_15, v_62_16, v_62_17, v_62_20, v_62_21, v_62_22, v_62_23, v_62_26, v_62_27, v_62_28, v_62_30, v_62_31, v_62_34, v_62_35, v_62_38, v_62_39, v_62_40, v_62_41, v_62_42, v_62_45, v_62_46, v_62_49, v_62_50, v_62_51, v_62_52, v_62_55, v_62_56, v_62_57, v_62_60, v_62_61, v_62_62, v_62_63, v_62_64, v_62_65, v_62_68, v_62_69, v_62_70, v_62_71, v_62_72, v_62_73, v_62_76, v_62_79, v_62_80, v_62_82, v_62_85, v_62_86, v_62_87, v_62_88, v_62_89, v_62_92, v_62_93, v_62_96, v_62_97, v_62_98, v_62_99, v_62_100, v_62_103, v_62_106, v_62_107, v_62_108, v_62_109, v_62_110, v_62_113, v_62_114, v_62_117, v_62_118, v_62_119, v_62_120, v_62_121, v_62_124, v_62_125, v_62_128, v_62_129, v_62_130, v_62_131, v_62_134, vgi_0, vgi_s, vga_0, vga_s, vset_0, vset_s, vtk_0, vtk_s, vrc_0, vsw_0, vsw_s, List.all_cons, List.all_nil, zc1_i, zc1_r, Bool.and_true, Bool.and_self, true_and, and_true, List.length_cons, List.length_nil, Nat.zero_le, Nat.reduceLeDiff, Nat.reduceAdd, tg_483, tf_483_2, tg_485, ln_485, tf_483_3, tg_486, ln_486, tf_483_27, tg_506, ln_506, tf_483_4, tg_487, ln_487, tf_483_5, tg_488, ln_488]
  simp (disch := omega) only [nI_clamp, vinb_n, r0, r1, r2, r3]
  refine ⟨by omega, ?_⟩
  have : kd q i = 0 ∨ kd q i = 1 ∨ kd q i = 2 := by omega
  rcases this with hz | hz | hz
  · rw [hz, if_pos (by decide)]
    rw [EV_0 hz] at h
    exact ⟨by omega, h⟩
  · rw [hz, if_neg (by decide)]
    refine ⟨by omega, ?_⟩
    rw [if_neg (by decide)]
    refine ⟨by omega, ?_⟩
    obtain ⟨p1, p2, p3, p4⟩ := w1 hz
    rw [EV_1 hz] at h
    rw [p1]
    by_cases h2 : va q i < 2
    · rw [li2, if_pos (nI_lt h2 (by omega))]
      refine c_43 (u := 0) (w := 0) (by omega) hs (by omega) (by omega) (by omega) ?_
      simp only [v_62_0, v_62_1, v_62_4, v_62_5, v_62_6, v_62_9, v_62_10, v_62_13, v_62_14, v_62_15, v_62_16, v_62_17, v_62_20, v_62_21, v_62_22, v_62_23, v_62_26, v_62_27, v_62_28, v_62_30, v_62_31, v_62_34, v_62_35, v_62_38, v_62_39, v_62_40, v_62_41, v_62_42, v_62_45, v_62_46, v_62_49, v_62_50, v_62_51, v_62_52, v_62_55, v_62_56, v_62_57, v_62_60, v_62_61, v_62_62, v_62_63, v_62_64, v_62_65, v_62_68, v_62_69, v_62_70, v_62_71, v_62_72, v_62_73, v_62_76, v_62_79, v_62_80, v_62_82, v_62_85, v_62_86, v_62_87, v_62_88, v_62_89, v_62_92, v_62_93, v_62_96, v_62_97, v_62_98, v_62_99, v_62_100, v_62_103, v_62_106, v_62_107, v_62_108, v_62_109, v_62_110, v_62_113, v_62_114, v_62_117, v_62_118, v_62_119, v_62_120, v_62_121, v_62_124, v_62_125, v_62_128, v_62_129, v_62_130, v_62_131, v_62_134, vgi_0, vgi_s, vga_0, vga_s, vset_0, vset_s, vtk_0, vtk_s, vrc_0, vsw_0, vsw_s, List.all_cons, List.all_nil, zc1_i, zc1_r, Bool.and_true, Bool.and_self, true_and, and_true, List.length_cons, List.length_nil, Nat.zero_le, Nat.reduceLeDiff, Nat.reduceAdd, Option.toList_some, List.cons_append, List.nil_append]
      rw [hf]
      unfold sg at h ⊢
      rw [if_neg (by omega)] at h ⊢
      unfold cel at h ⊢
      rw [if_pos h2] at h ⊢
      exact h
    · rw [li2, if_neg (nI_nlt (by omega) (by omega))]
      obtain ⟨b1, b2, -⟩ := p3 (by omega)
      have eb := he _ b2
      rw [b1]
      by_cases h6 : va q i < 6
      · rw [li6, if_pos (nI_lt h6 (by omega))]
        simp (disch := omega) only [nI_clamp, vinb_n, eb.1]
        refine ⟨by omega, by omega, ?_⟩
        refine c_43 (w := 0) (by omega) hs (by omega) eb.2 (by omega) ?_
        simp only [v_62_0, v_62_1, v_62_4, v_62_5, v_62_6, v_62_9, v_62_10, v_62_13, v_62_14, v_62_15, v_62_16, v_62_17, v_62_20, v_62_21, v_62_22, v_62_23, v_62_26, v_62_27, v_62_28, v_62_30, v_62_31, v_62_34, v_62_35, v_62_38, v_62_39, v_62_40, v_62_41, v_62_42, v_62_45, v_62_46, v_62_49, v_62_50, v_62_51, v_62_52, v_62_55, v_62_56, v_62_57, v_62_60, v_62_61, v_62_62, v_62_63, v_62_64, v_62_65, v_62_68, v_62_69, v_62_70, v_62_71, v_62_72, v_62_73, v_62_76, v_62_79, v_62_80, v_62_82, v_62_85, v_62_86, v_62_87, v_62_88, v_62_89, v_62_92, v_62_93, v_62_96, v_62_97, v_62_98, v_62_99, v_62_100, v_62_103, v_62_106, v_62_107, v_62_108, v_62_109, v_62_110, v_62_113, v_62_114, v_62_117, v_62_118, v_62_119, v_62_120, v_62_121, v_62_124, v_62_125, v_62_128, v_62_129, v_62_130, v_62_131, v_62_134, vgi_0, vgi_s, vga_0, vga_s, vset_0, vset_s, vtk_0, vtk_s, vrc_0, vsw_0, vsw_s, List.all_cons, List.all_nil, zc1_i, zc1_r, Bool.and_true, Bool.and_self, true_and, and_true, List.length_cons, List.length_nil, Nat.zero_le, Nat.reduceLeDiff, Nat.reduceAdd, Option.toList_some, List.cons_append, List.nil_append]
        rw [hf]
        unfold sg at h ⊢
        rw [if_neg (by omega)] at h ⊢
        unfold cel at h ⊢
        rw [if_neg h2, if_pos h6] at h ⊢
        exact h
      · rw [li6, if_neg (nI_nlt (by omega) (by omega))]
        obtain ⟨c1, c2, -⟩ := p4 (by omega)
        have ec := he _ c2
        rw [c1]
        simp (disch := omega) only [nI_clamp, vinb_n, eb.1, ec.1]
        refine ⟨by omega, by omega, by omega, by omega, ?_⟩
        refine c_43 (by omega) hs (by omega) eb.2 ec.2 ?_
        simp only [v_62_0, v_62_1, v_62_4, v_62_5, v_62_6, v_62_9, v_62_10, v_62_13, v_62_14, v_62_15, v_62_16, v_62_17, v_62_20, v_62_21, v_62_22, v_62_23, v_62_26, v_62_27, v_62_28, v_62_30, v_62_31, v_62_34, v_62_35, v_62_38, v_62_39, v_62_40, v_62_41, v_62_42, v_62_45, v_62_46, v_62_49, v_62_50, v_62_51, v_62_52, v_62_55, v_62_56, v_62_57, v_62_60, v_62_61, v_62_62, v_62_63, v_62_64, v_62_65, v_62_68, v_62_69, v_62_70, v_62_71, v_62_72, v_62_73, v_62_76, v_62_79, v_62_80, v_62_82, v_62_85, v_62_86, v_62_87, v_62_88, v_62_89, v_62_92, v_62_93, v_62_96, v_62_97, v_62_98, v_62_99, v_62_100, v_62_103, v_62_106, v_62_107, v_62_108, v_62_109, v_62_110, v_62_113, v_62_114, v_62_117, v_62_118, v_62_119, v_62_120, v_62_121, v_62_124, v_62_125, v_62_128, v_62_129, v_62_130, v_62_131, v_62_134, vgi_0, vgi_s, vga_0, vga_s, vset_0, vset_s, vtk_0, vtk_s, vrc_0, vsw_0, vsw_s, List.all_cons, List.all_nil, zc1_i, zc1_r, Bool.and_true, Bool.and_self, true_and, and_true, List.length_cons, List.length_nil, Nat.zero_le, Nat.reduceLeDiff, Nat.reduceAdd, Option.toList_some, List.cons_append, List.nil_append]
        rw [hf]
        exact h
  · rw [hz, if_neg (by decide)]
    refine ⟨by omega, ?_⟩
    rw [if_pos (by decide)]
    obtain ⟨b1, b2, -, c1, c2, -⟩ := w2 hz
    have eb := he _ b2
    have ec := he _ c2
    rw [EV_2 hz] at h
    rw [b1, c1]
    simp (disch := omega) only [nI_clamp, vinb_n, eb.1, ec.1]
    refine ⟨by omega, by omega, by omega, by omega, ?_⟩
    refine c_43 (p := 8) (by omega) hs (by omega) eb.2 ec.2 ?_
    simp only [v_62_0, v_62_1, v_62_4, v_62_5, v_62_6, v_62_9, v_62_10, v_62_13, v_62_14, v_62_15, v_62_16, v_62_17, v_62_20, v_62_21, v_62_22, v_62_23, v_62_26, v_62_27, v_62_28, v_62_30, v_62_31, v_62_34, v_62_35, v_62_38, v_62_39, v_62_40, v_62_41, v_62_42, v_62_45, v_62_46, v_62_49, v_62_50, v_62_51, v_62_52, v_62_55, v_62_56, v_62_57, v_62_60, v_62_61, v_62_62, v_62_63, v_62_64, v_62_65, v_62_68, v_62_69, v_62_70, v_62_71, v_62_72, v_62_73, v_62_76, v_62_79, v_62_80, v_62_82, v_62_85, v_62_86, v_62_87, v_62_88, v_62_89, v_62_92, v_62_93, v_62_96, v_62_97, v_62_98, v_62_99, v_62_100, v_62_103, v_62_106, v_62_107, v_62_108, v_62_109, v_62_110, v_62_113, v_62_114, v_62_117, v_62_118, v_62_119, v_62_120, v_62_121, v_62_124, v_62_125, v_62_128, v_62_129, v_62_130, v_62_131, v_62_134, vgi_0, vgi_s, vga_0, vga_s, vset_0, vset_s, vtk_0, vtk_s, vrc_0, vsw_0, vsw_s, List.all_cons, List.all_nil, zc1_i, zc1_r, Bool.and_true, Bool.and_self, true_and, and_true, List.length_cons, List.length_nil, Nat.zero_le, Nat.reduceLeDiff, Nat.reduceAdd, Option.toList_some, List.cons_append, List.nil_append]
    rw [hf]
    exact h
/-- bound: the quantifier's turn -/
theorem c_66 {top u : Nat} {res : Int32} (hd : 4 ≤ d) (hq : mvp t q m s f n) (hi : i < m) (hk : kd q i = 6 ∨ kd q i = 7) (ht : top < 8) (hu : u ≤ n) (hres : tri res) (hsum : 0 < u → tri (t.1 509 top)) (h0 : ∀ t1, t1 = (if u = 0 then tsi (tsi t 510 top (t.1 506 (va q i))) 509 top (if kd q i = 6 then 0 else 1) else tsi t 509 top (if kd q i = 6 then tor (t.1 509 top) res else tand (t.1 509 top) res)) → F (some (.int (if u < n then nI (pc q i) else -1))) (tsi t1 506 (va q i) (if u < n then nI u else t1.1 510 top))) : twc d 66 [.ref 483, .int (nI s), .int (nI top), .int (nI i), .int (nI u), .int res] t F := by
  have hm := hq.1
  have hn := hq.2.2.2.2.2.2.2
  have hwi := hq.2.1 i hi
  obtain ⟨p1, p2, p3, -⟩ := hwi.2.2.2.2.2.2.2.2.2.2.2.1 (by omega)
  obtain ⟨v1, v2, -⟩ := hwi.2.2.2.2.2.2.2.2.2.2.2.2.2.2.1 hk
  have hs := hq.2.2.2.1
  have r0 : t.1 485 i = nI (kd q i) := (hq.2.2.1 i 0 hi (by omega)).trans hwi.1
  have r1 : t.1 486 i = nI (va q i) := (hq.2.2.1 i 1 hi (by omega)).trans v1
  have r3 : t.1 488 i = nI (pc q i) := (hq.2.2.1 i 3 hi (by omega)).trans p1
  have rest : ∀ t1 : T, (∀ b k, b < 506 → t1.1 b k = t.1 b k) → t1 = (if u = 0 then tsi (tsi t 510 top (t.1 506 (va q i))) 509 top (if kd q i = 6 then 0 else 1) else tsi t 509 top (if kd q i = 6 then tor (t.1 509 top) res else tand (t.1 509 top) res)) → twp none (d - 1) 66 93 [.ref 483, .int (nI s), .int (nI top), .int (nI i), .int (nI u), .int res, .int (nI (va q i))] [] t1 F := by
    intro t1 hk1 ht1
    have hq1 := hq.keep hk1
    have hF := h0 t1 ht1
    refine vc_ok none zH_66 89 false _ 66 93 _ _ _ _ ?_
    simp only [v_66_0, v_66_1, v_66_4, v_66_5, v_66_6, v_66_8, v_66_10, v_66_13, v_66_14, v_66_17, v_66_18, v_66_19, v_66_22, v_66_24, v_66_25, v_66_26, v_66_27, v_66_30, v_66_31, v_66_32, v_66_35, v_66_36, v_66_37, v_66_39, v_66_42, v_66_43, v_66_46, v_66_47, v_66_48, v_66_51, v_66_52, v_66_55, v_66_56, v_66_57, v_66_60, v_66_61, v_66_62, v_66_64, v_66_67, v_66_68, v_66_71, v_66_72, v_66_73, v_66_75, v_66_78, v_66_81, v_66_82, v_66_85, v_66_86, v_66_87, v_66_89, v_66_92, v_66_93, h_66_93, v_66_94, v_66_97, v_66_99, v_66_101, v_66_102, v_66_103, v_66_106, v_66_109, v_66_111, v_66_114, v_66_115, v_66_118, v_66_119, v_66_120, v_66_121, v_66_123, v_66_124, v_66_125, v_66_128, v_66_131, v_66_132, v_66_135, v_66_136, v_66_137, v_66_140, v_66_141, vgi_0, vgi_s, vga_0, vga_s, vset_0, vset_s, vtk_0, vtk_s, vrc_0, vsw_0, vsw_s, List.all_cons, List.all_nil, zc1_i, zc1_r, Bool.and_true, Bool.and_self, true_and, and_true, List.length_cons, List.length_nil, Nat.zero_le, Nat.reduceLeDiff, Nat.reduceAdd, tg_483, tf_483_27]
    refine c_40 (by omega) hs ?_
    simp only [v_66_0, v_66_1, v_66_4, v_66_5, v_66_6, v_66_8, v_66_10, v_66_13, v_66_14, v_66_17, v_66_18, v_66_19, v_66_22, v_66_24, v_66_25, v_66_26, v_66_27, v_66_30, v_66_31, v_66_32, v_66_35, v_66_36, v_66_37, v_66_39, v_66_42, v_66_43, v_66_46, v_66_47, v_66_48, v_66_51, v_66_52, v_66_55, v_66_56, v_66_57, v_66_60, v_66_61, v_66_62, v_66_64, v_66_67, v_66_68, v_66_71, v_66_72, v_66_73, v_66_75, v_66_78, v_66_81, v_66_82, v_66_85, v_66_86, v_66_87, v_66_89, v_66_92, v_66_93, h_66_93, v_66_94, v_66_97, v_66_99, v_66_101, v_66_102, v_66_103, v_66_106, v_66_109, v_66_111, v_66_114, v_66_115, v_66_118, v_66_119, v_66_120, v_66_121, v_66_123, v_66_124, v_66_125, v_66_128, v_66_131, v_66_132, v_66_135, v_66_136, v_66_137, v_66_140, v_66_141, vgi_0, vgi_s, vga_0, vga_s, vset_0, vset_s, vtk_0, vtk_s, vrc_0, vsw_0, vsw_s, List.all_cons, List.all_nil, zc1_i, zc1_r, Bool.and_true, Bool.and_self, true_and, and_true, List.length_cons, List.length_nil, Nat.zero_le, Nat.reduceLeDiff, Nat.reduceAdd, Option.toList_some, List.cons_append, List.nil_append, tg_483, tf_483_31, tg_510, ln_510, tg_506, ln_506]
    rw [hq1.cnt]
    simp (disch := omega) only [nI_ltI, nI_clamp, vinb_n]
    by_cases hun : u < n
    · rw [if_pos hun, if_pos hun] at hF
      rw [if_pos hun]
      refine ⟨by omega, ?_⟩
      have hq2 : mvp (tsi t1 506 (va q i) (nI u)) q m s f n := hq1.keep (fun b k hb => tsi_ne (by omega))
      refine c_40 (by omega) hs ?_
      have r3' : (tsi t1 506 (va q i) (nI u)).1 488 i = nI (pc q i) := (hq2.2.2.1 i 3 hi (by omega)).trans p1
      simp only [v_66_0, v_66_1, v_66_4, v_66_5, v_66_6, v_66_8, v_66_10, v_66_13, v_66_14, v_66_17, v_66_18, v_66_19, v_66_22, v_66_24, v_66_25, v_66_26, v_66_27, v_66_30, v_66_31, v_66_32, v_66_35, v_66_36, v_66_37, v_66_39, v_66_42, v_66_43, v_66_46, v_66_47, v_66_48, v_66_51, v_66_52, v_66_55, v_66_56, v_66_57, v_66_60, v_66_61, v_66_62, v_66_64, v_66_67, v_66_68, v_66_71, v_66_72, v_66_73, v_66_75, v_66_78, v_66_81, v_66_82, v_66_85, v_66_86, v_66_87, v_66_89, v_66_92, v_66_93, h_66_93, v_66_94, v_66_97, v_66_99, v_66_101, v_66_102, v_66_103, v_66_106, v_66_109, v_66_111, v_66_114, v_66_115, v_66_118, v_66_119, v_66_120, v_66_121, v_66_123, v_66_124, v_66_125, v_66_128, v_66_131, v_66_132, v_66_135, v_66_136, v_66_137, v_66_140, v_66_141, vgi_0, vgi_s, vga_0, vga_s, vset_0, vset_s, vtk_0, vtk_s, vrc_0, vsw_0, vsw_s, List.all_cons, List.all_nil, zc1_i, zc1_r, Bool.and_true, Bool.and_self, true_and, and_true, List.length_cons, List.length_nil, Nat.zero_le, Nat.reduceLeDiff, Nat.reduceAdd, Option.toList_some, List.cons_append, List.nil_append, tg_483, tf_483_5, tg_488, ln_488]
      rw [hq2.cnt]
      simp (disch := omega) only [nI_ltI, nI_clamp, vinb_n, r3']
      rw [if_pos hun]
      exact ⟨by omega, hF⟩
    · rw [if_neg hun, if_neg hun] at hF
      rw [if_neg hun]
      refine ⟨by omega, by omega, ?_⟩
      have hq2 : mvp (tsi t1 506 (va q i) (t1.1 510 top)) q m s f n := hq1.keep (fun b k hb => tsi_ne (by omega))
      refine c_40 (by omega) hs ?_
      simp only [v_66_0, v_66_1, v_66_4, v_66_5, v_66_6, v_66_8, v_66_10, v_66_13, v_66_14, v_66_17, v_66_18, v_66_19, v_66_22, v_66_24, v_66_25, v_66_26, v_66_27, v_66_30, v_66_31, v_66_32, v_66_35, v_66_36, v_66_37, v_66_39, v_66_42, v_66_43, v_66_46, v_66_47, v_66_48, v_66_51, v_66_52, v_66_55, v_66_56, v_66_57, v_66_60, v_66_61, v_66_62, v_66_64, v_66_67, v_66_68, v_66_71, v_66_72, v_66_73, v_66_75, v_66_78, v_66_81, v_66_82, v_66_85, v_66_86, v_66_87, v_66_89, v_66_92, v_66_93, h_66_93, v_66_94, v_66_97, v_66_99, v_66_101, v_66_102, v_66_103, v_66_106, v_66_109, v_66_111, v_66_114, v_66_115, v_66_118, v_66_119, v_66_120, v_66_121, v_66_123, v_66_124, v_66_125, v_66_128, v_66_131, v_66_132, v_66_135, v_66_136, v_66_137, v_66_140, v_66_141, vgi_0, vgi_s, vga_0, vga_s, vset_0, vset_s, vtk_0, vtk_s, vrc_0, vsw_0, vsw_s, List.all_cons, List.all_nil, zc1_i, zc1_r, Bool.and_true, Bool.and_self, true_and, and_true, List.length_cons, List.length_nil, Nat.zero_le, Nat.reduceLeDiff, Nat.reduceAdd, Option.toList_some, List.cons_append, List.nil_append, tg_483, tf_483_5, tg_488, ln_488]
      rw [hq2.cnt]
      simp (disch := omega) only [nI_ltI]
      rw [if_neg hun]
      exact hF
  refine ⟨by omega, ?_⟩
  rw [ze_66]
  refine vc_ok none zH_66 89 false _ 66 0 _ _ _ _ ?_
  simp only [v_66_0, v_66_1, v_66_4, v_66_5, v_66_6, v_66_8, v_66_10, v_66_13, v_66_14, v_66_17, v_66_18, v_66_19, v_66_22, v_66_24, v_66_25, v_66_26, v_66_27, v_66_30, v_66_31, v_66_32, v_66_35, v_66_36, v_66_37, v_66_39, v_66_42, v_66_43, v_66_46, v_66_47, v_66_48, v_66_51, v_66_52, v_66_55, v_66_56, v_66_57, v_66_60, v_66_61, v_66_62, v_66_64, v_66_67, v_66_68, v_66_71, v_66_72, v_66_73, v_66_75, v_66_78, v_66_81, v_66_82, v_66_85, v_66_86, v_66_87, v_66_89, v_66_92, v_66_93, h_66_93, v_66_94, v_66_97, v_66_99, v_66_101, v_66_102, v_66_103, v_66_106, v_66_109, v_66_111, v_66_114, v_66_115, v_66_118, v_66_119, v_66_120, v_66_121, v_66_123, v_66_124, v_66_125, v_66_128, v_66_131, v_66_132, v_66_135, v_66_136, v_66_137, v_66_140, v_66_141, vgi_0, vgi_s, vga_0, vga_s, vset_0, vset_s, vtk_0, vtk_s, vrc_0, vsw_0, vsw_s, List.all_cons, List.all_nil, zc1_i, zc1_r, Bool.and_true, Bool.and_self, true_and, and_true, List.length_cons, List.length_nil, Nat.zero_le, Nat.reduceLeDiff, Nat.reduceAdd, tg_483, tf_483_3, tg_486, ln_486, tf_483_31, tg_510, ln_510, tf_483_27, tg_506, ln_506, tf_483_30, tg_509, ln_509, tf_483_2, tg_485, ln_485]
  simp (disch := omega) only [nI_clamp, vinb_n, r0, r1]
  refine ⟨by omega, ?_⟩
  by_cases hu0 : u = 0
  · subst hu0
    rw [if_pos (show nI 0 = 0 from rfl)]
    refine ⟨by omega, by omega, ?_⟩
    have r0' : (tsi t 510 top (t.1 506 (va q i))).1 485 i = nI (kd q i) := by rw [tsi_ne (by omega)]; exact r0
    rw [r0']
    refine ⟨by omega, ?_⟩
    rcases hk with hk | hk
    · rw [hk, if_pos (by decide)]
      refine ⟨by omega, rest _ (fun b k hb => ?_) ?_⟩
      · rw [tsi_ne (by omega), tsi_ne (by omega)]
      · rw [if_pos rfl, if_pos hk]
    · rw [hk, if_neg (by decide)]
      refine ⟨by omega, rest _ (fun b k hb => ?_) ?_⟩
      · rw [tsi_ne (by omega), tsi_ne (by omega)]
      · rw [if_pos rfl, if_neg (by omega)]
  · rw [if_neg (nI_ne0 (by omega) (by omega))]
    obtain ⟨sv, hsv, hse⟩ := hsum (by omega)
    obtain ⟨rv, hrv, hre⟩ := hres
    refine ⟨by omega, ?_⟩
    rcases hk with hk | hk
    · rw [hk, if_pos (by decide)]
      refine ⟨by omega, ?_⟩
      rw [hse, hre]
      refine c_35 (by omega) hsv hrv ?_
      simp only [v_66_0, v_66_1, v_66_4, v_66_5, v_66_6, v_66_8, v_66_10, v_66_13, v_66_14, v_66_17, v_66_18, v_66_19, v_66_22, v_66_24, v_66_25, v_66_26, v_66_27, v_66_30, v_66_31, v_66_32, v_66_35, v_66_36, v_66_37, v_66_39, v_66_42, v_66_43, v_66_46, v_66_47, v_66_48, v_66_51, v_66_52, v_66_55, v_66_56, v_66_57, v_66_60, v_66_61, v_66_62, v_66_64, v_66_67, v_66_68, v_66_71, v_66_72, v_66_73, v_66_75, v_66_78, v_66_81, v_66_82, v_66_85, v_66_86, v_66_87, v_66_89, v_66_92, v_66_93, h_66_93, v_66_94, v_66_97, v_66_99, v_66_101, v_66_102, v_66_103, v_66_106, v_66_109, v_66_111, v_66_114, v_66_115, v_66_118, v_66_119, v_66_120, v_66_121, v_66_123, v_66_124, v_66_125, v_66_128, v_66_131, v_66_132, v_66_135, v_66_136, v_66_137, v_66_140, v_66_141, vgi_0, vgi_s, vga_0, vga_s, vset_0, vset_s, vtk_0, vtk_s, vrc_0, vsw_0, vsw_s, List.all_cons, List.all_nil, zc1_i, zc1_r, Bool.and_true, Bool.and_self, true_and, and_true, List.length_cons, List.length_nil, Nat.zero_le, Nat.reduceLeDiff, Nat.reduceAdd, Option.toList_some, List.cons_append, List.nil_append, tg_509, ln_509]
      simp (disch := omega) only [nI_clamp, vinb_n]
      refine ⟨by omega, ?_⟩
      rw [← hre]
      refine rest _ (fun b k hb => tsi_ne (by omega)) ?_
      rw [if_neg hu0, if_pos hk, hse, hre]
    · rw [hk, if_neg (by decide)]
      refine ⟨by omega, ?_⟩
      rw [hse, hre]
      refine c_34 (by omega) hsv hrv ?_
      simp only [v_66_0, v_66_1, v_66_4, v_66_5, v_66_6, v_66_8, v_66_10, v_66_13, v_66_14, v_66_17, v_66_18, v_66_19, v_66_22, v_66_24, v_66_25, v_66_26, v_66_27, v_66_30, v_66_31, v_66_32, v_66_35, v_66_36, v_66_37, v_66_39, v_66_42, v_66_43, v_66_46, v_66_47, v_66_48, v_66_51, v_66_52, v_66_55, v_66_56, v_66_57, v_66_60, v_66_61, v_66_62, v_66_64, v_66_67, v_66_68, v_66_71, v_66_72, v_66_73, v_66_75, v_66_78, v_66_81, v_66_82, v_66_85, v_66_86, v_66_87, v_66_89, v_66_92, v_66_93, h_66_93, v_66_94, v_66_97, v_66_99, v_66_101, v_66_102, v_66_103, v_66_106, v_66_109, v_66_111, v_66_114, v_66_115, v_66_118, v_66_119, v_66_120, v_66_121, v_66_123, v_66_124, v_66_125, v_66_128, v_66_131, v_66_132, v_66_135, v_66_136, v_66_137, v_66_140, v_66_141, vgi_0, vgi_s, vga_0, vga_s, vset_0, vset_s, vtk_0, vtk_s, vrc_0, vsw_0, vsw_s, List.all_cons, List.all_nil, zc1_i, zc1_r, Bool.and_true, Bool.and_self, true_and, and_true, List.length_cons, List.length_nil, Nat.zero_le, Nat.reduceLeDiff, Nat.reduceAdd, Option.toList_some, List.cons_append, List.nil_append, tg_509, ln_509]
      simp (disch := omega) only [nI_clamp, vinb_n]
      refine ⟨by omega, ?_⟩
      rw [← hre]
      refine rest _ (fun b k hb => tsi_ne (by omega)) ?_
      rw [if_neg hu0, if_neg (by omega), hse, hre]
end MEV
