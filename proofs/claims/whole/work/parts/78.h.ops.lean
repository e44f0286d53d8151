/-! change. -/
section OP10
variable {d : Nat} {t t' : T} {F : Option Value → T → Prop}
def sch (t : T) (e n p i : Nat) : T := tsi (tsi (tsi t (252 + 3 * e) n (nI p)) (253 + 3 * e) n (nI i)) (251 + 3 * e) 6 (nI (n + 1))
theorem c_114 {e n p i : Nat} (hd : 1 ≤ d) (he : e < 8) (hn : n < 4) (h6 : t.1 (251 + 3 * e) 6 = nI n) (k : F (some (.int (nI (n + 1)))) (sch t e n p i)) : twc d 114 [.ref (251 + 3 * e), .int (nI p), .int (nI i)] t F := by
  obtain ⟨et, e2t, e2l, e3t, e3l, em7, er7, em8, er8⟩ := ed_dec e he
  have r7 : ∀ t : T, tref t (251 + 3 * e) 7 = 252 + 3 * e := fun t => by unfold tref; rw [em7]; exact er7
  have r8 : ∀ t : T, tref t (251 + 3 * e) 8 = 253 + 3 * e := fun t => by unfold tref; rw [em8]; exact er8
  have a1 : (tsi t (252 + 3 * e) n (nI p)).1 (251 + 3 * e) 6 = nI n := by rw [tsi_ne (by omega)]; exact h6
  have a2 : (tsi (tsi t (252 + 3 * e) n (nI p)) (253 + 3 * e) n (nI i)).1 (251 + 3 * e) 6 = nI n := by rw [tsi_ne (by omega)]; exact a1
  refine ⟨by omega, ?_⟩
  rw [ze_114]
  refine vc_ok none zH_114 31 false _ 114 0 _ _ _ _ ?_
  simp only [v_114_0, v_114_1, v_114_4, v_114_5, v_114_8, v_114_9, v_114_10, v_114_11, v_114_14, v_114_15, v_114_18, v_114_19, v_114_20, v_114_21_int, v_114_21_ref, v_114_22, v_114_25, v_114_26, v_114_27, v_114_30, v_114_31, v_114_34, vgi_0, vgi_s, vga_0, vga_s, vset_0, vset_s, vtk_0, vtk_s, vrc_0, vsw_0, vsw_s, List.all_cons, List.all_nil, zc1_i, zc1_r, Bool.and_true, Bool.and_self, true_and, and_true, List.length_cons, List.length_nil, Nat.zero_le, Nat.reduceLeDiff, Nat.reduceAdd, Nat.reduceLT, et, r7, r8, h6, e2t, e2l, e3t, e3l]
  simp (disch := omega) only [nI_clamp, vinb_n, a1, a2, tsi_eq, nI_1]
  exact ⟨by omega, by omega, k⟩
def mch (t : T) (e n p i : Nat) : T := tsi (tsi (tsi t 501 (4 * e + n) (nI p)) 502 (4 * e + n) (nI i)) 500 e (nI (n + 1))
def Ech (E : Nat → Nat) (p i : Nat) : Nat → Nat := fun k => if k = 6 then E 6 + 1 else if k = 7 + E 6 then p else if k = 11 + E 6 then i else E k
theorem op_change (ev pv iv : Int32) : OP 14 87 [.int ev, .int pv, .int iv] := by
  intro d t hd hI
  obtain ⟨q, m, ru, rc, ec, Es, h1, h2, h3, h4, h5, h6, h7, h8, h9⟩ := id hI
  have hm := h2.le
  obtain ⟨e8, e013, e4814, eEs, eNo⟩ := id h4
  have pm : ∀ p, p < 8 → (if p < 2 then 0 else if p < 6 then 1 else 3) < 4 ∧ (if p < 2 then 0 else if p < 6 then 1 else 3) ≠ 2 := by
    intro p hp
    by_cases a : p < 2
    · rw [if_pos a]; omega
    · rw [if_neg a]
      by_cases b : p < 6
      · rw [if_pos b]; omega
      · rw [if_neg b]; omega
  have bad : (∀ e p i, e < ec → p < 8 → i < m → ev = nI e → pv = nI p → iv = nI i → ¬ fr q i ≤ (if p < 2 then 0 else if p < 6 then 1 else 3)) → twc d 87 [.ref 483, .int ev, .int pv, .int iv] t (fun r' t2 => ∃ v, some (Value.int (-1)) = some (Value.int v) ∧ r' = some (Value.int v) ∧ INV t2) := by
    intro hno
    refine ⟨by omega, ?_⟩
    rw [ze_87]
    refine vc_ok none zH_87 88 false _ 87 0 _ _ _ _ ?_
    simp only [v_87_0, v_87_1, v_87_4, v_87_5, v_87_6, v_87_9, v_87_12, v_87_13, v_87_14, v_87_16, v_87_19, v_87_22, v_87_23, v_87_24, v_87_27, v_87_30, v_87_31, v_87_34, v_87_35, v_87_36, v_87_37, v_87_38, v_87_41, v_87_42, v_87_45, v_87_46, v_87_48, v_87_51, v_87_52, v_87_55, v_87_56, v_87_59, v_87_60, v_87_61, v_87_62, v_87_65, v_87_66, v_87_67, v_87_68, v_87_71, v_87_73, v_87_74, v_87_75, v_87_78, v_87_79, v_87_80, v_87_81, v_87_82, v_87_85, v_87_86, v_87_87, v_87_88, v_87_89, v_87_90, v_87_91, v_87_94, v_87_95, v_87_96, v_87_97, v_87_98, v_87_101, v_87_102, v_87_103, v_87_104, v_87_105, v_87_106, v_87_107, v_87_110, v_87_111, v_87_112, v_87_113, v_87_114, v_87_115, v_87_116, v_87_117, v_87_120, v_87_121, v_87_122, vgi_0, vgi_s, vga_0, vga_s, vset_0, vset_s, vtk_0, vtk_s, vrc_0, vsw_0, vsw_s, List.all_cons, List.all_nil, zc1_i, zc1_r, Bool.and_true, Bool.and_self, true_and, and_true, List.length_cons, List.length_nil, Nat.zero_le, Nat.reduceLeDiff, Nat.reduceAdd, Nat.reduceLT, tg_483, e4814]
    rcases in_cases ev (show ec < 2 ^ 31 by omega) with ⟨e, he, rfl⟩ | ⟨ho, hn⟩
    · rw [if_neg (by rw [li0, nI_ltI (by omega) (by omega)]; omega), if_pos (nI_lt he (by omega))]
      refine c_37 (lo := 0) (hi := 7) (by omega) (by omega) (by omega) (fun p _ hp ep => ?_) (fun _ => ?_)
      · simp only [v_87_0, v_87_1, v_87_4, v_87_5, v_87_6, v_87_9, v_87_12, v_87_13, v_87_14, v_87_16, v_87_19, v_87_22, v_87_23, v_87_24, v_87_27, v_87_30, v_87_31, v_87_34, v_87_35, v_87_36, v_87_37, v_87_38, v_87_41, v_87_42, v_87_45, v_87_46, v_87_48, v_87_51, v_87_52, v_87_55, v_87_56, v_87_59, v_87_60, v_87_61, v_87_62, v_87_65, v_87_66, v_87_67, v_87_68, v_87_71, v_87_73, v_87_74, v_87_75, v_87_78, v_87_79, v_87_80, v_87_81, v_87_82, v_87_85, v_87_86, v_87_87, v_87_88, v_87_89, v_87_90, v_87_91, v_87_94, v_87_95, v_87_96, v_87_97, v_87_98, v_87_101, v_87_102, v_87_103, v_87_104, v_87_105, v_87_106, v_87_107, v_87_110, v_87_111, v_87_112, v_87_113, v_87_114, v_87_115, v_87_116, v_87_117, v_87_120, v_87_121, v_87_122, vgi_0, vgi_s, vga_0, vga_s, vset_0, vset_s, vtk_0, vtk_s, vrc_0, vsw_0, vsw_s, List.all_cons, List.all_nil, zc1_i, zc1_r, Bool.and_true, Bool.and_self, true_and, and_true, List.length_cons, List.length_nil, Nat.zero_le, Nat.reduceLeDiff, Nat.reduceAdd, Nat.reduceLT, Option.toList_some, List.cons_append, List.nil_append, tg_483]
        rw [if_pos trivial]
        refine c_55 (by omega) h2 (fun i hi ei => ?_) (fun _ => ?_)
        · subst ei
          subst ep
          obtain ⟨f1, f2, f3⟩ := h2.fr hi
          have hno := hno e p i he (by omega) hi rfl rfl rfl
          simp only [v_87_0, v_87_1, v_87_4, v_87_5, v_87_6, v_87_9, v_87_12, v_87_13, v_87_14, v_87_16, v_87_19, v_87_22, v_87_23, v_87_24, v_87_27, v_87_30, v_87_31, v_87_34, v_87_35, v_87_36, v_87_37, v_87_38, v_87_41, v_87_42, v_87_45, v_87_46, v_87_48, v_87_51, v_87_52, v_87_55, v_87_56, v_87_59, v_87_60, v_87_61, v_87_62, v_87_65, v_87_66, v_87_67, v_87_68, v_87_71, v_87_73, v_87_74, v_87_75, v_87_78, v_87_79, v_87_80, v_87_81, v_87_82, v_87_85, v_87_86, v_87_87, v_87_88, v_87_89, v_87_90, v_87_91, v_87_94, v_87_95, v_87_96, v_87_97, v_87_98, v_87_101, v_87_102, v_87_103, v_87_104, v_87_105, v_87_106, v_87_107, v_87_110, v_87_111, v_87_112, v_87_113, v_87_114, v_87_115, v_87_116, v_87_117, v_87_120, v_87_121, v_87_122, vgi_0, vgi_s, vga_0, vga_s, vset_0, vset_s, vtk_0, vtk_s, vrc_0, vsw_0, vsw_s, List.all_cons, List.all_nil, zc1_i, zc1_r, Bool.and_true, Bool.and_self, true_and, and_true, List.length_cons, List.length_nil, Nat.zero_le, Nat.reduceLeDiff, Nat.reduceAdd, Nat.reduceLT, Option.toList_some, List.cons_append, List.nil_append, tg_483, tf_483_8, tg_491, ln_491]
          rw [if_neg (by decide)]
          simp (disch := omega) only [nI_clamp, vinb_n, f2, li2, li6, nI_ltI]
          refine ⟨by omega, ?_⟩
          by_cases p2 : p < 2
          · rw [if_pos p2] at hno ⊢
            rw [if_pos (by rw [li0, nI_ltI (by omega) (by omega)]; omega)]
            exact ⟨_, rfl, rfl, hI⟩
          · rw [if_neg p2] at hno ⊢
            by_cases p6 : p < 6
            · rw [if_pos p6] at hno ⊢
              rw [if_pos (by rw [li1, nI_ltI (by omega) (by omega)]; omega)]
              exact ⟨_, rfl, rfl, hI⟩
            · rw [if_neg p6] at hno ⊢
              rw [if_pos (by rw [li3, nI_ltI (by omega) (by omega)]; omega)]
              exact ⟨_, rfl, rfl, hI⟩
        · simp only [v_87_0, v_87_1, v_87_4, v_87_5, v_87_6, v_87_9, v_87_12, v_87_13, v_87_14, v_87_16, v_87_19, v_87_22, v_87_23, v_87_24, v_87_27, v_87_30, v_87_31, v_87_34, v_87_35, v_87_36, v_87_37, v_87_38, v_87_41, v_87_42, v_87_45, v_87_46, v_87_48, v_87_51, v_87_52, v_87_55, v_87_56, v_87_59, v_87_60, v_87_61, v_87_62, v_87_65, v_87_66, v_87_67, v_87_68, v_87_71, v_87_73, v_87_74, v_87_75, v_87_78, v_87_79, v_87_80, v_87_81, v_87_82, v_87_85, v_87_86, v_87_87, v_87_88, v_87_89, v_87_90, v_87_91, v_87_94, v_87_95, v_87_96, v_87_97, v_87_98, v_87_101, v_87_102, v_87_103, v_87_104, v_87_105, v_87_106, v_87_107, v_87_110, v_87_111, v_87_112, v_87_113, v_87_114, v_87_115, v_87_116, v_87_117, v_87_120, v_87_121, v_87_122, vgi_0, vgi_s, vga_0, vga_s, vset_0, vset_s, vtk_0, vtk_s, vrc_0, vsw_0, vsw_s, List.all_cons, List.all_nil, zc1_i, zc1_r, Bool.and_true, Bool.and_self, true_and, and_true, List.length_cons, List.length_nil, Nat.zero_le, Nat.reduceLeDiff, Nat.reduceAdd, Nat.reduceLT, Option.toList_some, List.cons_append, List.nil_append]
          rw [if_pos trivial]
          exact ⟨_, rfl, rfl, hI⟩
      · simp only [v_87_0, v_87_1, v_87_4, v_87_5, v_87_6, v_87_9, v_87_12, v_87_13, v_87_14, v_87_16, v_87_19, v_87_22, v_87_23, v_87_24, v_87_27, v_87_30, v_87_31, v_87_34, v_87_35, v_87_36, v_87_37, v_87_38, v_87_41, v_87_42, v_87_45, v_87_46, v_87_48, v_87_51, v_87_52, v_87_55, v_87_56, v_87_59, v_87_60, v_87_61, v_87_62, v_87_65, v_87_66, v_87_67, v_87_68, v_87_71, v_87_73, v_87_74, v_87_75, v_87_78, v_87_79, v_87_80, v_87_81, v_87_82, v_87_85, v_87_86, v_87_87, v_87_88, v_87_89, v_87_90, v_87_91, v_87_94, v_87_95, v_87_96, v_87_97, v_87_98, v_87_101, v_87_102, v_87_103, v_87_104, v_87_105, v_87_106, v_87_107, v_87_110, v_87_111, v_87_112, v_87_113, v_87_114, v_87_115, v_87_116, v_87_117, v_87_120, v_87_121, v_87_122, vgi_0, vgi_s, vga_0, vga_s, vset_0, vset_s, vtk_0, vtk_s, vrc_0, vsw_0, vsw_s, List.all_cons, List.all_nil, zc1_i, zc1_r, Bool.and_true, Bool.and_self, true_and, and_true, List.length_cons, List.length_nil, Nat.zero_le, Nat.reduceLeDiff, Nat.reduceAdd, Nat.reduceLT, Option.toList_some, List.cons_append, List.nil_append]
        rw [if_neg (by decide)]
        exact ⟨_, rfl, rfl, hI⟩
    · by_cases z : ev < 0
      · rw [if_pos z]
        exact ⟨_, rfl, rfl, hI⟩
      · rw [if_neg z]
        have z2 : ¬ ev < nI ec := by
          rcases ho with ho | ho
          · exact absurd ho z
          · exact Int32.not_lt.mpr ho
        rw [if_neg z2]
        exact ⟨_, rfl, rfl, hI⟩
  have mod : ∀ e p i (t1 : T), e < ec → p < 8 → i < m → fr q i ≤ (if p < 2 then 0 else if p < 6 then 1 else 3) → foI t1 q m → t1.1 483 14 = nI ec → t1.1 500 e = nI (Es e 6) → Es e 6 ≤ 4 → ∀ G : Option Value → T → Prop, (Es e 6 = 4 → G (some (.int (-2))) t1) → (Es e 6 < 4 → G (some (.int (nI (Es e 6 + 1)))) (mch t1 e (Es e 6) p i)) → twc d 87 [.ref 483, .int (nI e), .int (nI p), .int (nI i)] t1 G := by
    intro e p i t1 he hp hi hfr hfo h14 h500 h64 G k0 k1
    obtain ⟨f1, f2, f3⟩ := hfo.fr hi
    refine ⟨by omega, ?_⟩
    rw [ze_87]
    refine vc_ok none zH_87 88 false _ 87 0 _ _ _ _ ?_
    simp only [v_87_0, v_87_1, v_87_4, v_87_5, v_87_6, v_87_9, v_87_12, v_87_13, v_87_14, v_87_16, v_87_19, v_87_22, v_87_23, v_87_24, v_87_27, v_87_30, v_87_31, v_87_34, v_87_35, v_87_36, v_87_37, v_87_38, v_87_41, v_87_42, v_87_45, v_87_46, v_87_48, v_87_51, v_87_52, v_87_55, v_87_56, v_87_59, v_87_60, v_87_61, v_87_62, v_87_65, v_87_66, v_87_67, v_87_68, v_87_71, v_87_73, v_87_74, v_87_75, v_87_78, v_87_79, v_87_80, v_87_81, v_87_82, v_87_85, v_87_86, v_87_87, v_87_88, v_87_89, v_87_90, v_87_91, v_87_94, v_87_95, v_87_96, v_87_97, v_87_98, v_87_101, v_87_102, v_87_103, v_87_104, v_87_105, v_87_106, v_87_107, v_87_110, v_87_111, v_87_112, v_87_113, v_87_114, v_87_115, v_87_116, v_87_117, v_87_120, v_87_121, v_87_122, vgi_0, vgi_s, vga_0, vga_s, vset_0, vset_s, vtk_0, vtk_s, vrc_0, vsw_0, vsw_s, List.all_cons, List.all_nil, zc1_i, zc1_r, Bool.and_true, Bool.and_self, true_and, and_true, List.length_cons, List.length_nil, Nat.zero_le, Nat.reduceLeDiff, Nat.reduceAdd, Nat.reduceLT, tg_483, h14]
    rw [if_neg (by rw [li0, nI_ltI (by omega) (by omega)]; omega), if_pos (nI_lt he (by omega))]
    refine c_37 (lo := 0) (hi := 7) (by omega) (by omega) (by omega) (fun p' _ _ _ => ?_) (fun hno => absurd rfl (hno p (by omega) (by omega)))
    simp only [v_87_0, v_87_1, v_87_4, v_87_5, v_87_6, v_87_9, v_87_12, v_87_13, v_87_14, v_87_16, v_87_19, v_87_22, v_87_23, v_87_24, v_87_27, v_87_30, v_87_31, v_87_34, v_87_35, v_87_36, v_87_37, v_87_38, v_87_41, v_87_42, v_87_45, v_87_46, v_87_48, v_87_51, v_87_52, v_87_55, v_87_56, v_87_59, v_87_60, v_87_61, v_87_62, v_87_65, v_87_66, v_87_67, v_87_68, v_87_71, v_87_73, v_87_74, v_87_75, v_87_78, v_87_79, v_87_80, v_87_81, v_87_82, v_87_85, v_87_86, v_87_87, v_87_88, v_87_89, v_87_90, v_87_91, v_87_94, v_87_95, v_87_96, v_87_97, v_87_98, v_87_101, v_87_102, v_87_103, v_87_104, v_87_105, v_87_106, v_87_107, v_87_110, v_87_111, v_87_112, v_87_113, v_87_114, v_87_115, v_87_116, v_87_117, v_87_120, v_87_121, v_87_122, vgi_0, vgi_s, vga_0, vga_s, vset_0, vset_s, vtk_0, vtk_s, vrc_0, vsw_0, vsw_s, List.all_cons, List.all_nil, zc1_i, zc1_r, Bool.and_true, Bool.and_self, true_and, and_true, List.length_cons, List.length_nil, Nat.zero_le, Nat.reduceLeDiff, Nat.reduceAdd, Nat.reduceLT, Option.toList_some, List.cons_append, List.nil_append, tg_483]
    rw [if_pos trivial]
    refine c_55 (by omega) hfo (fun j hj ej => ?_) (fun hno => absurd rfl (hno i hi))
    simp only [v_87_0, v_87_1, v_87_4, v_87_5, v_87_6, v_87_9, v_87_12, v_87_13, v_87_14, v_87_16, v_87_19, v_87_22, v_87_23, v_87_24, v_87_27, v_87_30, v_87_31, v_87_34, v_87_35, v_87_36, v_87_37, v_87_38, v_87_41, v_87_42, v_87_45, v_87_46, v_87_48, v_87_51, v_87_52, v_87_55, v_87_56, v_87_59, v_87_60, v_87_61, v_87_62, v_87_65, v_87_66, v_87_67, v_87_68, v_87_71, v_87_73, v_87_74, v_87_75, v_87_78, v_87_79, v_87_80, v_87_81, v_87_82, v_87_85, v_87_86, v_87_87, v_87_88, v_87_89, v_87_90, v_87_91, v_87_94, v_87_95, v_87_96, v_87_97, v_87_98, v_87_101, v_87_102, v_87_103, v_87_104, v_87_105, v_87_106, v_87_107, v_87_110, v_87_111, v_87_112, v_87_113, v_87_114, v_87_115, v_87_116, v_87_117, v_87_120, v_87_121, v_87_122, vgi_0, vgi_s, vga_0, vga_s, vset_0, vset_s, vtk_0, vtk_s, vrc_0, vsw_0, vsw_s, List.all_cons, List.all_nil, zc1_i, zc1_r, Bool.and_true, Bool.and_self, true_and, and_true, List.length_cons, List.length_nil, Nat.zero_le, Nat.reduceLeDiff, Nat.reduceAdd, Nat.reduceLT, Option.toList_some, List.cons_append, List.nil_append, tg_483, tf_483_8, tg_491, ln_491, tf_483_19, tg_500, ln_500, tf_483_20, tg_501, ln_501, tf_483_21, tg_502, ln_502]
    rw [if_neg (by decide)]
    simp (disch := omega) only [nI_clamp, vinb_n, f2, h500, li2, li6, nI_ltI]
    refine ⟨by omega, ?_⟩
    have a1 : (tsi t1 501 (4 * e + Es e 6) (nI p)).1 500 e = nI (Es e 6) := by rw [tsi_ne (by omega)]; exact h500
    have a2 : (tsi (tsi t1 501 (4 * e + Es e 6) (nI p)) 502 (4 * e + Es e 6) (nI i)).1 500 e = nI (Es e 6) := by rw [tsi_ne (by omega)]; exact a1
    by_cases p2 : p < 2
    · rw [if_pos p2] at hfr ⊢
      rw [if_neg (by rw [li0, nI_ltI (by omega) (by omega)]; omega)]
      refine ⟨by omega, ?_⟩
      by_cases z4 : Es e 6 = 4
      · rw [if_pos (by rw [z4]; rfl)]
        exact k0 z4
      · rw [if_neg (by rw [li4, nI_eq (by omega) (by omega)]; exact z4)]
        simp (disch := omega) only [li4, pk_mul, nI_add, nI_clamp, vinb_n, a1, a2, tsi_eq, nI_1]
        exact ⟨by omega, by omega, by omega, by omega, by omega, by omega, by omega, k1 (by omega)⟩
    · rw [if_neg p2] at hfr ⊢
      by_cases p6 : p < 6
      · rw [if_pos p6] at hfr ⊢
        rw [if_neg (by rw [li1, nI_ltI (by omega) (by omega)]; omega)]
        refine ⟨by omega, ?_⟩
        by_cases z4 : Es e 6 = 4
        · rw [if_pos (by rw [z4]; rfl)]
          exact k0 z4
        · rw [if_neg (by rw [li4, nI_eq (by omega) (by omega)]; exact z4)]
          simp (disch := omega) only [li4, pk_mul, nI_add, nI_clamp, vinb_n, a1, a2, tsi_eq, nI_1]
          exact ⟨by omega, by omega, by omega, by omega, by omega, by omega, by omega, k1 (by omega)⟩
      · rw [if_neg p6] at hfr ⊢
        rw [if_neg (by rw [li3, nI_ltI (by omega) (by omega)]; omega)]
        refine ⟨by omega, ?_⟩
        by_cases z4 : Es e 6 = 4
        · rw [if_pos (by rw [z4]; rfl)]
          exact k0 z4
        · rw [if_neg (by rw [li4, nI_eq (by omega) (by omega)]; exact z4)]
          simp (disch := omega) only [li4, pk_mul, nI_add, nI_clamp, vinb_n, a1, a2, tsi_eq, nI_1]
          exact ⟨by omega, by omega, by omega, by omega, by omega, by omega, by omega, k1 (by omega)⟩
  have last : ∀ e p i, e < ec → p < 8 → i < m → fr q i ≤ (if p < 2 then 0 else if p < 6 then 1 else 3) → ev = nI e → pv = nI p → iv = nI i → (Es e 6 = 4 → twc d 87 [.ref 483, .int ev, .int pv, .int iv] t (fun r' t2 => ∃ v, some (Value.int (-2)) = some (Value.int v) ∧ r' = some (Value.int v) ∧ INV t2)) ∧ (Es e 6 ≠ 4 → twc (d - 1) 114 [.ref (251 + 3 * e), .int pv, .int iv] t (fun r t1 => r = some (.int (nI (Es e 6 + 1))) ∧ twc d 87 [.ref 483, .int ev, .int pv, .int iv] t1 (fun r' t2 => ∃ v, some (Value.int (nI (Es e 6 + 1))) = some (Value.int v) ∧ r' = some (Value.int v) ∧ INV t2))) := by
    rintro e p i he hp hi hfr rfl rfl rfl
    obtain ⟨w1, w2, w3⟩ := eEs e he
    have e64 : Es e 6 ≤ 4 := w1.2.2.2.2.2.2.2.2.1
    constructor
    · intro z4
      exact mod e p i t he hp hi hfr h2 e4814 w3.2.2.2.2.1 e64 _ (fun _ => ⟨_, rfl, rfl, hI⟩) (fun h => absurd h (by omega))
    · intro z4
      have elt : Es e 6 < 4 := by omega
      have i1 : ∀ b k, ¬ (251 + 3 * e ≤ b ∧ b ≤ 253 + 3 * e) → (sch t e (Es e 6) p i).1 b k = t.1 b k := fun b k a1 => by
        unfold sch
        rw [tsi_ne (by omega), tsi_ne (by omega), tsi_ne (by omega)]
      refine c_114 (by omega) (by omega) elt w2.2.2.2.2.2.2.1 ⟨rfl, ?_⟩
      refine mod e p i _ he hp hi hfr (h2.k (fun b k a => i1 b k (by omega)) (i1 _ _ (by omega))) (by rw [i1 _ _ (by omega)]; exact e4814) (by rw [i1 _ _ (by omega)]; exact w3.2.2.2.2.1) e64 _ (fun h => absurd h z4) (fun _ => ⟨_, rfl, rfl, ?_⟩)
      have i2 : ∀ b k, ¬ (251 + 3 * e ≤ b ∧ b ≤ 253 + 3 * e) → ¬ ((b = 501 ∨ b = 502) ∧ k = 4 * e + Es e 6) → ¬ (b = 500 ∧ k = e) → (mch (sch t e (Es e 6) p i) e (Es e 6) p i).1 b k = t.1 b k := fun b k a1 a2 a3 => by
        unfold mch
        rw [tsi_ne (by omega), tsi_ne (by omega), tsi_ne (by omega)]; exact i1 b k a1
      have i3 : ∀ b k, 251 + 3 * e ≤ b → b ≤ 253 + 3 * e → (mch (sch t e (Es e 6) p i) e (Es e 6) p i).1 b k = (sch t e (Es e 6) p i).1 b k := fun b k a1 a2 => by
        unfold mch
        rw [tsi_ne (by omega), tsi_ne (by omega), tsi_ne (by omega)]
      have s1 : ∀ k, k ≠ 6 → (sch t e (Es e 6) p i).1 (251 + 3 * e) k = t.1 (251 + 3 * e) k := fun k hk => by
        unfold sch
        rw [tsi_ne (by omega), tsi_ne (by omega), tsi_ne (by omega)]
      have E6 : Ech (Es e) p i 6 = Es e 6 + 1 := if_pos rfl
      have Ek : ∀ k, k < 6 → Ech (Es e) p i k = Es e k := fun k hk => by unfold Ech; rw [if_neg (by omega), if_neg (by omega), if_neg (by omega)]
      have Ep : ∀ j, j < Es e 6 + 1 → Ech (Es e) p i (7 + j) = if j = Es e 6 then p else Es e (7 + j) := fun j hj => by
        unfold Ech
        rw [if_neg (by omega)]
        by_cases z : j = Es e 6
        · rw [if_pos (by omega), if_pos z]
        · rw [if_neg (by omega), if_neg z, if_neg (by omega)]
      have Ei : ∀ j, j < Es e 6 + 1 → Ech (Es e) p i (11 + j) = if j = Es e 6 then i else Es e (11 + j) := fun j hj => by
        unfold Ech
        rw [if_neg (by omega), if_neg (by omega)]
        by_cases z : j = Es e 6
        · rw [if_pos (by omega), if_pos z]
        · rw [if_neg (by omega), if_neg z]
      obtain ⟨v1, v2, v3, v4, v5, v6, v7, v8, v9, v10⟩ := w1
      obtain ⟨a1, a2, a3, a4, a5, a6, a7, a8⟩ := w2
      obtain ⟨m1, m2, m3, m4, m5, m6⟩ := w3
      refine hI.upd (q' := q) (m' := m) (ru' := ru) (rc' := rc) (ec' := ec) (Es' := Ead Es e (Ech (Es e) p i)) (fun b k b1 b2 b3 => i2 b k (by omega) (by omega) (by omega)) rfl (h2.k (fun b k a => i2 b k (by omega) (by omega) (by omega)) (i2 _ _ (by omega) (by omega) (by omega))) (h3.k (fun b k a => i2 b k (by omega) (by omega) (by omega)) (i2 _ _ (by omega) (by omega) (by omega))) ⟨e8, by rw [i2 _ _ (by omega) (by omega) (by omega)]; exact e013, by rw [i2 _ _ (by omega) (by omega) (by omega)]; exact e4814, fun e' he' => ?_, fun e' he' he8 => ?_⟩
      · by_cases z : e' = e
        · subst z
          rw [Ead_e]
          refine ⟨⟨by rw [Ek 0 (by omega)]; exact v1, by rw [Ek 1 (by omega)]; exact v2, by rw [Ek 2 (by omega)]; exact v3, by rw [Ek 2 (by omega), Ek 3 (by omega)]; exact v4, by rw [Ek 3 (by omega)]; exact v5, by rw [Ek 4 (by omega)]; exact v6, by rw [Ek 5 (by omega)]; exact v7, by rw [Ek 5 (by omega)]; exact v8, by rw [E6]; omega, fun j hj => ?_⟩, ⟨by rw [i3 _ _ (by omega) (by omega), s1 _ (by omega), Ek 0 (by omega)]; exact a1, by rw [i3 _ _ (by omega) (by omega), s1 _ (by omega), Ek 1 (by omega)]; exact a2, by rw [i3 _ _ (by omega) (by omega), s1 _ (by omega), Ek 2 (by omega)]; exact a3, by rw [i3 _ _ (by omega) (by omega), s1 _ (by omega), Ek 3 (by omega)]; exact a4, by rw [i3 _ _ (by omega) (by omega), s1 _ (by omega), Ek 4 (by omega)]; exact a5, by rw [i3 _ _ (by omega) (by omega), s1 _ (by omega), Ek 5 (by omega)]; exact a6, by rw [i3 _ _ (by omega) (by omega), E6]; unfold sch; rw [tsi_eq], fun j hj => ?_⟩, ⟨by rw [i2 _ _ (by omega) (by omega) (by omega), Ek 0 (by omega)]; exact m1, by rw [i2 _ _ (by omega) (by omega) (by omega), Ek 1 (by omega)]; exact m2, by rw [i2 _ _ (by omega) (by omega) (by omega), Ek 2 (by omega), Ek 3 (by omega), Ek 4 (by omega)]; exact m3, by rw [i2 _ _ (by omega) (by omega) (by omega), Ek 5 (by omega)]; exact m4, by rw [E6]; unfold mch; rw [tsi_eq], fun j hj => ?_⟩⟩
          · rw [E6] at hj
            rw [Ep j hj, Ei j hj]
            by_cases z : j = Es e' 6
            · rw [if_pos z, if_pos z]; exact ⟨hp, hi, hfr⟩
            · rw [if_neg z, if_neg z]; exact v10 j (by omega)
          · rw [E6] at hj
            rw [Ep j hj, Ei j hj, i3 _ _ (by omega) (by omega), i3 _ _ (by omega) (by omega)]
            unfold sch
            by_cases z : j = Es e' 6
            · rw [if_pos z, if_pos z, z]
              refine ⟨?_, ?_⟩
              · rw [tsi_ne (by omega), tsi_ne (by omega), tsi_eq]
              · rw [tsi_ne (by omega), tsi_eq]
            · rw [if_neg z, if_neg z, tsi_ne (by omega), tsi_ne (by omega), tsi_ne (by omega), tsi_ne (by omega), tsi_ne (by omega), tsi_ne (by omega)]; exact a8 j (by omega)
          · rw [E6] at hj
            rw [Ep j hj, Ei j hj]
            by_cases z : j = Es e' 6
            · rw [if_pos z, if_pos z, z]
              unfold mch
              refine ⟨?_, ?_⟩
              · rw [tsi_ne (by omega), tsi_ne (by omega), tsi_eq]
              · rw [tsi_ne (by omega), tsi_eq]
            · rw [if_neg z, if_neg z, i2 _ _ (by omega) (by omega) (by omega), i2 _ _ (by omega) (by omega) (by omega)]; exact m6 j (by omega)
        · rw [Ead_o z]
          obtain ⟨w1, w2, w3⟩ := eEs e' he'
          have e64' : Es e' 6 ≤ 4 := w1.2.2.2.2.2.2.2.2.1
          obtain ⟨a1, a2, a3, a4, a5, a6, a7, a8⟩ := w2
          obtain ⟨m1, m2, m3, m4, m5, m6⟩ := w3
          exact ⟨w1, ⟨by rw [i2 _ _ (by omega) (by omega) (by omega)]; exact a1, by rw [i2 _ _ (by omega) (by omega) (by omega)]; exact a2, by rw [i2 _ _ (by omega) (by omega) (by omega)]; exact a3, by rw [i2 _ _ (by omega) (by omega) (by omega)]; exact a4, by rw [i2 _ _ (by omega) (by omega) (by omega)]; exact a5, by rw [i2 _ _ (by omega) (by omega) (by omega)]; exact a6, by rw [i2 _ _ (by omega) (by omega) (by omega)]; exact a7, fun j hj => by rw [i2 _ _ (by omega) (by omega) (by omega), i2 _ _ (by omega) (by omega) (by omega)]; exact a8 j hj⟩, ⟨by rw [i2 _ _ (by omega) (by omega) (by omega)]; exact m1, by rw [i2 _ _ (by omega) (by omega) (by omega)]; exact m2, by rw [i2 _ _ (by omega) (by omega) (by omega)]; exact m3, by rw [i2 _ _ (by omega) (by omega) (by omega)]; exact m4, by rw [i2 _ _ (by omega) (by omega) (by omega)]; exact m5, fun j hj => by rw [i2 _ _ (by omega) (by omega) (by omega), i2 _ _ (by omega) (by omega) (by omega)]; exact m6 j hj⟩⟩
      · rw [i2 _ _ (by omega) (by omega) (by omega), i2 _ _ (by omega) (by omega) (by omega)]; exact eNo e' he' he8
  refine ⟨by omega, ?_⟩
  rw [ze_14]
  refine vc_ok none zH_14 45 false _ 14 0 _ _ _ _ ?_
  simp only [v_14_0, v_14_1, v_14_2, v_14_5, v_14_8, v_14_11, v_14_12, v_14_14, v_14_17, v_14_20, v_14_21, v_14_24, v_14_25, v_14_26, v_14_29, v_14_32, v_14_35, v_14_36, v_14_37, v_14_38, v_14_41, v_14_42, v_14_43, v_14_46, v_14_47, v_14_50, v_14_52, v_14_55, v_14_56, v_14_59, v_14_60, v_14_61, v_14_62, v_14_63, v_14_66, vgi_0, vgi_s, vga_0, vga_s, vset_0, vset_s, vtk_0, vtk_s, vrc_0, vsw_0, vsw_s, List.all_cons, List.all_nil, zc1_i, zc1_r, Bool.and_true, Bool.and_self, true_and, and_true, List.length_cons, List.length_nil, Nat.zero_le, Nat.reduceLeDiff, Nat.reduceAdd, Nat.reduceLT, tg_0, e013]
  refine c_22 (by omega) (by omega) (fun e he ee => ?_) (fun hno => ?_)
  · simp only [v_14_0, v_14_1, v_14_2, v_14_5, v_14_8, v_14_11, v_14_12, v_14_14, v_14_17, v_14_20, v_14_21, v_14_24, v_14_25, v_14_26, v_14_29, v_14_32, v_14_35, v_14_36, v_14_37, v_14_38, v_14_41, v_14_42, v_14_43, v_14_46, v_14_47, v_14_50, v_14_52, v_14_55, v_14_56, v_14_59, v_14_60, v_14_61, v_14_62, v_14_63, v_14_66, vgi_0, vgi_s, vga_0, vga_s, vset_0, vset_s, vtk_0, vtk_s, vrc_0, vsw_0, vsw_s, List.all_cons, List.all_nil, zc1_i, zc1_r, Bool.and_true, Bool.and_self, true_and, and_true, List.length_cons, List.length_nil, Nat.zero_le, Nat.reduceLeDiff, Nat.reduceAdd, Nat.reduceLT, Option.toList_some, List.cons_append, List.nil_append]
    rw [if_neg (by decide)]
    refine c_22 (L := 8) (by omega) (by omega) (fun p hp ep => ?_) (fun hno => ?_)
    · simp only [v_14_0, v_14_1, v_14_2, v_14_5, v_14_8, v_14_11, v_14_12, v_14_14, v_14_17, v_14_20, v_14_21, v_14_24, v_14_25, v_14_26, v_14_29, v_14_32, v_14_35, v_14_36, v_14_37, v_14_38, v_14_41, v_14_42, v_14_43, v_14_46, v_14_47, v_14_50, v_14_52, v_14_55, v_14_56, v_14_59, v_14_60, v_14_61, v_14_62, v_14_63, v_14_66, vgi_0, vgi_s, vga_0, vga_s, vset_0, vset_s, vtk_0, vtk_s, vrc_0, vsw_0, vsw_s, List.all_cons, List.all_nil, zc1_i, zc1_r, Bool.and_true, Bool.and_self, true_and, and_true, List.length_cons, List.length_nil, Nat.zero_le, Nat.reduceLeDiff, Nat.reduceAdd, Nat.reduceLT, Option.toList_some, List.cons_append, List.nil_append, tg_0, tf_0_1, tg_2]
      rw [if_neg (by decide), ep]
      refine c_24 (by omega) (by omega) ?_
      simp only [v_14_0, v_14_1, v_14_2, v_14_5, v_14_8, v_14_11, v_14_12, v_14_14, v_14_17, v_14_20, v_14_21, v_14_24, v_14_25, v_14_26, v_14_29, v_14_32, v_14_35, v_14_36, v_14_37, v_14_38, v_14_41, v_14_42, v_14_43, v_14_46, v_14_47, v_14_50, v_14_52, v_14_55, v_14_56, v_14_59, v_14_60, v_14_61, v_14_62, v_14_63, v_14_66, vgi_0, vgi_s, vga_0, vga_s, vset_0, vset_s, vtk_0, vtk_s, vrc_0, vsw_0, vsw_s, List.all_cons, List.all_nil, zc1_i, zc1_r, Bool.and_true, Bool.and_self, true_and, and_true, List.length_cons, List.length_nil, Nat.zero_le, Nat.reduceLeDiff, Nat.reduceAdd, Nat.reduceLT, Option.toList_some, List.cons_append, List.nil_append, tg_0, tf_0_1, tg_2]
      refine c_134 (by omega) h2 (pm p hp).1 (pm p hp).2 (fun i hi ei hl => ?_) (fun hno => ?_)
      · have la := last e p i he hp hi hl ee ep ei
        obtain ⟨w1, w2, w3⟩ := eEs e he
        have e64 : Es e 6 ≤ 4 := w1.2.2.2.2.2.2.2.2.1
        have h66 := w2.2.2.2.2.2.2.1
        have et := ed_tag (show e < 8 by omega)
        rw [ep] at la
        subst ee
        simp only [v_14_0, v_14_1, v_14_2, v_14_5, v_14_8, v_14_11, v_14_12, v_14_14, v_14_17, v_14_20, v_14_21, v_14_24, v_14_25, v_14_26, v_14_29, v_14_32, v_14_35, v_14_36, v_14_37, v_14_38, v_14_41, v_14_42, v_14_43, v_14_46, v_14_47, v_14_50, v_14_52, v_14_55, v_14_56, v_14_59, v_14_60, v_14_61, v_14_62, v_14_63, v_14_66, vgi_0, vgi_s, vga_0, vga_s, vset_0, vset_s, vtk_0, vtk_s, vrc_0, vsw_0, vsw_s, List.all_cons, List.all_nil, zc1_i, zc1_r, Bool.and_true, Bool.and_self, true_and, and_true, List.length_cons, List.length_nil, Nat.zero_le, Nat.reduceLeDiff, Nat.reduceAdd, Nat.reduceLT, Option.toList_some, List.cons_append, List.nil_append, tg_0, tf_0_4, tg_57, ln_57]
        rw [if_neg (by decide)]
        simp (disch := omega) only [nI_clamp, vinb_n, tf_57, et, h66, li4, nI_eq]
        refine ⟨by omega, trivial, ?_⟩
        by_cases z4 : Es e 6 = 4
        · rw [if_pos z4]
          exact la.1 z4
        · rw [if_neg z4]
          refine ⟨by omega, trivial, ?_⟩
          refine twc.mono (la.2 z4) (fun r t1 hr => ?_)
          obtain ⟨rfl, hr⟩ := hr
          simp only [v_14_0, v_14_1, v_14_2, v_14_5, v_14_8, v_14_11, v_14_12, v_14_14, v_14_17, v_14_20, v_14_21, v_14_24, v_14_25, v_14_26, v_14_29, v_14_32, v_14_35, v_14_36, v_14_37, v_14_38, v_14_41, v_14_42, v_14_43, v_14_46, v_14_47, v_14_50, v_14_52, v_14_55, v_14_56, v_14_59, v_14_60, v_14_61, v_14_62, v_14_63, v_14_66, vgi_0, vgi_s, vga_0, vga_s, vset_0, vset_s, vtk_0, vtk_s, vrc_0, vsw_0, vsw_s, List.all_cons, List.all_nil, zc1_i, zc1_r, Bool.and_true, Bool.and_self, true_and, and_true, List.length_cons, List.length_nil, Nat.zero_le, Nat.reduceLeDiff, Nat.reduceAdd, Nat.reduceLT, Option.toList_some, List.cons_append, List.nil_append]
          exact hr
      · simp only [v_14_0, v_14_1, v_14_2, v_14_5, v_14_8, v_14_11, v_14_12, v_14_14, v_14_17, v_14_20, v_14_21, v_14_24, v_14_25, v_14_26, v_14_29, v_14_32, v_14_35, v_14_36, v_14_37, v_14_38, v_14_41, v_14_42, v_14_43, v_14_46, v_14_47, v_14_50, v_14_52, v_14_55, v_14_56, v_14_59, v_14_60, v_14_61, v_14_62, v_14_63, v_14_66, vgi_0, vgi_s, vga_0, vga_s, vset_0, vset_s, vtk_0, vtk_s, vrc_0, vsw_0, vsw_s, List.all_cons, List.all_nil, zc1_i, zc1_r, Bool.and_true, Bool.and_self, true_and, and_true, List.length_cons, List.length_nil, Nat.zero_le, Nat.reduceLeDiff, Nat.reduceAdd, Nat.reduceLT, Option.toList_some, List.cons_append, List.nil_append]
        rw [if_pos trivial, ← ep]
        refine bad (fun e' p' i _ hp' hi _ ep' ei => ?_)
        have : p = p' := nI_inj (by omega) (by omega) (ep.symm.trans ep')
        subst this
        exact hno i hi ei
    · simp only [v_14_0, v_14_1, v_14_2, v_14_5, v_14_8, v_14_11, v_14_12, v_14_14, v_14_17, v_14_20, v_14_21, v_14_24, v_14_25, v_14_26, v_14_29, v_14_32, v_14_35, v_14_36, v_14_37, v_14_38, v_14_41, v_14_42, v_14_43, v_14_46, v_14_47, v_14_50, v_14_52, v_14_55, v_14_56, v_14_59, v_14_60, v_14_61, v_14_62, v_14_63, v_14_66, vgi_0, vgi_s, vga_0, vga_s, vset_0, vset_s, vtk_0, vtk_s, vrc_0, vsw_0, vsw_s, List.all_cons, List.all_nil, zc1_i, zc1_r, Bool.and_true, Bool.and_self, true_and, and_true, List.length_cons, List.length_nil, Nat.zero_le, Nat.reduceLeDiff, Nat.reduceAdd, Nat.reduceLT, Option.toList_some, List.cons_append, List.nil_append]
      rw [if_pos trivial]
      exact bad (fun e p i _ hp _ _ ep => absurd ep (hno p hp))
  · simp only [v_14_0, v_14_1, v_14_2, v_14_5, v_14_8, v_14_11, v_14_12, v_14_14, v_14_17, v_14_20, v_14_21, v_14_24, v_14_25, v_14_26, v_14_29, v_14_32, v_14_35, v_14_36, v_14_37, v_14_38, v_14_41, v_14_42, v_14_43, v_14_46, v_14_47, v_14_50, v_14_52, v_14_55, v_14_56, v_14_59, v_14_60, v_14_61, v_14_62, v_14_63, v_14_66, vgi_0, vgi_s, vga_0, vga_s, vset_0, vset_s, vtk_0, vtk_s, vrc_0, vsw_0, vsw_s, List.all_cons, List.all_nil, zc1_i, zc1_r, Bool.and_true, Bool.and_self, true_and, and_true, List.length_cons, List.length_nil, Nat.zero_le, Nat.reduceLeDiff, Nat.reduceAdd, Nat.reduceLT, Option.toList_some, List.cons_append, List.nil_append]
    rw [if_pos trivial]
    exact bad (fun e p i he _ _ ee => absurd ee (hno e he))
end OP10
