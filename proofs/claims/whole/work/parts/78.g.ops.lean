/-! edge. -/
section OP9
variable {d : Nat} {t t' : T} {F : Option Value → T → Prop}
def tld (x : Nat) : Prop := (2 ≤ x % 16 ∧ x % 16 < 6) ∨ x % 16 = 15 ∨ (6 ≤ x % 16 ∧ x % 16 < 8 ∧ 2 ≤ x / 16 % 16 ∧ x / 16 % 16 < 6)
theorem wh_b : ∀ x, x < 512 → nI x &&& 15 = nI (x % 16) ∧ (nI x >>> (4 &&& 31)) &&& 15 = nI (x / 16 % 16) := by decide +kernel
theorem wh_r : ∀ x, x < 512 → nI x - nI x / 16 * 16 = nI (x % 16) ∧ nI x / 16 - nI x / 16 / 16 * 16 = nI (x / 16 % 16) := by decide +kernel
theorem c_112 {wv : Int32} (hd : 2 ≤ d) (k1 : ∀ x, x < 512 → wv = nI x → tld x → F (some (.int 1)) t) (k0 : (∀ x, x < 512 → wv = nI x → ¬ tld x) → F (some (.int 0)) t) : twc d 112 [.int wv] t F := by
  refine ⟨by omega, ?_⟩
  rw [ze_112]
  refine vc_ok none zH_112 52 false _ 112 0 _ _ _ _ ?_
  simp only [v_112_0, v_112_1, v_112_4, v_112_7, v_112_10, v_112_11, v_112_12, v_112_13, v_112_15, v_112_16, v_112_17, v_112_18, v_112_19, v_112_20, v_112_22, v_112_23, v_112_24, v_112_25, v_112_27, v_112_30, v_112_31, v_112_33, v_112_36, v_112_37, v_112_38, v_112_41, v_112_42, v_112_45, v_112_46, v_112_47, v_112_48, v_112_50, v_112_53, v_112_54, v_112_55, v_112_58, v_112_59, v_112_61, v_112_64, v_112_65, v_112_68, v_112_69, vgi_0, vgi_s, vga_0, vga_s, vset_0, vset_s, vtk_0, vtk_s, vrc_0, vsw_0, vsw_s, List.all_cons, List.all_nil, zc1_i, zc1_r, Bool.and_true, Bool.and_self, true_and, and_true, List.length_cons, List.length_nil, Nat.zero_le, Nat.reduceLeDiff, Nat.reduceAdd, Nat.reduceLT]
  refine c_22 (L := 512) (by omega) (by omega) (fun x hx ex => ?_) (fun hno => ?_)
  · subst ex
    obtain ⟨b1, b2⟩ := wh_b x hx
    have only0 : ¬ tld x → F (some (.int 0)) t := fun h => k0 (fun y hy ey => by
      have : x = y := nI_inj (by omega) (by omega) ey
      subst this; exact h)
    simp only [v_112_0, v_112_1, v_112_4, v_112_7, v_112_10, v_112_11, v_112_12, v_112_13, v_112_15, v_112_16, v_112_17, v_112_18, v_112_19, v_112_20, v_112_22, v_112_23, v_112_24, v_112_25, v_112_27, v_112_30, v_112_31, v_112_33, v_112_36, v_112_37, v_112_38, v_112_41, v_112_42, v_112_45, v_112_46, v_112_47, v_112_48, v_112_50, v_112_53, v_112_54, v_112_55, v_112_58, v_112_59, v_112_61, v_112_64, v_112_65, v_112_68, v_112_69, vgi_0, vgi_s, vga_0, vga_s, vset_0, vset_s, vtk_0, vtk_s, vrc_0, vsw_0, vsw_s, List.all_cons, List.all_nil, zc1_i, zc1_r, Bool.and_true, Bool.and_self, true_and, and_true, List.length_cons, List.length_nil, Nat.zero_le, Nat.reduceLeDiff, Nat.reduceAdd, Nat.reduceLT, Option.toList_some, List.cons_append, List.nil_append]
    rw [if_neg (by decide), b1, b2]
    have l1 : x % 16 < 16 := by omega
    have l2 : x / 16 % 16 < 16 := by omega
    simp (disch := omega) only [li6, li15, li2, li8, nI_ltI, nI_eq]
    by_cases p6 : x % 16 < 6
    · rw [if_pos p6]
      by_cases p2 : x % 16 < 2
      · rw [if_pos p2]
        exact ⟨Or.inl trivial, only0 (by unfold tld; omega)⟩
      · rw [if_neg p2]
        exact ⟨Or.inr trivial, k1 x hx rfl (Or.inl ⟨by omega, p6⟩)⟩
    · rw [if_neg p6]
      by_cases p15 : x % 16 = 15
      · rw [if_pos p15, if_neg (by omega)]
        exact ⟨Or.inr trivial, k1 x hx rfl (Or.inr (Or.inl p15))⟩
      · rw [if_neg p15]
        by_cases p8 : x % 16 < 8
        · rw [if_pos p8]
          by_cases q2 : x / 16 % 16 < 2
          · rw [if_pos q2]
            exact ⟨Or.inl trivial, only0 (by unfold tld; omega)⟩
          · rw [if_neg q2]
            by_cases q6 : x / 16 % 16 < 6
            · rw [if_pos q6]
              exact ⟨Or.inr trivial, k1 x hx rfl (Or.inr (Or.inr ⟨by omega, p8, by omega, q6⟩))⟩
            · rw [if_neg q6]
              exact ⟨Or.inl trivial, only0 (by unfold tld; omega)⟩
        · rw [if_neg p8]
          exact ⟨Or.inl trivial, only0 (by unfold tld; omega)⟩
  · simp only [v_112_0, v_112_1, v_112_4, v_112_7, v_112_10, v_112_11, v_112_12, v_112_13, v_112_15, v_112_16, v_112_17, v_112_18, v_112_19, v_112_20, v_112_22, v_112_23, v_112_24, v_112_25, v_112_27, v_112_30, v_112_31, v_112_33, v_112_36, v_112_37, v_112_38, v_112_41, v_112_42, v_112_45, v_112_46, v_112_47, v_112_48, v_112_50, v_112_53, v_112_54, v_112_55, v_112_58, v_112_59, v_112_61, v_112_64, v_112_65, v_112_68, v_112_69, vgi_0, vgi_s, vga_0, vga_s, vset_0, vset_s, vtk_0, vtk_s, vrc_0, vsw_0, vsw_s, List.all_cons, List.all_nil, zc1_i, zc1_r, Bool.and_true, Bool.and_self, true_and, and_true, List.length_cons, List.length_nil, Nat.zero_le, Nat.reduceLeDiff, Nat.reduceAdd, Nat.reduceLT, Option.toList_some, List.cons_append, List.nil_append]
    rw [if_pos trivial]
    exact ⟨Or.inl trivial, k0 (fun x hx ex => absurd ex (hno x hx))⟩
def ste (t : T) (a f g x i : Nat) : T := tsi (tsi (tsi (tsi (tsi (tsi t a 0 (nI f)) a 1 (nI g)) a 2 (nI (x % 16))) a 3 (nI (x / 16 % 16))) a 4 (nI (x / 256))) a 5 (nI i)
theorem c_113 {a f g x i : Nat} (hd : 1 ≤ d) (ha : vtag a = 11) (hx : x < 512) (k : F none (ste t a f g x i)) : twc d 113 [.ref a, .int (nI f), .int (nI g), .int (nI x), .int (nI i)] t F := by
  obtain ⟨b1, b2⟩ := wh_b x hx
  refine ⟨by omega, ?_⟩
  rw [ze_113]
  refine vc_ok none zH_113 40 false _ 113 0 _ _ _ _ ?_
  simp only [v_113_0, v_113_1, v_113_2, v_113_5, v_113_6, v_113_7, v_113_10, v_113_11, v_113_12, v_113_14, v_113_15, v_113_18, v_113_19, v_113_20, v_113_21, v_113_22, v_113_24, v_113_25, v_113_28, v_113_29, v_113_30, v_113_33, v_113_36, v_113_37, v_113_40, v_113_41, v_113_44, v_113_45, v_113_47, v_113_50, vgi_0, vgi_s, vga_0, vga_s, vset_0, vset_s, vtk_0, vtk_s, vrc_0, vsw_0, vsw_s, List.all_cons, List.all_nil, zc1_i, zc1_r, Bool.and_true, Bool.and_self, true_and, and_true, List.length_cons, List.length_nil, Nat.zero_le, Nat.reduceLeDiff, Nat.reduceAdd, Nat.reduceLT, ha]
  rw [b1, b2, show (256 : Int32) = nI 256 from rfl]
  simp (disch := omega) only [nI_ltI]
  by_cases z : x < 256
  · rw [if_pos z]
    refine ⟨Or.inl trivial, ?_⟩
    unfold ste at k
    rw [show x / 256 = 0 by omega] at k
    exact k
  · rw [if_neg z]
    refine ⟨Or.inr trivial, ?_⟩
    unfold ste at k
    rw [show x / 256 = 1 by omega] at k
    exact k
theorem ste_o {a f g x i b k : Nat} (h : b ≠ a ∨ 6 ≤ k) : (ste t a f g x i).1 b k = t.1 b k := by
  unfold ste
  rw [tsi_ne (by omega), tsi_ne (by omega), tsi_ne (by omega), tsi_ne (by omega), tsi_ne (by omega), tsi_ne (by omega)]
def nE (f g x i : Nat) : Nat → Nat := fun k => if k = 0 then f else if k = 1 then g else if k = 2 then x % 16 else if k = 3 then x / 16 % 16 else if k = 4 then x / 256 else if k = 5 then i else 0
def mod4 (t : T) (e f g x i n : Nat) : T := tsi (tsi (tsi (tsi (tsi t 496 e (nI f)) 497 e (nI g)) 498 e (nI x)) 499 e (nI i)) 483 14 (nI n)
def Ead (Es : Nat → Nat → Nat) (ec : Nat) (E : Nat → Nat) : Nat → Nat → Nat := fun e => if e = ec then E else Es e
theorem Ead_e {Es : Nat → Nat → Nat} {ec : Nat} {E : Nat → Nat} : Ead Es ec E ec = E := if_pos rfl
theorem Ead_o {Es : Nat → Nat → Nat} {ec e : Nat} {E : Nat → Nat} (h : e ≠ ec) : Ead Es ec E e = Es e := if_neg h
theorem op_edge (fv gv wv iv : Int32) : OP 13 86 [.int fv, .int gv, .int wv, .int iv] := by
  intro d t hd hI
  obtain ⟨q, m, ru, rc, ec, Es, h1, h2, h3, h4, h5, h6, h7, h8, h9⟩ := id hI
  have hm := h2.le
  obtain ⟨e8, e013, e4814, eEs, eNo⟩ := id h4
  have bad : (∀ f g x i, f < 4 → g < 4 → x < 512 → i < m → fv = nI f → gv = nI g → wv = nI x → iv = nI i → tld x → ¬ fr q i ≤ 0) → twc d 86 [.ref 483, .int fv, .int gv, .int wv, .int iv] t (fun r' t2 => ∃ v, some (Value.int (-1)) = some (Value.int v) ∧ r' = some (Value.int v) ∧ INV t2) := by
    intro hno
    refine ⟨by omega, ?_⟩
    rw [ze_86]
    refine vc_ok none zH_86 108 false _ 86 0 _ _ _ _ ?_
    simp only [v_86_0, v_86_1, v_86_2, v_86_3, v_86_6, v_86_9, v_86_10, v_86_11, v_86_12, v_86_15, v_86_18, v_86_19, v_86_20, v_86_23, v_86_26, v_86_29, v_86_30, v_86_32, v_86_35, v_86_38, v_86_39, v_86_42, v_86_44, v_86_45, v_86_48, v_86_49, v_86_50, v_86_51, v_86_53, v_86_54, v_86_56, v_86_57, v_86_59, v_86_60, v_86_62, v_86_63, v_86_65, v_86_67, v_86_68, v_86_70, v_86_73, v_86_76, v_86_78, v_86_80, v_86_83, v_86_85, v_86_87, v_86_90, v_86_92, v_86_94, v_86_97, v_86_99, v_86_100, v_86_101, v_86_104, v_86_107, v_86_108, v_86_109, v_86_110, v_86_113, v_86_115, v_86_118, v_86_120, v_86_121, v_86_122, v_86_125, v_86_126, v_86_129, v_86_130, v_86_131, v_86_132, v_86_135, v_86_136, v_86_139, v_86_140, v_86_141, v_86_142, v_86_145, v_86_146, v_86_149, v_86_150, v_86_151, v_86_152, v_86_155, v_86_156, v_86_159, v_86_161, v_86_162, v_86_163_int, v_86_163_ref, v_86_164, v_86_167, v_86_168, v_86_169, v_86_172, v_86_173, v_86_176, v_86_177, v_86_178, vgi_0, vgi_s, vga_0, vga_s, vset_0, vset_s, vtk_0, vtk_s, vrc_0, vsw_0, vsw_s, List.all_cons, List.all_nil, zc1_i, zc1_r, Bool.and_true, Bool.and_self, true_and, and_true, List.length_cons, List.length_nil, Nat.zero_le, Nat.reduceLeDiff, Nat.reduceAdd, Nat.reduceLT]
    refine c_37 (lo := 0) (hi := 3) (by omega) (by omega) (by omega) (fun f _ hf ef => ?_) (fun _ => ?_)
    · simp only [v_86_0, v_86_1, v_86_2, v_86_3, v_86_6, v_86_9, v_86_10, v_86_11, v_86_12, v_86_15, v_86_18, v_86_19, v_86_20, v_86_23, v_86_26, v_86_29, v_86_30, v_86_32, v_86_35, v_86_38, v_86_39, v_86_42, v_86_44, v_86_45, v_86_48, v_86_49, v_86_50, v_86_51, v_86_53, v_86_54, v_86_56, v_86_57, v_86_59, v_86_60, v_86_62, v_86_63, v_86_65, v_86_67, v_86_68, v_86_70, v_86_73, v_86_76, v_86_78, v_86_80, v_86_83, v_86_85, v_86_87, v_86_90, v_86_92, v_86_94, v_86_97, v_86_99, v_86_100, v_86_101, v_86_104, v_86_107, v_86_108, v_86_109, v_86_110, v_86_113, v_86_115, v_86_118, v_86_120, v_86_121, v_86_122, v_86_125, v_86_126, v_86_129, v_86_130, v_86_131, v_86_132, v_86_135, v_86_136, v_86_139, v_86_140, v_86_141, v_86_142, v_86_145, v_86_146, v_86_149, v_86_150, v_86_151, v_86_152, v_86_155, v_86_156, v_86_159, v_86_161, v_86_162, v_86_163_int, v_86_163_ref, v_86_164, v_86_167, v_86_168, v_86_169, v_86_172, v_86_173, v_86_176, v_86_177, v_86_178, vgi_0, vgi_s, vga_0, vga_s, vset_0, vset_s, vtk_0, vtk_s, vrc_0, vsw_0, vsw_s, List.all_cons, List.all_nil, zc1_i, zc1_r, Bool.and_true, Bool.and_self, true_and, and_true, List.length_cons, List.length_nil, Nat.zero_le, Nat.reduceLeDiff, Nat.reduceAdd, Nat.reduceLT, Option.toList_some, List.cons_append, List.nil_append]
      rw [if_pos trivial]
      refine c_37 (lo := 0) (hi := 3) (by omega) (by omega) (by omega) (fun g _ hg eg => ?_) (fun _ => ?_)
      · simp only [v_86_0, v_86_1, v_86_2, v_86_3, v_86_6, v_86_9, v_86_10, v_86_11, v_86_12, v_86_15, v_86_18, v_86_19, v_86_20, v_86_23, v_86_26, v_86_29, v_86_30, v_86_32, v_86_35, v_86_38, v_86_39, v_86_42, v_86_44, v_86_45, v_86_48, v_86_49, v_86_50, v_86_51, v_86_53, v_86_54, v_86_56, v_86_57, v_86_59, v_86_60, v_86_62, v_86_63, v_86_65, v_86_67, v_86_68, v_86_70, v_86_73, v_86_76, v_86_78, v_86_80, v_86_83, v_86_85, v_86_87, v_86_90, v_86_92, v_86_94, v_86_97, v_86_99, v_86_100, v_86_101, v_86_104, v_86_107, v_86_108, v_86_109, v_86_110, v_86_113, v_86_115, v_86_118, v_86_120, v_86_121, v_86_122, v_86_125, v_86_126, v_86_129, v_86_130, v_86_131, v_86_132, v_86_135, v_86_136, v_86_139, v_86_140, v_86_141, v_86_142, v_86_145, v_86_146, v_86_149, v_86_150, v_86_151, v_86_152, v_86_155, v_86_156, v_86_159, v_86_161, v_86_162, v_86_163_int, v_86_163_ref, v_86_164, v_86_167, v_86_168, v_86_169, v_86_172, v_86_173, v_86_176, v_86_177, v_86_178, vgi_0, vgi_s, vga_0, vga_s, vset_0, vset_s, vtk_0, vtk_s, vrc_0, vsw_0, vsw_s, List.all_cons, List.all_nil, zc1_i, zc1_r, Bool.and_true, Bool.and_self, true_and, and_true, List.length_cons, List.length_nil, Nat.zero_le, Nat.reduceLeDiff, Nat.reduceAdd, Nat.reduceLT, Option.toList_some, List.cons_append, List.nil_append]
        rw [if_pos trivial]
        refine c_37 (lo := 0) (hi := 511) (by omega) (by omega) (by omega) (fun x _ hx ex => ?_) (fun _ => ?_)
        · simp only [v_86_0, v_86_1, v_86_2, v_86_3, v_86_6, v_86_9, v_86_10, v_86_11, v_86_12, v_86_15, v_86_18, v_86_19, v_86_20, v_86_23, v_86_26, v_86_29, v_86_30, v_86_32, v_86_35, v_86_38, v_86_39, v_86_42, v_86_44, v_86_45, v_86_48, v_86_49, v_86_50, v_86_51, v_86_53, v_86_54, v_86_56, v_86_57, v_86_59, v_86_60, v_86_62, v_86_63, v_86_65, v_86_67, v_86_68, v_86_70, v_86_73, v_86_76, v_86_78, v_86_80, v_86_83, v_86_85, v_86_87, v_86_90, v_86_92, v_86_94, v_86_97, v_86_99, v_86_100, v_86_101, v_86_104, v_86_107, v_86_108, v_86_109, v_86_110, v_86_113, v_86_115, v_86_118, v_86_120, v_86_121, v_86_122, v_86_125, v_86_126, v_86_129, v_86_130, v_86_131, v_86_132, v_86_135, v_86_136, v_86_139, v_86_140, v_86_141, v_86_142, v_86_145, v_86_146, v_86_149, v_86_150, v_86_151, v_86_152, v_86_155, v_86_156, v_86_159, v_86_161, v_86_162, v_86_163_int, v_86_163_ref, v_86_164, v_86_167, v_86_168, v_86_169, v_86_172, v_86_173, v_86_176, v_86_177, v_86_178, vgi_0, vgi_s, vga_0, vga_s, vset_0, vset_s, vtk_0, vtk_s, vrc_0, vsw_0, vsw_s, List.all_cons, List.all_nil, zc1_i, zc1_r, Bool.and_true, Bool.and_self, true_and, and_true, List.length_cons, List.length_nil, Nat.zero_le, Nat.reduceLeDiff, Nat.reduceAdd, Nat.reduceLT, Option.toList_some, List.cons_append, List.nil_append, tg_483]
          rw [if_pos trivial]
          refine c_55 (by omega) h2 (fun i hi ei => ?_) (fun _ => ?_)
          · subst ei
            subst ex
            obtain ⟨f1, f2, f3⟩ := h2.fr hi
            obtain ⟨r1, r2⟩ := wh_r x (by omega)
            simp only [v_86_0, v_86_1, v_86_2, v_86_3, v_86_6, v_86_9, v_86_10, v_86_11, v_86_12, v_86_15, v_86_18, v_86_19, v_86_20, v_86_23, v_86_26, v_86_29, v_86_30, v_86_32, v_86_35, v_86_38, v_86_39, v_86_42, v_86_44, v_86_45, v_86_48, v_86_49, v_86_50, v_86_51, v_86_53, v_86_54, v_86_56, v_86_57, v_86_59, v_86_60, v_86_62, v_86_63, v_86_65, v_86_67, v_86_68, v_86_70, v_86_73, v_86_76, v_86_78, v_86_80, v_86_83, v_86_85, v_86_87, v_86_90, v_86_92, v_86_94, v_86_97, v_86_99, v_86_100, v_86_101, v_86_104, v_86_107, v_86_108, v_86_109, v_86_110, v_86_113, v_86_115, v_86_118, v_86_120, v_86_121, v_86_122, v_86_125, v_86_126, v_86_129, v_86_130, v_86_131, v_86_132, v_86_135, v_86_136, v_86_139, v_86_140, v_86_141, v_86_142, v_86_145, v_86_146, v_86_149, v_86_150, v_86_151, v_86_152, v_86_155, v_86_156, v_86_159, v_86_161, v_86_162, v_86_163_int, v_86_163_ref, v_86_164, v_86_167, v_86_168, v_86_169, v_86_172, v_86_173, v_86_176, v_86_177, v_86_178, vgi_0, vgi_s, vga_0, vga_s, vset_0, vset_s, vtk_0, vtk_s, vrc_0, vsw_0, vsw_s, List.all_cons, List.all_nil, zc1_i, zc1_r, Bool.and_true, Bool.and_self, true_and, and_true, List.length_cons, List.length_nil, Nat.zero_le, Nat.reduceLeDiff, Nat.reduceAdd, Nat.reduceLT, Option.toList_some, List.cons_append, List.nil_append, tg_483, tf_483_8, tg_491, ln_491]
            rw [if_neg (by decide)]
            simp (disch := omega) only [nI_clamp, vinb_n, f2]
            refine ⟨by omega, ?_⟩
            by_cases z : fr q i = 0
            · rw [if_pos (by rw [z]; rfl), r1, r2]
              have nt : ¬ tld x := fun h => hno f g x i (by omega) (by omega) (by omega) hi ef eg rfl rfl h (by omega)
              refine ⟨by decide, by decide, by decide, ?_⟩
              refine c_37 (lo := 2) (hi := 7) (by omega) (by omega) (by omega) (fun p hp1 hp2 ep => ?_) (fun hp => ?_)
              · have ep : x % 16 = p := nI_inj (by omega) (by omega) ep
                subst ep
                simp only [v_86_0, v_86_1, v_86_2, v_86_3, v_86_6, v_86_9, v_86_10, v_86_11, v_86_12, v_86_15, v_86_18, v_86_19, v_86_20, v_86_23, v_86_26, v_86_29, v_86_30, v_86_32, v_86_35, v_86_38, v_86_39, v_86_42, v_86_44, v_86_45, v_86_48, v_86_49, v_86_50, v_86_51, v_86_53, v_86_54, v_86_56, v_86_57, v_86_59, v_86_60, v_86_62, v_86_63, v_86_65, v_86_67, v_86_68, v_86_70, v_86_73, v_86_76, v_86_78, v_86_80, v_86_83, v_86_85, v_86_87, v_86_90, v_86_92, v_86_94, v_86_97, v_86_99, v_86_100, v_86_101, v_86_104, v_86_107, v_86_108, v_86_109, v_86_110, v_86_113, v_86_115, v_86_118, v_86_120, v_86_121, v_86_122, v_86_125, v_86_126, v_86_129, v_86_130, v_86_131, v_86_132, v_86_135, v_86_136, v_86_139, v_86_140, v_86_141, v_86_142, v_86_145, v_86_146, v_86_149, v_86_150, v_86_151, v_86_152, v_86_155, v_86_156, v_86_159, v_86_161, v_86_162, v_86_163_int, v_86_163_ref, v_86_164, v_86_167, v_86_168, v_86_169, v_86_172, v_86_173, v_86_176, v_86_177, v_86_178, vgi_0, vgi_s, vga_0, vga_s, vset_0, vset_s, vtk_0, vtk_s, vrc_0, vsw_0, vsw_s, List.all_cons, List.all_nil, zc1_i, zc1_r, Bool.and_true, Bool.and_self, true_and, and_true, List.length_cons, List.length_nil, Nat.zero_le, Nat.reduceLeDiff, Nat.reduceAdd, Nat.reduceLT, Option.toList_some, List.cons_append, List.nil_append]
                rw [if_pos trivial]
                simp (disch := omega) only [li6, li7, nI_eq]
                have nq : 6 ≤ x % 16 ∧ ¬ (2 ≤ x / 16 % 16 ∧ x / 16 % 16 ≤ 5) := by
                  unfold tld at nt; omega
                have cont : twc (d - 1) 37 [.int (nI (x / 16 % 16)), .int (nI 2), .int (nI 5)] t (fun r t1 => r = some (.int 1) ∧ t1 = t) := by
                  refine c_37 (lo := 2) (hi := 5) (by omega) (by omega) (by omega) (fun y hy1 hy2 ey => ?_) (fun _ => ⟨rfl, rfl⟩)
                  have ey : x / 16 % 16 = y := nI_inj (by omega) (by omega) ey
                  exact absurd ⟨by omega, by omega⟩ nq.2
                by_cases z6 : x % 16 = 6
                · rw [if_pos z6]
                  refine twc.mono cont (fun r t1 hr => ?_)
                  obtain ⟨rfl, rfl⟩ := hr
                  simp only [v_86_0, v_86_1, v_86_2, v_86_3, v_86_6, v_86_9, v_86_10, v_86_11, v_86_12, v_86_15, v_86_18, v_86_19, v_86_20, v_86_23, v_86_26, v_86_29, v_86_30, v_86_32, v_86_35, v_86_38, v_86_39, v_86_42, v_86_44, v_86_45, v_86_48, v_86_49, v_86_50, v_86_51, v_86_53, v_86_54, v_86_56, v_86_57, v_86_59, v_86_60, v_86_62, v_86_63, v_86_65, v_86_67, v_86_68, v_86_70, v_86_73, v_86_76, v_86_78, v_86_80, v_86_83, v_86_85, v_86_87, v_86_90, v_86_92, v_86_94, v_86_97, v_86_99, v_86_100, v_86_101, v_86_104, v_86_107, v_86_108, v_86_109, v_86_110, v_86_113, v_86_115, v_86_118, v_86_120, v_86_121, v_86_122, v_86_125, v_86_126, v_86_129, v_86_130, v_86_131, v_86_132, v_86_135, v_86_136, v_86_139, v_86_140, v_86_141, v_86_142, v_86_145, v_86_146, v_86_149, v_86_150, v_86_151, v_86_152, v_86_155, v_86_156, v_86_159, v_86_161, v_86_162, v_86_163_int, v_86_163_ref, v_86_164, v_86_167, v_86_168, v_86_169, v_86_172, v_86_173, v_86_176, v_86_177, v_86_178, vgi_0, vgi_s, vga_0, vga_s, vset_0, vset_s, vtk_0, vtk_s, vrc_0, vsw_0, vsw_s, List.all_cons, List.all_nil, zc1_i, zc1_r, Bool.and_true, Bool.and_self, true_and, and_true, List.length_cons, List.length_nil, Nat.zero_le, Nat.reduceLeDiff, Nat.reduceAdd, Nat.reduceLT, Option.toList_some, List.cons_append, List.nil_append]
                  rw [if_neg (by decide)]
                  exact ⟨_, rfl, rfl, hI⟩
                · rw [if_neg z6, if_pos (by omega)]
                  refine twc.mono cont (fun r t1 hr => ?_)
                  obtain ⟨rfl, rfl⟩ := hr
                  simp only [v_86_0, v_86_1, v_86_2, v_86_3, v_86_6, v_86_9, v_86_10, v_86_11, v_86_12, v_86_15, v_86_18, v_86_19, v_86_20, v_86_23, v_86_26, v_86_29, v_86_30, v_86_32, v_86_35, v_86_38, v_86_39, v_86_42, v_86_44, v_86_45, v_86_48, v_86_49, v_86_50, v_86_51, v_86_53, v_86_54, v_86_56, v_86_57, v_86_59, v_86_60, v_86_62, v_86_63, v_86_65, v_86_67, v_86_68, v_86_70, v_86_73, v_86_76, v_86_78, v_86_80, v_86_83, v_86_85, v_86_87, v_86_90, v_86_92, v_86_94, v_86_97, v_86_99, v_86_100, v_86_101, v_86_104, v_86_107, v_86_108, v_86_109, v_86_110, v_86_113, v_86_115, v_86_118, v_86_120, v_86_121, v_86_122, v_86_125, v_86_126, v_86_129, v_86_130, v_86_131, v_86_132, v_86_135, v_86_136, v_86_139, v_86_140, v_86_141, v_86_142, v_86_145, v_86_146, v_86_149, v_86_150, v_86_151, v_86_152, v_86_155, v_86_156, v_86_159, v_86_161, v_86_162, v_86_163_int, v_86_163_ref, v_86_164, v_86_167, v_86_168, v_86_169, v_86_172, v_86_173, v_86_176, v_86_177, v_86_178, vgi_0, vgi_s, vga_0, vga_s, vset_0, vset_s, vtk_0, vtk_s, vrc_0, vsw_0, vsw_s, List.all_cons, List.all_nil, zc1_i, zc1_r, Bool.and_true, Bool.and_self, true_and, and_true, List.length_cons, List.length_nil, Nat.zero_le, Nat.reduceLeDiff, Nat.reduceAdd, Nat.reduceLT, Option.toList_some, List.cons_append, List.nil_append]
                  rw [if_neg (by decide)]
                  exact ⟨_, rfl, rfl, hI⟩
              · simp only [v_86_0, v_86_1, v_86_2, v_86_3, v_86_6, v_86_9, v_86_10, v_86_11, v_86_12, v_86_15, v_86_18, v_86_19, v_86_20, v_86_23, v_86_26, v_86_29, v_86_30, v_86_32, v_86_35, v_86_38, v_86_39, v_86_42, v_86_44, v_86_45, v_86_48, v_86_49, v_86_50, v_86_51, v_86_53, v_86_54, v_86_56, v_86_57, v_86_59, v_86_60, v_86_62, v_86_63, v_86_65, v_86_67, v_86_68, v_86_70, v_86_73, v_86_76, v_86_78, v_86_80, v_86_83, v_86_85, v_86_87, v_86_90, v_86_92, v_86_94, v_86_97, v_86_99, v_86_100, v_86_101, v_86_104, v_86_107, v_86_108, v_86_109, v_86_110, v_86_113, v_86_115, v_86_118, v_86_120, v_86_121, v_86_122, v_86_125, v_86_126, v_86_129, v_86_130, v_86_131, v_86_132, v_86_135, v_86_136, v_86_139, v_86_140, v_86_141, v_86_142, v_86_145, v_86_146, v_86_149, v_86_150, v_86_151, v_86_152, v_86_155, v_86_156, v_86_159, v_86_161, v_86_162, v_86_163_int, v_86_163_ref, v_86_164, v_86_167, v_86_168, v_86_169, v_86_172, v_86_173, v_86_176, v_86_177, v_86_178, vgi_0, vgi_s, vga_0, vga_s, vset_0, vset_s, vtk_0, vtk_s, vrc_0, vsw_0, vsw_s, List.all_cons, List.all_nil, zc1_i, zc1_r, Bool.and_true, Bool.and_self, true_and, and_true, List.length_cons, List.length_nil, Nat.zero_le, Nat.reduceLeDiff, Nat.reduceAdd, Nat.reduceLT, Option.toList_some, List.cons_append, List.nil_append]
                rw [if_neg (by decide)]
                simp (disch := omega) only [li15, nI_eq]
                rw [if_neg (by unfold tld at nt; omega)]
                exact ⟨_, rfl, rfl, hI⟩
            · rw [if_neg (by rw [li0, nI_eq (by omega) (by omega)]; exact z)]
              exact ⟨_, rfl, rfl, hI⟩
          · simp only [v_86_0, v_86_1, v_86_2, v_86_3, v_86_6, v_86_9, v_86_10, v_86_11, v_86_12, v_86_15, v_86_18, v_86_19, v_86_20, v_86_23, v_86_26, v_86_29, v_86_30, v_86_32, v_86_35, v_86_38, v_86_39, v_86_42, v_86_44, v_86_45, v_86_48, v_86_49, v_86_50, v_86_51, v_86_53, v_86_54, v_86_56, v_86_57, v_86_59, v_86_60, v_86_62, v_86_63, v_86_65, v_86_67, v_86_68, v_86_70, v_86_73, v_86_76, v_86_78, v_86_80, v_86_83, v_86_85, v_86_87, v_86_90, v_86_92, v_86_94, v_86_97, v_86_99, v_86_100, v_86_101, v_86_104, v_86_107, v_86_108, v_86_109, v_86_110, v_86_113, v_86_115, v_86_118, v_86_120, v_86_121, v_86_122, v_86_125, v_86_126, v_86_129, v_86_130, v_86_131, v_86_132, v_86_135, v_86_136, v_86_139, v_86_140, v_86_141, v_86_142, v_86_145, v_86_146, v_86_149, v_86_150, v_86_151, v_86_152, v_86_155, v_86_156, v_86_159, v_86_161, v_86_162, v_86_163_int, v_86_163_ref, v_86_164, v_86_167, v_86_168, v_86_169, v_86_172, v_86_173, v_86_176, v_86_177, v_86_178, vgi_0, vgi_s, vga_0, vga_s, vset_0, vset_s, vtk_0, vtk_s, vrc_0, vsw_0, vsw_s, List.all_cons, List.all_nil, zc1_i, zc1_r, Bool.and_true, Bool.and_self, true_and, and_true, List.length_cons, List.length_nil, Nat.zero_le, Nat.reduceLeDiff, Nat.reduceAdd, Nat.reduceLT, Option.toList_some, List.cons_append, List.nil_append]
            rw [if_pos trivial]
            exact ⟨_, rfl, rfl, hI⟩
        · simp only [v_86_0, v_86_1, v_86_2, v_86_3, v_86_6, v_86_9, v_86_10, v_86_11, v_86_12, v_86_15, v_86_18, v_86_19, v_86_20, v_86_23, v_86_26, v_86_29, v_86_30, v_86_32, v_86_35, v_86_38, v_86_39, v_86_42, v_86_44, v_86_45, v_86_48, v_86_49, v_86_50, v_86_51, v_86_53, v_86_54, v_86_56, v_86_57, v_86_59, v_86_60, v_86_62, v_86_63, v_86_65, v_86_67, v_86_68, v_86_70, v_86_73, v_86_76, v_86_78, v_86_80, v_86_83, v_86_85, v_86_87, v_86_90, v_86_92, v_86_94, v_86_97, v_86_99, v_86_100, v_86_101, v_86_104, v_86_107, v_86_108, v_86_109, v_86_110, v_86_113, v_86_115, v_86_118, v_86_120, v_86_121, v_86_122, v_86_125, v_86_126, v_86_129, v_86_130, v_86_131, v_86_132, v_86_135, v_86_136, v_86_139, v_86_140, v_86_141, v_86_142, v_86_145, v_86_146, v_86_149, v_86_150, v_86_151, v_86_152, v_86_155, v_86_156, v_86_159, v_86_161, v_86_162, v_86_163_int, v_86_163_ref, v_86_164, v_86_167, v_86_168, v_86_169, v_86_172, v_86_173, v_86_176, v_86_177, v_86_178, vgi_0, vgi_s, vga_0, vga_s, vset_0, vset_s, vtk_0, vtk_s, vrc_0, vsw_0, vsw_s, List.all_cons, List.all_nil, zc1_i, zc1_r, Bool.and_true, Bool.and_self, true_and, and_true, List.length_cons, List.length_nil, Nat.zero_le, Nat.reduceLeDiff, Nat.reduceAdd, Nat.reduceLT, Option.toList_some, List.cons_append, List.nil_append]
          rw [if_neg (by decide)]
          exact ⟨_, rfl, rfl, hI⟩
      · simp only [v_86_0, v_86_1, v_86_2, v_86_3, v_86_6, v_86_9, v_86_10, v_86_11, v_86_12, v_86_15, v_86_18, v_86_19, v_86_20, v_86_23, v_86_26, v_86_29, v_86_30, v_86_32, v_86_35, v_86_38, v_86_39, v_86_42, v_86_44, v_86_45, v_86_48, v_86_49, v_86_50, v_86_51, v_86_53, v_86_54, v_86_56, v_86_57, v_86_59, v_86_60, v_86_62, v_86_63, v_86_65, v_86_67, v_86_68, v_86_70, v_86_73, v_86_76, v_86_78, v_86_80, v_86_83, v_86_85, v_86_87, v_86_90, v_86_92, v_86_94, v_86_97, v_86_99, v_86_100, v_86_101, v_86_104, v_86_107, v_86_108, v_86_109, v_86_110, v_86_113, v_86_115, v_86_118, v_86_120, v_86_121, v_86_122, v_86_125, v_86_126, v_86_129, v_86_130, v_86_131, v_86_132, v_86_135, v_86_136, v_86_139, v_86_140, v_86_141, v_86_142, v_86_145, v_86_146, v_86_149, v_86_150, v_86_151, v_86_152, v_86_155, v_86_156, v_86_159, v_86_161, v_86_162, v_86_163_int, v_86_163_ref, v_86_164, v_86_167, v_86_168, v_86_169, v_86_172, v_86_173, v_86_176, v_86_177, v_86_178, vgi_0, vgi_s, vga_0, vga_s, vset_0, vset_s, vtk_0, vtk_s, vrc_0, vsw_0, vsw_s, List.all_cons, List.all_nil, zc1_i, zc1_r, Bool.and_true, Bool.and_self, true_and, and_true, List.length_cons, List.length_nil, Nat.zero_le, Nat.reduceLeDiff, Nat.reduceAdd, Nat.reduceLT, Option.toList_some, List.cons_append, List.nil_append]
        rw [if_neg (by decide)]
        exact ⟨_, rfl, rfl, hI⟩
    · simp only [v_86_0, v_86_1, v_86_2, v_86_3, v_86_6, v_86_9, v_86_10, v_86_11, v_86_12, v_86_15, v_86_18, v_86_19, v_86_20, v_86_23, v_86_26, v_86_29, v_86_30, v_86_32, v_86_35, v_86_38, v_86_39, v_86_42, v_86_44, v_86_45, v_86_48, v_86_49, v_86_50, v_86_51, v_86_53, v_86_54, v_86_56, v_86_57, v_86_59, v_86_60, v_86_62, v_86_63, v_86_65, v_86_67, v_86_68, v_86_70, v_86_73, v_86_76, v_86_78, v_86_80, v_86_83, v_86_85, v_86_87, v_86_90, v_86_92, v_86_94, v_86_97, v_86_99, v_86_100, v_86_101, v_86_104, v_86_107, v_86_108, v_86_109, v_86_110, v_86_113, v_86_115, v_86_118, v_86_120, v_86_121, v_86_122, v_86_125, v_86_126, v_86_129, v_86_130, v_86_131, v_86_132, v_86_135, v_86_136, v_86_139, v_86_140, v_86_141, v_86_142, v_86_145, v_86_146, v_86_149, v_86_150, v_86_151, v_86_152, v_86_155, v_86_156, v_86_159, v_86_161, v_86_162, v_86_163_int, v_86_163_ref, v_86_164, v_86_167, v_86_168, v_86_169, v_86_172, v_86_173, v_86_176, v_86_177, v_86_178, vgi_0, vgi_s, vga_0, vga_s, vset_0, vset_s, vtk_0, vtk_s, vrc_0, vsw_0, vsw_s, List.all_cons, List.all_nil, zc1_i, zc1_r, Bool.and_true, Bool.and_self, true_and, and_true, List.length_cons, List.length_nil, Nat.zero_le, Nat.reduceLeDiff, Nat.reduceAdd, Nat.reduceLT, Option.toList_some, List.cons_append, List.nil_append]
      rw [if_neg (by decide)]
      exact ⟨_, rfl, rfl, hI⟩
  have mod : ∀ f g x i (t1 : T), f < 4 → g < 4 → x < 512 → i < m → fr q i = 0 → tld x → foI t1 q m → t1.1 483 14 = nI ec → ∀ G : Option Value → T → Prop, (ec = 8 → G (some (.int (-2))) t1) → (ec < 8 → G (some (.int (nI ec))) (mod4 t1 ec f g x i (ec + 1))) → twc d 86 [.ref 483, .int (nI f), .int (nI g), .int (nI x), .int (nI i)] t1 G := by
    intro f g x i t1 hf hg hx hi hfr htl hfo h14 G k0 k1
    obtain ⟨f1, f2, f3⟩ := hfo.fr hi
    obtain ⟨r1, r2⟩ := wh_r x (by omega)
    refine ⟨by omega, ?_⟩
    rw [ze_86]
    refine vc_ok none zH_86 108 false _ 86 0 _ _ _ _ ?_
    simp only [v_86_0, v_86_1, v_86_2, v_86_3, v_86_6, v_86_9, v_86_10, v_86_11, v_86_12, v_86_15, v_86_18, v_86_19, v_86_20, v_86_23, v_86_26, v_86_29, v_86_30, v_86_32, v_86_35, v_86_38, v_86_39, v_86_42, v_86_44, v_86_45, v_86_48, v_86_49, v_86_50, v_86_51, v_86_53, v_86_54, v_86_56, v_86_57, v_86_59, v_86_60, v_86_62, v_86_63, v_86_65, v_86_67, v_86_68, v_86_70, v_86_73, v_86_76, v_86_78, v_86_80, v_86_83, v_86_85, v_86_87, v_86_90, v_86_92, v_86_94, v_86_97, v_86_99, v_86_100, v_86_101, v_86_104, v_86_107, v_86_108, v_86_109, v_86_110, v_86_113, v_86_115, v_86_118, v_86_120, v_86_121, v_86_122, v_86_125, v_86_126, v_86_129, v_86_130, v_86_131, v_86_132, v_86_135, v_86_136, v_86_139, v_86_140, v_86_141, v_86_142, v_86_145, v_86_146, v_86_149, v_86_150, v_86_151, v_86_152, v_86_155, v_86_156, v_86_159, v_86_161, v_86_162, v_86_163_int, v_86_163_ref, v_86_164, v_86_167, v_86_168, v_86_169, v_86_172, v_86_173, v_86_176, v_86_177, v_86_178, vgi_0, vgi_s, vga_0, vga_s, vset_0, vset_s, vtk_0, vtk_s, vrc_0, vsw_0, vsw_s, List.all_cons, List.all_nil, zc1_i, zc1_r, Bool.and_true, Bool.and_self, true_and, and_true, List.length_cons, List.length_nil, Nat.zero_le, Nat.reduceLeDiff, Nat.reduceAdd, Nat.reduceLT]
    refine c_37 (lo := 0) (hi := 3) (by omega) (by omega) (by omega) (fun f' _ _ _ => ?_) (fun hno => absurd rfl (hno f (by omega) (by omega)))
    simp only [v_86_0, v_86_1, v_86_2, v_86_3, v_86_6, v_86_9, v_86_10, v_86_11, v_86_12, v_86_15, v_86_18, v_86_19, v_86_20, v_86_23, v_86_26, v_86_29, v_86_30, v_86_32, v_86_35, v_86_38, v_86_39, v_86_42, v_86_44, v_86_45, v_86_48, v_86_49, v_86_50, v_86_51, v_86_53, v_86_54, v_86_56, v_86_57, v_86_59, v_86_60, v_86_62, v_86_63, v_86_65, v_86_67, v_86_68, v_86_70, v_86_73, v_86_76, v_86_78, v_86_80, v_86_83, v_86_85, v_86_87, v_86_90, v_86_92, v_86_94, v_86_97, v_86_99, v_86_100, v_86_101, v_86_104, v_86_107, v_86_108, v_86_109, v_86_110, v_86_113, v_86_115, v_86_118, v_86_120, v_86_121, v_86_122, v_86_125, v_86_126, v_86_129, v_86_130, v_86_131, v_86_132, v_86_135, v_86_136, v_86_139, v_86_140, v_86_141, v_86_142, v_86_145, v_86_146, v_86_149, v_86_150, v_86_151, v_86_152, v_86_155, v_86_156, v_86_159, v_86_161, v_86_162, v_86_163_int, v_86_163_ref, v_86_164, v_86_167, v_86_168, v_86_169, v_86_172, v_86_173, v_86_176, v_86_177, v_86_178, vgi_0, vgi_s, vga_0, vga_s, vset_0, vset_s, vtk_0, vtk_s, vrc_0, vsw_0, vsw_s, List.all_cons, List.all_nil, zc1_i, zc1_r, Bool.and_true, Bool.and_self, true_and, and_true, List.length_cons, List.length_nil, Nat.zero_le, Nat.reduceLeDiff, Nat.reduceAdd, Nat.reduceLT, Option.toList_some, List.cons_append, List.nil_append]
    rw [if_pos trivial]
    refine c_37 (lo := 0) (hi := 3) (by omega) (by omega) (by omega) (fun f' _ _ _ => ?_) (fun hno => absurd rfl (hno g (by omega) (by omega)))
    simp only [v_86_0, v_86_1, v_86_2, v_86_3, v_86_6, v_86_9, v_86_10, v_86_11, v_86_12, v_86_15, v_86_18, v_86_19, v_86_20, v_86_23, v_86_26, v_86_29, v_86_30, v_86_32, v_86_35, v_86_38, v_86_39, v_86_42, v_86_44, v_86_45, v_86_48, v_86_49, v_86_50, v_86_51, v_86_53, v_86_54, v_86_56, v_86_57, v_86_59, v_86_60, v_86_62, v_86_63, v_86_65, v_86_67, v_86_68, v_86_70, v_86_73, v_86_76, v_86_78, v_86_80, v_86_83, v_86_85, v_86_87, v_86_90, v_86_92, v_86_94, v_86_97, v_86_99, v_86_100, v_86_101, v_86_104, v_86_107, v_86_108, v_86_109, v_86_110, v_86_113, v_86_115, v_86_118, v_86_120, v_86_121, v_86_122, v_86_125, v_86_126, v_86_129, v_86_130, v_86_131, v_86_132, v_86_135, v_86_136, v_86_139, v_86_140, v_86_141, v_86_142, v_86_145, v_86_146, v_86_149, v_86_150, v_86_151, v_86_152, v_86_155, v_86_156, v_86_159, v_86_161, v_86_162, v_86_163_int, v_86_163_ref, v_86_164, v_86_167, v_86_168, v_86_169, v_86_172, v_86_173, v_86_176, v_86_177, v_86_178, vgi_0, vgi_s, vga_0, vga_s, vset_0, vset_s, vtk_0, vtk_s, vrc_0, vsw_0, vsw_s, List.all_cons, List.all_nil, zc1_i, zc1_r, Bool.and_true, Bool.and_self, true_and, and_true, List.length_cons, List.length_nil, Nat.zero_le, Nat.reduceLeDiff, Nat.reduceAdd, Nat.reduceLT, Option.toList_some, List.cons_append, List.nil_append]
    rw [if_pos trivial]
    refine c_37 (lo := 0) (hi := 511) (by omega) (by omega) (by omega) (fun f' _ _ _ => ?_) (fun hno => absurd rfl (hno x (by omega) (by omega)))
    simp only [v_86_0, v_86_1, v_86_2, v_86_3, v_86_6, v_86_9, v_86_10, v_86_11, v_86_12, v_86_15, v_86_18, v_86_19, v_86_20, v_86_23, v_86_26, v_86_29, v_86_30, v_86_32, v_86_35, v_86_38, v_86_39, v_86_42, v_86_44, v_86_45, v_86_48, v_86_49, v_86_50, v_86_51, v_86_53, v_86_54, v_86_56, v_86_57, v_86_59, v_86_60, v_86_62, v_86_63, v_86_65, v_86_67, v_86_68, v_86_70, v_86_73, v_86_76, v_86_78, v_86_80, v_86_83, v_86_85, v_86_87, v_86_90, v_86_92, v_86_94, v_86_97, v_86_99, v_86_100, v_86_101, v_86_104, v_86_107, v_86_108, v_86_109, v_86_110, v_86_113, v_86_115, v_86_118, v_86_120, v_86_121, v_86_122, v_86_125, v_86_126, v_86_129, v_86_130, v_86_131, v_86_132, v_86_135, v_86_136, v_86_139, v_86_140, v_86_141, v_86_142, v_86_145, v_86_146, v_86_149, v_86_150, v_86_151, v_86_152, v_86_155, v_86_156, v_86_159, v_86_161, v_86_162, v_86_163_int, v_86_163_ref, v_86_164, v_86_167, v_86_168, v_86_169, v_86_172, v_86_173, v_86_176, v_86_177, v_86_178, vgi_0, vgi_s, vga_0, vga_s, vset_0, vset_s, vtk_0, vtk_s, vrc_0, vsw_0, vsw_s, List.all_cons, List.all_nil, zc1_i, zc1_r, Bool.and_true, Bool.and_self, true_and, and_true, List.length_cons, List.length_nil, Nat.zero_le, Nat.reduceLeDiff, Nat.reduceAdd, Nat.reduceLT, Option.toList_some, List.cons_append, List.nil_append, tg_483]
    rw [if_pos trivial]
    refine c_55 (by omega) hfo (fun j hj ej => ?_) (fun hno => absurd rfl (hno i hi))
    simp only [v_86_0, v_86_1, v_86_2, v_86_3, v_86_6, v_86_9, v_86_10, v_86_11, v_86_12, v_86_15, v_86_18, v_86_19, v_86_20, v_86_23, v_86_26, v_86_29, v_86_30, v_86_32, v_86_35, v_86_38, v_86_39, v_86_42, v_86_44, v_86_45, v_86_48, v_86_49, v_86_50, v_86_51, v_86_53, v_86_54, v_86_56, v_86_57, v_86_59, v_86_60, v_86_62, v_86_63, v_86_65, v_86_67, v_86_68, v_86_70, v_86_73, v_86_76, v_86_78, v_86_80, v_86_83, v_86_85, v_86_87, v_86_90, v_86_92, v_86_94, v_86_97, v_86_99, v_86_100, v_86_101, v_86_104, v_86_107, v_86_108, v_86_109, v_86_110, v_86_113, v_86_115, v_86_118, v_86_120, v_86_121, v_86_122, v_86_125, v_86_126, v_86_129, v_86_130, v_86_131, v_86_132, v_86_135, v_86_136, v_86_139, v_86_140, v_86_141, v_86_142, v_86_145, v_86_146, v_86_149, v_86_150, v_86_151, v_86_152, v_86_155, v_86_156, v_86_159, v_86_161, v_86_162, v_86_163_int, v_86_163_ref, v_86_164, v_86_167, v_86_168, v_86_169, v_86_172, v_86_173, v_86_176, v_86_177, v_86_178, vgi_0, vgi_s, vga_0, vga_s, vset_0, vset_s, vtk_0, vtk_s, vrc_0, vsw_0, vsw_s, List.all_cons, List.all_nil, zc1_i, zc1_r, Bool.and_true, Bool.and_self, true_and, and_true, List.length_cons, List.length_nil, Nat.zero_le, Nat.reduceLeDiff, Nat.reduceAdd, Nat.reduceLT, Option.toList_some, List.cons_append, List.nil_append, tg_483, tf_483_8, tg_491, ln_491]
    rw [if_neg (by decide)]
    simp (disch := omega) only [nI_clamp, vinb_n, f2]
    refine ⟨by omega, ?_⟩
    rw [if_pos (by rw [hfr]; rfl), r1, r2]
    refine ⟨by decide, by decide, by decide, ?_⟩
    have e1 : (tsi t1 496 ec (nI f)).1 483 14 = nI ec := by rw [tsi_ne (by omega)]; exact h14
    have e2 : (tsi (tsi t1 496 ec (nI f)) 497 ec (nI g)).1 483 14 = nI ec := by rw [tsi_ne (by omega)]; exact e1
    have e3 : (tsi (tsi (tsi t1 496 ec (nI f)) 497 ec (nI g)) 498 ec (nI x)).1 483 14 = nI ec := by rw [tsi_ne (by omega)]; exact e2
    have e4 : (tsi (tsi (tsi (tsi t1 496 ec (nI f)) 497 ec (nI g)) 498 ec (nI x)) 499 ec (nI i)).1 483 14 = nI ec := by rw [tsi_ne (by omega)]; exact e3
    refine c_37 (lo := 2) (hi := 7) (by omega) (by omega) (by omega) (fun p hp1 hp2 ep => ?_) (fun hp => ?_)
    · simp only [v_86_0, v_86_1, v_86_2, v_86_3, v_86_6, v_86_9, v_86_10, v_86_11, v_86_12, v_86_15, v_86_18, v_86_19, v_86_20, v_86_23, v_86_26, v_86_29, v_86_30, v_86_32, v_86_35, v_86_38, v_86_39, v_86_42, v_86_44, v_86_45, v_86_48, v_86_49, v_86_50, v_86_51, v_86_53, v_86_54, v_86_56, v_86_57, v_86_59, v_86_60, v_86_62, v_86_63, v_86_65, v_86_67, v_86_68, v_86_70, v_86_73, v_86_76, v_86_78, v_86_80, v_86_83, v_86_85, v_86_87, v_86_90, v_86_92, v_86_94, v_86_97, v_86_99, v_86_100, v_86_101, v_86_104, v_86_107, v_86_108, v_86_109, v_86_110, v_86_113, v_86_115, v_86_118, v_86_120, v_86_121, v_86_122, v_86_125, v_86_126, v_86_129, v_86_130, v_86_131, v_86_132, v_86_135, v_86_136, v_86_139, v_86_140, v_86_141, v_86_142, v_86_145, v_86_146, v_86_149, v_86_150, v_86_151, v_86_152, v_86_155, v_86_156, v_86_159, v_86_161, v_86_162, v_86_163_int, v_86_163_ref, v_86_164, v_86_167, v_86_168, v_86_169, v_86_172, v_86_173, v_86_176, v_86_177, v_86_178, vgi_0, vgi_s, vga_0, vga_s, vset_0, vset_s, vtk_0, vtk_s, vrc_0, vsw_0, vsw_s, List.all_cons, List.all_nil, zc1_i, zc1_r, Bool.and_true, Bool.and_self, true_and, and_true, List.length_cons, List.length_nil, Nat.zero_le, Nat.reduceLeDiff, Nat.reduceAdd, Nat.reduceLT, Option.toList_some, List.cons_append, List.nil_append, tg_483, h14, tf_483_15, tg_496, ln_496, tf_483_16, tg_497, ln_497, tf_483_17, tg_498, ln_498, tf_483_18, tg_499, ln_499]
      rw [if_pos trivial]
      have np6 : (nI (x % 16) = 6) = (x % 16 = 6) := by rw [li6, nI_eq (by omega) (by omega)]
      have np7 : (nI (x % 16) = 7) = (x % 16 = 7) := by rw [li7, nI_eq (by omega) (by omega)]
      have ep : x % 16 = p := nI_inj (by omega) (by omega) ep
      by_cases z6 : x % 16 = 6
      · rw [if_pos (by rw [np6]; exact z6)]
        refine c_37 (lo := 2) (hi := 5) (by omega) (by omega) (by omega) (fun y _ _ _ => ?_) (fun hno => absurd rfl (hno (x / 16 % 16) (by unfold tld at htl; omega) (by unfold tld at htl; omega)))
        simp only [v_86_0, v_86_1, v_86_2, v_86_3, v_86_6, v_86_9, v_86_10, v_86_11, v_86_12, v_86_15, v_86_18, v_86_19, v_86_20, v_86_23, v_86_26, v_86_29, v_86_30, v_86_32, v_86_35, v_86_38, v_86_39, v_86_42, v_86_44, v_86_45, v_86_48, v_86_49, v_86_50, v_86_51, v_86_53, v_86_54, v_86_56, v_86_57, v_86_59, v_86_60, v_86_62, v_86_63, v_86_65, v_86_67, v_86_68, v_86_70, v_86_73, v_86_76, v_86_78, v_86_80, v_86_83, v_86_85, v_86_87, v_86_90, v_86_92, v_86_94, v_86_97, v_86_99, v_86_100, v_86_101, v_86_104, v_86_107, v_86_108, v_86_109, v_86_110, v_86_113, v_86_115, v_86_118, v_86_120, v_86_121, v_86_122, v_86_125, v_86_126, v_86_129, v_86_130, v_86_131, v_86_132, v_86_135, v_86_136, v_86_139, v_86_140, v_86_141, v_86_142, v_86_145, v_86_146, v_86_149, v_86_150, v_86_151, v_86_152, v_86_155, v_86_156, v_86_159, v_86_161, v_86_162, v_86_163_int, v_86_163_ref, v_86_164, v_86_167, v_86_168, v_86_169, v_86_172, v_86_173, v_86_176, v_86_177, v_86_178, vgi_0, vgi_s, vga_0, vga_s, vset_0, vset_s, vtk_0, vtk_s, vrc_0, vsw_0, vsw_s, List.all_cons, List.all_nil, zc1_i, zc1_r, Bool.and_true, Bool.and_self, true_and, and_true, List.length_cons, List.length_nil, Nat.zero_le, Nat.reduceLeDiff, Nat.reduceAdd, Nat.reduceLT, Option.toList_some, List.cons_append, List.nil_append, tg_483, h14, tf_483_15, tg_496, ln_496, tf_483_16, tg_497, ln_497, tf_483_17, tg_498, ln_498, tf_483_18, tg_499, ln_499]
        rw [if_pos trivial]
        by_cases z8 : ec = 8
        · rw [if_pos (by rw [z8]; rfl)]
          exact k0 z8
        · rw [if_neg (by rw [li8, nI_eq (by omega) (by omega)]; exact z8)]
          simp (disch := omega) only [nI_clamp, vinb_n, e1, e2, e3, e4, tsi_eq, nI_1, nI_mp]
          exact ⟨by omega, by omega, by omega, by omega, k1 (by omega)⟩
      · rw [if_neg (by rw [np6]; exact z6)]
        by_cases z7 : x % 16 = 7
        · rw [if_pos (by rw [np7]; exact z7)]
          refine c_37 (lo := 2) (hi := 5) (by omega) (by omega) (by omega) (fun y _ _ _ => ?_) (fun hno => absurd rfl (hno (x / 16 % 16) (by unfold tld at htl; omega) (by unfold tld at htl; omega)))
          simp only [v_86_0, v_86_1, v_86_2, v_86_3, v_86_6, v_86_9, v_86_10, v_86_11, v_86_12, v_86_15, v_86_18, v_86_19, v_86_20, v_86_23, v_86_26, v_86_29, v_86_30, v_86_32, v_86_35, v_86_38, v_86_39, v_86_42, v_86_44, v_86_45, v_86_48, v_86_49, v_86_50, v_86_51, v_86_53, v_86_54, v_86_56, v_86_57, v_86_59, v_86_60, v_86_62, v_86_63, v_86_65, v_86_67, v_86_68, v_86_70, v_86_73, v_86_76, v_86_78, v_86_80, v_86_83, v_86_85, v_86_87, v_86_90, v_86_92, v_86_94, v_86_97, v_86_99, v_86_100, v_86_101, v_86_104, v_86_107, v_86_108, v_86_109, v_86_110, v_86_113, v_86_115, v_86_118, v_86_120, v_86_121, v_86_122, v_86_125, v_86_126, v_86_129, v_86_130, v_86_131, v_86_132, v_86_135, v_86_136, v_86_139, v_86_140, v_86_141, v_86_142, v_86_145, v_86_146, v_86_149, v_86_150, v_86_151, v_86_152, v_86_155, v_86_156, v_86_159, v_86_161, v_86_162, v_86_163_int, v_86_163_ref, v_86_164, v_86_167, v_86_168, v_86_169, v_86_172, v_86_173, v_86_176, v_86_177, v_86_178, vgi_0, vgi_s, vga_0, vga_s, vset_0, vset_s, vtk_0, vtk_s, vrc_0, vsw_0, vsw_s, List.all_cons, List.all_nil, zc1_i, zc1_r, Bool.and_true, Bool.and_self, true_and, and_true, List.length_cons, List.length_nil, Nat.zero_le, Nat.reduceLeDiff, Nat.reduceAdd, Nat.reduceLT, Option.toList_some, List.cons_append, List.nil_append, tg_483, h14, tf_483_15, tg_496, ln_496, tf_483_16, tg_497, ln_497, tf_483_17, tg_498, ln_498, tf_483_18, tg_499, ln_499]
          rw [if_pos trivial]
          by_cases z8 : ec = 8
          · rw [if_pos (by rw [z8]; rfl)]
            exact k0 z8
          · rw [if_neg (by rw [li8, nI_eq (by omega) (by omega)]; exact z8)]
            simp (disch := omega) only [nI_clamp, vinb_n, e1, e2, e3, e4, tsi_eq, nI_1, nI_mp]
            exact ⟨by omega, by omega, by omega, by omega, k1 (by omega)⟩
        · rw [if_neg (by rw [np7]; exact z7)]
          by_cases z8 : ec = 8
          · rw [if_pos (by rw [z8]; rfl)]
            exact k0 z8
          · rw [if_neg (by rw [li8, nI_eq (by omega) (by omega)]; exact z8)]
            simp (disch := omega) only [nI_clamp, vinb_n, e1, e2, e3, e4, tsi_eq, nI_1, nI_mp]
            exact ⟨by omega, by omega, by omega, by omega, k1 (by omega)⟩
    · have z15 : x % 16 = 15 := by
        rcases htl with h | h | h
        · exact absurd rfl (hp (x % 16) (by omega) (by omega))
        · exact h
        · exact absurd rfl (hp (x % 16) (by omega) (by omega))
      simp only [v_86_0, v_86_1, v_86_2, v_86_3, v_86_6, v_86_9, v_86_10, v_86_11, v_86_12, v_86_15, v_86_18, v_86_19, v_86_20, v_86_23, v_86_26, v_86_29, v_86_30, v_86_32, v_86_35, v_86_38, v_86_39, v_86_42, v_86_44, v_86_45, v_86_48, v_86_49, v_86_50, v_86_51, v_86_53, v_86_54, v_86_56, v_86_57, v_86_59, v_86_60, v_86_62, v_86_63, v_86_65, v_86_67, v_86_68, v_86_70, v_86_73, v_86_76, v_86_78, v_86_80, v_86_83, v_86_85, v_86_87, v_86_90, v_86_92, v_86_94, v_86_97, v_86_99, v_86_100, v_86_101, v_86_104, v_86_107, v_86_108, v_86_109, v_86_110, v_86_113, v_86_115, v_86_118, v_86_120, v_86_121, v_86_122, v_86_125, v_86_126, v_86_129, v_86_130, v_86_131, v_86_132, v_86_135, v_86_136, v_86_139, v_86_140, v_86_141, v_86_142, v_86_145, v_86_146, v_86_149, v_86_150, v_86_151, v_86_152, v_86_155, v_86_156, v_86_159, v_86_161, v_86_162, v_86_163_int, v_86_163_ref, v_86_164, v_86_167, v_86_168, v_86_169, v_86_172, v_86_173, v_86_176, v_86_177, v_86_178, vgi_0, vgi_s, vga_0, vga_s, vset_0, vset_s, vtk_0, vtk_s, vrc_0, vsw_0, vsw_s, List.all_cons, List.all_nil, zc1_i, zc1_r, Bool.and_true, Bool.and_self, true_and, and_true, List.length_cons, List.length_nil, Nat.zero_le, Nat.reduceLeDiff, Nat.reduceAdd, Nat.reduceLT, Option.toList_some, List.cons_append, List.nil_append, tg_483, h14, tf_483_15, tg_496, ln_496, tf_483_16, tg_497, ln_497, tf_483_17, tg_498, ln_498, tf_483_18, tg_499, ln_499]
      rw [if_neg (by decide), z15, if_pos (by decide), if_neg (by decide), if_neg (by decide)]
      by_cases z8 : ec = 8
      · rw [if_pos (by rw [z8]; rfl)]
        exact k0 z8
      · rw [if_neg (by rw [li8, nI_eq (by omega) (by omega)]; exact z8)]
        simp (disch := omega) only [nI_clamp, vinb_n, e1, e2, e3, e4, tsi_eq, nI_1, nI_mp]
        exact ⟨by omega, by omega, by omega, by omega, k1 (by omega)⟩
  have last : ∀ f g x i, f < 4 → g < 4 → x < 512 → i < m → fr q i = 0 → tld x → fv = nI f → gv = nI g → wv = nI x → iv = nI i → (ec = 8 → twc d 86 [.ref 483, .int fv, .int gv, .int wv, .int iv] t (fun r' t2 => ∃ v, some (Value.int (-2)) = some (Value.int v) ∧ r' = some (Value.int v) ∧ INV t2)) ∧ (ec ≠ 8 → twc (d - 1) 113 [.ref (251 + 3 * ec), .int fv, .int gv, .int wv, .int iv] t (fun r t1 => r = none ∧ t1.1 0 13 = nI ec ∧ twc d 86 [.ref 483, .int fv, .int gv, .int wv, .int iv] (tsi t1 0 13 (nI (ec + 1))) (fun r' t2 => ∃ v, some (Value.int (nI ec)) = some (Value.int v) ∧ r' = some (Value.int v) ∧ INV t2))) := by
    rintro f g x i hf hg hx hi hfr htl rfl rfl rfl rfl
    constructor
    · intro z8
      exact mod f g x i t hf hg hx hi hfr htl h2 e4814 _ (fun _ => ⟨_, rfl, rfl, hI⟩) (fun h => absurd h (by omega))
    · intro z8
      have elt : ec < 8 := by omega
      have i1 : ∀ b k, ¬ (b = 251 + 3 * ec ∧ k < 6) → ¬ (b = 0 ∧ k = 13) → (tsi (ste t (251 + 3 * ec) f g x i) 0 13 (nI (ec + 1))).1 b k = t.1 b k := fun b k a1 a2 => by
        rw [tsi_ne (by omega), ste_o (by omega)]
      refine c_113 (by omega) (ed_tag elt) hx ⟨rfl, by rw [ste_o (by omega)]; exact e013, ?_⟩
      refine mod f g x i _ hf hg hx hi hfr htl (h2.k (fun b k a => i1 b k (by omega) (by omega)) (i1 _ _ (by omega) (by omega))) (by rw [i1 _ _ (by omega) (by omega)]; exact e4814) _ (fun h => absurd h z8) (fun _ => ⟨_, rfl, rfl, ?_⟩)
      have i2 : ∀ b k, ¬ (b = 251 + 3 * ec ∧ k < 6) → ¬ (b = 0 ∧ k = 13) → ¬ (496 ≤ b ∧ b ≤ 499 ∧ k = ec) → ¬ (b = 483 ∧ k = 14) → (mod4 (tsi (ste t (251 + 3 * ec) f g x i) 0 13 (nI (ec + 1))) ec f g x i (ec + 1)).1 b k = t.1 b k := fun b k a1 a2 a3 a4 => by
        unfold mod4
        rw [tsi_ne (by omega), tsi_ne (by omega), tsi_ne (by omega), tsi_ne (by omega), tsi_ne (by omega)]; exact i1 b k a1 a2
      have c1 : ∀ b k, b = 251 + 3 * ec → k < 6 → (mod4 (tsi (ste t (251 + 3 * ec) f g x i) 0 13 (nI (ec + 1))) ec f g x i (ec + 1)).1 b k = (ste t (251 + 3 * ec) f g x i).1 b k := fun b k a1 a2 => by
        unfold mod4
        rw [tsi_ne (by omega), tsi_ne (by omega), tsi_ne (by omega), tsi_ne (by omega), tsi_ne (by omega), tsi_ne (by omega)]
      have n6 := eNo ec (by omega) elt
      refine hI.upd (q' := q) (m' := m) (ru' := ru) (rc' := rc) (ec' := ec + 1) (Es' := Ead Es ec (nE f g x i)) (fun b k a1 a2 a3 => i2 b k (by omega) (by omega) (by omega) (by omega)) rfl (h2.k (fun b k a => i2 b k (by omega) (by omega) (by omega) (by omega)) (i2 _ _ (by omega) (by omega) (by omega) (by omega))) (h3.k (fun b k a => i2 b k (by omega) (by omega) (by omega) (by omega)) (i2 _ _ (by omega) (by omega) (by omega) (by omega))) ⟨by omega, ?_, ?_, fun e he => ?_, fun e he he8 => ?_⟩
      · unfold mod4
        rw [tsi_ne (by omega), tsi_ne (by omega), tsi_ne (by omega), tsi_ne (by omega), tsi_ne (by omega), tsi_eq]
      · unfold mod4; rw [tsi_eq]
      · by_cases z : e = ec
        · subst z
          rw [Ead_e]
          refine ⟨⟨hf, hg, ?_, ?_, ?_, ?_, hi, hfr, by show 0 ≤ 4; omega, fun j hj => absurd hj (Nat.not_lt_zero j)⟩, ⟨?_, ?_, ?_, ?_, ?_, ?_, ?_, fun j hj => absurd hj (Nat.not_lt_zero j)⟩, ⟨?_, ?_, ?_, ?_, ?_, fun j hj => absurd hj (Nat.not_lt_zero j)⟩⟩
          · show (2 ≤ x % 16 ∧ x % 16 < 8) ∨ x % 16 = 15
            unfold tld at htl; omega
          · show 6 ≤ x % 16 → x % 16 < 8 → 2 ≤ x / 16 % 16 ∧ x / 16 % 16 < 6
            unfold tld at htl; omega
          · show x / 16 % 16 < 16
            omega
          · show x / 256 < 2
            omega
          · rw [c1 _ _ rfl (by omega)]; unfold ste; rw [tsi_ne (by omega), tsi_ne (by omega), tsi_ne (by omega), tsi_ne (by omega), tsi_ne (by omega), tsi_eq]; rfl
          · rw [c1 _ _ rfl (by omega)]; unfold ste; rw [tsi_ne (by omega), tsi_ne (by omega), tsi_ne (by omega), tsi_ne (by omega), tsi_eq]; rfl
          · rw [c1 _ _ rfl (by omega)]; unfold ste; rw [tsi_ne (by omega), tsi_ne (by omega), tsi_ne (by omega), tsi_eq]; rfl
          · rw [c1 _ _ rfl (by omega)]; unfold ste; rw [tsi_ne (by omega), tsi_ne (by omega), tsi_eq]; rfl
          · rw [c1 _ _ rfl (by omega)]; unfold ste; rw [tsi_ne (by omega), tsi_eq]; rfl
          · rw [c1 _ _ rfl (by omega)]; unfold ste; rw [tsi_eq]; rfl
          · rw [i2 _ _ (by omega) (by omega) (by omega) (by omega)]; exact n6.1
          · unfold mod4; rw [tsi_ne (by omega), tsi_ne (by omega), tsi_ne (by omega), tsi_ne (by omega), tsi_eq]; rfl
          · unfold mod4; rw [tsi_ne (by omega), tsi_ne (by omega), tsi_ne (by omega), tsi_eq]; rfl
          · unfold mod4; rw [tsi_ne (by omega), tsi_ne (by omega), tsi_eq]
            show nI x = nI (x % 16 + 16 * (x / 16 % 16) + 256 * (x / 256))
            rw [show x % 16 + 16 * (x / 16 % 16) + 256 * (x / 256) = x by omega]
          · unfold mod4; rw [tsi_ne (by omega), tsi_eq]; rfl
          · rw [i2 _ _ (by omega) (by omega) (by omega) (by omega)]; exact n6.2
        · rw [Ead_o z]
          obtain ⟨w1, w2, w3⟩ := eEs e (by omega)
          obtain ⟨a1, a2, a3, a4, a5, a6, a7, a8⟩ := w2
          obtain ⟨m1, m2, m3, m4, m5, m6⟩ := w3
          have j1 : ∀ b k, (251 ≤ b ∧ b < 275 ∧ b ≠ 251 + 3 * ec) → (mod4 (tsi (ste t (251 + 3 * ec) f g x i) 0 13 (nI (ec + 1))) ec f g x i (ec + 1)).1 b k = t.1 b k := fun b k hb => i2 b k (by omega) (by omega) (by omega) (by omega)
          refine ⟨w1, ⟨by rw [j1 _ _ (by omega)]; exact a1, by rw [j1 _ _ (by omega)]; exact a2, by rw [j1 _ _ (by omega)]; exact a3, by rw [j1 _ _ (by omega)]; exact a4, by rw [j1 _ _ (by omega)]; exact a5, by rw [j1 _ _ (by omega)]; exact a6, by rw [j1 _ _ (by omega)]; exact a7, fun j hj => by rw [j1 _ _ (by omega), j1 _ _ (by omega)]; exact a8 j hj⟩, ⟨by rw [i2 _ _ (by omega) (by omega) (by omega) (by omega)]; exact m1, by rw [i2 _ _ (by omega) (by omega) (by omega) (by omega)]; exact m2, by rw [i2 _ _ (by omega) (by omega) (by omega) (by omega)]; exact m3, by rw [i2 _ _ (by omega) (by omega) (by omega) (by omega)]; exact m4, by rw [i2 _ _ (by omega) (by omega) (by omega) (by omega)]; exact m5, fun j hj => by rw [i2 _ _ (by omega) (by omega) (by omega) (by omega), i2 _ _ (by omega) (by omega) (by omega) (by omega)]; exact m6 j hj⟩⟩
      · rw [i2 _ _ (by omega) (by omega) (by omega) (by omega), i2 _ _ (by omega) (by omega) (by omega) (by omega)]; exact eNo e (by omega) he8
  refine ⟨by omega, ?_⟩
  rw [ze_13]
  refine vc_ok none zH_13 58 false _ 13 0 _ _ _ _ ?_
  simp only [v_13_0, v_13_1, v_13_2, v_13_5, v_13_8, v_13_9, v_13_10, v_13_13, v_13_16, v_13_17, v_13_20, v_13_23, v_13_24, v_13_25, v_13_26, v_13_29, v_13_31, v_13_32, v_13_35, v_13_38, v_13_39, v_13_40, v_13_41, v_13_44, v_13_46, v_13_49, v_13_51, v_13_52, v_13_53, v_13_56, v_13_57, v_13_60, v_13_61, v_13_62, v_13_63, v_13_64, v_13_66, v_13_69, v_13_70_int, v_13_70_ref, v_13_71, v_13_74, v_13_75, v_13_76, v_13_79, v_13_80, v_13_83, v_13_84, v_13_85, vgi_0, vgi_s, vga_0, vga_s, vset_0, vset_s, vtk_0, vtk_s, vrc_0, vsw_0, vsw_s, List.all_cons, List.all_nil, zc1_i, zc1_r, Bool.and_true, Bool.and_self, true_and, and_true, List.length_cons, List.length_nil, Nat.zero_le, Nat.reduceLeDiff, Nat.reduceAdd, Nat.reduceLT]
  refine c_22 (L := 4) (by omega) (by omega) (fun f hf ef => ?_) (fun hno => ?_)
  · simp only [v_13_0, v_13_1, v_13_2, v_13_5, v_13_8, v_13_9, v_13_10, v_13_13, v_13_16, v_13_17, v_13_20, v_13_23, v_13_24, v_13_25, v_13_26, v_13_29, v_13_31, v_13_32, v_13_35, v_13_38, v_13_39, v_13_40, v_13_41, v_13_44, v_13_46, v_13_49, v_13_51, v_13_52, v_13_53, v_13_56, v_13_57, v_13_60, v_13_61, v_13_62, v_13_63, v_13_64, v_13_66, v_13_69, v_13_70_int, v_13_70_ref, v_13_71, v_13_74, v_13_75, v_13_76, v_13_79, v_13_80, v_13_83, v_13_84, v_13_85, vgi_0, vgi_s, vga_0, vga_s, vset_0, vset_s, vtk_0, vtk_s, vrc_0, vsw_0, vsw_s, List.all_cons, List.all_nil, zc1_i, zc1_r, Bool.and_true, Bool.and_self, true_and, and_true, List.length_cons, List.length_nil, Nat.zero_le, Nat.reduceLeDiff, Nat.reduceAdd, Nat.reduceLT, Option.toList_some, List.cons_append, List.nil_append]
    rw [if_neg (by decide)]
    refine c_22 (L := 4) (by omega) (by omega) (fun g hg eg => ?_) (fun hno => ?_)
    · simp only [v_13_0, v_13_1, v_13_2, v_13_5, v_13_8, v_13_9, v_13_10, v_13_13, v_13_16, v_13_17, v_13_20, v_13_23, v_13_24, v_13_25, v_13_26, v_13_29, v_13_31, v_13_32, v_13_35, v_13_38, v_13_39, v_13_40, v_13_41, v_13_44, v_13_46, v_13_49, v_13_51, v_13_52, v_13_53, v_13_56, v_13_57, v_13_60, v_13_61, v_13_62, v_13_63, v_13_64, v_13_66, v_13_69, v_13_70_int, v_13_70_ref, v_13_71, v_13_74, v_13_75, v_13_76, v_13_79, v_13_80, v_13_83, v_13_84, v_13_85, vgi_0, vgi_s, vga_0, vga_s, vset_0, vset_s, vtk_0, vtk_s, vrc_0, vsw_0, vsw_s, List.all_cons, List.all_nil, zc1_i, zc1_r, Bool.and_true, Bool.and_self, true_and, and_true, List.length_cons, List.length_nil, Nat.zero_le, Nat.reduceLeDiff, Nat.reduceAdd, Nat.reduceLT, Option.toList_some, List.cons_append, List.nil_append]
      rw [if_neg (by decide)]
      refine c_112 (by omega) (fun x hx ex htl => ?_) (fun hno => ?_)
      · simp only [v_13_0, v_13_1, v_13_2, v_13_5, v_13_8, v_13_9, v_13_10, v_13_13, v_13_16, v_13_17, v_13_20, v_13_23, v_13_24, v_13_25, v_13_26, v_13_29, v_13_31, v_13_32, v_13_35, v_13_38, v_13_39, v_13_40, v_13_41, v_13_44, v_13_46, v_13_49, v_13_51, v_13_52, v_13_53, v_13_56, v_13_57, v_13_60, v_13_61, v_13_62, v_13_63, v_13_64, v_13_66, v_13_69, v_13_70_int, v_13_70_ref, v_13_71, v_13_74, v_13_75, v_13_76, v_13_79, v_13_80, v_13_83, v_13_84, v_13_85, vgi_0, vgi_s, vga_0, vga_s, vset_0, vset_s, vtk_0, vtk_s, vrc_0, vsw_0, vsw_s, List.all_cons, List.all_nil, zc1_i, zc1_r, Bool.and_true, Bool.and_self, true_and, and_true, List.length_cons, List.length_nil, Nat.zero_le, Nat.reduceLeDiff, Nat.reduceAdd, Nat.reduceLT, Option.toList_some, List.cons_append, List.nil_append, tg_0, tf_0_1, tg_2]
        rw [if_neg (by decide)]
        refine c_134 (k := 0) (by omega) h2 (by omega) (by omega) (fun i hi ei hl => ?_) (fun hno => ?_)
        · have la := last f g x i hf hg hx hi (by omega) htl ef eg ex ei
          simp only [v_13_0, v_13_1, v_13_2, v_13_5, v_13_8, v_13_9, v_13_10, v_13_13, v_13_16, v_13_17, v_13_20, v_13_23, v_13_24, v_13_25, v_13_26, v_13_29, v_13_31, v_13_32, v_13_35, v_13_38, v_13_39, v_13_40, v_13_41, v_13_44, v_13_46, v_13_49, v_13_51, v_13_52, v_13_53, v_13_56, v_13_57, v_13_60, v_13_61, v_13_62, v_13_63, v_13_64, v_13_66, v_13_69, v_13_70_int, v_13_70_ref, v_13_71, v_13_74, v_13_75, v_13_76, v_13_79, v_13_80, v_13_83, v_13_84, v_13_85, vgi_0, vgi_s, vga_0, vga_s, vset_0, vset_s, vtk_0, vtk_s, vrc_0, vsw_0, vsw_s, List.all_cons, List.all_nil, zc1_i, zc1_r, Bool.and_true, Bool.and_self, true_and, and_true, List.length_cons, List.length_nil, Nat.zero_le, Nat.reduceLeDiff, Nat.reduceAdd, Nat.reduceLT, Option.toList_some, List.cons_append, List.nil_append, tg_0, e013, tf_0_4, tg_57, ln_57]
          rw [if_neg (by decide)]
          by_cases z8 : ec = 8
          · rw [if_pos (by rw [z8]; rfl)]
            exact la.1 z8
          · rw [if_neg (by rw [li8, nI_eq (by omega) (by omega)]; exact z8)]
            have et := ed_tag (show ec < 8 by omega)
            simp (disch := omega) only [nI_clamp, vinb_n, tf_57, et]
            refine ⟨by omega, trivial, ?_⟩
            refine twc.mono (la.2 z8) (fun r t1 hr => ?_)
            obtain ⟨rfl, h13, hr⟩ := hr
            simp only [v_13_0, v_13_1, v_13_2, v_13_5, v_13_8, v_13_9, v_13_10, v_13_13, v_13_16, v_13_17, v_13_20, v_13_23, v_13_24, v_13_25, v_13_26, v_13_29, v_13_31, v_13_32, v_13_35, v_13_38, v_13_39, v_13_40, v_13_41, v_13_44, v_13_46, v_13_49, v_13_51, v_13_52, v_13_53, v_13_56, v_13_57, v_13_60, v_13_61, v_13_62, v_13_63, v_13_64, v_13_66, v_13_69, v_13_70_int, v_13_70_ref, v_13_71, v_13_74, v_13_75, v_13_76, v_13_79, v_13_80, v_13_83, v_13_84, v_13_85, vgi_0, vgi_s, vga_0, vga_s, vset_0, vset_s, vtk_0, vtk_s, vrc_0, vsw_0, vsw_s, List.all_cons, List.all_nil, zc1_i, zc1_r, Bool.and_true, Bool.and_self, true_and, and_true, List.length_cons, List.length_nil, Nat.zero_le, Nat.reduceLeDiff, Nat.reduceAdd, Nat.reduceLT, Option.toList_none, List.nil_append, tg_0, h13]
            simp only [tsi_eq, nI_1, nI_mp]
            exact hr
        · simp only [v_13_0, v_13_1, v_13_2, v_13_5, v_13_8, v_13_9, v_13_10, v_13_13, v_13_16, v_13_17, v_13_20, v_13_23, v_13_24, v_13_25, v_13_26, v_13_29, v_13_31, v_13_32, v_13_35, v_13_38, v_13_39, v_13_40, v_13_41, v_13_44, v_13_46, v_13_49, v_13_51, v_13_52, v_13_53, v_13_56, v_13_57, v_13_60, v_13_61, v_13_62, v_13_63, v_13_64, v_13_66, v_13_69, v_13_70_int, v_13_70_ref, v_13_71, v_13_74, v_13_75, v_13_76, v_13_79, v_13_80, v_13_83, v_13_84, v_13_85, vgi_0, vgi_s, vga_0, vga_s, vset_0, vset_s, vtk_0, vtk_s, vrc_0, vsw_0, vsw_s, List.all_cons, List.all_nil, zc1_i, zc1_r, Bool.and_true, Bool.and_self, true_and, and_true, List.length_cons, List.length_nil, Nat.zero_le, Nat.reduceLeDiff, Nat.reduceAdd, Nat.reduceLT, Option.toList_some, List.cons_append, List.nil_append]
          rw [if_pos trivial]
          exact bad (fun f g x i _ _ _ hi _ _ _ ei _ => hno i hi ei)
      · simp only [v_13_0, v_13_1, v_13_2, v_13_5, v_13_8, v_13_9, v_13_10, v_13_13, v_13_16, v_13_17, v_13_20, v_13_23, v_13_24, v_13_25, v_13_26, v_13_29, v_13_31, v_13_32, v_13_35, v_13_38, v_13_39, v_13_40, v_13_41, v_13_44, v_13_46, v_13_49, v_13_51, v_13_52, v_13_53, v_13_56, v_13_57, v_13_60, v_13_61, v_13_62, v_13_63, v_13_64, v_13_66, v_13_69, v_13_70_int, v_13_70_ref, v_13_71, v_13_74, v_13_75, v_13_76, v_13_79, v_13_80, v_13_83, v_13_84, v_13_85, vgi_0, vgi_s, vga_0, vga_s, vset_0, vset_s, vtk_0, vtk_s, vrc_0, vsw_0, vsw_s, List.all_cons, List.all_nil, zc1_i, zc1_r, Bool.and_true, Bool.and_self, true_and, and_true, List.length_cons, List.length_nil, Nat.zero_le, Nat.reduceLeDiff, Nat.reduceAdd, Nat.reduceLT, Option.toList_some, List.cons_append, List.nil_append]
        rw [if_pos trivial]
        exact bad (fun f g x i _ _ hx _ _ _ ex _ htl => absurd htl (hno x hx ex))
    · simp only [v_13_0, v_13_1, v_13_2, v_13_5, v_13_8, v_13_9, v_13_10, v_13_13, v_13_16, v_13_17, v_13_20, v_13_23, v_13_24, v_13_25, v_13_26, v_13_29, v_13_31, v_13_32, v_13_35, v_13_38, v_13_39, v_13_40, v_13_41, v_13_44, v_13_46, v_13_49, v_13_51, v_13_52, v_13_53, v_13_56, v_13_57, v_13_60, v_13_61, v_13_62, v_13_63, v_13_64, v_13_66, v_13_69, v_13_70_int, v_13_70_ref, v_13_71, v_13_74, v_13_75, v_13_76, v_13_79, v_13_80, v_13_83, v_13_84, v_13_85, vgi_0, vgi_s, vga_0, vga_s, vset_0, vset_s, vtk_0, vtk_s, vrc_0, vsw_0, vsw_s, List.all_cons, List.all_nil, zc1_i, zc1_r, Bool.and_true, Bool.and_self, true_and, and_true, List.length_cons, List.length_nil, Nat.zero_le, Nat.reduceLeDiff, Nat.reduceAdd, Nat.reduceLT, Option.toList_some, List.cons_append, List.nil_append]
      rw [if_pos trivial]
      exact bad (fun f g x i _ hg _ _ _ eg => absurd eg (hno g hg))
  · simp only [v_13_0, v_13_1, v_13_2, v_13_5, v_13_8, v_13_9, v_13_10, v_13_13, v_13_16, v_13_17, v_13_20, v_13_23, v_13_24, v_13_25, v_13_26, v_13_29, v_13_31, v_13_32, v_13_35, v_13_38, v_13_39, v_13_40, v_13_41, v_13_44, v_13_46, v_13_49, v_13_51, v_13_52, v_13_53, v_13_56, v_13_57, v_13_60, v_13_61, v_13_62, v_13_63, v_13_64, v_13_66, v_13_69, v_13_70_int, v_13_70_ref, v_13_71, v_13_74, v_13_75, v_13_76, v_13_79, v_13_80, v_13_83, v_13_84, v_13_85, vgi_0, vgi_s, vga_0, vga_s, vset_0, vset_s, vtk_0, vtk_s, vrc_0, vsw_0, vsw_s, List.all_cons, List.all_nil, zc1_i, zc1_r, Bool.and_true, Bool.and_self, true_and, and_true, List.length_cons, List.length_nil, Nat.zero_le, Nat.reduceLeDiff, Nat.reduceAdd, Nat.reduceLT, Option.toList_some, List.cons_append, List.nil_append]
    rw [if_pos trivial]
    exact bad (fun f g x i hf _ _ _ ef => absurd ef (hno f hf))
end OP9
