/-! A new formula: what the reference asks and keeps of it. -/
section FM3
variable {d : Nat} {t t' : T} {F : Option Value → T → Prop} {q : FT} {m : Nat} {a b c e : Int32}
def mkm (q : FT) (m k : Nat) (a b c d : Int32) : Prop := (k = 0 ∧ ∃ x, x < 3 ∧ a = nI x) ∨ (k = 1 ∧ ∃ x, x < 8 ∧ a = nI x ∧ (2 ≤ x → ∃ y, y < 6 ∧ b = nI y) ∧ (6 ≤ x → ∃ y, y < 6 ∧ c = nI y)) ∨ (k = 2 ∧ (∃ y, y < 6 ∧ b = nI y) ∧ ∃ y, y < 6 ∧ c = nI y) ∨ (k = 3 ∧ ∃ y, y < m ∧ c = nI y) ∨ ((k = 4 ∨ k = 5) ∧ (∃ y, y < m ∧ c = nI y) ∧ ∃ y, y < m ∧ d = nI y) ∨ ((k = 6 ∨ k = 7) ∧ (∃ y, y < 6 ∧ a = nI y) ∧ ∃ y, y < m ∧ c = nI y) ∨ (k = 8 ∧ (∃ y, y < 6 ∧ a = nI y) ∧ (∃ y, y < 6 ∧ b = nI y) ∧ ∃ y, y < m ∧ c = nI y ∧ cl q y = 0)
theorem mkm_0 : mkm q m 0 a b c e ↔ ∃ x, x < 3 ∧ a = nI x := by simp [mkm]
theorem mkm_1 : mkm q m 1 a b c e ↔ ∃ x, x < 8 ∧ a = nI x ∧ (2 ≤ x → ∃ y, y < 6 ∧ b = nI y) ∧ (6 ≤ x → ∃ y, y < 6 ∧ c = nI y) := by simp [mkm]
theorem mkm_2 : mkm q m 2 a b c e ↔ (∃ y, y < 6 ∧ b = nI y) ∧ ∃ y, y < 6 ∧ c = nI y := by simp [mkm]
theorem mkm_3 : mkm q m 3 a b c e ↔ ∃ y, y < m ∧ c = nI y := by simp [mkm]
theorem mkm_4 {k : Nat} (h : k = 4 ∨ k = 5) : mkm q m k a b c e ↔ (∃ y, y < m ∧ c = nI y) ∧ ∃ y, y < m ∧ e = nI y := by rcases h with rfl | rfl <;> simp [mkm]
theorem mkm_6 {k : Nat} (h : k = 6 ∨ k = 7) : mkm q m k a b c e ↔ (∃ y, y < 6 ∧ a = nI y) ∧ ∃ y, y < m ∧ c = nI y := by rcases h with rfl | rfl <;> simp [mkm]
theorem mkm_8 : mkm q m 8 a b c e ↔ (∃ y, y < 6 ∧ a = nI y) ∧ (∃ y, y < 6 ∧ b = nI y) ∧ ∃ y, y < m ∧ c = nI y ∧ cl q y = 0 := by simp [mkm]
theorem mkb_iff {k : Nat} (hm : m ≤ 40) (hk : k < 9) : mkb q m k a b c e ↔ mkm q m k a b c e ∧ nD q k (nn c) (nn e) ≤ 4 := by
  have : k = 0 ∨ k = 1 ∨ k = 2 ∨ k = 3 ∨ (k = 4 ∨ k = 5) ∨ (k = 6 ∨ k = 7) ∨ k = 8 := by omega
  rcases this with rfl | rfl | rfl | rfl | h | h | rfl
  · rw [mkb_0, mkm_0]; exact ⟨fun z => ⟨z, by unfold nD; rw [if_pos (by omega)]; omega⟩, fun z => z.1⟩
  · rw [mkb_1, mkm_1]; exact ⟨fun z => ⟨z, by unfold nD; rw [if_pos (by omega)]; omega⟩, fun z => z.1⟩
  · rw [mkb_2, mkm_2]; exact ⟨fun z => ⟨z, by unfold nD; rw [if_pos (by omega)]; omega⟩, fun z => z.1⟩
  · rw [mkb_3, mkm_3]
    have eD : nD q 3 (nn c) (nn e) = 1 + dp q (nn c) := by unfold nD; rw [if_neg (by omega), if_neg (by omega)]
    rw [eD]
    constructor
    · rintro ⟨y, hy, rfl, hl⟩; rw [nn_nI (by omega)]; exact ⟨⟨y, hy, rfl⟩, by omega⟩
    · rintro ⟨⟨y, hy, rfl⟩, hl⟩; rw [nn_nI (by omega)] at hl; exact ⟨y, hy, rfl, by omega⟩
  · rw [mkb_4 h, mkm_4 h]
    have eD : nD q k (nn c) (nn e) = 1 + max (dp q (nn c)) (dp q (nn e)) := by unfold nD; rw [if_neg (by omega), if_pos h]
    rw [eD]
    constructor
    · rintro ⟨⟨y, hy, rfl, hl⟩, z, hz, rfl, hl2⟩; rw [nn_nI (by omega), nn_nI (by omega)]; exact ⟨⟨⟨y, hy, rfl⟩, z, hz, rfl⟩, by omega⟩
    · rintro ⟨⟨⟨y, hy, rfl⟩, z, hz, rfl⟩, hl⟩; rw [nn_nI (by omega), nn_nI (by omega)] at hl; exact ⟨⟨y, hy, rfl, by omega⟩, z, hz, rfl, by omega⟩
  · rw [mkb_6 h, mkm_6 h]
    have eD : nD q k (nn c) (nn e) = 1 + dp q (nn c) := by unfold nD; rw [if_neg (by omega), if_neg (by omega)]
    rw [eD]
    constructor
    · rintro ⟨g, y, hy, rfl, hl⟩; rw [nn_nI (by omega)]; exact ⟨⟨g, y, hy, rfl⟩, by omega⟩
    · rintro ⟨⟨g, y, hy, rfl⟩, hl⟩; rw [nn_nI (by omega)] at hl; exact ⟨g, y, hy, rfl, by omega⟩
  · rw [mkb_8, mkm_8]
    have eD : nD q 8 (nn c) (nn e) = 1 + dp q (nn c) := by unfold nD; rw [if_neg (by omega), if_neg (by omega)]
    rw [eD]
    constructor
    · rintro ⟨g, g2, y, hy, rfl, hl, hc⟩; rw [nn_nI (by omega)]; exact ⟨⟨g, g2, y, hy, rfl, hc⟩, by omega⟩
    · rintro ⟨⟨g, g2, y, hy, rfl, hc⟩, hl⟩; rw [nn_nI (by omega)] at hl; exact ⟨g, g2, y, hy, rfl, by omega, hc⟩
def foM (t : T) (q : FT) (m : Nat) : Prop := m ≤ 40 ∧ t.1 483 1 = nI m ∧ ∀ i, i < m → t.1 491 i = nI (fr q i) ∧ fr q i < 64 ∧ t.1 490 i = nI (dp q i) ∧ dp q i ≤ 4 ∧ t.1 492 i = nI (cl q i) ∧ cl q i < 2
theorem foI.toM (h : foI t q m) : foM t q m := ⟨h.le, h.2.2.2.1, fun i hi => ⟨(h.fr hi).2.1, (h.fr hi).2.2, (h.dp hi).2.1, (h.dp hi).2.2.1, (h.dp hi).2.2.2.2.1, (h.dp hi).2.2.2.2.2⟩⟩
theorem foM.le (h : foM t q m) : m ≤ 40 := h.1
theorem foM.fr {i : Nat} (h : foM t q m) (hi : i < m) : True ∧ t.1 491 i = nI (fr q i) ∧ fr q i < 64 := ⟨trivial, (h.2.2 i hi).1, (h.2.2 i hi).2.1⟩
theorem foM.dp {i : Nat} (h : foM t q m) (hi : i < m) : True ∧ t.1 490 i = nI (dp q i) ∧ dp q i ≤ 4 ∧ True ∧ t.1 492 i = nI (cl q i) ∧ cl q i < 2 := ⟨trivial, (h.2.2 i hi).2.2.1, (h.2.2 i hi).2.2.2.1, trivial, (h.2.2 i hi).2.2.2.2.1, (h.2.2 i hi).2.2.2.2.2⟩
theorem c_55m {fv : Int32} (hd : 1 ≤ d) (h : foM t q m) (k1 : ∀ i, i < m → fv = nI i → F (some (.int 1)) t) (k0 : (∀ i, i < m → fv ≠ nI i) → F (some (.int 0)) t) : twc d 55 [.ref 483, .int fv] t F := by
  have h1 := h.2.1
  have hm := h.le
  refine ⟨by omega, ?_⟩
  rw [ze_55]
  refine vc_ok none zH_55 20 false _ 55 0 _ _ _ _ ?_
  simp only [v_55_0, v_55_1, v_55_4, v_55_5, v_55_6, v_55_9, v_55_12, v_55_13, v_55_16, v_55_17, vgi_0, vgi_s, vga_0, vga_s, vset_0, vset_s, vtk_0, vtk_s, vrc_0, vsw_0, vsw_s, List.all_cons, List.all_nil, zc1_i, zc1_r, Bool.and_true, Bool.and_self, true_and, and_true, List.length_cons, List.length_nil, Nat.zero_le, Nat.reduceLeDiff, Nat.reduceAdd, Nat.reduceLT, tg_483, h1]
  rcases in_cases fv (show m < 2 ^ 31 by omega) with ⟨i, hi, rfl⟩ | ⟨ho, hno⟩
  · rw [if_neg (by rw [li0, nI_ltI (by omega) (by omega)]; omega), if_pos (nI_lt hi (by omega))]
    exact ⟨Or.inr trivial, k1 i hi rfl⟩
  · by_cases z : fv < 0
    · rw [if_pos z]
      exact ⟨Or.inl trivial, k0 hno⟩
    · rw [if_neg z]
      have z2 : ¬ fv < nI m := by
        rcases ho with ho | ho
        · exact absurd ho z
        · exact Int32.not_lt.mpr ho
      rw [if_neg z2]
      exact ⟨Or.inl trivial, k0 hno⟩
theorem c_57 {kv : Int32} (hd : 3 ≤ d) (h : foM t q m) (k1 : ∀ k, k < 9 → kv = nI k → mkm q m k a b c e → F (some (.int 1)) t) (k0 : (∀ k, k < 9 → kv = nI k → ¬ mkm q m k a b c e) → F (some (.int 0)) t) : twc d 57 [.ref 483, .int kv, .int a, .int b, .int c, .int e] t F := by
  have hm := h.le
  have no : ∀ k0', k0' < 9 → kv = nI k0' → ¬ mkm q m k0' a b c e → F (some (.int 0)) t := fun k' hk' ek hn => k0 (fun k hk e2 => by
    have : k' = k := nI_inj (by omega) (by omega) (ek.symm.trans e2)
    subst this; exact hn)
  refine ⟨by omega, ?_⟩
  rw [ze_57]
  refine vc_ok none zH_57 100 false _ 57 0 _ _ _ _ ?_
  simp only [v_57_0, v_57_1, v_57_52, v_57_53, v_57_54, v_57_55, v_57_58, v_57_61, v_57_62, v_57_65, v_57_66, v_57_67, v_57_68, v_57_69, v_57_71, v_57_74, v_57_77, v_57_78, v_57_79, v_57_82, v_57_83, v_57_86, v_57_89, v_57_90, v_57_92, v_57_95, v_57_97, v_57_100, v_57_103, v_57_104, v_57_107, v_57_108, v_57_109, v_57_110, v_57_113, v_57_116, v_57_118, v_57_121, v_57_124, v_57_125, v_57_128, v_57_129, v_57_130, v_57_131, v_57_133, v_57_136, v_57_137, v_57_138, v_57_140, v_57_143, v_57_146, v_57_147, v_57_149, v_57_152, v_57_155, v_57_156, v_57_159, v_57_160, v_57_161, v_57_162, v_57_165, v_57_168, v_57_169, v_57_171, v_57_174, v_57_177, v_57_178, v_57_181, v_57_182, v_57_183, v_57_184, v_57_187, v_57_190, v_57_191, v_57_194, v_57_197, v_57_198, v_57_200, v_57_203, v_57_206, v_57_207, v_57_210, v_57_212, v_57_213, v_57_216, v_57_217, v_57_220, v_57_221, v_57_222, v_57_223, vgi_0, vgi_s, vga_0, vga_s, vset_0, vset_s, vtk_0, vtk_s, vrc_0, vsw_0, vsw_s, List.all_cons, List.all_nil, zc1_i, zc1_r, Bool.and_true, Bool.and_self, true_and, and_true, List.length_cons, List.length_nil, Nat.zero_le, Nat.reduceLeDiff, Nat.reduceAdd, Nat.reduceLT, tg_483]
  rcases kinds kv with ⟨k, hk, rfl⟩ | ⟨n0, n1, n2, n3, n4, n5, n6, n7, n8, hno⟩
  · have : k = 0 ∨ k = 1 ∨ k = 2 ∨ k = 3 ∨ k = 4 ∨ k = 5 ∨ k = 6 ∨ k = 7 ∨ k = 8 := by omega
    rcases this with rfl | rfl | rfl | rfl | rfl | rfl | rfl | rfl | rfl
    · rw [if_pos (by decide)]
      refine c_37 (lo := 0) (hi := 2) (by omega) (by omega) (by omega) (fun x _ hx ex => ?_) (fun hn => ?_)
      · simp only [v_57_0, v_57_1, v_57_52, v_57_53, v_57_54, v_57_55, v_57_58, v_57_61, v_57_62, v_57_65, v_57_66, v_57_67, v_57_68, v_57_69, v_57_71, v_57_74, v_57_77, v_57_78, v_57_79, v_57_82, v_57_83, v_57_86, v_57_89, v_57_90, v_57_92, v_57_95, v_57_97, v_57_100, v_57_103, v_57_104, v_57_107, v_57_108, v_57_109, v_57_110, v_57_113, v_57_116, v_57_118, v_57_121, v_57_124, v_57_125, v_57_128, v_57_129, v_57_130, v_57_131, v_57_133, v_57_136, v_57_137, v_57_138, v_57_140, v_57_143, v_57_146, v_57_147, v_57_149, v_57_152, v_57_155, v_57_156, v_57_159, v_57_160, v_57_161, v_57_162, v_57_165, v_57_168, v_57_169, v_57_171, v_57_174, v_57_177, v_57_178, v_57_181, v_57_182, v_57_183, v_57_184, v_57_187, v_57_190, v_57_191, v_57_194, v_57_197, v_57_198, v_57_200, v_57_203, v_57_206, v_57_207, v_57_210, v_57_212, v_57_213, v_57_216, v_57_217, v_57_220, v_57_221, v_57_222, v_57_223, vgi_0, vgi_s, vga_0, vga_s, vset_0, vset_s, vtk_0, vtk_s, vrc_0, vsw_0, vsw_s, List.all_cons, List.all_nil, zc1_i, zc1_r, Bool.and_true, Bool.and_self, true_and, and_true, List.length_cons, List.length_nil, Nat.zero_le, Nat.reduceLeDiff, Nat.reduceAdd, Nat.reduceLT, Option.toList_some, List.cons_append, List.nil_append]
        rw [if_pos trivial]
        exact ⟨Or.inr trivial, k1 0 hk rfl (mkm_0.mpr ⟨x, by omega, ex⟩)⟩
      · simp only [v_57_0, v_57_1, v_57_52, v_57_53, v_57_54, v_57_55, v_57_58, v_57_61, v_57_62, v_57_65, v_57_66, v_57_67, v_57_68, v_57_69, v_57_71, v_57_74, v_57_77, v_57_78, v_57_79, v_57_82, v_57_83, v_57_86, v_57_89, v_57_90, v_57_92, v_57_95, v_57_97, v_57_100, v_57_103, v_57_104, v_57_107, v_57_108, v_57_109, v_57_110, v_57_113, v_57_116, v_57_118, v_57_121, v_57_124, v_57_125, v_57_128, v_57_129, v_57_130, v_57_131, v_57_133, v_57_136, v_57_137, v_57_138, v_57_140, v_57_143, v_57_146, v_57_147, v_57_149, v_57_152, v_57_155, v_57_156, v_57_159, v_57_160, v_57_161, v_57_162, v_57_165, v_57_168, v_57_169, v_57_171, v_57_174, v_57_177, v_57_178, v_57_181, v_57_182, v_57_183, v_57_184, v_57_187, v_57_190, v_57_191, v_57_194, v_57_197, v_57_198, v_57_200, v_57_203, v_57_206, v_57_207, v_57_210, v_57_212, v_57_213, v_57_216, v_57_217, v_57_220, v_57_221, v_57_222, v_57_223, vgi_0, vgi_s, vga_0, vga_s, vset_0, vset_s, vtk_0, vtk_s, vrc_0, vsw_0, vsw_s, List.all_cons, List.all_nil, zc1_i, zc1_r, Bool.and_true, Bool.and_self, true_and, and_true, List.length_cons, List.length_nil, Nat.zero_le, Nat.reduceLeDiff, Nat.reduceAdd, Nat.reduceLT, Option.toList_some, List.cons_append, List.nil_append]
        rw [if_neg (by decide)]
        exact ⟨Or.inl trivial, no 0 hk rfl (fun z => by obtain ⟨x, hx, ex⟩ := mkm_0.mp z; exact hn x (by omega) (by omega) ex)⟩
    · rw [if_neg (by decide), if_pos (by decide)]
      refine c_37 (lo := 0) (hi := 7) (by omega) (by omega) (by omega) (fun x _ hx ex => ?_) (fun hn => ?_)
      · subst ex
        have uq : mkm q m 1 (nI x) b c e → (2 ≤ x → ∃ y, y < 6 ∧ b = nI y) ∧ (6 ≤ x → ∃ y, y < 6 ∧ c = nI y) := fun z => by
          obtain ⟨x', hx', ex', r⟩ := mkm_1.mp z
          have : x = x' := nI_inj (by omega) (by omega) ex'
          subst this; exact r
        simp only [v_57_0, v_57_1, v_57_52, v_57_53, v_57_54, v_57_55, v_57_58, v_57_61, v_57_62, v_57_65, v_57_66, v_57_67, v_57_68, v_57_69, v_57_71, v_57_74, v_57_77, v_57_78, v_57_79, v_57_82, v_57_83, v_57_86, v_57_89, v_57_90, v_57_92, v_57_95, v_57_97, v_57_100, v_57_103, v_57_104, v_57_107, v_57_108, v_57_109, v_57_110, v_57_113, v_57_116, v_57_118, v_57_121, v_57_124, v_57_125, v_57_128, v_57_129, v_57_130, v_57_131, v_57_133, v_57_136, v_57_137, v_57_138, v_57_140, v_57_143, v_57_146, v_57_147, v_57_149, v_57_152, v_57_155, v_57_156, v_57_159, v_57_160, v_57_161, v_57_162, v_57_165, v_57_168, v_57_169, v_57_171, v_57_174, v_57_177, v_57_178, v_57_181, v_57_182, v_57_183, v_57_184, v_57_187, v_57_190, v_57_191, v_57_194, v_57_197, v_57_198, v_57_200, v_57_203, v_57_206, v_57_207, v_57_210, v_57_212, v_57_213, v_57_216, v_57_217, v_57_220, v_57_221, v_57_222, v_57_223, vgi_0, vgi_s, vga_0, vga_s, vset_0, vset_s, vtk_0, vtk_s, vrc_0, vsw_0, vsw_s, List.all_cons, List.all_nil, zc1_i, zc1_r, Bool.and_true, Bool.and_self, true_and, and_true, List.length_cons, List.length_nil, Nat.zero_le, Nat.reduceLeDiff, Nat.reduceAdd, Nat.reduceLT, Option.toList_some, List.cons_append, List.nil_append]
        rw [if_pos trivial]
        simp (disch := omega) only [li2, nI_ltI]
        by_cases x2 : x < 2
        · rw [if_pos x2]
          exact ⟨Or.inr trivial, k1 1 hk rfl (mkm_1.mpr ⟨x, by omega, rfl, fun z => by omega, fun z => by omega⟩)⟩
        · rw [if_neg x2]
          refine c_56 (by omega) (fun y hy ey => ?_) (fun hn => ?_)
          · simp only [v_57_0, v_57_1, v_57_52, v_57_53, v_57_54, v_57_55, v_57_58, v_57_61, v_57_62, v_57_65, v_57_66, v_57_67, v_57_68, v_57_69, v_57_71, v_57_74, v_57_77, v_57_78, v_57_79, v_57_82, v_57_83, v_57_86, v_57_89, v_57_90, v_57_92, v_57_95, v_57_97, v_57_100, v_57_103, v_57_104, v_57_107, v_57_108, v_57_109, v_57_110, v_57_113, v_57_116, v_57_118, v_57_121, v_57_124, v_57_125, v_57_128, v_57_129, v_57_130, v_57_131, v_57_133, v_57_136, v_57_137, v_57_138, v_57_140, v_57_143, v_57_146, v_57_147, v_57_149, v_57_152, v_57_155, v_57_156, v_57_159, v_57_160, v_57_161, v_57_162, v_57_165, v_57_168, v_57_169, v_57_171, v_57_174, v_57_177, v_57_178, v_57_181, v_57_182, v_57_183, v_57_184, v_57_187, v_57_190, v_57_191, v_57_194, v_57_197, v_57_198, v_57_200, v_57_203, v_57_206, v_57_207, v_57_210, v_57_212, v_57_213, v_57_216, v_57_217, v_57_220, v_57_221, v_57_222, v_57_223, vgi_0, vgi_s, vga_0, vga_s, vset_0, vset_s, vtk_0, vtk_s, vrc_0, vsw_0, vsw_s, List.all_cons, List.all_nil, zc1_i, zc1_r, Bool.and_true, Bool.and_self, true_and, and_true, List.length_cons, List.length_nil, Nat.zero_le, Nat.reduceLeDiff, Nat.reduceAdd, Nat.reduceLT, Option.toList_some, List.cons_append, List.nil_append]
            rw [if_neg (by decide)]
            simp (disch := omega) only [li6, nI_ltI]
            by_cases x6 : x < 6
            · rw [if_pos x6]
              exact ⟨Or.inr trivial, k1 1 hk rfl (mkm_1.mpr ⟨x, by omega, rfl, fun _ => ⟨y, hy, ey⟩, fun z => by omega⟩)⟩
            · rw [if_neg x6]
              refine c_56 (by omega) (fun w hw ew => ?_) (fun hn => ?_)
              · simp only [v_57_0, v_57_1, v_57_52, v_57_53, v_57_54, v_57_55, v_57_58, v_57_61, v_57_62, v_57_65, v_57_66, v_57_67, v_57_68, v_57_69, v_57_71, v_57_74, v_57_77, v_57_78, v_57_79, v_57_82, v_57_83, v_57_86, v_57_89, v_57_90, v_57_92, v_57_95, v_57_97, v_57_100, v_57_103, v_57_104, v_57_107, v_57_108, v_57_109, v_57_110, v_57_113, v_57_116, v_57_118, v_57_121, v_57_124, v_57_125, v_57_128, v_57_129, v_57_130, v_57_131, v_57_133, v_57_136, v_57_137, v_57_138, v_57_140, v_57_143, v_57_146, v_57_147, v_57_149, v_57_152, v_57_155, v_57_156, v_57_159, v_57_160, v_57_161, v_57_162, v_57_165, v_57_168, v_57_169, v_57_171, v_57_174, v_57_177, v_57_178, v_57_181, v_57_182, v_57_183, v_57_184, v_57_187, v_57_190, v_57_191, v_57_194, v_57_197, v_57_198, v_57_200, v_57_203, v_57_206, v_57_207, v_57_210, v_57_212, v_57_213, v_57_216, v_57_217, v_57_220, v_57_221, v_57_222, v_57_223, vgi_0, vgi_s, vga_0, vga_s, vset_0, vset_s, vtk_0, vtk_s, vrc_0, vsw_0, vsw_s, List.all_cons, List.all_nil, zc1_i, zc1_r, Bool.and_true, Bool.and_self, true_and, and_true, List.length_cons, List.length_nil, Nat.zero_le, Nat.reduceLeDiff, Nat.reduceAdd, Nat.reduceLT, Option.toList_some, List.cons_append, List.nil_append]
                rw [if_neg (by decide)]
                exact ⟨Or.inr trivial, k1 1 hk rfl (mkm_1.mpr ⟨x, by omega, rfl, fun _ => ⟨y, hy, ey⟩, fun _ => ⟨w, hw, ew⟩⟩)⟩
              · simp only [v_57_0, v_57_1, v_57_52, v_57_53, v_57_54, v_57_55, v_57_58, v_57_61, v_57_62, v_57_65, v_57_66, v_57_67, v_57_68, v_57_69, v_57_71, v_57_74, v_57_77, v_57_78, v_57_79, v_57_82, v_57_83, v_57_86, v_57_89, v_57_90, v_57_92, v_57_95, v_57_97, v_57_100, v_57_103, v_57_104, v_57_107, v_57_108, v_57_109, v_57_110, v_57_113, v_57_116, v_57_118, v_57_121, v_57_124, v_57_125, v_57_128, v_57_129, v_57_130, v_57_131, v_57_133, v_57_136, v_57_137, v_57_138, v_57_140, v_57_143, v_57_146, v_57_147, v_57_149, v_57_152, v_57_155, v_57_156, v_57_159, v_57_160, v_57_161, v_57_162, v_57_165, v_57_168, v_57_169, v_57_171, v_57_174, v_57_177, v_57_178, v_57_181, v_57_182, v_57_183, v_57_184, v_57_187, v_57_190, v_57_191, v_57_194, v_57_197, v_57_198, v_57_200, v_57_203, v_57_206, v_57_207, v_57_210, v_57_212, v_57_213, v_57_216, v_57_217, v_57_220, v_57_221, v_57_222, v_57_223, vgi_0, vgi_s, vga_0, vga_s, vset_0, vset_s, vtk_0, vtk_s, vrc_0, vsw_0, vsw_s, List.all_cons, List.all_nil, zc1_i, zc1_r, Bool.and_true, Bool.and_self, true_and, and_true, List.length_cons, List.length_nil, Nat.zero_le, Nat.reduceLeDiff, Nat.reduceAdd, Nat.reduceLT, Option.toList_some, List.cons_append, List.nil_append]
                rw [if_pos trivial]
                exact ⟨Or.inl trivial, no 1 hk rfl (fun z => by obtain ⟨w, hw, ew⟩ := (uq z).2 (by omega); exact hn w hw ew)⟩
          · simp only [v_57_0, v_57_1, v_57_52, v_57_53, v_57_54, v_57_55, v_57_58, v_57_61, v_57_62, v_57_65, v_57_66, v_57_67, v_57_68, v_57_69, v_57_71, v_57_74, v_57_77, v_57_78, v_57_79, v_57_82, v_57_83, v_57_86, v_57_89, v_57_90, v_57_92, v_57_95, v_57_97, v_57_100, v_57_103, v_57_104, v_57_107, v_57_108, v_57_109, v_57_110, v_57_113, v_57_116, v_57_118, v_57_121, v_57_124, v_57_125, v_57_128, v_57_129, v_57_130, v_57_131, v_57_133, v_57_136, v_57_137, v_57_138, v_57_140, v_57_143, v_57_146, v_57_147, v_57_149, v_57_152, v_57_155, v_57_156, v_57_159, v_57_160, v_57_161, v_57_162, v_57_165, v_57_168, v_57_169, v_57_171, v_57_174, v_57_177, v_57_178, v_57_181, v_57_182, v_57_183, v_57_184, v_57_187, v_57_190, v_57_191, v_57_194, v_57_197, v_57_198, v_57_200, v_57_203, v_57_206, v_57_207, v_57_210, v_57_212, v_57_213, v_57_216, v_57_217, v_57_220, v_57_221, v_57_222, v_57_223, vgi_0, vgi_s, vga_0, vga_s, vset_0, vset_s, vtk_0, vtk_s, vrc_0, vsw_0, vsw_s, List.all_cons, List.all_nil, zc1_i, zc1_r, Bool.and_true, Bool.and_self, true_and, and_true, List.length_cons, List.length_nil, Nat.zero_le, Nat.reduceLeDiff, Nat.reduceAdd, Nat.reduceLT, Option.toList_some, List.cons_append, List.nil_append]
            rw [if_pos trivial]
            exact ⟨Or.inl trivial, no 1 hk rfl (fun z => by obtain ⟨w, hw, ew⟩ := (uq z).1 (by omega); exact hn w hw ew)⟩
      · simp only [v_57_0, v_57_1, v_57_52, v_57_53, v_57_54, v_57_55, v_57_58, v_57_61, v_57_62, v_57_65, v_57_66, v_57_67, v_57_68, v_57_69, v_57_71, v_57_74, v_57_77, v_57_78, v_57_79, v_57_82, v_57_83, v_57_86, v_57_89, v_57_90, v_57_92, v_57_95, v_57_97, v_57_100, v_57_103, v_57_104, v_57_107, v_57_108, v_57_109, v_57_110, v_57_113, v_57_116, v_57_118, v_57_121, v_57_124, v_57_125, v_57_128, v_57_129, v_57_130, v_57_131, v_57_133, v_57_136, v_57_137, v_57_138, v_57_140, v_57_143, v_57_146, v_57_147, v_57_149, v_57_152, v_57_155, v_57_156, v_57_159, v_57_160, v_57_161, v_57_162, v_57_165, v_57_168, v_57_169, v_57_171, v_57_174, v_57_177, v_57_178, v_57_181, v_57_182, v_57_183, v_57_184, v_57_187, v_57_190, v_57_191, v_57_194, v_57_197, v_57_198, v_57_200, v_57_203, v_57_206, v_57_207, v_57_210, v_57_212, v_57_213, v_57_216, v_57_217, v_57_220, v_57_221, v_57_222, v_57_223, vgi_0, vgi_s, vga_0, vga_s, vset_0, vset_s, vtk_0, vtk_s, vrc_0, vsw_0, vsw_s, List.all_cons, List.all_nil, zc1_i, zc1_r, Bool.and_true, Bool.and_self, true_and, and_true, List.length_cons, List.length_nil, Nat.zero_le, Nat.reduceLeDiff, Nat.reduceAdd, Nat.reduceLT, Option.toList_some, List.cons_append, List.nil_append]
        rw [if_neg (by decide)]
        exact ⟨Or.inl trivial, no 1 hk rfl (fun z => by obtain ⟨x, hx, ex, -⟩ := mkm_1.mp z; exact hn x (by omega) (by omega) ex)⟩
    · rw [if_neg (by decide), if_neg (by decide), if_pos (by decide)]
      refine c_56 (by omega) (fun y hy ey => ?_) (fun hn => ?_)
      · simp only [v_57_0, v_57_1, v_57_52, v_57_53, v_57_54, v_57_55, v_57_58, v_57_61, v_57_62, v_57_65, v_57_66, v_57_67, v_57_68, v_57_69, v_57_71, v_57_74, v_57_77, v_57_78, v_57_79, v_57_82, v_57_83, v_57_86, v_57_89, v_57_90, v_57_92, v_57_95, v_57_97, v_57_100, v_57_103, v_57_104, v_57_107, v_57_108, v_57_109, v_57_110, v_57_113, v_57_116, v_57_118, v_57_121, v_57_124, v_57_125, v_57_128, v_57_129, v_57_130, v_57_131, v_57_133, v_57_136, v_57_137, v_57_138, v_57_140, v_57_143, v_57_146, v_57_147, v_57_149, v_57_152, v_57_155, v_57_156, v_57_159, v_57_160, v_57_161, v_57_162, v_57_165, v_57_168, v_57_169, v_57_171, v_57_174, v_57_177, v_57_178, v_57_181, v_57_182, v_57_183, v_57_184, v_57_187, v_57_190, v_57_191, v_57_194, v_57_197, v_57_198, v_57_200, v_57_203, v_57_206, v_57_207, v_57_210, v_57_212, v_57_213, v_57_216, v_57_217, v_57_220, v_57_221, v_57_222, v_57_223, vgi_0, vgi_s, vga_0, vga_s, vset_0, vset_s, vtk_0, vtk_s, vrc_0, vsw_0, vsw_s, List.all_cons, List.all_nil, zc1_i, zc1_r, Bool.and_true, Bool.and_self, true_and, and_true, List.length_cons, List.length_nil, Nat.zero_le, Nat.reduceLeDiff, Nat.reduceAdd, Nat.reduceLT, Option.toList_some, List.cons_append, List.nil_append]
        rw [if_neg (by decide)]
        refine c_56 (by omega) (fun w hw ew => ?_) (fun hn => ?_)
        · simp only [v_57_0, v_57_1, v_57_52, v_57_53, v_57_54, v_57_55, v_57_58, v_57_61, v_57_62, v_57_65, v_57_66, v_57_67, v_57_68, v_57_69, v_57_71, v_57_74, v_57_77, v_57_78, v_57_79, v_57_82, v_57_83, v_57_86, v_57_89, v_57_90, v_57_92, v_57_95, v_57_97, v_57_100, v_57_103, v_57_104, v_57_107, v_57_108, v_57_109, v_57_110, v_57_113, v_57_116, v_57_118, v_57_121, v_57_124, v_57_125, v_57_128, v_57_129, v_57_130, v_57_131, v_57_133, v_57_136, v_57_137, v_57_138, v_57_140, v_57_143, v_57_146, v_57_147, v_57_149, v_57_152, v_57_155, v_57_156, v_57_159, v_57_160, v_57_161, v_57_162, v_57_165, v_57_168, v_57_169, v_57_171, v_57_174, v_57_177, v_57_178, v_57_181, v_57_182, v_57_183, v_57_184, v_57_187, v_57_190, v_57_191, v_57_194, v_57_197, v_57_198, v_57_200, v_57_203, v_57_206, v_57_207, v_57_210, v_57_212, v_57_213, v_57_216, v_57_217, v_57_220, v_57_221, v_57_222, v_57_223, vgi_0, vgi_s, vga_0, vga_s, vset_0, vset_s, vtk_0, vtk_s, vrc_0, vsw_0, vsw_s, List.all_cons, List.all_nil, zc1_i, zc1_r, Bool.and_true, Bool.and_self, true_and, and_true, List.length_cons, List.length_nil, Nat.zero_le, Nat.reduceLeDiff, Nat.reduceAdd, Nat.reduceLT, Option.toList_some, List.cons_append, List.nil_append]
          rw [if_neg (by decide)]
          exact ⟨Or.inr trivial, k1 2 hk rfl (mkm_2.mpr ⟨⟨y, hy, ey⟩, w, hw, ew⟩)⟩
        · simp only [v_57_0, v_57_1, v_57_52, v_57_53, v_57_54, v_57_55, v_57_58, v_57_61, v_57_62, v_57_65, v_57_66, v_57_67, v_57_68, v_57_69, v_57_71, v_57_74, v_57_77, v_57_78, v_57_79, v_57_82, v_57_83, v_57_86, v_57_89, v_57_90, v_57_92, v_57_95, v_57_97, v_57_100, v_57_103, v_57_104, v_57_107, v_57_108, v_57_109, v_57_110, v_57_113, v_57_116, v_57_118, v_57_121, v_57_124, v_57_125, v_57_128, v_57_129, v_57_130, v_57_131, v_57_133, v_57_136, v_57_137, v_57_138, v_57_140, v_57_143, v_57_146, v_57_147, v_57_149, v_57_152, v_57_155, v_57_156, v_57_159, v_57_160, v_57_161, v_57_162, v_57_165, v_57_168, v_57_169, v_57_171, v_57_174, v_57_177, v_57_178, v_57_181, v_57_182, v_57_183, v_57_184, v_57_187, v_57_190, v_57_191, v_57_194, v_57_197, v_57_198, v_57_200, v_57_203, v_57_206, v_57_207, v_57_210, v_57_212, v_57_213, v_57_216, v_57_217, v_57_220, v_57_221, v_57_222, v_57_223, vgi_0, vgi_s, vga_0, vga_s, vset_0, vset_s, vtk_0, vtk_s, vrc_0, vsw_0, vsw_s, List.all_cons, List.all_nil, zc1_i, zc1_r, Bool.and_true, Bool.and_self, true_and, and_true, List.length_cons, List.length_nil, Nat.zero_le, Nat.reduceLeDiff, Nat.reduceAdd, Nat.reduceLT, Option.toList_some, List.cons_append, List.nil_append]
          rw [if_pos trivial]
          exact ⟨Or.inl trivial, no 2 hk rfl (fun z => by obtain ⟨-, w, hw, ew⟩ := mkm_2.mp z; exact hn w hw ew)⟩
      · simp only [v_57_0, v_57_1, v_57_52, v_57_53, v_57_54, v_57_55, v_57_58, v_57_61, v_57_62, v_57_65, v_57_66, v_57_67, v_57_68, v_57_69, v_57_71, v_57_74, v_57_77, v_57_78, v_57_79, v_57_82, v_57_83, v_57_86, v_57_89, v_57_90, v_57_92, v_57_95, v_57_97, v_57_100, v_57_103, v_57_104, v_57_107, v_57_108, v_57_109, v_57_110, v_57_113, v_57_116, v_57_118, v_57_121, v_57_124, v_57_125, v_57_128, v_57_129, v_57_130, v_57_131, v_57_133, v_57_136, v_57_137, v_57_138, v_57_140, v_57_143, v_57_146, v_57_147, v_57_149, v_57_152, v_57_155, v_57_156, v_57_159, v_57_160, v_57_161, v_57_162, v_57_165, v_57_168, v_57_169, v_57_171, v_57_174, v_57_177, v_57_178, v_57_181, v_57_182, v_57_183, v_57_184, v_57_187, v_57_190, v_57_191, v_57_194, v_57_197, v_57_198, v_57_200, v_57_203, v_57_206, v_57_207, v_57_210, v_57_212, v_57_213, v_57_216, v_57_217, v_57_220, v_57_221, v_57_222, v_57_223, vgi_0, vgi_s, vga_0, vga_s, vset_0, vset_s, vtk_0, vtk_s, vrc_0, vsw_0, vsw_s, List.all_cons, List.all_nil, zc1_i, zc1_r, Bool.and_true, Bool.and_self, true_and, and_true, List.length_cons, List.length_nil, Nat.zero_le, Nat.reduceLeDiff, Nat.reduceAdd, Nat.reduceLT, Option.toList_some, List.cons_append, List.nil_append]
        rw [if_pos trivial]
        exact ⟨Or.inl trivial, no 2 hk rfl (fun z => by obtain ⟨⟨w, hw, ew⟩, -⟩ := mkm_2.mp z; exact hn w hw ew)⟩
    · rw [if_neg (by decide), if_neg (by decide), if_neg (by decide), if_pos (by decide)]
      refine c_55m (by omega) h (fun y hy ey => ?_) (fun hn => ?_)
      · simp only [v_57_0, v_57_1, v_57_52, v_57_53, v_57_54, v_57_55, v_57_58, v_57_61, v_57_62, v_57_65, v_57_66, v_57_67, v_57_68, v_57_69, v_57_71, v_57_74, v_57_77, v_57_78, v_57_79, v_57_82, v_57_83, v_57_86, v_57_89, v_57_90, v_57_92, v_57_95, v_57_97, v_57_100, v_57_103, v_57_104, v_57_107, v_57_108, v_57_109, v_57_110, v_57_113, v_57_116, v_57_118, v_57_121, v_57_124, v_57_125, v_57_128, v_57_129, v_57_130, v_57_131, v_57_133, v_57_136, v_57_137, v_57_138, v_57_140, v_57_143, v_57_146, v_57_147, v_57_149, v_57_152, v_57_155, v_57_156, v_57_159, v_57_160, v_57_161, v_57_162, v_57_165, v_57_168, v_57_169, v_57_171, v_57_174, v_57_177, v_57_178, v_57_181, v_57_182, v_57_183, v_57_184, v_57_187, v_57_190, v_57_191, v_57_194, v_57_197, v_57_198, v_57_200, v_57_203, v_57_206, v_57_207, v_57_210, v_57_212, v_57_213, v_57_216, v_57_217, v_57_220, v_57_221, v_57_222, v_57_223, vgi_0, vgi_s, vga_0, vga_s, vset_0, vset_s, vtk_0, vtk_s, vrc_0, vsw_0, vsw_s, List.all_cons, List.all_nil, zc1_i, zc1_r, Bool.and_true, Bool.and_self, true_and, and_true, List.length_cons, List.length_nil, Nat.zero_le, Nat.reduceLeDiff, Nat.reduceAdd, Nat.reduceLT, Option.toList_some, List.cons_append, List.nil_append]
        exact ⟨Or.inr trivial, k1 3 hk rfl (mkm_3.mpr ⟨y, hy, ey⟩)⟩
      · simp only [v_57_0, v_57_1, v_57_52, v_57_53, v_57_54, v_57_55, v_57_58, v_57_61, v_57_62, v_57_65, v_57_66, v_57_67, v_57_68, v_57_69, v_57_71, v_57_74, v_57_77, v_57_78, v_57_79, v_57_82, v_57_83, v_57_86, v_57_89, v_57_90, v_57_92, v_57_95, v_57_97, v_57_100, v_57_103, v_57_104, v_57_107, v_57_108, v_57_109, v_57_110, v_57_113, v_57_116, v_57_118, v_57_121, v_57_124, v_57_125, v_57_128, v_57_129, v_57_130, v_57_131, v_57_133, v_57_136, v_57_137, v_57_138, v_57_140, v_57_143, v_57_146, v_57_147, v_57_149, v_57_152, v_57_155, v_57_156, v_57_159, v_57_160, v_57_161, v_57_162, v_57_165, v_57_168, v_57_169, v_57_171, v_57_174, v_57_177, v_57_178, v_57_181, v_57_182, v_57_183, v_57_184, v_57_187, v_57_190, v_57_191, v_57_194, v_57_197, v_57_198, v_57_200, v_57_203, v_57_206, v_57_207, v_57_210, v_57_212, v_57_213, v_57_216, v_57_217, v_57_220, v_57_221, v_57_222, v_57_223, vgi_0, vgi_s, vga_0, vga_s, vset_0, vset_s, vtk_0, vtk_s, vrc_0, vsw_0, vsw_s, List.all_cons, List.all_nil, zc1_i, zc1_r, Bool.and_true, Bool.and_self, true_and, and_true, List.length_cons, List.length_nil, Nat.zero_le, Nat.reduceLeDiff, Nat.reduceAdd, Nat.reduceLT, Option.toList_some, List.cons_append, List.nil_append]
        exact ⟨Or.inl trivial, no 3 hk rfl (fun z => by obtain ⟨y, hy, ey⟩ := mkm_3.mp z; exact hn y hy ey)⟩
    · rw [if_neg (by decide), if_neg (by decide), if_neg (by decide), if_neg (by decide), if_pos (by decide)]
      refine c_55m (by omega) h (fun y hy ey => ?_) (fun hn => ?_)
      · simp only [v_57_0, v_57_1, v_57_52, v_57_53, v_57_54, v_57_55, v_57_58, v_57_61, v_57_62, v_57_65, v_57_66, v_57_67, v_57_68, v_57_69, v_57_71, v_57_74, v_57_77, v_57_78, v_57_79, v_57_82, v_57_83, v_57_86, v_57_89, v_57_90, v_57_92, v_57_95, v_57_97, v_57_100, v_57_103, v_57_104, v_57_107, v_57_108, v_57_109, v_57_110, v_57_113, v_57_116, v_57_118, v_57_121, v_57_124, v_57_125, v_57_128, v_57_129, v_57_130, v_57_131, v_57_133, v_57_136, v_57_137, v_57_138, v_57_140, v_57_143, v_57_146, v_57_147, v_57_149, v_57_152, v_57_155, v_57_156, v_57_159, v_57_160, v_57_161, v_57_162, v_57_165, v_57_168, v_57_169, v_57_171, v_57_174, v_57_177, v_57_178, v_57_181, v_57_182, v_57_183, v_57_184, v_57_187, v_57_190, v_57_191, v_57_194, v_57_197, v_57_198, v_57_200, v_57_203, v_57_206, v_57_207, v_57_210, v_57_212, v_57_213, v_57_216, v_57_217, v_57_220, v_57_221, v_57_222, v_57_223, vgi_0, vgi_s, vga_0, vga_s, vset_0, vset_s, vtk_0, vtk_s, vrc_0, vsw_0, vsw_s, List.all_cons, List.all_nil, zc1_i, zc1_r, Bool.and_true, Bool.and_self, true_and, and_true, List.length_cons, List.length_nil, Nat.zero_le, Nat.reduceLeDiff, Nat.reduceAdd, Nat.reduceLT, Option.toList_some, List.cons_append, List.nil_append, tg_483]
        rw [if_neg (by decide)]
        refine c_55m (by omega) h (fun w hw ew => ?_) (fun hn => ?_)
        · simp only [v_57_0, v_57_1, v_57_52, v_57_53, v_57_54, v_57_55, v_57_58, v_57_61, v_57_62, v_57_65, v_57_66, v_57_67, v_57_68, v_57_69, v_57_71, v_57_74, v_57_77, v_57_78, v_57_79, v_57_82, v_57_83, v_57_86, v_57_89, v_57_90, v_57_92, v_57_95, v_57_97, v_57_100, v_57_103, v_57_104, v_57_107, v_57_108, v_57_109, v_57_110, v_57_113, v_57_116, v_57_118, v_57_121, v_57_124, v_57_125, v_57_128, v_57_129, v_57_130, v_57_131, v_57_133, v_57_136, v_57_137, v_57_138, v_57_140, v_57_143, v_57_146, v_57_147, v_57_149, v_57_152, v_57_155, v_57_156, v_57_159, v_57_160, v_57_161, v_57_162, v_57_165, v_57_168, v_57_169, v_57_171, v_57_174, v_57_177, v_57_178, v_57_181, v_57_182, v_57_183, v_57_184, v_57_187, v_57_190, v_57_191, v_57_194, v_57_197, v_57_198, v_57_200, v_57_203, v_57_206, v_57_207, v_57_210, v_57_212, v_57_213, v_57_216, v_57_217, v_57_220, v_57_221, v_57_222, v_57_223, vgi_0, vgi_s, vga_0, vga_s, vset_0, vset_s, vtk_0, vtk_s, vrc_0, vsw_0, vsw_s, List.all_cons, List.all_nil, zc1_i, zc1_r, Bool.and_true, Bool.and_self, true_and, and_true, List.length_cons, List.length_nil, Nat.zero_le, Nat.reduceLeDiff, Nat.reduceAdd, Nat.reduceLT, Option.toList_some, List.cons_append, List.nil_append]
          rw [if_neg (by decide)]
          exact ⟨Or.inr trivial, k1 4 hk rfl ((mkm_4 (by omega)).mpr ⟨⟨y, hy, ey⟩, w, hw, ew⟩)⟩
        · simp only [v_57_0, v_57_1, v_57_52, v_57_53, v_57_54, v_57_55, v_57_58, v_57_61, v_57_62, v_57_65, v_57_66, v_57_67, v_57_68, v_57_69, v_57_71, v_57_74, v_57_77, v_57_78, v_57_79, v_57_82, v_57_83, v_57_86, v_57_89, v_57_90, v_57_92, v_57_95, v_57_97, v_57_100, v_57_103, v_57_104, v_57_107, v_57_108, v_57_109, v_57_110, v_57_113, v_57_116, v_57_118, v_57_121, v_57_124, v_57_125, v_57_128, v_57_129, v_57_130, v_57_131, v_57_133, v_57_136, v_57_137, v_57_138, v_57_140, v_57_143, v_57_146, v_57_147, v_57_149, v_57_152, v_57_155, v_57_156, v_57_159, v_57_160, v_57_161, v_57_162, v_57_165, v_57_168, v_57_169, v_57_171, v_57_174, v_57_177, v_57_178, v_57_181, v_57_182, v_57_183, v_57_184, v_57_187, v_57_190, v_57_191, v_57_194, v_57_197, v_57_198, v_57_200, v_57_203, v_57_206, v_57_207, v_57_210, v_57_212, v_57_213, v_57_216, v_57_217, v_57_220, v_57_221, v_57_222, v_57_223, vgi_0, vgi_s, vga_0, vga_s, vset_0, vset_s, vtk_0, vtk_s, vrc_0, vsw_0, vsw_s, List.all_cons, List.all_nil, zc1_i, zc1_r, Bool.and_true, Bool.and_self, true_and, and_true, List.length_cons, List.length_nil, Nat.zero_le, Nat.reduceLeDiff, Nat.reduceAdd, Nat.reduceLT, Option.toList_some, List.cons_append, List.nil_append]
          rw [if_pos trivial]
          exact ⟨Or.inl trivial, no 4 hk rfl (fun z => by obtain ⟨-, y, hy, ey⟩ := (mkm_4 (by omega)).mp z; exact hn y hy ey)⟩
      · simp only [v_57_0, v_57_1, v_57_52, v_57_53, v_57_54, v_57_55, v_57_58, v_57_61, v_57_62, v_57_65, v_57_66, v_57_67, v_57_68, v_57_69, v_57_71, v_57_74, v_57_77, v_57_78, v_57_79, v_57_82, v_57_83, v_57_86, v_57_89, v_57_90, v_57_92, v_57_95, v_57_97, v_57_100, v_57_103, v_57_104, v_57_107, v_57_108, v_57_109, v_57_110, v_57_113, v_57_116, v_57_118, v_57_121, v_57_124, v_57_125, v_57_128, v_57_129, v_57_130, v_57_131, v_57_133, v_57_136, v_57_137, v_57_138, v_57_140, v_57_143, v_57_146, v_57_147, v_57_149, v_57_152, v_57_155, v_57_156, v_57_159, v_57_160, v_57_161, v_57_162, v_57_165, v_57_168, v_57_169, v_57_171, v_57_174, v_57_177, v_57_178, v_57_181, v_57_182, v_57_183, v_57_184, v_57_187, v_57_190, v_57_191, v_57_194, v_57_197, v_57_198, v_57_200, v_57_203, v_57_206, v_57_207, v_57_210, v_57_212, v_57_213, v_57_216, v_57_217, v_57_220, v_57_221, v_57_222, v_57_223, vgi_0, vgi_s, vga_0, vga_s, vset_0, vset_s, vtk_0, vtk_s, vrc_0, vsw_0, vsw_s, List.all_cons, List.all_nil, zc1_i, zc1_r, Bool.and_true, Bool.and_self, true_and, and_true, List.length_cons, List.length_nil, Nat.zero_le, Nat.reduceLeDiff, Nat.reduceAdd, Nat.reduceLT, Option.toList_some, List.cons_append, List.nil_append]
        rw [if_pos trivial]
        exact ⟨Or.inl trivial, no 4 hk rfl (fun z => by obtain ⟨⟨y, hy, ey⟩, -⟩ := (mkm_4 (by omega)).mp z; exact hn y hy ey)⟩
    · rw [if_neg (by decide), if_neg (by decide), if_neg (by decide), if_neg (by decide), if_neg (by decide), if_pos (by decide)]
      refine c_55m (by omega) h (fun y hy ey => ?_) (fun hn => ?_)
      · simp only [v_57_0, v_57_1, v_57_52, v_57_53, v_57_54, v_57_55, v_57_58, v_57_61, v_57_62, v_57_65, v_57_66, v_57_67, v_57_68, v_57_69, v_57_71, v_57_74, v_57_77, v_57_78, v_57_79, v_57_82, v_57_83, v_57_86, v_57_89, v_57_90, v_57_92, v_57_95, v_57_97, v_57_100, v_57_103, v_57_104, v_57_107, v_57_108, v_57_109, v_57_110, v_57_113, v_57_116, v_57_118, v_57_121, v_57_124, v_57_125, v_57_128, v_57_129, v_57_130, v_57_131, v_57_133, v_57_136, v_57_137, v_57_138, v_57_140, v_57_143, v_57_146, v_57_147, v_57_149, v_57_152, v_57_155, v_57_156, v_57_159, v_57_160, v_57_161, v_57_162, v_57_165, v_57_168, v_57_169, v_57_171, v_57_174, v_57_177, v_57_178, v_57_181, v_57_182, v_57_183, v_57_184, v_57_187, v_57_190, v_57_191, v_57_194, v_57_197, v_57_198, v_57_200, v_57_203, v_57_206, v_57_207, v_57_210, v_57_212, v_57_213, v_57_216, v_57_217, v_57_220, v_57_221, v_57_222, v_57_223, vgi_0, vgi_s, vga_0, vga_s, vset_0, vset_s, vtk_0, vtk_s, vrc_0, vsw_0, vsw_s, List.all_cons, List.all_nil, zc1_i, zc1_r, Bool.and_true, Bool.and_self, true_and, and_true, List.length_cons, List.length_nil, Nat.zero_le, Nat.reduceLeDiff, Nat.reduceAdd, Nat.reduceLT, Option.toList_some, List.cons_append, List.nil_append, tg_483]
        rw [if_neg (by decide)]
        refine c_55m (by omega) h (fun w hw ew => ?_) (fun hn => ?_)
        · simp only [v_57_0, v_57_1, v_57_52, v_57_53, v_57_54, v_57_55, v_57_58, v_57_61, v_57_62, v_57_65, v_57_66, v_57_67, v_57_68, v_57_69, v_57_71, v_57_74, v_57_77, v_57_78, v_57_79, v_57_82, v_57_83, v_57_86, v_57_89, v_57_90, v_57_92, v_57_95, v_57_97, v_57_100, v_57_103, v_57_104, v_57_107, v_57_108, v_57_109, v_57_110, v_57_113, v_57_116, v_57_118, v_57_121, v_57_124, v_57_125, v_57_128, v_57_129, v_57_130, v_57_131, v_57_133, v_57_136, v_57_137, v_57_138, v_57_140, v_57_143, v_57_146, v_57_147, v_57_149, v_57_152, v_57_155, v_57_156, v_57_159, v_57_160, v_57_161, v_57_162, v_57_165, v_57_168, v_57_169, v_57_171, v_57_174, v_57_177, v_57_178, v_57_181, v_57_182, v_57_183, v_57_184, v_57_187, v_57_190, v_57_191, v_57_194, v_57_197, v_57_198, v_57_200, v_57_203, v_57_206, v_57_207, v_57_210, v_57_212, v_57_213, v_57_216, v_57_217, v_57_220, v_57_221, v_57_222, v_57_223, vgi_0, vgi_s, vga_0, vga_s, vset_0, vset_s, vtk_0, vtk_s, vrc_0, vsw_0, vsw_s, List.all_cons, List.all_nil, zc1_i, zc1_r, Bool.and_true, Bool.and_self, true_and, and_true, List.length_cons, List.length_nil, Nat.zero_le, Nat.reduceLeDiff, Nat.reduceAdd, Nat.reduceLT, Option.toList_some, List.cons_append, List.nil_append]
          rw [if_neg (by decide)]
          exact ⟨Or.inr trivial, k1 5 hk rfl ((mkm_4 (by omega)).mpr ⟨⟨y, hy, ey⟩, w, hw, ew⟩)⟩
        · simp only [v_57_0, v_57_1, v_57_52, v_57_53, v_57_54, v_57_55, v_57_58, v_57_61, v_57_62, v_57_65, v_57_66, v_57_67, v_57_68, v_57_69, v_57_71, v_57_74, v_57_77, v_57_78, v_57_79, v_57_82, v_57_83, v_57_86, v_57_89, v_57_90, v_57_92, v_57_95, v_57_97, v_57_100, v_57_103, v_57_104, v_57_107, v_57_108, v_57_109, v_57_110, v_57_113, v_57_116, v_57_118, v_57_121, v_57_124, v_57_125, v_57_128, v_57_129, v_57_130, v_57_131, v_57_133, v_57_136, v_57_137, v_57_138, v_57_140, v_57_143, v_57_146, v_57_147, v_57_149, v_57_152, v_57_155, v_57_156, v_57_159, v_57_160, v_57_161, v_57_162, v_57_165, v_57_168, v_57_169, v_57_171, v_57_174, v_57_177, v_57_178, v_57_181, v_57_182, v_57_183, v_57_184, v_57_187, v_57_190, v_57_191, v_57_194, v_57_197, v_57_198, v_57_200, v_57_203, v_57_206, v_57_207, v_57_210, v_57_212, v_57_213, v_57_216, v_57_217, v_57_220, v_57_221, v_57_222, v_57_223, vgi_0, vgi_s, vga_0, vga_s, vset_0, vset_s, vtk_0, vtk_s, vrc_0, vsw_0, vsw_s, List.all_cons, List.all_nil, zc1_i, zc1_r, Bool.and_true, Bool.and_self, true_and, and_true, List.length_cons, List.length_nil, Nat.zero_le, Nat.reduceLeDiff, Nat.reduceAdd, Nat.reduceLT, Option.toList_some, List.cons_append, List.nil_append]
          rw [if_pos trivial]
          exact ⟨Or.inl trivial, no 5 hk rfl (fun z => by obtain ⟨-, y, hy, ey⟩ := (mkm_4 (by omega)).mp z; exact hn y hy ey)⟩
      · simp only [v_57_0, v_57_1, v_57_52, v_57_53, v_57_54, v_57_55, v_57_58, v_57_61, v_57_62, v_57_65, v_57_66, v_57_67, v_57_68, v_57_69, v_57_71, v_57_74, v_57_77, v_57_78, v_57_79, v_57_82, v_57_83, v_57_86, v_57_89, v_57_90, v_57_92, v_57_95, v_57_97, v_57_100, v_57_103, v_57_104, v_57_107, v_57_108, v_57_109, v_57_110, v_57_113, v_57_116, v_57_118, v_57_121, v_57_124, v_57_125, v_57_128, v_57_129, v_57_130, v_57_131, v_57_133, v_57_136, v_57_137, v_57_138, v_57_140, v_57_143, v_57_146, v_57_147, v_57_149, v_57_152, v_57_155, v_57_156, v_57_159, v_57_160, v_57_161, v_57_162, v_57_165, v_57_168, v_57_169, v_57_171, v_57_174, v_57_177, v_57_178, v_57_181, v_57_182, v_57_183, v_57_184, v_57_187, v_57_190, v_57_191, v_57_194, v_57_197, v_57_198, v_57_200, v_57_203, v_57_206, v_57_207, v_57_210, v_57_212, v_57_213, v_57_216, v_57_217, v_57_220, v_57_221, v_57_222, v_57_223, vgi_0, vgi_s, vga_0, vga_s, vset_0, vset_s, vtk_0, vtk_s, vrc_0, vsw_0, vsw_s, List.all_cons, List.all_nil, zc1_i, zc1_r, Bool.and_true, Bool.and_self, true_and, and_true, List.length_cons, List.length_nil, Nat.zero_le, Nat.reduceLeDiff, Nat.reduceAdd, Nat.reduceLT, Option.toList_some, List.cons_append, List.nil_append]
        rw [if_pos trivial]
        exact ⟨Or.inl trivial, no 5 hk rfl (fun z => by obtain ⟨⟨y, hy, ey⟩, -⟩ := (mkm_4 (by omega)).mp z; exact hn y hy ey)⟩
    · rw [if_neg (by decide), if_neg (by decide), if_neg (by decide), if_neg (by decide), if_neg (by decide), if_neg (by decide), if_pos (by decide)]
      refine c_56 (by omega) (fun x hx ex => ?_) (fun hn => ?_)
      · simp only [v_57_0, v_57_1, v_57_52, v_57_53, v_57_54, v_57_55, v_57_58, v_57_61, v_57_62, v_57_65, v_57_66, v_57_67, v_57_68, v_57_69, v_57_71, v_57_74, v_57_77, v_57_78, v_57_79, v_57_82, v_57_83, v_57_86, v_57_89, v_57_90, v_57_92, v_57_95, v_57_97, v_57_100, v_57_103, v_57_104, v_57_107, v_57_108, v_57_109, v_57_110, v_57_113, v_57_116, v_57_118, v_57_121, v_57_124, v_57_125, v_57_128, v_57_129, v_57_130, v_57_131, v_57_133, v_57_136, v_57_137, v_57_138, v_57_140, v_57_143, v_57_146, v_57_147, v_57_149, v_57_152, v_57_155, v_57_156, v_57_159, v_57_160, v_57_161, v_57_162, v_57_165, v_57_168, v_57_169, v_57_171, v_57_174, v_57_177, v_57_178, v_57_181, v_57_182, v_57_183, v_57_184, v_57_187, v_57_190, v_57_191, v_57_194, v_57_197, v_57_198, v_57_200, v_57_203, v_57_206, v_57_207, v_57_210, v_57_212, v_57_213, v_57_216, v_57_217, v_57_220, v_57_221, v_57_222, v_57_223, vgi_0, vgi_s, vga_0, vga_s, vset_0, vset_s, vtk_0, vtk_s, vrc_0, vsw_0, vsw_s, List.all_cons, List.all_nil, zc1_i, zc1_r, Bool.and_true, Bool.and_self, true_and, and_true, List.length_cons, List.length_nil, Nat.zero_le, Nat.reduceLeDiff, Nat.reduceAdd, Nat.reduceLT, Option.toList_some, List.cons_append, List.nil_append, tg_483]
        rw [if_neg (by decide)]
        refine c_55m (by omega) h (fun w hw ew => ?_) (fun hn => ?_)
        · simp only [v_57_0, v_57_1, v_57_52, v_57_53, v_57_54, v_57_55, v_57_58, v_57_61, v_57_62, v_57_65, v_57_66, v_57_67, v_57_68, v_57_69, v_57_71, v_57_74, v_57_77, v_57_78, v_57_79, v_57_82, v_57_83, v_57_86, v_57_89, v_57_90, v_57_92, v_57_95, v_57_97, v_57_100, v_57_103, v_57_104, v_57_107, v_57_108, v_57_109, v_57_110, v_57_113, v_57_116, v_57_118, v_57_121, v_57_124, v_57_125, v_57_128, v_57_129, v_57_130, v_57_131, v_57_133, v_57_136, v_57_137, v_57_138, v_57_140, v_57_143, v_57_146, v_57_147, v_57_149, v_57_152, v_57_155, v_57_156, v_57_159, v_57_160, v_57_161, v_57_162, v_57_165, v_57_168, v_57_169, v_57_171, v_57_174, v_57_177, v_57_178, v_57_181, v_57_182, v_57_183, v_57_184, v_57_187, v_57_190, v_57_191, v_57_194, v_57_197, v_57_198, v_57_200, v_57_203, v_57_206, v_57_207, v_57_210, v_57_212, v_57_213, v_57_216, v_57_217, v_57_220, v_57_221, v_57_222, v_57_223, vgi_0, vgi_s, vga_0, vga_s, vset_0, vset_s, vtk_0, vtk_s, vrc_0, vsw_0, vsw_s, List.all_cons, List.all_nil, zc1_i, zc1_r, Bool.and_true, Bool.and_self, true_and, and_true, List.length_cons, List.length_nil, Nat.zero_le, Nat.reduceLeDiff, Nat.reduceAdd, Nat.reduceLT, Option.toList_some, List.cons_append, List.nil_append]
          rw [if_neg (by decide)]
          exact ⟨Or.inr trivial, k1 6 hk rfl ((mkm_6 (by omega)).mpr ⟨⟨x, hx, ex⟩, w, hw, ew⟩)⟩
        · simp only [v_57_0, v_57_1, v_57_52, v_57_53, v_57_54, v_57_55, v_57_58, v_57_61, v_57_62, v_57_65, v_57_66, v_57_67, v_57_68, v_57_69, v_57_71, v_57_74, v_57_77, v_57_78, v_57_79, v_57_82, v_57_83, v_57_86, v_57_89, v_57_90, v_57_92, v_57_95, v_57_97, v_57_100, v_57_103, v_57_104, v_57_107, v_57_108, v_57_109, v_57_110, v_57_113, v_57_116, v_57_118, v_57_121, v_57_124, v_57_125, v_57_128, v_57_129, v_57_130, v_57_131, v_57_133, v_57_136, v_57_137, v_57_138, v_57_140, v_57_143, v_57_146, v_57_147, v_57_149, v_57_152, v_57_155, v_57_156, v_57_159, v_57_160, v_57_161, v_57_162, v_57_165, v_57_168, v_57_169, v_57_171, v_57_174, v_57_177, v_57_178, v_57_181, v_57_182, v_57_183, v_57_184, v_57_187, v_57_190, v_57_191, v_57_194, v_57_197, v_57_198, v_57_200, v_57_203, v_57_206, v_57_207, v_57_210, v_57_212, v_57_213, v_57_216, v_57_217, v_57_220, v_57_221, v_57_222, v_57_223, vgi_0, vgi_s, vga_0, vga_s, vset_0, vset_s, vtk_0, vtk_s, vrc_0, vsw_0, vsw_s, List.all_cons, List.all_nil, zc1_i, zc1_r, Bool.and_true, Bool.and_self, true_and, and_true, List.length_cons, List.length_nil, Nat.zero_le, Nat.reduceLeDiff, Nat.reduceAdd, Nat.reduceLT, Option.toList_some, List.cons_append, List.nil_append]
          rw [if_pos trivial]
          exact ⟨Or.inl trivial, no 6 hk rfl (fun z => by obtain ⟨-, y, hy, ey⟩ := (mkm_6 (by omega)).mp z; exact hn y hy ey)⟩
      · simp only [v_57_0, v_57_1, v_57_52, v_57_53, v_57_54, v_57_55, v_57_58, v_57_61, v_57_62, v_57_65, v_57_66, v_57_67, v_57_68, v_57_69, v_57_71, v_57_74, v_57_77, v_57_78, v_57_79, v_57_82, v_57_83, v_57_86, v_57_89, v_57_90, v_57_92, v_57_95, v_57_97, v_57_100, v_57_103, v_57_104, v_57_107, v_57_108, v_57_109, v_57_110, v_57_113, v_57_116, v_57_118, v_57_121, v_57_124, v_57_125, v_57_128, v_57_129, v_57_130, v_57_131, v_57_133, v_57_136, v_57_137, v_57_138, v_57_140, v_57_143, v_57_146, v_57_147, v_57_149, v_57_152, v_57_155, v_57_156, v_57_159, v_57_160, v_57_161, v_57_162, v_57_165, v_57_168, v_57_169, v_57_171, v_57_174, v_57_177, v_57_178, v_57_181, v_57_182, v_57_183, v_57_184, v_57_187, v_57_190, v_57_191, v_57_194, v_57_197, v_57_198, v_57_200, v_57_203, v_57_206, v_57_207, v_57_210, v_57_212, v_57_213, v_57_216, v_57_217, v_57_220, v_57_221, v_57_222, v_57_223, vgi_0, vgi_s, vga_0, vga_s, vset_0, vset_s, vtk_0, vtk_s, vrc_0, vsw_0, vsw_s, List.all_cons, List.all_nil, zc1_i, zc1_r, Bool.and_true, Bool.and_self, true_and, and_true, List.length_cons, List.length_nil, Nat.zero_le, Nat.reduceLeDiff, Nat.reduceAdd, Nat.reduceLT, Option.toList_some, List.cons_append, List.nil_append]
        rw [if_pos trivial]
        exact ⟨Or.inl trivial, no 6 hk rfl (fun z => by obtain ⟨⟨y, hy, ey⟩, -⟩ := (mkm_6 (by omega)).mp z; exact hn y hy ey)⟩
    · rw [if_neg (by decide), if_neg (by decide), if_neg (by decide), if_neg (by decide), if_neg (by decide), if_neg (by decide), if_neg (by decide), if_pos (by decide)]
      refine c_56 (by omega) (fun x hx ex => ?_) (fun hn => ?_)
      · simp only [v_57_0, v_57_1, v_57_52, v_57_53, v_57_54, v_57_55, v_57_58, v_57_61, v_57_62, v_57_65, v_57_66, v_57_67, v_57_68, v_57_69, v_57_71, v_57_74, v_57_77, v_57_78, v_57_79, v_57_82, v_57_83, v_57_86, v_57_89, v_57_90, v_57_92, v_57_95, v_57_97, v_57_100, v_57_103, v_57_104, v_57_107, v_57_108, v_57_109, v_57_110, v_57_113, v_57_116, v_57_118, v_57_121, v_57_124, v_57_125, v_57_128, v_57_129, v_57_130, v_57_131, v_57_133, v_57_136, v_57_137, v_57_138, v_57_140, v_57_143, v_57_146, v_57_147, v_57_149, v_57_152, v_57_155, v_57_156, v_57_159, v_57_160, v_57_161, v_57_162, v_57_165, v_57_168, v_57_169, v_57_171, v_57_174, v_57_177, v_57_178, v_57_181, v_57_182, v_57_183, v_57_184, v_57_187, v_57_190, v_57_191, v_57_194, v_57_197, v_57_198, v_57_200, v_57_203, v_57_206, v_57_207, v_57_210, v_57_212, v_57_213, v_57_216, v_57_217, v_57_220, v_57_221, v_57_222, v_57_223, vgi_0, vgi_s, vga_0, vga_s, vset_0, vset_s, vtk_0, vtk_s, vrc_0, vsw_0, vsw_s, List.all_cons, List.all_nil, zc1_i, zc1_r, Bool.and_true, Bool.and_self, true_and, and_true, List.length_cons, List.length_nil, Nat.zero_le, Nat.reduceLeDiff, Nat.reduceAdd, Nat.reduceLT, Option.toList_some, List.cons_append, List.nil_append, tg_483]
        rw [if_neg (by decide)]
        refine c_55m (by omega) h (fun w hw ew => ?_) (fun hn => ?_)
        · simp only [v_57_0, v_57_1, v_57_52, v_57_53, v_57_54, v_57_55, v_57_58, v_57_61, v_57_62, v_57_65, v_57_66, v_57_67, v_57_68, v_57_69, v_57_71, v_57_74, v_57_77, v_57_78, v_57_79, v_57_82, v_57_83, v_57_86, v_57_89, v_57_90, v_57_92, v_57_95, v_57_97, v_57_100, v_57_103, v_57_104, v_57_107, v_57_108, v_57_109, v_57_110, v_57_113, v_57_116, v_57_118, v_57_121, v_57_124, v_57_125, v_57_128, v_57_129, v_57_130, v_57_131, v_57_133, v_57_136, v_57_137, v_57_138, v_57_140, v_57_143, v_57_146, v_57_147, v_57_149, v_57_152, v_57_155, v_57_156, v_57_159, v_57_160, v_57_161, v_57_162, v_57_165, v_57_168, v_57_169, v_57_171, v_57_174, v_57_177, v_57_178, v_57_181, v_57_182, v_57_183, v_57_184, v_57_187, v_57_190, v_57_191, v_57_194, v_57_197, v_57_198, v_57_200, v_57_203, v_57_206, v_57_207, v_57_210, v_57_212, v_57_213, v_57_216, v_57_217, v_57_220, v_57_221, v_57_222, v_57_223, vgi_0, vgi_s, vga_0, vga_s, vset_0, vset_s, vtk_0, vtk_s, vrc_0, vsw_0, vsw_s, List.all_cons, List.all_nil, zc1_i, zc1_r, Bool.and_true, Bool.and_self, true_and, and_true, List.length_cons, List.length_nil, Nat.zero_le, Nat.reduceLeDiff, Nat.reduceAdd, Nat.reduceLT, Option.toList_some, List.cons_append, List.nil_append]
          rw [if_neg (by decide)]
          exact ⟨Or.inr trivial, k1 7 hk rfl ((mkm_6 (by omega)).mpr ⟨⟨x, hx, ex⟩, w, hw, ew⟩)⟩
        · simp only [v_57_0, v_57_1, v_57_52, v_57_53, v_57_54, v_57_55, v_57_58, v_57_61, v_57_62, v_57_65, v_57_66, v_57_67, v_57_68, v_57_69, v_57_71, v_57_74, v_57_77, v_57_78, v_57_79, v_57_82, v_57_83, v_57_86, v_57_89, v_57_90, v_57_92, v_57_95, v_57_97, v_57_100, v_57_103, v_57_104, v_57_107, v_57_108, v_57_109, v_57_110, v_57_113, v_57_116, v_57_118, v_57_121, v_57_124, v_57_125, v_57_128, v_57_129, v_57_130, v_57_131, v_57_133, v_57_136, v_57_137, v_57_138, v_57_140, v_57_143, v_57_146, v_57_147, v_57_149, v_57_152, v_57_155, v_57_156, v_57_159, v_57_160, v_57_161, v_57_162, v_57_165, v_57_168, v_57_169, v_57_171, v_57_174, v_57_177, v_57_178, v_57_181, v_57_182, v_57_183, v_57_184, v_57_187, v_57_190, v_57_191, v_57_194, v_57_197, v_57_198, v_57_200, v_57_203, v_57_206, v_57_207, v_57_210, v_57_212, v_57_213, v_57_216, v_57_217, v_57_220, v_57_221, v_57_222, v_57_223, vgi_0, vgi_s, vga_0, vga_s, vset_0, vset_s, vtk_0, vtk_s, vrc_0, vsw_0, vsw_s, List.all_cons, List.all_nil, zc1_i, zc1_r, Bool.and_true, Bool.and_self, true_and, and_true, List.length_cons, List.length_nil, Nat.zero_le, Nat.reduceLeDiff, Nat.reduceAdd, Nat.reduceLT, Option.toList_some, List.cons_append, List.nil_append]
          rw [if_pos trivial]
          exact ⟨Or.inl trivial, no 7 hk rfl (fun z => by obtain ⟨-, y, hy, ey⟩ := (mkm_6 (by omega)).mp z; exact hn y hy ey)⟩
      · simp only [v_57_0, v_57_1, v_57_52, v_57_53, v_57_54, v_57_55, v_57_58, v_57_61, v_57_62, v_57_65, v_57_66, v_57_67, v_57_68, v_57_69, v_57_71, v_57_74, v_57_77, v_57_78, v_57_79, v_57_82, v_57_83, v_57_86, v_57_89, v_57_90, v_57_92, v_57_95, v_57_97, v_57_100, v_57_103, v_57_104, v_57_107, v_57_108, v_57_109, v_57_110, v_57_113, v_57_116, v_57_118, v_57_121, v_57_124, v_57_125, v_57_128, v_57_129, v_57_130, v_57_131, v_57_133, v_57_136, v_57_137, v_57_138, v_57_140, v_57_143, v_57_146, v_57_147, v_57_149, v_57_152, v_57_155, v_57_156, v_57_159, v_57_160, v_57_161, v_57_162, v_57_165, v_57_168, v_57_169, v_57_171, v_57_174, v_57_177, v_57_178, v_57_181, v_57_182, v_57_183, v_57_184, v_57_187, v_57_190, v_57_191, v_57_194, v_57_197, v_57_198, v_57_200, v_57_203, v_57_206, v_57_207, v_57_210, v_57_212, v_57_213, v_57_216, v_57_217, v_57_220, v_57_221, v_57_222, v_57_223, vgi_0, vgi_s, vga_0, vga_s, vset_0, vset_s, vtk_0, vtk_s, vrc_0, vsw_0, vsw_s, List.all_cons, List.all_nil, zc1_i, zc1_r, Bool.and_true, Bool.and_self, true_and, and_true, List.length_cons, List.length_nil, Nat.zero_le, Nat.reduceLeDiff, Nat.reduceAdd, Nat.reduceLT, Option.toList_some, List.cons_append, List.nil_append]
        rw [if_pos trivial]
        exact ⟨Or.inl trivial, no 7 hk rfl (fun z => by obtain ⟨⟨y, hy, ey⟩, -⟩ := (mkm_6 (by omega)).mp z; exact hn y hy ey)⟩
    · rw [if_neg (by decide), if_neg (by decide), if_neg (by decide), if_neg (by decide), if_neg (by decide), if_neg (by decide), if_neg (by decide), if_neg (by decide), if_pos (by decide)]
      refine c_56 (by omega) (fun x hx ex => ?_) (fun hn => ?_)
      · simp only [v_57_0, v_57_1, v_57_52, v_57_53, v_57_54, v_57_55, v_57_58, v_57_61, v_57_62, v_57_65, v_57_66, v_57_67, v_57_68, v_57_69, v_57_71, v_57_74, v_57_77, v_57_78, v_57_79, v_57_82, v_57_83, v_57_86, v_57_89, v_57_90, v_57_92, v_57_95, v_57_97, v_57_100, v_57_103, v_57_104, v_57_107, v_57_108, v_57_109, v_57_110, v_57_113, v_57_116, v_57_118, v_57_121, v_57_124, v_57_125, v_57_128, v_57_129, v_57_130, v_57_131, v_57_133, v_57_136, v_57_137, v_57_138, v_57_140, v_57_143, v_57_146, v_57_147, v_57_149, v_57_152, v_57_155, v_57_156, v_57_159, v_57_160, v_57_161, v_57_162, v_57_165, v_57_168, v_57_169, v_57_171, v_57_174, v_57_177, v_57_178, v_57_181, v_57_182, v_57_183, v_57_184, v_57_187, v_57_190, v_57_191, v_57_194, v_57_197, v_57_198, v_57_200, v_57_203, v_57_206, v_57_207, v_57_210, v_57_212, v_57_213, v_57_216, v_57_217, v_57_220, v_57_221, v_57_222, v_57_223, vgi_0, vgi_s, vga_0, vga_s, vset_0, vset_s, vtk_0, vtk_s, vrc_0, vsw_0, vsw_s, List.all_cons, List.all_nil, zc1_i, zc1_r, Bool.and_true, Bool.and_self, true_and, and_true, List.length_cons, List.length_nil, Nat.zero_le, Nat.reduceLeDiff, Nat.reduceAdd, Nat.reduceLT, Option.toList_some, List.cons_append, List.nil_append]
        rw [if_neg (by decide)]
        refine c_56 (by omega) (fun w hw ew => ?_) (fun hn => ?_)
        · simp only [v_57_0, v_57_1, v_57_52, v_57_53, v_57_54, v_57_55, v_57_58, v_57_61, v_57_62, v_57_65, v_57_66, v_57_67, v_57_68, v_57_69, v_57_71, v_57_74, v_57_77, v_57_78, v_57_79, v_57_82, v_57_83, v_57_86, v_57_89, v_57_90, v_57_92, v_57_95, v_57_97, v_57_100, v_57_103, v_57_104, v_57_107, v_57_108, v_57_109, v_57_110, v_57_113, v_57_116, v_57_118, v_57_121, v_57_124, v_57_125, v_57_128, v_57_129, v_57_130, v_57_131, v_57_133, v_57_136, v_57_137, v_57_138, v_57_140, v_57_143, v_57_146, v_57_147, v_57_149, v_57_152, v_57_155, v_57_156, v_57_159, v_57_160, v_57_161, v_57_162, v_57_165, v_57_168, v_57_169, v_57_171, v_57_174, v_57_177, v_57_178, v_57_181, v_57_182, v_57_183, v_57_184, v_57_187, v_57_190, v_57_191, v_57_194, v_57_197, v_57_198, v_57_200, v_57_203, v_57_206, v_57_207, v_57_210, v_57_212, v_57_213, v_57_216, v_57_217, v_57_220, v_57_221, v_57_222, v_57_223, vgi_0, vgi_s, vga_0, vga_s, vset_0, vset_s, vtk_0, vtk_s, vrc_0, vsw_0, vsw_s, List.all_cons, List.all_nil, zc1_i, zc1_r, Bool.and_true, Bool.and_self, true_and, and_true, List.length_cons, List.length_nil, Nat.zero_le, Nat.reduceLeDiff, Nat.reduceAdd, Nat.reduceLT, Option.toList_some, List.cons_append, List.nil_append, tg_483]
          rw [if_neg (by decide)]
          refine c_55m (by omega) h (fun y hy ey => ?_) (fun hn => ?_)
          · subst ey
            obtain ⟨-, -, -, -, f5, f6⟩ := h.dp hy
            simp only [v_57_0, v_57_1, v_57_52, v_57_53, v_57_54, v_57_55, v_57_58, v_57_61, v_57_62, v_57_65, v_57_66, v_57_67, v_57_68, v_57_69, v_57_71, v_57_74, v_57_77, v_57_78, v_57_79, v_57_82, v_57_83, v_57_86, v_57_89, v_57_90, v_57_92, v_57_95, v_57_97, v_57_100, v_57_103, v_57_104, v_57_107, v_57_108, v_57_109, v_57_110, v_57_113, v_57_116, v_57_118, v_57_121, v_57_124, v_57_125, v_57_128, v_57_129, v_57_130, v_57_131, v_57_133, v_57_136, v_57_137, v_57_138, v_57_140, v_57_143, v_57_146, v_57_147, v_57_149, v_57_152, v_57_155, v_57_156, v_57_159, v_57_160, v_57_161, v_57_162, v_57_165, v_57_168, v_57_169, v_57_171, v_57_174, v_57_177, v_57_178, v_57_181, v_57_182, v_57_183, v_57_184, v_57_187, v_57_190, v_57_191, v_57_194, v_57_197, v_57_198, v_57_200, v_57_203, v_57_206, v_57_207, v_57_210, v_57_212, v_57_213, v_57_216, v_57_217, v_57_220, v_57_221, v_57_222, v_57_223, vgi_0, vgi_s, vga_0, vga_s, vset_0, vset_s, vtk_0, vtk_s, vrc_0, vsw_0, vsw_s, List.all_cons, List.all_nil, zc1_i, zc1_r, Bool.and_true, Bool.and_self, true_and, and_true, List.length_cons, List.length_nil, Nat.zero_le, Nat.reduceLeDiff, Nat.reduceAdd, Nat.reduceLT, Option.toList_some, List.cons_append, List.nil_append, tg_483, tf_483_9, tg_492, ln_492]
            rw [if_neg (by decide)]
            simp (disch := omega) only [nI_clamp, vinb_n, f5, li0, nI_eq]
            refine ⟨Or.inr trivial, by omega, ?_⟩
            by_cases z : cl q y = 0
            · rw [if_pos z]
              exact ⟨Or.inr trivial, k1 8 hk rfl (mkm_8.mpr ⟨⟨x, hx, ex⟩, ⟨w, hw, ew⟩, y, hy, rfl, z⟩)⟩
            · rw [if_neg z]
              refine ⟨Or.inl trivial, no 8 hk rfl (fun u => ?_)⟩
              obtain ⟨-, -, y', hy', ey', hc⟩ := mkm_8.mp u
              have : y = y' := nI_inj (by omega) (by omega) ey'
              subst this
              exact z hc
          · simp only [v_57_0, v_57_1, v_57_52, v_57_53, v_57_54, v_57_55, v_57_58, v_57_61, v_57_62, v_57_65, v_57_66, v_57_67, v_57_68, v_57_69, v_57_71, v_57_74, v_57_77, v_57_78, v_57_79, v_57_82, v_57_83, v_57_86, v_57_89, v_57_90, v_57_92, v_57_95, v_57_97, v_57_100, v_57_103, v_57_104, v_57_107, v_57_108, v_57_109, v_57_110, v_57_113, v_57_116, v_57_118, v_57_121, v_57_124, v_57_125, v_57_128, v_57_129, v_57_130, v_57_131, v_57_133, v_57_136, v_57_137, v_57_138, v_57_140, v_57_143, v_57_146, v_57_147, v_57_149, v_57_152, v_57_155, v_57_156, v_57_159, v_57_160, v_57_161, v_57_162, v_57_165, v_57_168, v_57_169, v_57_171, v_57_174, v_57_177, v_57_178, v_57_181, v_57_182, v_57_183, v_57_184, v_57_187, v_57_190, v_57_191, v_57_194, v_57_197, v_57_198, v_57_200, v_57_203, v_57_206, v_57_207, v_57_210, v_57_212, v_57_213, v_57_216, v_57_217, v_57_220, v_57_221, v_57_222, v_57_223, vgi_0, vgi_s, vga_0, vga_s, vset_0, vset_s, vtk_0, vtk_s, vrc_0, vsw_0, vsw_s, List.all_cons, List.all_nil, zc1_i, zc1_r, Bool.and_true, Bool.and_self, true_and, and_true, List.length_cons, List.length_nil, Nat.zero_le, Nat.reduceLeDiff, Nat.reduceAdd, Nat.reduceLT, Option.toList_some, List.cons_append, List.nil_append]
            rw [if_pos trivial]
            exact ⟨Or.inl trivial, no 8 hk rfl (fun z => by obtain ⟨-, -, y, hy, ey, -⟩ := mkm_8.mp z; exact hn y hy ey)⟩
        · simp only [v_57_0, v_57_1, v_57_52, v_57_53, v_57_54, v_57_55, v_57_58, v_57_61, v_57_62, v_57_65, v_57_66, v_57_67, v_57_68, v_57_69, v_57_71, v_57_74, v_57_77, v_57_78, v_57_79, v_57_82, v_57_83, v_57_86, v_57_89, v_57_90, v_57_92, v_57_95, v_57_97, v_57_100, v_57_103, v_57_104, v_57_107, v_57_108, v_57_109, v_57_110, v_57_113, v_57_116, v_57_118, v_57_121, v_57_124, v_57_125, v_57_128, v_57_129, v_57_130, v_57_131, v_57_133, v_57_136, v_57_137, v_57_138, v_57_140, v_57_143, v_57_146, v_57_147, v_57_149, v_57_152, v_57_155, v_57_156, v_57_159, v_57_160, v_57_161, v_57_162, v_57_165, v_57_168, v_57_169, v_57_171, v_57_174, v_57_177, v_57_178, v_57_181, v_57_182, v_57_183, v_57_184, v_57_187, v_57_190, v_57_191, v_57_194, v_57_197, v_57_198, v_57_200, v_57_203, v_57_206, v_57_207, v_57_210, v_57_212, v_57_213, v_57_216, v_57_217, v_57_220, v_57_221, v_57_222, v_57_223, vgi_0, vgi_s, vga_0, vga_s, vset_0, vset_s, vtk_0, vtk_s, vrc_0, vsw_0, vsw_s, List.all_cons, List.all_nil, zc1_i, zc1_r, Bool.and_true, Bool.and_self, true_and, and_true, List.length_cons, List.length_nil, Nat.zero_le, Nat.reduceLeDiff, Nat.reduceAdd, Nat.reduceLT, Option.toList_some, List.cons_append, List.nil_append]
          rw [if_pos trivial]
          exact ⟨Or.inl trivial, no 8 hk rfl (fun z => by obtain ⟨-, ⟨w, hw, ew⟩, -⟩ := mkm_8.mp z; exact hn w hw ew)⟩
      · simp only [v_57_0, v_57_1, v_57_52, v_57_53, v_57_54, v_57_55, v_57_58, v_57_61, v_57_62, v_57_65, v_57_66, v_57_67, v_57_68, v_57_69, v_57_71, v_57_74, v_57_77, v_57_78, v_57_79, v_57_82, v_57_83, v_57_86, v_57_89, v_57_90, v_57_92, v_57_95, v_57_97, v_57_100, v_57_103, v_57_104, v_57_107, v_57_108, v_57_109, v_57_110, v_57_113, v_57_116, v_57_118, v_57_121, v_57_124, v_57_125, v_57_128, v_57_129, v_57_130, v_57_131, v_57_133, v_57_136, v_57_137, v_57_138, v_57_140, v_57_143, v_57_146, v_57_147, v_57_149, v_57_152, v_57_155, v_57_156, v_57_159, v_57_160, v_57_161, v_57_162, v_57_165, v_57_168, v_57_169, v_57_171, v_57_174, v_57_177, v_57_178, v_57_181, v_57_182, v_57_183, v_57_184, v_57_187, v_57_190, v_57_191, v_57_194, v_57_197, v_57_198, v_57_200, v_57_203, v_57_206, v_57_207, v_57_210, v_57_212, v_57_213, v_57_216, v_57_217, v_57_220, v_57_221, v_57_222, v_57_223, vgi_0, vgi_s, vga_0, vga_s, vset_0, vset_s, vtk_0, vtk_s, vrc_0, vsw_0, vsw_s, List.all_cons, List.all_nil, zc1_i, zc1_r, Bool.and_true, Bool.and_self, true_and, and_true, List.length_cons, List.length_nil, Nat.zero_le, Nat.reduceLeDiff, Nat.reduceAdd, Nat.reduceLT, Option.toList_some, List.cons_append, List.nil_append]
        rw [if_pos trivial]
        exact ⟨Or.inl trivial, no 8 hk rfl (fun z => by obtain ⟨⟨w, hw, ew⟩, -⟩ := mkm_8.mp z; exact hn w hw ew)⟩
  · rw [if_neg n0, if_neg n1, if_neg n2, if_neg n3, if_neg n4, if_neg n5, if_neg n6, if_neg n7, if_neg n8]
    exact ⟨Or.inl trivial, k0 (fun k hk ek => absurd ek (hno k hk))⟩
theorem c_58 {k : Nat} (hd : 1 ≤ d) (h : foM t q m) (hk : k < 9) (hm : mkm q m k a b c e) (k1 : F (some (.int (nI (nD q k (nn c) (nn e))))) t) : twc d 58 [.ref 483, .int (nI k), .int c, .int e] t F := by
  have hm4 := h.le
  have ifk : ∀ (n : Nat) (n' : Int32) (P Q : Prop), n < 100 → n' = nI n → (if nI k = n' then P else Q) = (if k = n then P else Q) := fun n n' P Q hn en => by
    rw [en]
    simp (disch := omega) only [nI_eq]
  refine ⟨by omega, ?_⟩
  rw [ze_58]
  refine vc_ok none zH_58 47 false _ 58 0 _ _ _ _ ?_
  simp only [v_58_0, v_58_1, v_58_2, v_58_5, v_58_6, v_58_9, v_58_10, v_58_11, v_58_12, v_58_15, v_58_16, v_58_17, v_58_20, v_58_21, v_58_24, v_58_25, v_58_26, v_58_27, v_58_30, v_58_31, v_58_32, v_58_35, v_58_36, v_58_39, v_58_40, v_58_41, v_58_44, v_58_45, v_58_48, v_58_49, v_58_50, v_58_53, v_58_54, v_58_57, v_58_58, v_58_59, v_58_60, vgi_0, vgi_s, vga_0, vga_s, vset_0, vset_s, vtk_0, vtk_s, vrc_0, vsw_0, vsw_s, List.all_cons, List.all_nil, zc1_i, zc1_r, Bool.and_true, Bool.and_self, true_and, and_true, List.length_cons, List.length_nil, Nat.zero_le, Nat.reduceLeDiff, Nat.reduceAdd, Nat.reduceLT, tg_483, tf_483_7, tg_490, ln_490]
  rw [ifk 4 4 _ _ (by omega) rfl, ifk 5 5 _ _ (by omega) rfl]
  simp (disch := omega) only [li3, nI_ltI]
  by_cases k3 : k < 3
  · rw [if_pos k3]
    unfold nD at k1
    rw [if_pos k3] at k1
    exact k1
  · rw [if_neg k3]
    have hc : ∃ y, y < m ∧ c = nI y := by
      have : k = 3 ∨ (k = 4 ∨ k = 5) ∨ (k = 6 ∨ k = 7) ∨ k = 8 := by omega
      rcases this with rfl | z | z | rfl
      · exact mkm_3.mp hm
      · exact ((mkm_4 z).mp hm).1
      · exact ((mkm_6 z).mp hm).2
      · obtain ⟨-, -, y, hy, ey, -⟩ := mkm_8.mp hm
        exact ⟨y, hy, ey⟩
    obtain ⟨y, hy, rfl⟩ := hc
    obtain ⟨-, d2, d3, -⟩ := h.dp hy
    have ny : nn (nI y) = y := nn_nI (by omega)
    rw [ny] at k1
    by_cases k45 : k = 4 ∨ k = 5
    · obtain ⟨z, hz, rfl⟩ := ((mkm_4 k45).mp hm).2
      obtain ⟨-, g2, g3, -⟩ := h.dp hz
      have nz : nn (nI z) = z := nn_nI (by omega)
      rw [nz] at k1
      have eD : nD q k y z = 1 + max (dp q y) (dp q z) := by unfold nD; rw [if_neg k3, if_pos k45]
      rw [eD] at k1
      simp (disch := omega) only [nI_clamp, vinb_n, d2, g2, nI_ltI, li1, nI_add]
      have fin : (y < 40 ∧ z < 40 ∧ if dp q z < dp q y then y < 40 ∧ F (some (.int (nI (1 + dp q y)))) t else z < 40 ∧ F (some (.int (nI (1 + dp q z)))) t) := by
        refine ⟨by omega, by omega, ?_⟩
        by_cases g : dp q z < dp q y
        · rw [if_pos g]
          rw [show 1 + max (dp q y) (dp q z) = 1 + dp q y by omega] at k1
          exact ⟨by omega, k1⟩
        · rw [if_neg g]
          rw [show 1 + max (dp q y) (dp q z) = 1 + dp q z by omega] at k1
          exact ⟨by omega, k1⟩
      rcases k45 with rfl | rfl
      · rw [if_pos rfl]; exact fin
      · rw [if_neg (by decide), if_pos rfl]; exact fin
    · have eD : nD q k y (nn e) = 1 + dp q y := by unfold nD; rw [if_neg k3, if_neg k45]
      rw [eD] at k1
      rw [if_neg (by omega), if_neg (by omega)]
      simp (disch := omega) only [nI_clamp, vinb_n, d2, li1, nI_add]
      exact ⟨by omega, k1⟩
theorem c_59 {k : Nat} (hd : 1 ≤ d) (h : foM t q m) (hk : k < 9) (hm : mkm q m k a b c e) (k1 : F (some (.int (nI (nU q k (nn a) (nn b) (nn c) (nn e))))) t) : twc d 59 [.ref 483, .int (nI k), .int a, .int b, .int c, .int e] t F := by
  have hm4 := h.le
  refine ⟨by omega, ?_⟩
  rw [ze_59]
  refine vc_ok none zH_59 83 false _ 59 0 _ _ _ _ ?_
  simp only [v_59_0, v_59_1, v_59_52, v_59_53, v_59_54, v_59_55, v_59_56, v_59_59, v_59_60, v_59_63, v_59_64, v_59_66, v_59_69, v_59_70, v_59_71, v_59_72, v_59_75, v_59_76, v_59_77, v_59_78, v_59_79, v_59_81, v_59_82, v_59_83, v_59_84, v_59_85, v_59_86, v_59_87, v_59_88, v_59_90, v_59_91, v_59_92, v_59_93, v_59_94, v_59_97, v_59_99, v_59_100, v_59_101, v_59_102, v_59_105, v_59_107, v_59_108, v_59_109, v_59_112, v_59_114, v_59_115, v_59_116, v_59_117, v_59_118, v_59_121, v_59_123, v_59_124, v_59_126, v_59_127, v_59_128, v_59_129, v_59_130, v_59_131, v_59_132, v_59_133, v_59_134, v_59_135, v_59_136, v_59_137, v_59_140, v_59_142, v_59_143, v_59_145, v_59_146, v_59_147, v_59_148, v_59_149, v_59_150, vgi_0, vgi_s, vga_0, vga_s, vset_0, vset_s, vtk_0, vtk_s, vrc_0, vsw_0, vsw_s, List.all_cons, List.all_nil, zc1_i, zc1_r, Bool.and_true, Bool.and_self, true_and, and_true, List.length_cons, List.length_nil, Nat.zero_le, Nat.reduceLeDiff, Nat.reduceAdd, Nat.reduceLT, tg_483, tf_483_8, tg_491, ln_491]
  have : k = 0 ∨ k = 1 ∨ k = 2 ∨ k = 3 ∨ k = 4 ∨ k = 5 ∨ k = 6 ∨ k = 7 ∨ k = 8 := by omega
  rcases this with rfl | rfl | rfl | rfl | rfl | rfl | rfl | rfl | rfl
  · rw [if_pos (by decide)]
    exact k1
  · rw [if_neg (by decide), if_pos (by decide)]
    obtain ⟨y, hy, rfl, g1, g2⟩ := mkm_1.mp hm
    have nx : nn (nI y) = y := nn_nI (by omega)
    simp (disch := omega) only [li2, li6, nI_ltI]
    have hU : nU q 1 (nn (nI y)) (nn b) (nn c) (nn e) = if y < 2 then 0 else if y < 6 then 2 ^ nn b else 2 ^ nn b ||| 2 ^ nn c := by rw [nx]; rfl
    rw [hU] at k1
    by_cases y2 : y < 2
    · rw [if_pos y2]
      rw [if_pos y2] at k1
      exact k1
    · rw [if_neg y2]
      rw [if_neg y2] at k1
      obtain ⟨z, hz, rfl⟩ := g1 (by omega)
      rw [nn_nI (by omega)] at k1
      by_cases y6 : y < 6
      · rw [if_pos y6, sh1 z hz]
        rw [if_pos y6] at k1
        exact k1
      · rw [if_neg y6]
        rw [if_neg y6] at k1
        obtain ⟨w, hw, rfl⟩ := g2 (by omega)
        rw [nn_nI (by omega)] at k1
        rw [sh1 z hz, sh1 w hw, or1 _ (pw6 z hz) _ (pw6 w hw)]
        exact k1
  · rw [if_neg (by decide), if_neg (by decide), if_pos (by decide)]
    obtain ⟨⟨z, hz, rfl⟩, w, hw, rfl⟩ := mkm_2.mp hm
    rw [sh1 z hz, sh1 w hw, or1 _ (pw6 z hz) _ (pw6 w hw)]
    have hU : nU q 2 (nn a) (nn (nI z)) (nn (nI w)) (nn e) = 2 ^ z ||| 2 ^ w := by
      show 2 ^ nn (nI z) ||| 2 ^ nn (nI w) = _
      rw [nn_nI (by omega), nn_nI (by omega)]
    rw [hU] at k1
    exact k1
  · rw [if_neg (by decide), if_neg (by decide), if_neg (by decide), if_pos (by decide)]
    obtain ⟨y, hy, rfl⟩ := mkm_3.mp hm
    obtain ⟨-, f2, -⟩ := h.fr hy
    rw [nn_nI (by omega)] at k1
    simp (disch := omega) only [nI_clamp, vinb_n, f2]
    exact ⟨by omega, k1⟩
  · rw [if_neg (by decide), if_neg (by decide), if_neg (by decide), if_neg (by decide), if_pos (by decide)]
    obtain ⟨⟨y, hy, rfl⟩, z, hz, rfl⟩ := (mkm_4 (by omega)).mp hm
    obtain ⟨-, f2, f3⟩ := h.fr hy
    obtain ⟨-, g2, g3⟩ := h.fr hz
    rw [nn_nI (by omega), nn_nI (by omega)] at k1
    simp (disch := omega) only [nI_clamp, vinb_n, f2, g2, or1 _ f3 _ g3]
    exact ⟨by omega, by omega, k1⟩
  · rw [if_neg (by decide), if_neg (by decide), if_neg (by decide), if_neg (by decide), if_neg (by decide), if_pos (by decide)]
    obtain ⟨⟨y, hy, rfl⟩, z, hz, rfl⟩ := (mkm_4 (by omega)).mp hm
    obtain ⟨-, f2, f3⟩ := h.fr hy
    obtain ⟨-, g2, g3⟩ := h.fr hz
    rw [nn_nI (by omega), nn_nI (by omega)] at k1
    simp (disch := omega) only [nI_clamp, vinb_n, f2, g2, or1 _ f3 _ g3]
    exact ⟨by omega, by omega, k1⟩
  · rw [if_neg (by decide), if_neg (by decide), if_neg (by decide), if_neg (by decide), if_neg (by decide), if_neg (by decide), if_pos (by decide)]
    obtain ⟨⟨x, hx, rfl⟩, y, hy, rfl⟩ := (mkm_6 (by omega)).mp hm
    obtain ⟨-, f2, f3⟩ := h.fr hy
    rw [nn_nI (by omega), nn_nI (by omega)] at k1
    simp (disch := omega) only [nI_clamp, vinb_n, f2, sh1 x hx, (an1 _ f3 x hx).2]
    exact ⟨by omega, k1⟩
  · rw [if_neg (by decide), if_neg (by decide), if_neg (by decide), if_neg (by decide), if_neg (by decide), if_neg (by decide), if_neg (by decide), if_pos (by decide)]
    obtain ⟨⟨x, hx, rfl⟩, y, hy, rfl⟩ := (mkm_6 (by omega)).mp hm
    obtain ⟨-, f2, f3⟩ := h.fr hy
    rw [nn_nI (by omega), nn_nI (by omega)] at k1
    simp (disch := omega) only [nI_clamp, vinb_n, f2, sh1 x hx, (an1 _ f3 x hx).2]
    exact ⟨by omega, k1⟩
  · rw [if_neg (by decide), if_neg (by decide), if_neg (by decide), if_neg (by decide), if_neg (by decide), if_neg (by decide), if_neg (by decide), if_neg (by decide), if_pos (by decide)]
    obtain ⟨⟨x, hx, rfl⟩, ⟨w, hw, rfl⟩, y, hy, rfl, -⟩ := mkm_8.mp hm
    obtain ⟨-, f2, f3⟩ := h.fr hy
    rw [nn_nI (by omega), nn_nI (by omega), nn_nI (by omega)] at k1
    simp (disch := omega) only [nI_clamp, vinb_n, f2, sh1 x hx, sh1 w hw, (an2 _ f3).2.1, or1 _ (an2 _ f3).2.2 _ (pw6 x hx), or1 _ (bt6 _ (an2 _ f3).2.2 _ (pw6 x hx)) _ (pw6 w hw)]
    exact ⟨by omega, k1⟩
end FM3
