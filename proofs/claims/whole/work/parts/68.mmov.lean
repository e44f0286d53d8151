/-! The reference moves: the changes. -/
section MM
variable {d s : Nat} {t : T} {F : Option Value → T → Prop} {q : FT} {m n rc e : Nat} {ru : Nat → Nat → Nat} {E : Nat → Nat}
def med (t : T) (e : Nat) (E : Nat → Nat) : Prop := t.1 496 e = nI (E 0) ∧ t.1 497 e = nI (E 1) ∧ t.1 498 e = nI (E 2 + 16 * E 3 + 256 * E 4) ∧ t.1 499 e = nI (E 5) ∧ t.1 500 e = nI (E 6) ∧ ∀ j, j < E 6 → t.1 501 (4 * e + j) = nI (E (7 + j)) ∧ t.1 502 (4 * e + j) = nI (E (11 + j))
theorem med.k {t' : T} (h : med t e E) (h2 : ∀ b k, 496 ≤ b → b ≤ 502 → t'.1 b k = t.1 b k) : med t' e E := by
  obtain ⟨h0, h1, h3, h4, h5, h6⟩ := h
  refine ⟨by rw [h2 _ _ (by omega) (by omega)]; exact h0, by rw [h2 _ _ (by omega) (by omega)]; exact h1, by rw [h2 _ _ (by omega) (by omega)]; exact h3, by rw [h2 _ _ (by omega) (by omega)]; exact h4, by rw [h2 _ _ (by omega) (by omega)]; exact h5, fun j hj => ?_⟩
  rw [h2 _ _ (by omega) (by omega), h2 _ _ (by omega) (by omega)]
  exact h6 j hj
/-- the rows that a change writes: its own, and the spare one -/
def spR (s : Nat) : Nat → Prop := fun x => x = s ∨ x = 182
/-- one change, up to the k-th pair -/
def CHp (q : FT) (b : St) (n p i k : Nat) (g g' : St) : Prop := (∀ u w, vld p n u w → 6 * u + w < k → g' (cel p u w + 1) = EV q b n i (e2 u w)) ∧ ∀ x, (∀ u w, vld p n u w → 6 * u + w < k → x ≠ cel p u w + 1) → g' x = g x
theorem CHp_0 {b g : St} {p i : Nat} : CHp q b n p i 0 g g := ⟨fun u w _ h => by omega, fun x _ => rfl⟩
theorem CHp_skip {b g g' : St} {p i k : Nat} (h : CHp q b n p i k g g') (hk : ¬ vld p n (k / 6) (k % 6)) (hn : n ≤ 6) : CHp q b n p i (k + 1) g g' := by
  have key : ∀ u w, vld p n u w → 6 * u + w < k + 1 → 6 * u + w < k := fun u w hv hl => by
    have := vld_r hn hv
    by_cases z : 6 * u + w = k
    · have e1 : k / 6 = u := by omega
      have e2 : k % 6 = w := by omega
      rw [e1, e2] at hk
      exact absurd hv hk
    · omega
  exact ⟨fun u w hv hl => h.1 u w hv (key u w hv hl), fun x hx => h.2 x (fun u w hv hl => hx u w hv (by omega))⟩
theorem cel_inj {p u w u' w' : Nat} (hn : n ≤ 6) (h : vld p n u w) (h' : vld p n u' w') (e : cel p u w = cel p u' w') : u = u' ∧ w = w' := by
  rcases h with ⟨a, b, c⟩ | ⟨a, b, c, g⟩ | ⟨a, b, c⟩
  · rcases h' with ⟨a', b', c'⟩ | ⟨a', b', c', g'⟩ | ⟨a', b', c'⟩ <;> omega
  · rcases h' with ⟨a', b', c'⟩ | ⟨a', b', c', g'⟩ | ⟨a', b', c'⟩
    · omega
    · have := cel1 (u := u) (w := w) a b
      have := cel1 (u := u') (w := w') a b
      omega
    · omega
  · rcases h' with ⟨a', b', c'⟩ | ⟨a', b', c', g'⟩ | ⟨a', b', c'⟩
    · omega
    · omega
    · have := cel2 (u := u) (w := w) a
      have := cel2 (u := u') (w := w') a
      omega
theorem CHp_set {b g g' : St} {p i k : Nat} (h : CHp q b n p i k g g') (hn : n ≤ 6) {u w : Nat} (hk : 6 * u + w = k) (hv : vld p n u w) : CHp q b n p i (k + 1) g (su g' (cel p u w + 1) (EV q b n i (e2 u w))) := by
  refine ⟨fun u' w' hv' hl => ?_, fun x hx => ?_⟩
  · unfold su
    by_cases z : cel p u' w' + 1 = cel p u w + 1
    · obtain ⟨rfl, rfl⟩ := cel_inj hn hv' hv (by omega)
      rw [if_pos rfl]
    · rw [if_neg z]
      refine h.1 u' w' hv' ?_
      have : ¬ 6 * u' + w' = k := fun y => by
        have a1 := vld_r hn hv
        have a2 := vld_r hn hv'
        have e1 : u' = u := by omega
        have e2 : w' = w := by omega
        subst e1; subst e2
        exact z rfl
      omega
  · unfold su
    rw [if_neg (hx u w hv (by omega))]
    exact h.2 x (fun u' w' hv' hl => hx u' w' hv' (by omega))
theorem CHp_end {b g g' : St} {p i : Nat} (hn : n ≤ 6) (h : CHp q b n p i 36 g g') : CH1 q b n p i g g' := by
  refine ⟨fun u w hv => h.1 u w hv ?_, fun x hx => h.2 x (fun u w hv _ => hx u w hv)⟩
  have := vld_r hn hv
  omega
theorem l_89b {b g : St} {p i j0 : Nat} (hd : 8 ≤ d) (hs : s < 184) (hs2 : s ≠ 182) (he : e < 8) (hj : j0 < 4) (hb : wfS b) (hn6 : n ≤ 6) (hq : mvq t q m 182 b n) (hi : i < m) (hp : p < 8) (h3 : fr q i ≤ (if p < 2 then 0 else if p < 6 then 1 else 3)) (h502 : t.1 502 (4 * e + j0) = nI i) (kn : ∀ (t' : T) (m6 m7 m8 m9 : Value), mG mEb (only s) t t' → CH1 q b n p i g (mS t' s) → twp none d 89 19 [.ref 483, .int (nI s), .int (nI e), .int (nI n), .int (nI (4 * e + j0 + 1)), .int (nI p), m6, m7, m8, m9] [] t' F) : ∀ (j k : Nat) (t' : T) (m7 m8 m9 : Value), k + j = 36 → mG mEb (only s) t t' → CHp q b n p i k g (mS t' s) → twp none d 89 46 [.ref 483, .int (nI s), .int (nI e), .int (nI n), .int (nI (4 * e + j0)), .int (nI p), .int (nI k), m7, m8, m9] [] t' F := by
  intro j
  induction j with
  | zero =>
    intro k t' m7 m8 m9 hk hO hI
    have hk : k = 36 := by omega
    subst hk
    refine vc_ok none zH_89 104 false _ 89 46 _ _ _ _ ?_
    simp only [v_89_0, v_89_1, v_89_2, v_89_5, v_89_8, v_89_9, v_89_10, v_89_13, v_89_14, v_89_15, v_89_16, v_89_17, v_89_19, h_89_19, v_89_21, v_89_22, v_89_23, v_89_24, v_89_25, v_89_28, v_89_29, v_89_30, v_89_31, v_89_34, v_89_35, v_89_38, v_89_40, v_89_41, v_89_43, v_89_44, v_89_46, h_89_46, v_89_48, v_89_50, v_89_53, v_89_55, v_89_57, v_89_58, v_89_60, v_89_62, v_89_64, v_89_65, v_89_67, v_89_69, v_89_70, v_89_73, v_89_75, v_89_78, v_89_79, v_89_82, v_89_83, v_89_86, v_89_88, v_89_90, v_89_93, v_89_95, v_89_96, v_89_99, v_89_101, v_89_104, v_89_105, v_89_108, v_89_109, v_89_112, v_89_114, v_89_115, v_89_118, v_89_120, v_89_121, v_89_124, v_89_125, v_89_128, v_89_129, h_89_129, v_89_131, v_89_133, v_89_136, v_89_137, v_89_138, v_89_140, v_89_142, v_89_144, v_89_147, v_89_148, v_89_151, v_89_152, v_89_155, v_89_157, v_89_158, v_89_160, v_89_162, v_89_165, v_89_168, v_89_171, v_89_174, v_89_177, v_89_180, vgi_0, vgi_s, vga_0, vga_s, vset_0, vset_s, vtk_0, vtk_s, vrc_0, vsw_0, vsw_s, List.all_cons, List.all_nil, zc1_i, zc1_r, Bool.and_true, Bool.and_self, true_and, and_true, List.length_cons, List.length_nil, Nat.zero_le, Nat.reduceLeDiff, Nat.reduceAdd, Nat.reduceLT]
    rw [if_neg (by decide), nI_1]
    exact kn t' _ _ _ _ hO (CHp_end hn6 hI)
  | succ j ih =>
    intro k t' m7 m8 m9 hk hO hI
    obtain ⟨e1, e2'⟩ := dv6 k (by omega)
    have hq' : mvq t' q m 182 b n := hq.g hO (by rw [hO.2.2 182 (fun z => hs2 z.symm)]; exact hq.row) hb hq.cnt
    have h502' : t'.1 502 (4 * e + j0) = nI i := by rw [hO.2.1 502 (by omega) (fun z => by have := z.1; omega)]; exact h502
    have no : ∀ m9, ¬ vld p n (k / 6) (k % 6) → twp none d 89 129 [.ref 483, .int (nI s), .int (nI e), .int (nI n), .int (nI (4 * e + j0)), .int (nI p), .int (nI k), .int (nI (k / 6)), .int (nI (k % 6)), m9] [.int 0] t' F := by
      intro m9 hnv
      refine vc_ok none zH_89 104 false _ 89 129 _ _ _ _ ?_
      simp only [v_89_0, v_89_1, v_89_2, v_89_5, v_89_8, v_89_9, v_89_10, v_89_13, v_89_14, v_89_15, v_89_16, v_89_17, v_89_19, h_89_19, v_89_21, v_89_22, v_89_23, v_89_24, v_89_25, v_89_28, v_89_29, v_89_30, v_89_31, v_89_34, v_89_35, v_89_38, v_89_40, v_89_41, v_89_43, v_89_44, v_89_46, h_89_46, v_89_48, v_89_50, v_89_53, v_89_55, v_89_57, v_89_58, v_89_60, v_89_62, v_89_64, v_89_65, v_89_67, v_89_69, v_89_70, v_89_73, v_89_75, v_89_78, v_89_79, v_89_82, v_89_83, v_89_86, v_89_88, v_89_90, v_89_93, v_89_95, v_89_96, v_89_99, v_89_101, v_89_104, v_89_105, v_89_108, v_89_109, v_89_112, v_89_114, v_89_115, v_89_118, v_89_120, v_89_121, v_89_124, v_89_125, v_89_128, v_89_129, h_89_129, v_89_131, v_89_133, v_89_136, v_89_137, v_89_138, v_89_140, v_89_142, v_89_144, v_89_147, v_89_148, v_89_151, v_89_152, v_89_155, v_89_157, v_89_158, v_89_160, v_89_162, v_89_165, v_89_168, v_89_171, v_89_174, v_89_177, v_89_180, vgi_0, vgi_s, vga_0, vga_s, vset_0, vset_s, vtk_0, vtk_s, vrc_0, vsw_0, vsw_s, List.all_cons, List.all_nil, zc1_i, zc1_r, Bool.and_true, Bool.and_self, true_and, and_true, List.length_cons, List.length_nil, Nat.zero_le, Nat.reduceLeDiff, Nat.reduceAdd, Nat.reduceLT]
      rw [if_pos trivial, nI_1]
      exact ih (k + 1) t' _ _ _ (by omega) hO (CHp_skip hI hnv hn6)
    have yes : ∀ m9, vld p n (k / 6) (k % 6) → twp none d 89 129 [.ref 483, .int (nI s), .int (nI e), .int (nI n), .int (nI (4 * e + j0)), .int (nI p), .int (nI k), .int (nI (k / 6)), .int (nI (k % 6)), m9] [.int 1] t' F := by
      intro m9 hv
      have hve := vld_e h3 hv
      have hvr := vld_r hn6 hv
      refine vc_ok none zH_89 104 false _ 89 129 _ _ _ _ ?_
      simp only [v_89_0, v_89_1, v_89_2, v_89_5, v_89_8, v_89_9, v_89_10, v_89_13, v_89_14, v_89_15, v_89_16, v_89_17, v_89_19, h_89_19, v_89_21, v_89_22, v_89_23, v_89_24, v_89_25, v_89_28, v_89_29, v_89_30, v_89_31, v_89_34, v_89_35, v_89_38, v_89_40, v_89_41, v_89_43, v_89_44, v_89_46, h_89_46, v_89_48, v_89_50, v_89_53, v_89_55, v_89_57, v_89_58, v_89_60, v_89_62, v_89_64, v_89_65, v_89_67, v_89_69, v_89_70, v_89_73, v_89_75, v_89_78, v_89_79, v_89_82, v_89_83, v_89_86, v_89_88, v_89_90, v_89_93, v_89_95, v_89_96, v_89_99, v_89_101, v_89_104, v_89_105, v_89_108, v_89_109, v_89_112, v_89_114, v_89_115, v_89_118, v_89_120, v_89_121, v_89_124, v_89_125, v_89_128, v_89_129, h_89_129, v_89_131, v_89_133, v_89_136, v_89_137, v_89_138, v_89_140, v_89_142, v_89_144, v_89_147, v_89_148, v_89_151, v_89_152, v_89_155, v_89_157, v_89_158, v_89_160, v_89_162, v_89_165, v_89_168, v_89_171, v_89_174, v_89_177, v_89_180, vgi_0, vgi_s, vga_0, vga_s, vset_0, vset_s, vtk_0, vtk_s, vrc_0, vsw_0, vsw_s, List.all_cons, List.all_nil, zc1_i, zc1_r, Bool.and_true, Bool.and_self, true_and, and_true, List.length_cons, List.length_nil, Nat.zero_le, Nat.reduceLeDiff, Nat.reduceAdd, Nat.reduceLT, tg_483]
      rw [if_neg (by decide)]
      refine c_41 (by omega) (by omega) (by omega) (by omega) ?_
      simp only [v_89_0, v_89_1, v_89_2, v_89_5, v_89_8, v_89_9, v_89_10, v_89_13, v_89_14, v_89_15, v_89_16, v_89_17, v_89_19, h_89_19, v_89_21, v_89_22, v_89_23, v_89_24, v_89_25, v_89_28, v_89_29, v_89_30, v_89_31, v_89_34, v_89_35, v_89_38, v_89_40, v_89_41, v_89_43, v_89_44, v_89_46, h_89_46, v_89_48, v_89_50, v_89_53, v_89_55, v_89_57, v_89_58, v_89_60, v_89_62, v_89_64, v_89_65, v_89_67, v_89_69, v_89_70, v_89_73, v_89_75, v_89_78, v_89_79, v_89_82, v_89_83, v_89_86, v_89_88, v_89_90, v_89_93, v_89_95, v_89_96, v_89_99, v_89_101, v_89_104, v_89_105, v_89_108, v_89_109, v_89_112, v_89_114, v_89_115, v_89_118, v_89_120, v_89_121, v_89_124, v_89_125, v_89_128, v_89_129, h_89_129, v_89_131, v_89_133, v_89_136, v_89_137, v_89_138, v_89_140, v_89_142, v_89_144, v_89_147, v_89_148, v_89_151, v_89_152, v_89_155, v_89_157, v_89_158, v_89_160, v_89_162, v_89_165, v_89_168, v_89_171, v_89_174, v_89_177, v_89_180, vgi_0, vgi_s, vga_0, vga_s, vset_0, vset_s, vtk_0, vtk_s, vrc_0, vsw_0, vsw_s, List.all_cons, List.all_nil, zc1_i, zc1_r, Bool.and_true, Bool.and_self, true_and, and_true, List.length_cons, List.length_nil, Nat.zero_le, Nat.reduceLeDiff, Nat.reduceAdd, Nat.reduceLT, Option.toList_some, List.cons_append, List.nil_append, tg_483, tf_483_21, tg_502, ln_502]
      simp (disch := omega) only [nI_clamp, vinb_n, h502']
      refine ⟨by omega, ?_⟩
      refine c_68q (s := 182) (by omega) hq' hi (by omega) (by omega) hve.2 (fun t2 o2 => ?_)
      have o2 : mG mEb (only s) t' t2 := mG.tX o2
      simp only [v_89_0, v_89_1, v_89_2, v_89_5, v_89_8, v_89_9, v_89_10, v_89_13, v_89_14, v_89_15, v_89_16, v_89_17, v_89_19, h_89_19, v_89_21, v_89_22, v_89_23, v_89_24, v_89_25, v_89_28, v_89_29, v_89_30, v_89_31, v_89_34, v_89_35, v_89_38, v_89_40, v_89_41, v_89_43, v_89_44, v_89_46, h_89_46, v_89_48, v_89_50, v_89_53, v_89_55, v_89_57, v_89_58, v_89_60, v_89_62, v_89_64, v_89_65, v_89_67, v_89_69, v_89_70, v_89_73, v_89_75, v_89_78, v_89_79, v_89_82, v_89_83, v_89_86, v_89_88, v_89_90, v_89_93, v_89_95, v_89_96, v_89_99, v_89_101, v_89_104, v_89_105, v_89_108, v_89_109, v_89_112, v_89_114, v_89_115, v_89_118, v_89_120, v_89_121, v_89_124, v_89_125, v_89_128, v_89_129, h_89_129, v_89_131, v_89_133, v_89_136, v_89_137, v_89_138, v_89_140, v_89_142, v_89_144, v_89_147, v_89_148, v_89_151, v_89_152, v_89_155, v_89_157, v_89_158, v_89_160, v_89_162, v_89_165, v_89_168, v_89_171, v_89_174, v_89_177, v_89_180, vgi_0, vgi_s, vga_0, vga_s, vset_0, vset_s, vtk_0, vtk_s, vrc_0, vsw_0, vsw_s, List.all_cons, List.all_nil, zc1_i, zc1_r, Bool.and_true, Bool.and_self, true_and, and_true, List.length_cons, List.length_nil, Nat.zero_le, Nat.reduceLeDiff, Nat.reduceAdd, Nat.reduceLT, Option.toList_some, List.cons_append, List.nil_append, tg_483]
      have hcr := cel_r hp hvr.1 hvr.2
      refine c_39s (A := mEb) (P := only s) (by omega) hs hcr.2 (tri_b (EV_tri hq.2 hb hn6 i hi _ hve.2)) rfl (fun t3 o3 e3 => ?_)
      have e3 := e3 s
      rw [if_pos rfl] at e3
      have m2 : mS t2 s = mS t' s := by
        have : mG mEb (fun _ => False) t' t2 := mG.tX (by assumption)
        exact this.2.2 s (fun z => z)
      rw [m2] at e3
      simp only [v_89_0, v_89_1, v_89_2, v_89_5, v_89_8, v_89_9, v_89_10, v_89_13, v_89_14, v_89_15, v_89_16, v_89_17, v_89_19, h_89_19, v_89_21, v_89_22, v_89_23, v_89_24, v_89_25, v_89_28, v_89_29, v_89_30, v_89_31, v_89_34, v_89_35, v_89_38, v_89_40, v_89_41, v_89_43, v_89_44, v_89_46, h_89_46, v_89_48, v_89_50, v_89_53, v_89_55, v_89_57, v_89_58, v_89_60, v_89_62, v_89_64, v_89_65, v_89_67, v_89_69, v_89_70, v_89_73, v_89_75, v_89_78, v_89_79, v_89_82, v_89_83, v_89_86, v_89_88, v_89_90, v_89_93, v_89_95, v_89_96, v_89_99, v_89_101, v_89_104, v_89_105, v_89_108, v_89_109, v_89_112, v_89_114, v_89_115, v_89_118, v_89_120, v_89_121, v_89_124, v_89_125, v_89_128, v_89_129, h_89_129, v_89_131, v_89_133, v_89_136, v_89_137, v_89_138, v_89_140, v_89_142, v_89_144, v_89_147, v_89_148, v_89_151, v_89_152, v_89_155, v_89_157, v_89_158, v_89_160, v_89_162, v_89_165, v_89_168, v_89_171, v_89_174, v_89_177, v_89_180, vgi_0, vgi_s, vga_0, vga_s, vset_0, vset_s, vtk_0, vtk_s, vrc_0, vsw_0, vsw_s, List.all_cons, List.all_nil, zc1_i, zc1_r, Bool.and_true, Bool.and_self, true_and, and_true, List.length_cons, List.length_nil, Nat.zero_le, Nat.reduceLeDiff, Nat.reduceAdd, Nat.reduceLT, Option.toList_none, List.nil_append]
      rw [nI_1]
      refine ih (k + 1) t3 _ _ _ (by omega) ((hO.tr o2).tr o3) ?_
      rw [e3]
      exact CHp_set hI hn6 (by omega) hv
    refine vc_ok none zH_89 104 false _ 89 46 _ _ _ _ ?_
    simp only [v_89_0, v_89_1, v_89_2, v_89_5, v_89_8, v_89_9, v_89_10, v_89_13, v_89_14, v_89_15, v_89_16, v_89_17, v_89_19, h_89_19, v_89_21, v_89_22, v_89_23, v_89_24, v_89_25, v_89_28, v_89_29, v_89_30, v_89_31, v_89_34, v_89_35, v_89_38, v_89_40, v_89_41, v_89_43, v_89_44, v_89_46, h_89_46, v_89_48, v_89_50, v_89_53, v_89_55, v_89_57, v_89_58, v_89_60, v_89_62, v_89_64, v_89_65, v_89_67, v_89_69, v_89_70, v_89_73, v_89_75, v_89_78, v_89_79, v_89_82, v_89_83, v_89_86, v_89_88, v_89_90, v_89_93, v_89_95, v_89_96, v_89_99, v_89_101, v_89_104, v_89_105, v_89_108, v_89_109, v_89_112, v_89_114, v_89_115, v_89_118, v_89_120, v_89_121, v_89_124, v_89_125, v_89_128, v_89_129, h_89_129, v_89_131, v_89_133, v_89_136, v_89_137, v_89_138, v_89_140, v_89_142, v_89_144, v_89_147, v_89_148, v_89_151, v_89_152, v_89_155, v_89_157, v_89_158, v_89_160, v_89_162, v_89_165, v_89_168, v_89_171, v_89_174, v_89_177, v_89_180, vgi_0, vgi_s, vga_0, vga_s, vset_0, vset_s, vtk_0, vtk_s, vrc_0, vsw_0, vsw_s, List.all_cons, List.all_nil, zc1_i, zc1_r, Bool.and_true, Bool.and_self, true_and, and_true, List.length_cons, List.length_nil, Nat.zero_le, Nat.reduceLeDiff, Nat.reduceAdd, Nat.reduceLT]
    rw [li36, if_pos (nI_lt (by omega) (by omega)), e2', e1]
    refine ⟨by decide, by decide, ?_⟩
    simp (disch := omega) only [li2, li6, nI_ltI, li0, nI_eq]
    by_cases p2 : p < 2
    · rw [if_pos p2]
      by_cases z : k = 0
      · rw [if_pos z]
        exact yes _ (Or.inl ⟨p2, by omega, by omega⟩)
      · rw [if_neg z]
        exact no _ (by unfold vld; omega)
    · rw [if_neg p2]
      by_cases p6 : p < 6
      · rw [if_pos p6]
        by_cases z : k / 6 < n
        · rw [if_pos z]
          by_cases y : k % 6 = 0
          · rw [if_pos y]
            exact yes _ (Or.inr (Or.inl ⟨by omega, p6, z, y⟩))
          · rw [if_neg y]
            exact no _ (by unfold vld; omega)
        · rw [if_neg z]
          exact no _ (by unfold vld; omega)
      · rw [if_neg p6]
        by_cases z : k / 6 < n
        · rw [if_pos z]
          by_cases y : k % 6 < n
          · rw [if_pos y]
            exact yes _ (Or.inr (Or.inr ⟨by omega, z, y⟩))
          · rw [if_neg y]
            exact no _ (by unfold vld; omega)
        · rw [if_neg z]
          exact no _ (by unfold vld; omega)
theorem l_89a {b : St} (hd : 8 ≤ d) (hs : s < 184) (hs2 : s ≠ 182) (he : e < 8) (hb : wfS b) (hn6 : n ≤ 6) (hq : mvq t q m 182 b n) (hE : ewf q m E) (hm : med t e E) (k1 : ∀ t', mG mEb (only s) t t' → CHS q b n E (E 6) (mS t' s) → F none t') : ∀ (j j0 : Nat) (t' : T) (m5 m6 m7 m8 m9 : Value), j0 + j = E 6 → mG mEb (only s) t t' → CHS q b n E j0 (mS t' s) → twp none d 89 19 [.ref 483, .int (nI s), .int (nI e), .int (nI n), .int (nI (4 * e + j0)), m5, m6, m7, m8, m9] [] t' F := by
  have e6 : E 6 ≤ 4 := hE.2.2.2.2.2.2.2.2.1
  intro j
  induction j with
  | zero =>
    intro j0 t' m5 m6 m7 m8 m9 hj hO hI
    have hj : j0 = E 6 := by omega
    subst hj
    have hm' : med t' e E := hm.k (fun b k h1 h2 => hO.2.1 b (by omega) (fun z => by have := z.1; omega) k)
    have h500 := hm'.2.2.2.2.1
    refine vc_ok none zH_89 104 false _ 89 19 _ _ _ _ ?_
    simp only [v_89_0, v_89_1, v_89_2, v_89_5, v_89_8, v_89_9, v_89_10, v_89_13, v_89_14, v_89_15, v_89_16, v_89_17, v_89_19, h_89_19, v_89_21, v_89_22, v_89_23, v_89_24, v_89_25, v_89_28, v_89_29, v_89_30, v_89_31, v_89_34, v_89_35, v_89_38, v_89_40, v_89_41, v_89_43, v_89_44, v_89_46, h_89_46, v_89_48, v_89_50, v_89_53, v_89_55, v_89_57, v_89_58, v_89_60, v_89_62, v_89_64, v_89_65, v_89_67, v_89_69, v_89_70, v_89_73, v_89_75, v_89_78, v_89_79, v_89_82, v_89_83, v_89_86, v_89_88, v_89_90, v_89_93, v_89_95, v_89_96, v_89_99, v_89_101, v_89_104, v_89_105, v_89_108, v_89_109, v_89_112, v_89_114, v_89_115, v_89_118, v_89_120, v_89_121, v_89_124, v_89_125, v_89_128, v_89_129, h_89_129, v_89_131, v_89_133, v_89_136, v_89_137, v_89_138, v_89_140, v_89_142, v_89_144, v_89_147, v_89_148, v_89_151, v_89_152, v_89_155, v_89_157, v_89_158, v_89_160, v_89_162, v_89_165, v_89_168, v_89_171, v_89_174, v_89_177, v_89_180, vgi_0, vgi_s, vga_0, vga_s, vset_0, vset_s, vtk_0, vtk_s, vrc_0, vsw_0, vsw_s, List.all_cons, List.all_nil, zc1_i, zc1_r, Bool.and_true, Bool.and_self, true_and, and_true, List.length_cons, List.length_nil, Nat.zero_le, Nat.reduceLeDiff, Nat.reduceAdd, Nat.reduceLT, tg_483, tf_483_19, tg_500, ln_500]
    simp (disch := omega) only [nI_clamp, vinb_n, h500, li4, pk_mul, nI_add, nI_ltI, Nat.lt_irrefl, if_false]
    exact ⟨by omega, k1 t' hO hI⟩
  | succ j ih =>
    intro j0 t' m5 m6 m7 m8 m9 hj hO hI
    have hm' : med t' e E := hm.k (fun b k h1 h2 => hO.2.1 b (by omega) (fun z => by have := z.1; omega) k)
    have h500 := hm'.2.2.2.2.1
    obtain ⟨h501, h502⟩ := hm'.2.2.2.2.2 j0 (by omega)
    obtain ⟨a1, a2, a3⟩ := hE.2.2.2.2.2.2.2.2.2 j0 (by omega)
    have hq' : mvq t' q m 182 b n := hq.g hO (by rw [hO.2.2 182 (fun z => hs2 z.symm)]; exact hq.row) hb hq.cnt
    refine vc_ok none zH_89 104 false _ 89 19 _ _ _ _ ?_
    simp only [v_89_0, v_89_1, v_89_2, v_89_5, v_89_8, v_89_9, v_89_10, v_89_13, v_89_14, v_89_15, v_89_16, v_89_17, v_89_19, h_89_19, v_89_21, v_89_22, v_89_23, v_89_24, v_89_25, v_89_28, v_89_29, v_89_30, v_89_31, v_89_34, v_89_35, v_89_38, v_89_40, v_89_41, v_89_43, v_89_44, v_89_46, h_89_46, v_89_48, v_89_50, v_89_53, v_89_55, v_89_57, v_89_58, v_89_60, v_89_62, v_89_64, v_89_65, v_89_67, v_89_69, v_89_70, v_89_73, v_89_75, v_89_78, v_89_79, v_89_82, v_89_83, v_89_86, v_89_88, v_89_90, v_89_93, v_89_95, v_89_96, v_89_99, v_89_101, v_89_104, v_89_105, v_89_108, v_89_109, v_89_112, v_89_114, v_89_115, v_89_118, v_89_120, v_89_121, v_89_124, v_89_125, v_89_128, v_89_129, h_89_129, v_89_131, v_89_133, v_89_136, v_89_137, v_89_138, v_89_140, v_89_142, v_89_144, v_89_147, v_89_148, v_89_151, v_89_152, v_89_155, v_89_157, v_89_158, v_89_160, v_89_162, v_89_165, v_89_168, v_89_171, v_89_174, v_89_177, v_89_180, vgi_0, vgi_s, vga_0, vga_s, vset_0, vset_s, vtk_0, vtk_s, vrc_0, vsw_0, vsw_s, List.all_cons, List.all_nil, zc1_i, zc1_r, Bool.and_true, Bool.and_self, true_and, and_true, List.length_cons, List.length_nil, Nat.zero_le, Nat.reduceLeDiff, Nat.reduceAdd, Nat.reduceLT, tg_483, tf_483_19, tg_500, ln_500, tf_483_20, tg_501, ln_501]
    simp (disch := omega) only [nI_clamp, vinb_n, h500, h501, li4, pk_mul, nI_add, nI_ltI]
    rw [if_pos (by omega)]
    refine ⟨by omega, by omega, ?_⟩
    refine l_89b (t := t') (g := mS t' s) (by omega) hs hs2 he (by omega) hb hn6 hq' a2 a1 a3 h502 (fun t2 k6 k7 k8 k9 o2 hI2 => ?_) 36 0 t' _ _ _ (by omega) mG.rf CHp_0
    exact ih (j0 + 1) t2 _ _ _ _ _ (by omega) (hO.tr o2) ⟨_, hI, hI2⟩
theorem c_89 {b : St} (hd : 9 ≤ d) (hs : s < 184) (hs2 : s ≠ 182) (he : e < 8) (hq : mvq t q m s b n) (hE : ewf q m E) (hm : med t e E) (k1 : ∀ t', mG mEb (spR s) t t' → CHS q b n E (E 6) (mS t' s) → F none t') : twc d 89 [.ref 483, .int (nI s), .int (nI e)] t F := by
  have hb := hq.wf
  have hn6 := hq.n6
  refine ⟨by omega, ?_⟩
  rw [ze_89]
  refine vc_ok none zH_89 104 false _ 89 0 _ _ _ _ ?_
  simp only [v_89_0, v_89_1, v_89_2, v_89_5, v_89_8, v_89_9, v_89_10, v_89_13, v_89_14, v_89_15, v_89_16, v_89_17, v_89_19, h_89_19, v_89_21, v_89_22, v_89_23, v_89_24, v_89_25, v_89_28, v_89_29, v_89_30, v_89_31, v_89_34, v_89_35, v_89_38, v_89_40, v_89_41, v_89_43, v_89_44, v_89_46, h_89_46, v_89_48, v_89_50, v_89_53, v_89_55, v_89_57, v_89_58, v_89_60, v_89_62, v_89_64, v_89_65, v_89_67, v_89_69, v_89_70, v_89_73, v_89_75, v_89_78, v_89_79, v_89_82, v_89_83, v_89_86, v_89_88, v_89_90, v_89_93, v_89_95, v_89_96, v_89_99, v_89_101, v_89_104, v_89_105, v_89_108, v_89_109, v_89_112, v_89_114, v_89_115, v_89_118, v_89_120, v_89_121, v_89_124, v_89_125, v_89_128, v_89_129, h_89_129, v_89_131, v_89_133, v_89_136, v_89_137, v_89_138, v_89_140, v_89_142, v_89_144, v_89_147, v_89_148, v_89_151, v_89_152, v_89_155, v_89_157, v_89_158, v_89_160, v_89_162, v_89_165, v_89_168, v_89_171, v_89_174, v_89_177, v_89_180, vgi_0, vgi_s, vga_0, vga_s, vset_0, vset_s, vtk_0, vtk_s, vrc_0, vsw_0, vsw_s, List.all_cons, List.all_nil, zc1_i, zc1_r, Bool.and_true, Bool.and_self, true_and, and_true, List.length_cons, List.length_nil, Nat.zero_le, Nat.reduceLeDiff, Nat.reduceAdd, Nat.reduceLT, tg_483]
  refine c_44g (r := 182) (A := mEb) (P := spR s) (by omega) hs (by omega) (by rw [hq.row]; exact hb.b) (Or.inr rfl) (fun t1 o1 e1 => ?_)
  have es := e1 s
  have e2 := e1 182
  rw [if_pos rfl, hq.row] at e2
  rw [if_neg hs2, hq.row] at es
  simp only [v_89_0, v_89_1, v_89_2, v_89_5, v_89_8, v_89_9, v_89_10, v_89_13, v_89_14, v_89_15, v_89_16, v_89_17, v_89_19, h_89_19, v_89_21, v_89_22, v_89_23, v_89_24, v_89_25, v_89_28, v_89_29, v_89_30, v_89_31, v_89_34, v_89_35, v_89_38, v_89_40, v_89_41, v_89_43, v_89_44, v_89_46, h_89_46, v_89_48, v_89_50, v_89_53, v_89_55, v_89_57, v_89_58, v_89_60, v_89_62, v_89_64, v_89_65, v_89_67, v_89_69, v_89_70, v_89_73, v_89_75, v_89_78, v_89_79, v_89_82, v_89_83, v_89_86, v_89_88, v_89_90, v_89_93, v_89_95, v_89_96, v_89_99, v_89_101, v_89_104, v_89_105, v_89_108, v_89_109, v_89_112, v_89_114, v_89_115, v_89_118, v_89_120, v_89_121, v_89_124, v_89_125, v_89_128, v_89_129, h_89_129, v_89_131, v_89_133, v_89_136, v_89_137, v_89_138, v_89_140, v_89_142, v_89_144, v_89_147, v_89_148, v_89_151, v_89_152, v_89_155, v_89_157, v_89_158, v_89_160, v_89_162, v_89_165, v_89_168, v_89_171, v_89_174, v_89_177, v_89_180, vgi_0, vgi_s, vga_0, vga_s, vset_0, vset_s, vtk_0, vtk_s, vrc_0, vsw_0, vsw_s, List.all_cons, List.all_nil, zc1_i, zc1_r, Bool.and_true, Bool.and_self, true_and, and_true, List.length_cons, List.length_nil, Nat.zero_le, Nat.reduceLeDiff, Nat.reduceAdd, Nat.reduceLT, Option.toList_none, List.nil_append, tg_483]
  refine c_40 (by omega) hs ?_
  simp only [v_89_0, v_89_1, v_89_2, v_89_5, v_89_8, v_89_9, v_89_10, v_89_13, v_89_14, v_89_15, v_89_16, v_89_17, v_89_19, h_89_19, v_89_21, v_89_22, v_89_23, v_89_24, v_89_25, v_89_28, v_89_29, v_89_30, v_89_31, v_89_34, v_89_35, v_89_38, v_89_40, v_89_41, v_89_43, v_89_44, v_89_46, h_89_46, v_89_48, v_89_50, v_89_53, v_89_55, v_89_57, v_89_58, v_89_60, v_89_62, v_89_64, v_89_65, v_89_67, v_89_69, v_89_70, v_89_73, v_89_75, v_89_78, v_89_79, v_89_82, v_89_83, v_89_86, v_89_88, v_89_90, v_89_93, v_89_95, v_89_96, v_89_99, v_89_101, v_89_104, v_89_105, v_89_108, v_89_109, v_89_112, v_89_114, v_89_115, v_89_118, v_89_120, v_89_121, v_89_124, v_89_125, v_89_128, v_89_129, h_89_129, v_89_131, v_89_133, v_89_136, v_89_137, v_89_138, v_89_140, v_89_142, v_89_144, v_89_147, v_89_148, v_89_151, v_89_152, v_89_155, v_89_157, v_89_158, v_89_160, v_89_162, v_89_165, v_89_168, v_89_171, v_89_174, v_89_177, v_89_180, vgi_0, vgi_s, vga_0, vga_s, vset_0, vset_s, vtk_0, vtk_s, vrc_0, vsw_0, vsw_s, List.all_cons, List.all_nil, zc1_i, zc1_r, Bool.and_true, Bool.and_self, true_and, and_true, List.length_cons, List.length_nil, Nat.zero_le, Nat.reduceLeDiff, Nat.reduceAdd, Nat.reduceLT, Option.toList_some, List.cons_append, List.nil_append]
  rw [es, hq.cnt]
  simp (disch := omega) only [li4, pk_mul]
  have hq1 : mvq t1 q m 182 b n := by
    obtain ⟨⟨q', ⟨a1, a2, a3, a4, a5, a6, a7, a8⟩, x⟩, y⟩ := hq
    refine ⟨⟨q', ⟨a1, a2, fun i k hi hk => ?_, by omega, e2, a6, a7, a8⟩, x⟩, y⟩
    rw [o1.2.1 (485 + k) (by omega) (fun z => by have := z.1; omega)]
    exact a3 i k hi hk
  exact l_89a (by omega) hs hs2 he hb hn6 hq1 hE (hm.k (fun b k h1 h2 => o1.2.1 b (by omega) (fun z => by have := z.1; omega) k)) (fun t' o h => k1 t' (o1.tr (o.mono (fun b h => h) (fun x h => Or.inl h))) h) (E 6) 0 t1 _ _ _ _ _ (by omega) mG.rf es
end MM
