/-! The program alters a structure. -/
section CA
variable {d a : Nat} {t : T} {F : Option Value → T → Prop} {q : FT} {m n rc e : Nat} {ru : Nat → Nat → Nat} {E : Nat → Nat}
def ced (t : T) (e : Nat) (E : Nat → Nat) : Prop := t.1 (251 + 3 * e) 0 = nI (E 0) ∧ t.1 (251 + 3 * e) 1 = nI (E 1) ∧ t.1 (251 + 3 * e) 2 = nI (E 2) ∧ t.1 (251 + 3 * e) 3 = nI (E 3) ∧ t.1 (251 + 3 * e) 4 = nI (E 4) ∧ t.1 (251 + 3 * e) 5 = nI (E 5) ∧ t.1 (251 + 3 * e) 6 = nI (E 6) ∧ ∀ j, j < E 6 → t.1 (252 + 3 * e) j = nI (E (7 + j)) ∧ t.1 (253 + 3 * e) j = nI (E (11 + j))
theorem ced.k {t' : T} (h : ced t e E) (he : e < 8) (h2 : ∀ b k, 251 ≤ b → b < 275 → t'.1 b k = t.1 b k) : ced t' e E := by
  obtain ⟨h0, h1, h3, h4, h5, h6, h7, h8⟩ := h
  refine ⟨by rw [h2 _ _ (by omega) (by omega)]; exact h0, by rw [h2 _ _ (by omega) (by omega)]; exact h1, by rw [h2 _ _ (by omega) (by omega)]; exact h3, by rw [h2 _ _ (by omega) (by omega)]; exact h4, by rw [h2 _ _ (by omega) (by omega)]; exact h5, by rw [h2 _ _ (by omega) (by omega)]; exact h6, by rw [h2 _ _ (by omega) (by omega)]; exact h7, fun j hj => ?_⟩
  rw [h2 _ _ (by omega) (by omega), h2 _ _ (by omega) (by omega)]
  exact h8 j hj
theorem cft.k {t' : T} (h : cft t q m) (h2 : ∀ b k, 4 ≤ b → b < 44 → t'.1 b k = t.1 b k) : cft t' q m := by
  obtain ⟨h1, h3, h4, h5⟩ := h
  refine ⟨h1, h3, h4, fun i k hi hk => ?_⟩
  rw [h2 _ _ (by omega) (by omega)]; exact h5 i k hi hk
theorem crl.k {t' : T} (h : crl t ru rc) (hr : rc ≤ 6) (h2 : ∀ b k, 49 ≤ b → b < 57 → t'.1 b k = t.1 b k) : crl t' ru rc := by
  refine ⟨by rw [h2 _ _ (by omega) (by omega)]; exact h.1, fun r hr => ?_⟩
  rw [h2 _ _ (by omega) (by omega), h2 _ _ (by omega) (by omega), h2 _ _ (by omega) (by omega)]
  exact h.2 r hr
def alF (a : Nat) : Nat → Prop := fun b => (44 ≤ b ∧ b ≤ 46) ∨ b = a ∨ b = a + 1 ∨ b = 59 ∨ b = 60
def CHq (q : FT) (b : St) (n p i u w : Nat) (g g' : St) : Prop := (∀ u' w', vld p n u' w' → bd u w u' w' → g' (cel p u' w' + 1) = EV q b n i (e2 u' w')) ∧ ∀ x, (∀ u' w', vld p n u' w' → bd u w u' w' → x ≠ cel p u' w' + 1) → g' x = g x
theorem CHq_0 {b g : St} {p i : Nat} : CHq q b n p i 0 0 g g := ⟨fun u w _ h => by unfold bd at h; omega, fun x _ => rfl⟩
theorem CHq_set {b g g' : St} {p i u w : Nat} (h : CHq q b n p i u w g g') (hn : n ≤ 6) (hv : vld p n u w) : CHq q b n p i u (w + 1) g (su g' (cel p u w + 1) (EV q b n i (e2 u w))) := by
  refine ⟨fun u' w' hv' hl => ?_, fun x hx => ?_⟩
  · unfold su
    by_cases z : cel p u' w' + 1 = cel p u w + 1
    · obtain ⟨rfl, rfl⟩ := cel_inj hn hv' hv (by omega)
      rw [if_pos rfl]
    · rw [if_neg z]
      refine h.1 u' w' hv' ?_
      unfold bd at hl ⊢
      have : ¬ (u' = u ∧ w' = w) := fun y => z (by rw [y.1, y.2])
      omega
  · unfold su
    rw [if_neg (hx u w hv (by unfold bd; omega))]
    exact h.2 x (fun u' w' hv' hl => hx u' w' hv' (by unfold bd at hl ⊢; omega))
def fsn (p n : Nat) : Nat := if p < 2 then 1 else n
def scn (p n : Nat) : Nat := if p < 6 then 1 else n
theorem vld_iff {p u w : Nat} : vld p n u w ↔ u < fsn p n ∧ w < scn p n := by
  unfold vld fsn scn
  by_cases p2 : p < 2
  · rw [if_pos p2, if_pos (by omega)]; omega
  · rw [if_neg p2]
    by_cases p6 : p < 6
    · rw [if_pos p6]; omega
    · rw [if_neg p6]; omega
theorem CHq_next {b g g' : St} {p i u : Nat} (h : CHq q b n p i u (scn p n) g g') : CHq q b n p i (u + 1) 0 g g' := by
  have key : ∀ u' w', vld p n u' w' → (bd (u + 1) 0 u' w' ↔ bd u (scn p n) u' w') := fun u' w' hv => by
    have := vld_iff.mp hv
    unfold bd
    omega
  exact ⟨fun u' w' hv hl => h.1 u' w' hv ((key u' w' hv).mp hl), fun x hx => h.2 x (fun u' w' hv hl => hx u' w' hv ((key u' w' hv).mpr hl))⟩
theorem CHq_end {b g g' : St} {p i : Nat} (h : CHq q b n p i (fsn p n) 0 g g') : CH1 q b n p i g g' := by
  refine ⟨fun u w hv => h.1 u w hv ?_, fun x hx => h.2 x (fun u w hv _ => hx u w hv)⟩
  have := vld_iff.mp hv
  unfold bd; omega
/-- what the changes need of the memory -/
def alP (t : T) (q : FT) (m e : Nat) (E : Nat → Nat) (f : St) : Prop := cft t q m ∧ ced t e E ∧ cS t 59 = f
theorem alP.s {t' : T} {f : St} (h : alP t q m e E f) (he : e < 8) (ha : vtag a = 4) (ha2 : a ≠ 59) (ha3 : a + 1 < 251 ∨ 275 ≤ a) (hO : tF (fun b => (44 ≤ b ∧ b ≤ 46) ∨ b = a ∨ b = a + 1) t t') : alP t' q m e E f := by
  have hg := st_ge ha
  have n59 := st_ne ha tg_59
  have n59' := st_ne tg_59 ha
  refine ⟨h.1.k (fun b k h1 h2 => (hO b (by omega)).1 k), h.2.1.k he (fun b k h1 h2 => (hO b (by omega)).1 k), ?_⟩
  rw [hO.st (by omega) (by omega)]; exact h.2.2
theorem l_152c {f g : St} {p i u j0 : Nat} {iv : Value} (hd : 40 ≤ d) (he : e < 8) (hj : j0 < 4) (hf : wfS f) (hfn : f 0 = nI n) (hn6 : n ≤ 6) (ha : vtag a = 4) (ha2 : a ≠ 59) (ha3 : a + 1 < 251 ∨ 275 ≤ a) (hA : alP t q m e E f) (hp : p < 8) (hi : i < m) (h3 : fr q i ≤ (if p < 2 then 0 else if p < 6 then 1 else 3)) (hcf : t.1 (253 + 3 * e) j0 = nI i) (hu : u < fsn p n) (kn : ∀ (t' : T) (m8 : Value), tF (alF a) t t' → alP t' q m e E f → CHq q f n p i (u + 1) 0 g (cS t' a) → t'.1 (253 + 3 * e) j0 = nI i → twp none d 152 79 [.ref 58, .ref (251 + 3 * e), .ref a, .int (nI j0), .int (nI p), .int (nI (fsn p n)), .int (nI (scn p n)), .int (nI (u + 1)), m8] [] t' F) : ∀ (j w : Nat) (t' : T), w + j = scn p n → tF (alF a) t t' → alP t' q m e E f → CHq q f n p i u w g (cS t' a) → t'.1 (253 + 3 * e) j0 = nI i → twp none d 152 89 [.ref 58, .ref (251 + 3 * e), .ref a, .int (nI j0), .int (nI p), .int (nI (fsn p n)), .int (nI (scn p n)), .int (nI u), .int (nI w)] [] t' F := by
  obtain ⟨et, e2t, e2l, e3t, e3l, em7, er7, em8, er8⟩ := ed_dec e he
  have hg := st_ge ha
  have sc6 : scn p n ≤ 6 := by
    unfold scn
    by_cases p6 : p < 6
    · rw [if_pos p6]; omega
    · rw [if_neg p6]; omega
  intro j
  induction j with
  | zero =>
    intro w t' hw hO hP hI hc
    have hw : w = scn p n := by omega
    subst hw
    refine vc_ok none zH_152 81 false _ 152 89 _ _ _ _ ?_
    simp only [v_152_0, v_152_1, v_152_4, v_152_7, v_152_8, v_152_11, v_152_12, v_152_15, v_152_16, v_152_19, v_152_20, v_152_21, h_152_21, v_152_22, v_152_23, v_152_26, v_152_29, v_152_30, v_152_33, v_152_34, v_152_35, v_152_37, v_152_39, v_152_40, v_152_43, v_152_44, v_152_47, v_152_48, v_152_51, v_152_54, v_152_56, v_152_58, v_152_60, v_152_63, v_152_64, v_152_67, v_152_68, v_152_71, v_152_74, v_152_76, v_152_77, v_152_79, h_152_79, v_152_81, v_152_83, v_152_86, v_152_87, v_152_89, h_152_89, v_152_91, v_152_93, v_152_96, v_152_97, v_152_99, v_152_101, v_152_103, v_152_104, v_152_107, v_152_108, v_152_111, v_152_112, v_152_115, v_152_116, v_152_117, v_152_119, v_152_121, v_152_124, v_152_127, v_152_130, v_152_133, v_152_136, v_152_139, v_152_142, v_152_145, vgi_0, vgi_s, vga_0, vga_s, vset_0, vset_s, vtk_0, vtk_s, vrc_0, vsw_0, vsw_s, List.all_cons, List.all_nil, zc1_i, zc1_r, Bool.and_true, Bool.and_self, true_and, and_true, List.length_cons, List.length_nil, Nat.zero_le, Nat.reduceLeDiff, Nat.reduceAdd, Nat.reduceLT]
    simp (disch := omega) only [nI_ltI, Nat.lt_irrefl, if_false]
    rw [nI_1]
    exact kn t' _ hO hP (CHq_next hI) hc
  | succ j ih =>
    intro w t' hw hO hP hI hc
    have hv : vld p n u w := vld_iff.mpr ⟨hu, by omega⟩
    have hve := vld_e h3 hv
    have hvr := vld_r hn6 hv
    have r8 : tref t' (251 + 3 * e) 8 = 253 + 3 * e := by unfold tref; rw [em8]; exact er8
    refine vc_ok none zH_152 81 false _ 152 89 _ _ _ _ ?_
    simp only [v_152_0, v_152_1, v_152_4, v_152_7, v_152_8, v_152_11, v_152_12, v_152_15, v_152_16, v_152_19, v_152_20, v_152_21, h_152_21, v_152_22, v_152_23, v_152_26, v_152_29, v_152_30, v_152_33, v_152_34, v_152_35, v_152_37, v_152_39, v_152_40, v_152_43, v_152_44, v_152_47, v_152_48, v_152_51, v_152_54, v_152_56, v_152_58, v_152_60, v_152_63, v_152_64, v_152_67, v_152_68, v_152_71, v_152_74, v_152_76, v_152_77, v_152_79, h_152_79, v_152_81, v_152_83, v_152_86, v_152_87, v_152_89, h_152_89, v_152_91, v_152_93, v_152_96, v_152_97, v_152_99, v_152_101, v_152_103, v_152_104, v_152_107, v_152_108, v_152_111, v_152_112, v_152_115, v_152_116, v_152_117, v_152_119, v_152_121, v_152_124, v_152_127, v_152_130, v_152_133, v_152_136, v_152_139, v_152_142, v_152_145, vgi_0, vgi_s, vga_0, vga_s, vset_0, vset_s, vtk_0, vtk_s, vrc_0, vsw_0, vsw_s, List.all_cons, List.all_nil, zc1_i, zc1_r, Bool.and_true, Bool.and_self, true_and, and_true, List.length_cons, List.length_nil, Nat.zero_le, Nat.reduceLeDiff, Nat.reduceAdd, Nat.reduceLT, ha, tg_58, tf_58_0, tf_58_2, et, r8, e3t, e3l, tg_44]
    simp (disch := omega) only [nI_ltI, nI_clamp, vinb_n, hc]
    rw [if_pos (by omega)]
    refine ⟨by omega, ?_⟩
    refine c_122w (a := 59) (by omega) hP.1 tg_59 hP.2.2 hf hfn hn6 hi hve.1 hve.2 (fun t2 o2 c2 => ?_)
    have oa : tF (alF a) t' t2 := o2.mono (fun b hb => by unfold shF at hb; unfold alF; omega)
    have P2 : alP t2 q m e E f := ⟨hP.1.k (fun b k h1 h2 => (o2 b (by unfold shF; omega)).1 k), hP.2.1.k he (fun b k h1 h2 => (o2 b (by unfold shF; omega)).1 k), c2⟩
    have n59 := st_ne ha tg_59
    have n59' := st_ne tg_59 ha
    have ca : cS t2 a = cS t' a := o2.st (by unfold shF; omega) (by unfold shF; omega)
    simp only [v_152_0, v_152_1, v_152_4, v_152_7, v_152_8, v_152_11, v_152_12, v_152_15, v_152_16, v_152_19, v_152_20, v_152_21, h_152_21, v_152_22, v_152_23, v_152_26, v_152_29, v_152_30, v_152_33, v_152_34, v_152_35, v_152_37, v_152_39, v_152_40, v_152_43, v_152_44, v_152_47, v_152_48, v_152_51, v_152_54, v_152_56, v_152_58, v_152_60, v_152_63, v_152_64, v_152_67, v_152_68, v_152_71, v_152_74, v_152_76, v_152_77, v_152_79, h_152_79, v_152_81, v_152_83, v_152_86, v_152_87, v_152_89, h_152_89, v_152_91, v_152_93, v_152_96, v_152_97, v_152_99, v_152_101, v_152_103, v_152_104, v_152_107, v_152_108, v_152_111, v_152_112, v_152_115, v_152_116, v_152_117, v_152_119, v_152_121, v_152_124, v_152_127, v_152_130, v_152_133, v_152_136, v_152_139, v_152_142, v_152_145, vgi_0, vgi_s, vga_0, vga_s, vset_0, vset_s, vtk_0, vtk_s, vrc_0, vsw_0, vsw_s, List.all_cons, List.all_nil, zc1_i, zc1_r, Bool.and_true, Bool.and_self, true_and, and_true, List.length_cons, List.length_nil, Nat.zero_le, Nat.reduceLeDiff, Nat.reduceAdd, Nat.reduceLT, Option.toList_some, List.cons_append, List.nil_append, ha]
    refine c_163s (by omega) ha hp hvr.1 hvr.2 (fun t3 o3 e3 => ?_)
    have o3' : tF (fun b => (44 ≤ b ∧ b ≤ 46) ∨ b = a ∨ b = a + 1) t2 t3 := tF.of o3 (fun b hb => by simp at hb; omega)
    simp only [v_152_0, v_152_1, v_152_4, v_152_7, v_152_8, v_152_11, v_152_12, v_152_15, v_152_16, v_152_19, v_152_20, v_152_21, h_152_21, v_152_22, v_152_23, v_152_26, v_152_29, v_152_30, v_152_33, v_152_34, v_152_35, v_152_37, v_152_39, v_152_40, v_152_43, v_152_44, v_152_47, v_152_48, v_152_51, v_152_54, v_152_56, v_152_58, v_152_60, v_152_63, v_152_64, v_152_67, v_152_68, v_152_71, v_152_74, v_152_76, v_152_77, v_152_79, h_152_79, v_152_81, v_152_83, v_152_86, v_152_87, v_152_89, h_152_89, v_152_91, v_152_93, v_152_96, v_152_97, v_152_99, v_152_101, v_152_103, v_152_104, v_152_107, v_152_108, v_152_111, v_152_112, v_152_115, v_152_116, v_152_117, v_152_119, v_152_121, v_152_124, v_152_127, v_152_130, v_152_133, v_152_136, v_152_139, v_152_142, v_152_145, vgi_0, vgi_s, vga_0, vga_s, vset_0, vset_s, vtk_0, vtk_s, vrc_0, vsw_0, vsw_s, List.all_cons, List.all_nil, zc1_i, zc1_r, Bool.and_true, Bool.and_self, true_and, and_true, List.length_cons, List.length_nil, Nat.zero_le, Nat.reduceLeDiff, Nat.reduceAdd, Nat.reduceLT, Option.toList_none, List.nil_append]
    rw [nI_1]
    refine ih (w + 1) t3 (by omega) ((hO.tr oa).tr (o3'.mono (fun b hb => by unfold alF; omega))) (P2.s he ha ha2 ha3 o3') ?_ ?_
    · rw [e3, ca]; exact CHq_set hI hn6 hv
    · rw [(o3' (253 + 3 * e) (by omega)).1, (o2 (253 + 3 * e) (by unfold shF; omega)).1]; exact hc
theorem l_152b {f g : St} {p i j0 : Nat} (hd : 40 ≤ d) (he : e < 8) (hj : j0 < 4) (hf : wfS f) (hfn : f 0 = nI n) (hn6 : n ≤ 6) (ha : vtag a = 4) (ha2 : a ≠ 59) (ha3 : a + 1 < 251 ∨ 275 ≤ a) (hp : p < 8) (hi : i < m) (h3 : fr q i ≤ (if p < 2 then 0 else if p < 6 then 1 else 3)) (kn : ∀ (t' : T) (m4 m5 m6 m7 m8 : Value), tF (alF a) t t' → alP t' q m e E f → CH1 q f n p i g (cS t' a) → twp none d 152 21 [.ref 58, .ref (251 + 3 * e), .ref a, .int (nI (j0 + 1)), m4, m5, m6, m7, m8] [] t' F) : ∀ (j u : Nat) (t' : T) (m8 : Value), u + j = fsn p n → tF (alF a) t t' → alP t' q m e E f → CHq q f n p i u 0 g (cS t' a) → t'.1 (253 + 3 * e) j0 = nI i → twp none d 152 79 [.ref 58, .ref (251 + 3 * e), .ref a, .int (nI j0), .int (nI p), .int (nI (fsn p n)), .int (nI (scn p n)), .int (nI u), m8] [] t' F := by
  have fs6 : fsn p n ≤ 6 := by
    unfold fsn
    by_cases p6 : p < 2
    · rw [if_pos p6]; omega
    · rw [if_neg p6]; omega
  intro j
  induction j with
  | zero =>
    intro u t' m8 hu hO hP hI hc
    have hu : u = fsn p n := by omega
    subst hu
    refine vc_ok none zH_152 81 false _ 152 79 _ _ _ _ ?_
    simp only [v_152_0, v_152_1, v_152_4, v_152_7, v_152_8, v_152_11, v_152_12, v_152_15, v_152_16, v_152_19, v_152_20, v_152_21, h_152_21, v_152_22, v_152_23, v_152_26, v_152_29, v_152_30, v_152_33, v_152_34, v_152_35, v_152_37, v_152_39, v_152_40, v_152_43, v_152_44, v_152_47, v_152_48, v_152_51, v_152_54, v_152_56, v_152_58, v_152_60, v_152_63, v_152_64, v_152_67, v_152_68, v_152_71, v_152_74, v_152_76, v_152_77, v_152_79, h_152_79, v_152_81, v_152_83, v_152_86, v_152_87, v_152_89, h_152_89, v_152_91, v_152_93, v_152_96, v_152_97, v_152_99, v_152_101, v_152_103, v_152_104, v_152_107, v_152_108, v_152_111, v_152_112, v_152_115, v_152_116, v_152_117, v_152_119, v_152_121, v_152_124, v_152_127, v_152_130, v_152_133, v_152_136, v_152_139, v_152_142, v_152_145, vgi_0, vgi_s, vga_0, vga_s, vset_0, vset_s, vtk_0, vtk_s, vrc_0, vsw_0, vsw_s, List.all_cons, List.all_nil, zc1_i, zc1_r, Bool.and_true, Bool.and_self, true_and, and_true, List.length_cons, List.length_nil, Nat.zero_le, Nat.reduceLeDiff, Nat.reduceAdd, Nat.reduceLT]
    simp (disch := omega) only [nI_ltI, Nat.lt_irrefl, if_false]
    rw [nI_1]
    exact kn t' _ _ _ _ _ hO hP (CHq_end hI)
  | succ j ih =>
    intro u t' m8 hu hO hP hI hc
    refine vc_ok none zH_152 81 false _ 152 79 _ _ _ _ ?_
    simp only [v_152_0, v_152_1, v_152_4, v_152_7, v_152_8, v_152_11, v_152_12, v_152_15, v_152_16, v_152_19, v_152_20, v_152_21, h_152_21, v_152_22, v_152_23, v_152_26, v_152_29, v_152_30, v_152_33, v_152_34, v_152_35, v_152_37, v_152_39, v_152_40, v_152_43, v_152_44, v_152_47, v_152_48, v_152_51, v_152_54, v_152_56, v_152_58, v_152_60, v_152_63, v_152_64, v_152_67, v_152_68, v_152_71, v_152_74, v_152_76, v_152_77, v_152_79, h_152_79, v_152_81, v_152_83, v_152_86, v_152_87, v_152_89, h_152_89, v_152_91, v_152_93, v_152_96, v_152_97, v_152_99, v_152_101, v_152_103, v_152_104, v_152_107, v_152_108, v_152_111, v_152_112, v_152_115, v_152_116, v_152_117, v_152_119, v_152_121, v_152_124, v_152_127, v_152_130, v_152_133, v_152_136, v_152_139, v_152_142, v_152_145, vgi_0, vgi_s, vga_0, vga_s, vset_0, vset_s, vtk_0, vtk_s, vrc_0, vsw_0, vsw_s, List.all_cons, List.all_nil, zc1_i, zc1_r, Bool.and_true, Bool.and_self, true_and, and_true, List.length_cons, List.length_nil, Nat.zero_le, Nat.reduceLeDiff, Nat.reduceAdd, Nat.reduceLT]
    simp (disch := omega) only [nI_ltI]
    rw [if_pos (by omega)]
    exact l_152c (t := t') hd he hj hf hfn hn6 ha ha2 ha3 hP hp hi h3 hc (by omega) (iv := m8) (fun t2 k8 o2 P2 I2 c2 => ih (u + 1) t2 k8 (by omega) (hO.tr o2) P2 I2 c2) (scn p n) 0 t' (by omega) tF.rf hP hI hc
theorem l_152a {f : St} (hd : 40 ≤ d) (he : e < 8) (hE : ewf q m E) (hf : wfS f) (hfn : f 0 = nI n) (hn6 : n ≤ 6) (ha : vtag a = 4) (ha2 : a ≠ 59) (ha3 : a + 1 < 251 ∨ 275 ≤ a) (k1 : ∀ t', tF (alF a) t t' → alP t' q m e E f → CHS q f n E (E 6) (cS t' a) → F none t') : ∀ (j j0 : Nat) (t' : T) (m4 m5 m6 m7 m8 : Value), j0 + j = E 6 → tF (alF a) t t' → alP t' q m e E f → CHS q f n E j0 (cS t' a) → twp none d 152 21 [.ref 58, .ref (251 + 3 * e), .ref a, .int (nI j0), m4, m5, m6, m7, m8] [] t' F := by
  obtain ⟨et, e2t, e2l, e3t, e3l, em7, er7, em8, er8⟩ := ed_dec e he
  have e6 : E 6 ≤ 4 := hE.2.2.2.2.2.2.2.2.1
  intro j
  induction j with
  | zero =>
    intro j0 t' m4 m5 m6 m7 m8 hj hO hP hI
    have hj : j0 = E 6 := by omega
    subst hj
    have h6 := hP.2.1.2.2.2.2.2.2.1
    refine vc_ok none zH_152 81 false _ 152 21 _ _ _ _ ?_
    simp only [v_152_0, v_152_1, v_152_4, v_152_7, v_152_8, v_152_11, v_152_12, v_152_15, v_152_16, v_152_19, v_152_20, v_152_21, h_152_21, v_152_22, v_152_23, v_152_26, v_152_29, v_152_30, v_152_33, v_152_34, v_152_35, v_152_37, v_152_39, v_152_40, v_152_43, v_152_44, v_152_47, v_152_48, v_152_51, v_152_54, v_152_56, v_152_58, v_152_60, v_152_63, v_152_64, v_152_67, v_152_68, v_152_71, v_152_74, v_152_76, v_152_77, v_152_79, h_152_79, v_152_81, v_152_83, v_152_86, v_152_87, v_152_89, h_152_89, v_152_91, v_152_93, v_152_96, v_152_97, v_152_99, v_152_101, v_152_103, v_152_104, v_152_107, v_152_108, v_152_111, v_152_112, v_152_115, v_152_116, v_152_117, v_152_119, v_152_121, v_152_124, v_152_127, v_152_130, v_152_133, v_152_136, v_152_139, v_152_142, v_152_145, vgi_0, vgi_s, vga_0, vga_s, vset_0, vset_s, vtk_0, vtk_s, vrc_0, vsw_0, vsw_s, List.all_cons, List.all_nil, zc1_i, zc1_r, Bool.and_true, Bool.and_self, true_and, and_true, List.length_cons, List.length_nil, Nat.zero_le, Nat.reduceLeDiff, Nat.reduceAdd, Nat.reduceLT, et, h6]
    simp (disch := omega) only [nI_ltI, Nat.lt_irrefl, if_false]
    exact k1 t' hO hP hI
  | succ j ih =>
    intro j0 t' m4 m5 m6 m7 m8 hj hO hP hI
    have h6 := hP.2.1.2.2.2.2.2.2.1
    obtain ⟨hcp, hcf⟩ := hP.2.1.2.2.2.2.2.2.2 j0 (by omega)
    obtain ⟨a1, a2, a3⟩ := hE.2.2.2.2.2.2.2.2.2 j0 (by omega)
    have r7 : tref t' (251 + 3 * e) 7 = 252 + 3 * e := by unfold tref; rw [em7]; exact er7
    have h59 : t'.1 59 0 = nI n := by rw [← cS_i, hP.2.2]; exact hfn
    have go : ∀ fv sv : Int32, fv = nI (fsn (E (7 + j0)) n) → sv = nI (scn (E (7 + j0)) n) → twp none d 152 79 [.ref 58, .ref (251 + 3 * e), .ref a, .int (nI j0), .int (nI (E (7 + j0))), .int fv, .int sv, .int (nI 0), m8] [] t' F := by
      rintro fv sv rfl rfl
      exact l_152b (t := t') (g := cS t' a) hd he (by omega) hf hfn hn6 ha ha2 ha3 a1 a2 a3 (fun t2 k4 k5 k6 k7 k8 o2 P2 I2 => ih (j0 + 1) t2 k4 k5 k6 k7 k8 (by omega) (hO.tr o2) P2 ⟨_, hI, I2⟩) (fsn (E (7 + j0)) n) 0 t' m8 (by omega) tF.rf hP CHq_0 hcf
    refine vc_ok none zH_152 81 false _ 152 21 _ _ _ _ ?_
    simp only [v_152_0, v_152_1, v_152_4, v_152_7, v_152_8, v_152_11, v_152_12, v_152_15, v_152_16, v_152_19, v_152_20, v_152_21, h_152_21, v_152_22, v_152_23, v_152_26, v_152_29, v_152_30, v_152_33, v_152_34, v_152_35, v_152_37, v_152_39, v_152_40, v_152_43, v_152_44, v_152_47, v_152_48, v_152_51, v_152_54, v_152_56, v_152_58, v_152_60, v_152_63, v_152_64, v_152_67, v_152_68, v_152_71, v_152_74, v_152_76, v_152_77, v_152_79, h_152_79, v_152_81, v_152_83, v_152_86, v_152_87, v_152_89, h_152_89, v_152_91, v_152_93, v_152_96, v_152_97, v_152_99, v_152_101, v_152_103, v_152_104, v_152_107, v_152_108, v_152_111, v_152_112, v_152_115, v_152_116, v_152_117, v_152_119, v_152_121, v_152_124, v_152_127, v_152_130, v_152_133, v_152_136, v_152_139, v_152_142, v_152_145, vgi_0, vgi_s, vga_0, vga_s, vset_0, vset_s, vtk_0, vtk_s, vrc_0, vsw_0, vsw_s, List.all_cons, List.all_nil, zc1_i, zc1_r, Bool.and_true, Bool.and_self, true_and, and_true, List.length_cons, List.length_nil, Nat.zero_le, Nat.reduceLeDiff, Nat.reduceAdd, Nat.reduceLT, et, h6, r7, e2t, e2l, tg_58, tf_58_2, tg_59, h59]
    simp (disch := omega) only [nI_ltI, nI_clamp, vinb_n, hcp]
    rw [if_pos (by omega)]
    refine ⟨by omega, ?_⟩
    simp (disch := omega) only [li2, li6, nI_ltI]
    by_cases p2 : E (7 + j0) < 2
    · rw [if_pos p2, if_pos (by omega)]
      exact go _ _ (by unfold fsn; rw [if_pos p2]; rfl) (by unfold scn; rw [if_pos (by omega)]; rfl)
    · rw [if_neg p2]
      by_cases p6 : E (7 + j0) < 6
      · rw [if_pos p6]
        exact go _ _ (by unfold fsn; rw [if_neg p2]) (by unfold scn; rw [if_pos p6]; rfl)
      · rw [if_neg p6]
        exact go _ _ (by unfold fsn; rw [if_neg p2]) (by unfold scn; rw [if_neg p6])
theorem c_152 {f : St} (hd : 41 ≤ d) (he : e < 8) (hE : ewf q m E) (hc : cft t q m) (hm : ced t e E) (ha : vtag a = 4) (ha2 : a ≠ 59) (ha3 : a + 1 < 251 ∨ 275 ≤ a) (hf : cS t a = f) (hwf : wfS f) (hfn : f 0 = nI n) (hn6 : n ≤ 6) (hno : ¬ (E 4 = 1 ∧ n = 6)) (k1 : ∀ t', tF (alF a) t t' → CHS q (crx E f n) (nx E n) E (E 6) (cS t' a) → F none t') : twc d 152 [.ref 58, .ref (251 + 3 * e), .ref a] t F := by
  obtain ⟨et, -⟩ := ed_dec e he
  have e4 : E 4 < 2 := hE.2.2.2.2.2.1
  have hg := st_ge ha
  have n59 := st_ne ha tg_59
  have n59' := st_ne tg_59 ha
  have h4 := hm.2.2.2.2.1
  have cw := crx_wf hwf hfn hn6 hno
  have fin : ∀ t1, tF (fun b => (44 ≤ b ∧ b ≤ 46) ∨ b = a ∨ b = a + 1) t t1 → cS t1 a = crx E f n → twc (d - 1) 168 [.ref 59, .ref a] t1 (fun r t2 => r = none ∧ ∀ m3 m4 m5 m6 m7 m8 : Value, twp none (d - 1) 152 21 [.ref 58, .ref (251 + 3 * e), .ref a, .int (nI 0), m4, m5, m6, m7, m8] [] t2 F) := by
    intro t1 o1 c1
    refine c_168 (by omega) tg_59 ha (fun t2 o2 c2 => ⟨rfl, fun m3 m4 m5 m6 m7 m8 => ?_⟩)
    have o2' : tF (alF a) t1 t2 := tF.of o2 (fun b hb => by simp at hb; unfold alF; omega)
    have o1' : tF (alF a) t t1 := o1.mono (fun b hb => by unfold alF; omega)
    have P2 : alP t2 q m e E (crx E f n) := ⟨hc.k (fun b k h1 h2 => by rw [(o2' b (by unfold alF; omega)).1, (o1 b (by omega)).1]), hm.k he (fun b k h1 h2 => by rw [(o2' b (by unfold alF; omega)).1, (o1 b (by omega)).1]), c2.trans c1⟩
    have ca : cS t2 a = crx E f n := by rw [o2.str (by simp; omega) (by simp; omega)]; exact c1
    exact l_152a (t := t) (by omega) he hE cw.1 cw.2.1 cw.2.2 ha ha2 ha3 (fun t3 o3 _ h3 => k1 t3 o3 h3) (E 6) 0 t2 _ _ _ _ _ (by omega) (o1'.tr o2') P2 ca
  refine ⟨by omega, ?_⟩
  rw [ze_152]
  refine vc_ok none zH_152 81 false _ 152 0 _ _ _ _ ?_
  simp only [v_152_0, v_152_1, v_152_4, v_152_7, v_152_8, v_152_11, v_152_12, v_152_15, v_152_16, v_152_19, v_152_20, v_152_21, h_152_21, v_152_22, v_152_23, v_152_26, v_152_29, v_152_30, v_152_33, v_152_34, v_152_35, v_152_37, v_152_39, v_152_40, v_152_43, v_152_44, v_152_47, v_152_48, v_152_51, v_152_54, v_152_56, v_152_58, v_152_60, v_152_63, v_152_64, v_152_67, v_152_68, v_152_71, v_152_74, v_152_76, v_152_77, v_152_79, h_152_79, v_152_81, v_152_83, v_152_86, v_152_87, v_152_89, h_152_89, v_152_91, v_152_93, v_152_96, v_152_97, v_152_99, v_152_101, v_152_103, v_152_104, v_152_107, v_152_108, v_152_111, v_152_112, v_152_115, v_152_116, v_152_117, v_152_119, v_152_121, v_152_124, v_152_127, v_152_130, v_152_133, v_152_136, v_152_139, v_152_142, v_152_145, vgi_0, vgi_s, vga_0, vga_s, vset_0, vset_s, vtk_0, vtk_s, vrc_0, vsw_0, vsw_s, List.all_cons, List.all_nil, zc1_i, zc1_r, Bool.and_true, Bool.and_self, true_and, and_true, List.length_cons, List.length_nil, Nat.zero_le, Nat.reduceLeDiff, Nat.reduceAdd, Nat.reduceLT, et, h4, ha, tg_58, tf_58_2, tg_59]
  by_cases e40 : E 4 = 0
  · rw [if_pos (by rw [e40]; rfl)]
    refine twc.mono (fin t tF.rf (by unfold crx; rw [if_neg (by omega)]; exact hf)) (fun r t2 h2 => ?_)
    obtain ⟨rfl, h2⟩ := h2
    simp only [v_152_0, v_152_1, v_152_4, v_152_7, v_152_8, v_152_11, v_152_12, v_152_15, v_152_16, v_152_19, v_152_20, v_152_21, h_152_21, v_152_22, v_152_23, v_152_26, v_152_29, v_152_30, v_152_33, v_152_34, v_152_35, v_152_37, v_152_39, v_152_40, v_152_43, v_152_44, v_152_47, v_152_48, v_152_51, v_152_54, v_152_56, v_152_58, v_152_60, v_152_63, v_152_64, v_152_67, v_152_68, v_152_71, v_152_74, v_152_76, v_152_77, v_152_79, h_152_79, v_152_81, v_152_83, v_152_86, v_152_87, v_152_89, h_152_89, v_152_91, v_152_93, v_152_96, v_152_97, v_152_99, v_152_101, v_152_103, v_152_104, v_152_107, v_152_108, v_152_111, v_152_112, v_152_115, v_152_116, v_152_117, v_152_119, v_152_121, v_152_124, v_152_127, v_152_130, v_152_133, v_152_136, v_152_139, v_152_142, v_152_145, vgi_0, vgi_s, vga_0, vga_s, vset_0, vset_s, vtk_0, vtk_s, vrc_0, vsw_0, vsw_s, List.all_cons, List.all_nil, zc1_i, zc1_r, Bool.and_true, Bool.and_self, true_and, and_true, List.length_cons, List.length_nil, Nat.zero_le, Nat.reduceLeDiff, Nat.reduceAdd, Nat.reduceLT, Option.toList_none, List.nil_append]
    exact h2 (.int 0) _ _ _ _ _
  · have e41 : E 4 = 1 := by omega
    rw [if_neg (by rw [e41]; decide)]
    refine c_171 (n := n) (by omega) ha (by rw [hf]; exact hfn) (by omega) (fun t1 o1 c1 => ?_)
    simp only [v_152_0, v_152_1, v_152_4, v_152_7, v_152_8, v_152_11, v_152_12, v_152_15, v_152_16, v_152_19, v_152_20, v_152_21, h_152_21, v_152_22, v_152_23, v_152_26, v_152_29, v_152_30, v_152_33, v_152_34, v_152_35, v_152_37, v_152_39, v_152_40, v_152_43, v_152_44, v_152_47, v_152_48, v_152_51, v_152_54, v_152_56, v_152_58, v_152_60, v_152_63, v_152_64, v_152_67, v_152_68, v_152_71, v_152_74, v_152_76, v_152_77, v_152_79, h_152_79, v_152_81, v_152_83, v_152_86, v_152_87, v_152_89, h_152_89, v_152_91, v_152_93, v_152_96, v_152_97, v_152_99, v_152_101, v_152_103, v_152_104, v_152_107, v_152_108, v_152_111, v_152_112, v_152_115, v_152_116, v_152_117, v_152_119, v_152_121, v_152_124, v_152_127, v_152_130, v_152_133, v_152_136, v_152_139, v_152_142, v_152_145, vgi_0, vgi_s, vga_0, vga_s, vset_0, vset_s, vtk_0, vtk_s, vrc_0, vsw_0, vsw_s, List.all_cons, List.all_nil, zc1_i, zc1_r, Bool.and_true, Bool.and_self, true_and, and_true, List.length_cons, List.length_nil, Nat.zero_le, Nat.reduceLeDiff, Nat.reduceAdd, Nat.reduceLT, Option.toList_none, List.nil_append, tg_58, tf_58_2, tg_59, ha]
    refine twc.mono (fin t1 (tF.of o1 (fun b hb => by simp at hb; omega)) (by rw [c1, hf]; unfold crx; rw [if_pos e41])) (fun r t2 h2 => ?_)
    obtain ⟨rfl, h2⟩ := h2
    simp only [v_152_0, v_152_1, v_152_4, v_152_7, v_152_8, v_152_11, v_152_12, v_152_15, v_152_16, v_152_19, v_152_20, v_152_21, h_152_21, v_152_22, v_152_23, v_152_26, v_152_29, v_152_30, v_152_33, v_152_34, v_152_35, v_152_37, v_152_39, v_152_40, v_152_43, v_152_44, v_152_47, v_152_48, v_152_51, v_152_54, v_152_56, v_152_58, v_152_60, v_152_63, v_152_64, v_152_67, v_152_68, v_152_71, v_152_74, v_152_76, v_152_77, v_152_79, h_152_79, v_152_81, v_152_83, v_152_86, v_152_87, v_152_89, h_152_89, v_152_91, v_152_93, v_152_96, v_152_97, v_152_99, v_152_101, v_152_103, v_152_104, v_152_107, v_152_108, v_152_111, v_152_112, v_152_115, v_152_116, v_152_117, v_152_119, v_152_121, v_152_124, v_152_127, v_152_130, v_152_133, v_152_136, v_152_139, v_152_142, v_152_145, vgi_0, vgi_s, vga_0, vga_s, vset_0, vset_s, vtk_0, vtk_s, vrc_0, vsw_0, vsw_s, List.all_cons, List.all_nil, zc1_i, zc1_r, Bool.and_true, Bool.and_self, true_and, and_true, List.length_cons, List.length_nil, Nat.zero_le, Nat.reduceLeDiff, Nat.reduceAdd, Nat.reduceLT, Option.toList_none, List.nil_append]
    exact h2 (.int 0) _ _ _ _ _
end CA
