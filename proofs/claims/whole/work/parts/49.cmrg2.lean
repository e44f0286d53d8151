/-! The merger: marks, pairs, all. -/
section CM2
variable {d a : Nat} {t : T} {F : Option Value → T → Prop} {f : St} {n : Nat}
/-- the merger has seen f and found its places -/
def mgP (t : T) (f : St) (n : Nat) : Prop := cS t 144 = f ∧ ∀ v, v < n → t.1 147 v = ldv f v ∧ t.1 148 v = nI (PL f n v)
theorem st_mg {a : Nat} (h : vtag a = 4) : a ≠ 147 ∧ a ≠ 148 ∧ a + 1 ≠ 147 ∧ a + 1 ≠ 148 ∧ a ≠ 145 := by
  refine ⟨?_, ?_, ?_, ?_, ?_⟩
  · rintro rfl; rw [tg_147] at h; omega
  · rintro rfl; rw [tg_148] at h; omega
  · intro q; have : a = 146 := by omega
    subst this; rw [tg_146] at h; omega
  · intro q; have : a = 147 := by omega
    subst this; rw [tg_147] at h; omega
  · rintro rfl
    rw [show (145 : Nat) = 144 + 1 from rfl, st_tag tg_144] at h; omega
theorem mgP.o {t' : T} (h : mgP t f n) (ha : vtag a = 4) (ha2 : a ≠ 144) (hO : tO [a, a + 1] t t') : mgP t' f n := by
  have hs := st_mg ha
  have hs2 := st_ne tg_144 ha
  refine ⟨by rw [hO.str (by simp; omega) (by simp; omega)]; exact h.1, fun v hv => ?_⟩
  rw [hO.2 147 (by simp; omega), hO.2 148 (by simp; omega)]
  exact h.2 v hv
theorem l_144 {u : Nat} {g : St} (hd : 3 ≤ d) (hf : wfS f) (hn : n ≤ 6) (hu : u < n) (ha : vtag a = 4) (ha2 : a ≠ 144) (hm : mgP t f n) (h : ∀ t' v, tO [a, a + 1] t t' → ((f (3 + 5 * u) = 1 ∨ ¬ fst1 f u) → v = 1) → (¬ (f (3 + 5 * u) = 1 ∨ ¬ fst1 f u) → v = g (3 + 5 * PL f n u)) → cS t' a = mmk f n u v g → F none t') : ∀ (j p : Nat) (t' : T), p + j = 6 → 2 ≤ p → tO [a, a + 1] t t' → (∀ k, cS t' a k = if 4 + 5 * PL f n u ≤ k ∧ k < 2 + 5 * PL f n u + p then f (k - 5 * PL f n u + 5 * u) else g k) → twp none d 144 10 [.ref 143, .ref a, .int (nI u), .int (nI (PL f n u)), .int (nI p)] [] t' F := by
  have hP := PL_lt hf hn hu
  have hG := GR_le hf n hn
  intro j
  induction j with
  | zero =>
    intro p t' hp h2p hO hI
    have hp : p = 6 := by omega
    subst hp
    have hm' := hm.o ha ha2 hO
    have hl := (hm'.2 u hu).1
    refine vc_ok none zH_144 48 false _ 144 10 _ _ _ _ ?_
    simp only [v_144_0, v_144_1, v_144_4, v_144_5, v_144_6, v_144_7, v_144_8, v_144_10, h_144_10, v_144_12, v_144_14, v_144_17, v_144_18, v_144_20, v_144_21, v_144_22, v_144_23, v_144_26, v_144_28, v_144_29, v_144_30, v_144_33, v_144_36, v_144_39, v_144_42, v_144_43, v_144_46, v_144_47, v_144_48, v_144_51, v_144_52, v_144_55, v_144_56, v_144_59, v_144_62, v_144_63, v_144_64, v_144_65, v_144_68, vgi_0, vgi_s, vga_0, vga_s, vset_0, vset_s, vtk_0, vtk_s, vrc_0, vsw_0, vsw_s, List.all_cons, List.all_nil, zc1_i, zc1_r, Bool.and_true, Bool.and_self, true_and, and_true, List.length_cons, List.length_nil, Nat.zero_le, Nat.reduceLeDiff, Nat.reduceAdd, Nat.reduceLT, tg_143, tf_143_2, tg_147, ln_147, tf_143_0, tg_144, ha]
    rw [if_neg (by decide)]
    simp (disch := omega) only [nI_clamp, vinb_n, hl]
    refine ⟨Or.inr trivial, by omega, ?_⟩
    have set1 : (f (3 + 5 * u) = 1 ∨ ¬ fst1 f u) → ∀ t2, tO [a, a + 1] t' t2 → cS t2 a = su (cS t' a) (3 + 5 * PL f n u) (if (1 : Int32) = 0 then 0 else 1) → F none t2 := by
      intro hc t2 o2 e2
      refine h t2 1 (hO.tr o2) (fun _ => rfl) (fun q => absurd hc q) ?_
      rw [e2, if_neg (by decide)]
      funext k
      unfold su mmk
      rw [hI]
      by_cases z : k = 3 + 5 * PL f n u
      · rw [if_pos z, if_neg (by omega), if_pos z]
      · rw [if_neg z, if_neg z]
        rw [show 2 + 5 * PL f n u + 6 = 8 + 5 * PL f n u by omega]
    by_cases hfs : fst1 f u
    · rw [ldv_1 hfs, if_neg (by decide)]
      refine c_165 (by omega) tg_144 (by omega) ?_
      simp only [v_144_0, v_144_1, v_144_4, v_144_5, v_144_6, v_144_7, v_144_8, v_144_10, h_144_10, v_144_12, v_144_14, v_144_17, v_144_18, v_144_20, v_144_21, v_144_22, v_144_23, v_144_26, v_144_28, v_144_29, v_144_30, v_144_33, v_144_36, v_144_39, v_144_42, v_144_43, v_144_46, v_144_47, v_144_48, v_144_51, v_144_52, v_144_55, v_144_56, v_144_59, v_144_62, v_144_63, v_144_64, v_144_65, v_144_68, vgi_0, vgi_s, vga_0, vga_s, vset_0, vset_s, vtk_0, vtk_s, vrc_0, vsw_0, vsw_s, List.all_cons, List.all_nil, zc1_i, zc1_r, Bool.and_true, Bool.and_self, true_and, and_true, List.length_cons, List.length_nil, Nat.zero_le, Nat.reduceLeDiff, Nat.reduceAdd, Nat.reduceLT, Option.toList_some, List.cons_append, List.nil_append, ha]
      rw [hm'.1]
      by_cases hs : f (3 + 5 * u) = 1
      · rw [if_pos hs, if_neg (by decide)]
        refine c_166s (by omega) ha (by omega) (fun t2 o2 e2 => ?_)
        simp only [v_144_0, v_144_1, v_144_4, v_144_5, v_144_6, v_144_7, v_144_8, v_144_10, h_144_10, v_144_12, v_144_14, v_144_17, v_144_18, v_144_20, v_144_21, v_144_22, v_144_23, v_144_26, v_144_28, v_144_29, v_144_30, v_144_33, v_144_36, v_144_39, v_144_42, v_144_43, v_144_46, v_144_47, v_144_48, v_144_51, v_144_52, v_144_55, v_144_56, v_144_59, v_144_62, v_144_63, v_144_64, v_144_65, v_144_68, vgi_0, vgi_s, vga_0, vga_s, vset_0, vset_s, vtk_0, vtk_s, vrc_0, vsw_0, vsw_s, List.all_cons, List.all_nil, zc1_i, zc1_r, Bool.and_true, Bool.and_self, true_and, and_true, List.length_cons, List.length_nil, Nat.zero_le, Nat.reduceLeDiff, Nat.reduceAdd, Nat.reduceLT, Option.toList_none, List.nil_append]
        exact set1 (Or.inl hs) t2 o2 e2
      · rw [if_neg hs, if_pos rfl]
        refine h t' (g (3 + 5 * PL f n u)) hO (fun q => ?_) (fun _ => rfl) ?_
        · rcases q with q | q
          · exact absurd q hs
          · exact absurd hfs q
        · funext k
          rw [hI]
          unfold mmk
          by_cases z : k = 3 + 5 * PL f n u
          · rw [if_neg (by omega), if_neg (by omega), if_pos z, z]
          · rw [if_neg z]
            rw [show 2 + 5 * PL f n u + 6 = 8 + 5 * PL f n u by omega]
    · rw [ldv_0 hfs, if_pos rfl]
      refine c_166s (by omega) ha (by omega) (fun t2 o2 e2 => ?_)
      simp only [v_144_0, v_144_1, v_144_4, v_144_5, v_144_6, v_144_7, v_144_8, v_144_10, h_144_10, v_144_12, v_144_14, v_144_17, v_144_18, v_144_20, v_144_21, v_144_22, v_144_23, v_144_26, v_144_28, v_144_29, v_144_30, v_144_33, v_144_36, v_144_39, v_144_42, v_144_43, v_144_46, v_144_47, v_144_48, v_144_51, v_144_52, v_144_55, v_144_56, v_144_59, v_144_62, v_144_63, v_144_64, v_144_65, v_144_68, vgi_0, vgi_s, vga_0, vga_s, vset_0, vset_s, vtk_0, vtk_s, vrc_0, vsw_0, vsw_s, List.all_cons, List.all_nil, zc1_i, zc1_r, Bool.and_true, Bool.and_self, true_and, and_true, List.length_cons, List.length_nil, Nat.zero_le, Nat.reduceLeDiff, Nat.reduceAdd, Nat.reduceLT, Option.toList_none, List.nil_append]
      exact set1 (Or.inr hfs) t2 o2 e2
  | succ j ih =>
    intro p t' hp h2p hO hI
    have hm' := hm.o ha ha2 hO
    refine vc_ok none zH_144 48 false _ 144 10 _ _ _ _ ?_
    simp only [v_144_0, v_144_1, v_144_4, v_144_5, v_144_6, v_144_7, v_144_8, v_144_10, h_144_10, v_144_12, v_144_14, v_144_17, v_144_18, v_144_20, v_144_21, v_144_22, v_144_23, v_144_26, v_144_28, v_144_29, v_144_30, v_144_33, v_144_36, v_144_39, v_144_42, v_144_43, v_144_46, v_144_47, v_144_48, v_144_51, v_144_52, v_144_55, v_144_56, v_144_59, v_144_62, v_144_63, v_144_64, v_144_65, v_144_68, vgi_0, vgi_s, vga_0, vga_s, vset_0, vset_s, vtk_0, vtk_s, vrc_0, vsw_0, vsw_s, List.all_cons, List.all_nil, zc1_i, zc1_r, Bool.and_true, Bool.and_self, true_and, and_true, List.length_cons, List.length_nil, Nat.zero_le, Nat.reduceLeDiff, Nat.reduceAdd, Nat.reduceLT, tg_143, tf_143_0, tg_144, ha]
    rw [li6, if_pos (nI_lt (by omega) (by omega))]
    refine c_162 (w := 0) (by omega) tg_144 (by omega) (by omega) (by omega) ?_
    simp only [v_144_0, v_144_1, v_144_4, v_144_5, v_144_6, v_144_7, v_144_8, v_144_10, h_144_10, v_144_12, v_144_14, v_144_17, v_144_18, v_144_20, v_144_21, v_144_22, v_144_23, v_144_26, v_144_28, v_144_29, v_144_30, v_144_33, v_144_36, v_144_39, v_144_42, v_144_43, v_144_46, v_144_47, v_144_48, v_144_51, v_144_52, v_144_55, v_144_56, v_144_59, v_144_62, v_144_63, v_144_64, v_144_65, v_144_68, vgi_0, vgi_s, vga_0, vga_s, vset_0, vset_s, vtk_0, vtk_s, vrc_0, vsw_0, vsw_s, List.all_cons, List.all_nil, zc1_i, zc1_r, Bool.and_true, Bool.and_self, true_and, and_true, List.length_cons, List.length_nil, Nat.zero_le, Nat.reduceLeDiff, Nat.reduceAdd, Nat.reduceLT, Option.toList_some, List.cons_append, List.nil_append, ha]
    rw [hm'.1, sg_cel (by omega), cel1 h2p (by omega)]
    refine c_163s (w := 0) (by omega) ha (by omega) (by omega) (by omega) (fun t2 o2 e2 => ?_)
    simp only [v_144_0, v_144_1, v_144_4, v_144_5, v_144_6, v_144_7, v_144_8, v_144_10, h_144_10, v_144_12, v_144_14, v_144_17, v_144_18, v_144_20, v_144_21, v_144_22, v_144_23, v_144_26, v_144_28, v_144_29, v_144_30, v_144_33, v_144_36, v_144_39, v_144_42, v_144_43, v_144_46, v_144_47, v_144_48, v_144_51, v_144_52, v_144_55, v_144_56, v_144_59, v_144_62, v_144_63, v_144_64, v_144_65, v_144_68, vgi_0, vgi_s, vga_0, vga_s, vset_0, vset_s, vtk_0, vtk_s, vrc_0, vsw_0, vsw_s, List.all_cons, List.all_nil, zc1_i, zc1_r, Bool.and_true, Bool.and_self, true_and, and_true, List.length_cons, List.length_nil, Nat.zero_le, Nat.reduceLeDiff, Nat.reduceAdd, Nat.reduceLT, Option.toList_none, List.nil_append]
    rw [nI_1]
    refine ih (p + 1) t2 (by omega) (by omega) (hO.tr o2) (fun k => ?_)
    rw [e2, cel1 h2p (by omega)]
    unfold su
    rw [hI]
    by_cases z : k = 2 + 5 * PL f n u + p
    · rw [if_pos z, if_pos (by omega), show k - 5 * PL f n u + 5 * u = 2 + 5 * u + p by omega]
    · rw [if_neg z]
      by_cases y : 4 + 5 * PL f n u ≤ k ∧ k < 2 + 5 * PL f n u + p
      · rw [if_pos y, if_pos (by omega)]
      · rw [if_neg y, if_neg (by omega)]
theorem c_144 {u : Nat} (hd : 4 ≤ d) (hf : wfS f) (hn : n ≤ 6) (hu : u < n) (ha : vtag a = 4) (ha2 : a ≠ 144) (hm : mgP t f n) (h : ∀ t' v, tO [a, a + 1] t t' → ((f (3 + 5 * u) = 1 ∨ ¬ fst1 f u) → v = 1) → (¬ (f (3 + 5 * u) = 1 ∨ ¬ fst1 f u) → v = cS t a (3 + 5 * PL f n u)) → cS t' a = mmk f n u v (cS t a) → F none t') : twc d 144 [.ref 143, .ref a, .int (nI u)] t F := by
  have hp := (hm.2 u hu).2
  refine ⟨by omega, ?_⟩
  rw [ze_144]
  refine vc_ok none zH_144 48 false _ 144 0 _ _ _ _ ?_
  simp only [v_144_0, v_144_1, v_144_4, v_144_5, v_144_6, v_144_7, v_144_8, v_144_10, h_144_10, v_144_12, v_144_14, v_144_17, v_144_18, v_144_20, v_144_21, v_144_22, v_144_23, v_144_26, v_144_28, v_144_29, v_144_30, v_144_33, v_144_36, v_144_39, v_144_42, v_144_43, v_144_46, v_144_47, v_144_48, v_144_51, v_144_52, v_144_55, v_144_56, v_144_59, v_144_62, v_144_63, v_144_64, v_144_65, v_144_68, vgi_0, vgi_s, vga_0, vga_s, vset_0, vset_s, vtk_0, vtk_s, vrc_0, vsw_0, vsw_s, List.all_cons, List.all_nil, zc1_i, zc1_r, Bool.and_true, Bool.and_self, true_and, and_true, List.length_cons, List.length_nil, Nat.zero_le, Nat.reduceLeDiff, Nat.reduceAdd, Nat.reduceLT, tg_143, tf_143_3, tg_148, ln_148]
  simp (disch := omega) only [nI_clamp, vinb_n, hp]
  refine ⟨by omega, ?_⟩
  exact l_144 (by omega) hf hn hu ha ha2 hm h 4 2 t (by omega) (by omega) tO.rf (fun k => by rw [if_neg (by omega)])
/-- one predicate of a pair -/
theorem l_145 {u w p : Nat} {fi : Int32} (hd : 3 ≤ d) (hf : wfS f) (hn : n ≤ 6) (hu : u < n) (hw : w < n) (hp : 6 ≤ p) (hp2 : p < 8) (ha : vtag a = 4) (ha2 : a ≠ 144) (hm : mgP t f n) (hfi : (fst1 f u ∧ fst1 f w → fi = 1) ∧ (¬ (fst1 f u ∧ fst1 f w) → fi = 0)) {jv : Value} (h : ∀ t' jv, tO [a, a + 1] t t' → cS t' a = su (cS t a) (27 + 12 * PL f n u + 2 * PL f n w + p) (mpv f n u w p (cS t a)) → twp none d 145 29 [.ref 143, .ref a, .int (nI u), .int (nI w), .int fi, .int (nI (p + 1)), jv] [] t' F) : twp none d 145 29 [.ref 143, .ref a, .int (nI u), .int (nI w), .int fi, .int (nI p), jv] [] t F := by
  have hPu := PL_lt hf hn hu
  have hPw := PL_lt hf hn hw
  have hG := GR_le hf n hn
  have pu := (hm.2 u hu).2
  have pw := (hm.2 w hw).2
  refine vc_ok none zH_145 67 false _ 145 29 _ _ _ _ ?_
  simp only [v_145_0, v_145_1, v_145_4, v_145_5, v_145_6, v_145_9, v_145_10, v_145_13, v_145_14, v_145_15, v_145_18, v_145_19, v_145_22, v_145_23, v_145_25, v_145_27, v_145_29, h_145_29, v_145_31, v_145_33, v_145_36, v_145_37, v_145_40, v_145_42, v_145_43, v_145_44, v_145_47, v_145_49, v_145_50, v_145_52, v_145_53, v_145_56, v_145_57, v_145_58, v_145_59, v_145_62, v_145_63, v_145_64, v_145_66, v_145_69, v_145_71, v_145_74, v_145_75, v_145_77, v_145_78, v_145_81, v_145_82, v_145_83, v_145_84, v_145_87, v_145_88, v_145_89, v_145_92, v_145_94, v_145_97, v_145_100, v_145_103, v_145_106, vgi_0, vgi_s, vga_0, vga_s, vset_0, vset_s, vtk_0, vtk_s, vrc_0, vsw_0, vsw_s, List.all_cons, List.all_nil, zc1_i, zc1_r, Bool.and_true, Bool.and_self, true_and, and_true, List.length_cons, List.length_nil, Nat.zero_le, Nat.reduceLeDiff, Nat.reduceAdd, Nat.reduceLT, tg_143, tf_143_0, tg_144, ha]
  rw [li8, if_pos (nI_lt (by omega) (by omega))]
  refine c_162 (by omega) tg_144 (by omega) (by omega) (by omega) ?_
  simp only [v_145_0, v_145_1, v_145_4, v_145_5, v_145_6, v_145_9, v_145_10, v_145_13, v_145_14, v_145_15, v_145_18, v_145_19, v_145_22, v_145_23, v_145_25, v_145_27, v_145_29, h_145_29, v_145_31, v_145_33, v_145_36, v_145_37, v_145_40, v_145_42, v_145_43, v_145_44, v_145_47, v_145_49, v_145_50, v_145_52, v_145_53, v_145_56, v_145_57, v_145_58, v_145_59, v_145_62, v_145_63, v_145_64, v_145_66, v_145_69, v_145_71, v_145_74, v_145_75, v_145_77, v_145_78, v_145_81, v_145_82, v_145_83, v_145_84, v_145_87, v_145_88, v_145_89, v_145_92, v_145_94, v_145_97, v_145_100, v_145_103, v_145_106, vgi_0, vgi_s, vga_0, vga_s, vset_0, vset_s, vtk_0, vtk_s, vrc_0, vsw_0, vsw_s, List.all_cons, List.all_nil, zc1_i, zc1_r, Bool.and_true, Bool.and_self, true_and, and_true, List.length_cons, List.length_nil, Nat.zero_le, Nat.reduceLeDiff, Nat.reduceAdd, Nat.reduceLT, Option.toList_some, List.cons_append, List.nil_append, ha, tg_143, tf_143_3, tg_148, ln_148]
  simp (disch := omega) only [nI_clamp, vinb_n, pu, pw]
  rw [hm.1, sg2 hp hp2]
  refine ⟨by omega, by omega, ?_⟩
  by_cases hfs : fst1 f u ∧ fst1 f w
  · rw [hfi.1 hfs, if_neg (by decide)]
    refine c_163s (by omega) ha (by omega) (by omega) (by omega) (fun t2 o2 e2 => ?_)
    simp only [v_145_0, v_145_1, v_145_4, v_145_5, v_145_6, v_145_9, v_145_10, v_145_13, v_145_14, v_145_15, v_145_18, v_145_19, v_145_22, v_145_23, v_145_25, v_145_27, v_145_29, h_145_29, v_145_31, v_145_33, v_145_36, v_145_37, v_145_40, v_145_42, v_145_43, v_145_44, v_145_47, v_145_49, v_145_50, v_145_52, v_145_53, v_145_56, v_145_57, v_145_58, v_145_59, v_145_62, v_145_63, v_145_64, v_145_66, v_145_69, v_145_71, v_145_74, v_145_75, v_145_77, v_145_78, v_145_81, v_145_82, v_145_83, v_145_84, v_145_87, v_145_88, v_145_89, v_145_92, v_145_94, v_145_97, v_145_100, v_145_103, v_145_106, vgi_0, vgi_s, vga_0, vga_s, vset_0, vset_s, vtk_0, vtk_s, vrc_0, vsw_0, vsw_s, List.all_cons, List.all_nil, zc1_i, zc1_r, Bool.and_true, Bool.and_self, true_and, and_true, List.length_cons, List.length_nil, Nat.zero_le, Nat.reduceLeDiff, Nat.reduceAdd, Nat.reduceLT, Option.toList_none, List.nil_append, nI_1]
    have := h t2 (.int (f (27 + 12 * u + 2 * w + p))) o2 (by rw [e2, cel2 hp]; unfold mpv; rw [if_pos hfs])
    rw [hfi.1 hfs] at this
    exact this
  · rw [hfi.2 hfs, if_pos rfl]
    refine ⟨by omega, by omega, ?_⟩
    refine c_162 (by omega) ha (by omega) (by omega) (by omega) ?_
    simp only [v_145_0, v_145_1, v_145_4, v_145_5, v_145_6, v_145_9, v_145_10, v_145_13, v_145_14, v_145_15, v_145_18, v_145_19, v_145_22, v_145_23, v_145_25, v_145_27, v_145_29, h_145_29, v_145_31, v_145_33, v_145_36, v_145_37, v_145_40, v_145_42, v_145_43, v_145_44, v_145_47, v_145_49, v_145_50, v_145_52, v_145_53, v_145_56, v_145_57, v_145_58, v_145_59, v_145_62, v_145_63, v_145_64, v_145_66, v_145_69, v_145_71, v_145_74, v_145_75, v_145_77, v_145_78, v_145_81, v_145_82, v_145_83, v_145_84, v_145_87, v_145_88, v_145_89, v_145_92, v_145_94, v_145_97, v_145_100, v_145_103, v_145_106, vgi_0, vgi_s, vga_0, vga_s, vset_0, vset_s, vtk_0, vtk_s, vrc_0, vsw_0, vsw_s, List.all_cons, List.all_nil, zc1_i, zc1_r, Bool.and_true, Bool.and_self, true_and, and_true, List.length_cons, List.length_nil, Nat.zero_le, Nat.reduceLeDiff, Nat.reduceAdd, Nat.reduceLT, Option.toList_some, List.cons_append, List.nil_append, ha]
    refine c_23 (by omega) ?_
    simp only [v_145_0, v_145_1, v_145_4, v_145_5, v_145_6, v_145_9, v_145_10, v_145_13, v_145_14, v_145_15, v_145_18, v_145_19, v_145_22, v_145_23, v_145_25, v_145_27, v_145_29, h_145_29, v_145_31, v_145_33, v_145_36, v_145_37, v_145_40, v_145_42, v_145_43, v_145_44, v_145_47, v_145_49, v_145_50, v_145_52, v_145_53, v_145_56, v_145_57, v_145_58, v_145_59, v_145_62, v_145_63, v_145_64, v_145_66, v_145_69, v_145_71, v_145_74, v_145_75, v_145_77, v_145_78, v_145_81, v_145_82, v_145_83, v_145_84, v_145_87, v_145_88, v_145_89, v_145_92, v_145_94, v_145_97, v_145_100, v_145_103, v_145_106, vgi_0, vgi_s, vga_0, vga_s, vset_0, vset_s, vtk_0, vtk_s, vrc_0, vsw_0, vsw_s, List.all_cons, List.all_nil, zc1_i, zc1_r, Bool.and_true, Bool.and_self, true_and, and_true, List.length_cons, List.length_nil, Nat.zero_le, Nat.reduceLeDiff, Nat.reduceAdd, Nat.reduceLT, Option.toList_some, List.cons_append, List.nil_append, ha]
    rw [sg2 hp hp2]
    refine c_163s (by omega) ha (by omega) (by omega) (by omega) (fun t2 o2 e2 => ?_)
    simp only [v_145_0, v_145_1, v_145_4, v_145_5, v_145_6, v_145_9, v_145_10, v_145_13, v_145_14, v_145_15, v_145_18, v_145_19, v_145_22, v_145_23, v_145_25, v_145_27, v_145_29, h_145_29, v_145_31, v_145_33, v_145_36, v_145_37, v_145_40, v_145_42, v_145_43, v_145_44, v_145_47, v_145_49, v_145_50, v_145_52, v_145_53, v_145_56, v_145_57, v_145_58, v_145_59, v_145_62, v_145_63, v_145_64, v_145_66, v_145_69, v_145_71, v_145_74, v_145_75, v_145_77, v_145_78, v_145_81, v_145_82, v_145_83, v_145_84, v_145_87, v_145_88, v_145_89, v_145_92, v_145_94, v_145_97, v_145_100, v_145_103, v_145_106, vgi_0, vgi_s, vga_0, vga_s, vset_0, vset_s, vtk_0, vtk_s, vrc_0, vsw_0, vsw_s, List.all_cons, List.all_nil, zc1_i, zc1_r, Bool.and_true, Bool.and_self, true_and, and_true, List.length_cons, List.length_nil, Nat.zero_le, Nat.reduceLeDiff, Nat.reduceAdd, Nat.reduceLT, Option.toList_none, List.nil_append, nI_1]
    have := h t2 (.int (f (27 + 12 * u + 2 * w + p))) o2 (by rw [e2, cel2 hp]; unfold mpv; rw [if_neg hfs])
    rw [hfi.2 hfs] at this
    exact this
theorem c_145 {u w : Nat} (hd : 4 ≤ d) (hf : wfS f) (hn : n ≤ 6) (hu : u < n) (hw : w < n) (ha : vtag a = 4) (ha2 : a ≠ 144) (hm : mgP t f n) (h : ∀ t', tO [a, a + 1] t t' → cS t' a = mpr f n u w (cS t a) → F none t') : twc d 145 [.ref 143, .ref a, .int (nI u), .int (nI w)] t F := by
  have hPu := PL_lt hf hn hu
  have hPw := PL_lt hf hn hw
  have hG := GR_le hf n hn
  have go : ∀ fi : Int32, (fst1 f u ∧ fst1 f w → fi = 1) ∧ (¬ (fst1 f u ∧ fst1 f w) → fi = 0) → ∀ jv, twp none (d - 1) 145 29 [.ref 143, .ref a, .int (nI u), .int (nI w), .int fi, .int (nI 6), jv] [] t F := by
    intro fi hfi jv
    refine l_145 (p := 6) (by omega) hf hn hu hw (by omega) (by omega) ha ha2 hm hfi (fun t2 jv2 o2 e2 => ?_)
    refine l_145 (p := 7) (by omega) hf hn hu hw (by omega) (by omega) ha ha2 (hm.o ha ha2 o2) hfi (fun t3 jv3 o3 e3 => ?_)
    refine vc_ok none zH_145 67 false _ 145 29 _ _ _ _ ?_
    simp only [v_145_0, v_145_1, v_145_4, v_145_5, v_145_6, v_145_9, v_145_10, v_145_13, v_145_14, v_145_15, v_145_18, v_145_19, v_145_22, v_145_23, v_145_25, v_145_27, v_145_29, h_145_29, v_145_31, v_145_33, v_145_36, v_145_37, v_145_40, v_145_42, v_145_43, v_145_44, v_145_47, v_145_49, v_145_50, v_145_52, v_145_53, v_145_56, v_145_57, v_145_58, v_145_59, v_145_62, v_145_63, v_145_64, v_145_66, v_145_69, v_145_71, v_145_74, v_145_75, v_145_77, v_145_78, v_145_81, v_145_82, v_145_83, v_145_84, v_145_87, v_145_88, v_145_89, v_145_92, v_145_94, v_145_97, v_145_100, v_145_103, v_145_106, vgi_0, vgi_s, vga_0, vga_s, vset_0, vset_s, vtk_0, vtk_s, vrc_0, vsw_0, vsw_s, List.all_cons, List.all_nil, zc1_i, zc1_r, Bool.and_true, Bool.and_self, true_and, and_true, List.length_cons, List.length_nil, Nat.zero_le, Nat.reduceLeDiff, Nat.reduceAdd, Nat.reduceLT]
    rw [if_neg (by decide)]
    refine h t3 (o2.tr o3) ?_
    rw [e3, e2]
    unfold mpr
    have e : ∀ v, mpv f n u w 7 (su (cS t a) (27 + 12 * PL f n u + 2 * PL f n w + 6) v) = mpv f n u w 7 (cS t a) := fun v => by
      unfold mpv
      rw [show su (cS t a) (27 + 12 * PL f n u + 2 * PL f n w + 6) v (27 + 12 * PL f n u + 2 * PL f n w + 7) = cS t a (27 + 12 * PL f n u + 2 * PL f n w + 7) from by unfold su; rw [if_neg (by omega)]]
    rw [e]
  have lu := (hm.2 u hu).1
  have lw := (hm.2 w hw).1
  refine ⟨by omega, ?_⟩
  rw [ze_145]
  refine vc_ok none zH_145 67 false _ 145 0 _ _ _ _ ?_
  simp only [v_145_0, v_145_1, v_145_4, v_145_5, v_145_6, v_145_9, v_145_10, v_145_13, v_145_14, v_145_15, v_145_18, v_145_19, v_145_22, v_145_23, v_145_25, v_145_27, v_145_29, h_145_29, v_145_31, v_145_33, v_145_36, v_145_37, v_145_40, v_145_42, v_145_43, v_145_44, v_145_47, v_145_49, v_145_50, v_145_52, v_145_53, v_145_56, v_145_57, v_145_58, v_145_59, v_145_62, v_145_63, v_145_64, v_145_66, v_145_69, v_145_71, v_145_74, v_145_75, v_145_77, v_145_78, v_145_81, v_145_82, v_145_83, v_145_84, v_145_87, v_145_88, v_145_89, v_145_92, v_145_94, v_145_97, v_145_100, v_145_103, v_145_106, vgi_0, vgi_s, vga_0, vga_s, vset_0, vset_s, vtk_0, vtk_s, vrc_0, vsw_0, vsw_s, List.all_cons, List.all_nil, zc1_i, zc1_r, Bool.and_true, Bool.and_self, true_and, and_true, List.length_cons, List.length_nil, Nat.zero_le, Nat.reduceLeDiff, Nat.reduceAdd, Nat.reduceLT, tg_143, tf_143_2, tg_147, ln_147]
  simp (disch := omega) only [nI_clamp, vinb_n, lu, lw]
  refine ⟨Or.inr trivial, by omega, ?_⟩
  by_cases h1 : fst1 f u
  · rw [ldv_1 h1, if_neg (by decide)]
    refine ⟨Or.inr trivial, by omega, ?_⟩
    by_cases h2 : fst1 f w
    · rw [ldv_1 h2, if_neg (by decide)]
      exact go 1 ⟨fun _ => rfl, fun q => absurd ⟨h1, h2⟩ q⟩ _
    · rw [ldv_0 h2, if_pos rfl]
      exact go 0 ⟨fun q => absurd q.2 h2, fun _ => rfl⟩ _
  · rw [ldv_0 h1, if_pos rfl]
    exact go 0 ⟨fun q => absurd q.1 h1, fun _ => rfl⟩ _
theorem l_141b {u : Nat} (hd : 4 ≤ d) (hf : wfS f) (hn : n ≤ 6) (hu : u < n) (ha : vtag a = 4) (ha2 : a ≠ 144) (hm : mgP t f n) (h : ∀ (t' : T) (jv : Value), tO [a, a + 1] t t' → BI f n (u + 1) (u + 1) 0 (cS t' a) → twp none d 141 27 [.ref 143, .ref a, .int (nI n), .int (nI (u + 1)), jv] [] t' F) : ∀ (j w : Nat) (t' : T), w + j = n → tO [a, a + 1] t t' → BI f n (u + 1) u w (cS t' a) → twp none d 141 41 [.ref 143, .ref a, .int (nI n), .int (nI u), .int (nI w)] [] t' F := by
  intro j
  induction j with
  | zero =>
    intro w t' hw hO hI
    have hw : w = n := by omega
    subst hw
    refine vc_ok none zH_141 47 false _ 141 41 _ _ _ _ ?_
    simp only [v_141_0, v_141_1, v_141_4, v_141_5, v_141_8, v_141_9, v_141_12, v_141_15, v_141_16, v_141_17, v_141_18, v_141_19, v_141_22, v_141_25, v_141_26, v_141_27, h_141_27, v_141_28, v_141_29, v_141_32, v_141_33, v_141_34, v_141_35, v_141_38, v_141_39, v_141_41, h_141_41, v_141_43, v_141_44, v_141_47, v_141_48, v_141_49, v_141_50, v_141_52, v_141_55, v_141_58, v_141_61, v_141_64, v_141_67, vgi_0, vgi_s, vga_0, vga_s, vset_0, vset_s, vtk_0, vtk_s, vrc_0, vsw_0, vsw_s, List.all_cons, List.all_nil, zc1_i, zc1_r, Bool.and_true, Bool.and_self, true_and, and_true, List.length_cons, List.length_nil, Nat.zero_le, Nat.reduceLeDiff, Nat.reduceAdd, Nat.reduceLT]
    simp (disch := omega) only [nI_ltI, Nat.lt_irrefl, if_false]
    rw [nI_1]
    exact h t' _ hO (BI_next hI)
  | succ j ih =>
    intro w t' hw hO hI
    refine vc_ok none zH_141 47 false _ 141 41 _ _ _ _ ?_
    simp only [v_141_0, v_141_1, v_141_4, v_141_5, v_141_8, v_141_9, v_141_12, v_141_15, v_141_16, v_141_17, v_141_18, v_141_19, v_141_22, v_141_25, v_141_26, v_141_27, h_141_27, v_141_28, v_141_29, v_141_32, v_141_33, v_141_34, v_141_35, v_141_38, v_141_39, v_141_41, h_141_41, v_141_43, v_141_44, v_141_47, v_141_48, v_141_49, v_141_50, v_141_52, v_141_55, v_141_58, v_141_61, v_141_64, v_141_67, vgi_0, vgi_s, vga_0, vga_s, vset_0, vset_s, vtk_0, vtk_s, vrc_0, vsw_0, vsw_s, List.all_cons, List.all_nil, zc1_i, zc1_r, Bool.and_true, Bool.and_self, true_and, and_true, List.length_cons, List.length_nil, Nat.zero_le, Nat.reduceLeDiff, Nat.reduceAdd, Nat.reduceLT, tg_143]
    simp (disch := omega) only [nI_ltI]
    rw [if_pos (by omega)]
    refine c_145 (by omega) hf hn hu (by omega) ha ha2 (hm.o ha ha2 hO) (fun t2 o2 e2 => ?_)
    simp only [v_141_0, v_141_1, v_141_4, v_141_5, v_141_8, v_141_9, v_141_12, v_141_15, v_141_16, v_141_17, v_141_18, v_141_19, v_141_22, v_141_25, v_141_26, v_141_27, h_141_27, v_141_28, v_141_29, v_141_32, v_141_33, v_141_34, v_141_35, v_141_38, v_141_39, v_141_41, h_141_41, v_141_43, v_141_44, v_141_47, v_141_48, v_141_49, v_141_50, v_141_52, v_141_55, v_141_58, v_141_61, v_141_64, v_141_67, vgi_0, vgi_s, vga_0, vga_s, vset_0, vset_s, vtk_0, vtk_s, vrc_0, vsw_0, vsw_s, List.all_cons, List.all_nil, zc1_i, zc1_r, Bool.and_true, Bool.and_self, true_and, and_true, List.length_cons, List.length_nil, Nat.zero_le, Nat.reduceLeDiff, Nat.reduceAdd, Nat.reduceLT, Option.toList_none, List.nil_append]
    rw [nI_1]
    refine ih (w + 1) t2 (by omega) (hO.tr o2) ?_
    rw [e2]
    exact BI_pair hf hn hu (by omega) hI
theorem l_141a (hd : 5 ≤ d) (hf : wfS f) (hn : n ≤ 6) (ha : vtag a = 4) (ha2 : a ≠ 144) (hm : mgP t f n) (h : ∀ t', tO [a, a + 1] t t' → BLU f n (cS t' a) → F none t') : ∀ (j u : Nat) (t' : T) (jv : Value), u + j = n → tO [a, a + 1] t t' → BI f n u u 0 (cS t' a) → twp none d 141 27 [.ref 143, .ref a, .int (nI n), .int (nI u), jv] [] t' F := by
  intro j
  induction j with
  | zero =>
    intro u t' jv hu hO hI
    have hu : u = n := by omega
    subst hu
    refine vc_ok none zH_141 47 false _ 141 27 _ _ _ _ ?_
    simp only [v_141_0, v_141_1, v_141_4, v_141_5, v_141_8, v_141_9, v_141_12, v_141_15, v_141_16, v_141_17, v_141_18, v_141_19, v_141_22, v_141_25, v_141_26, v_141_27, h_141_27, v_141_28, v_141_29, v_141_32, v_141_33, v_141_34, v_141_35, v_141_38, v_141_39, v_141_41, h_141_41, v_141_43, v_141_44, v_141_47, v_141_48, v_141_49, v_141_50, v_141_52, v_141_55, v_141_58, v_141_61, v_141_64, v_141_67, vgi_0, vgi_s, vga_0, vga_s, vset_0, vset_s, vtk_0, vtk_s, vrc_0, vsw_0, vsw_s, List.all_cons, List.all_nil, zc1_i, zc1_r, Bool.and_true, Bool.and_self, true_and, and_true, List.length_cons, List.length_nil, Nat.zero_le, Nat.reduceLeDiff, Nat.reduceAdd, Nat.reduceLT]
    simp (disch := omega) only [nI_ltI, Nat.lt_irrefl, if_false]
    exact h t' hO (BI_end hf hn hI)
  | succ j ih =>
    intro u t' jv hu hO hI
    refine vc_ok none zH_141 47 false _ 141 27 _ _ _ _ ?_
    simp only [v_141_0, v_141_1, v_141_4, v_141_5, v_141_8, v_141_9, v_141_12, v_141_15, v_141_16, v_141_17, v_141_18, v_141_19, v_141_22, v_141_25, v_141_26, v_141_27, h_141_27, v_141_28, v_141_29, v_141_32, v_141_33, v_141_34, v_141_35, v_141_38, v_141_39, v_141_41, h_141_41, v_141_43, v_141_44, v_141_47, v_141_48, v_141_49, v_141_50, v_141_52, v_141_55, v_141_58, v_141_61, v_141_64, v_141_67, vgi_0, vgi_s, vga_0, vga_s, vset_0, vset_s, vtk_0, vtk_s, vrc_0, vsw_0, vsw_s, List.all_cons, List.all_nil, zc1_i, zc1_r, Bool.and_true, Bool.and_self, true_and, and_true, List.length_cons, List.length_nil, Nat.zero_le, Nat.reduceLeDiff, Nat.reduceAdd, Nat.reduceLT, tg_143]
    simp (disch := omega) only [nI_ltI]
    rw [if_pos (by omega)]
    refine c_144 (by omega) hf hn (by omega) ha ha2 (hm.o ha ha2 hO) (fun t2 v o2 v1 v0 e2 => ?_)
    simp only [v_141_0, v_141_1, v_141_4, v_141_5, v_141_8, v_141_9, v_141_12, v_141_15, v_141_16, v_141_17, v_141_18, v_141_19, v_141_22, v_141_25, v_141_26, v_141_27, h_141_27, v_141_28, v_141_29, v_141_32, v_141_33, v_141_34, v_141_35, v_141_38, v_141_39, v_141_41, h_141_41, v_141_43, v_141_44, v_141_47, v_141_48, v_141_49, v_141_50, v_141_52, v_141_55, v_141_58, v_141_61, v_141_64, v_141_67, vgi_0, vgi_s, vga_0, vga_s, vset_0, vset_s, vtk_0, vtk_s, vrc_0, vsw_0, vsw_s, List.all_cons, List.all_nil, zc1_i, zc1_r, Bool.and_true, Bool.and_self, true_and, and_true, List.length_cons, List.length_nil, Nat.zero_le, Nat.reduceLeDiff, Nat.reduceAdd, Nat.reduceLT, Option.toList_none, List.nil_append]
    have hI2 := BI_mark hf hn (by omega) hI v1 v0
    rw [← e2] at hI2
    exact l_141b (by omega) hf hn (by omega) ha ha2 hm (fun t3 jv3 o3 I3 => ih (u + 1) t3 jv3 (by omega) o3 I3) n 0 t2 (by omega) (hO.tr o2) hI2
def mgB (a : Nat) : List Nat := [144, 145, 146, 147, 148, a, a + 1]
theorem c_141 (hd : 6 ≤ d) (ha : vtag a = 4) (ha2 : a ≠ 144) (hf : wfS (cS t a)) (hn : cS t a 0 = nI n) (hn6 : n ≤ 6) (h : ∀ t', tO (mgB a) t t' → BLU (cS t a) n (cS t' a) → F none t') : twc d 141 [.ref 143, .ref a] t F := by
  have hs := st_mg ha
  have hst := st_ne ha tg_144
  have hst2 := st_ne tg_144 ha
  have ha146 : a ≠ 146 := by rintro rfl; rw [tg_146] at ha; omega
  refine ⟨by omega, ?_⟩
  rw [ze_141]
  refine vc_ok none zH_141 47 false _ 141 0 _ _ _ _ ?_
  simp only [v_141_0, v_141_1, v_141_4, v_141_5, v_141_8, v_141_9, v_141_12, v_141_15, v_141_16, v_141_17, v_141_18, v_141_19, v_141_22, v_141_25, v_141_26, v_141_27, h_141_27, v_141_28, v_141_29, v_141_32, v_141_33, v_141_34, v_141_35, v_141_38, v_141_39, v_141_41, h_141_41, v_141_43, v_141_44, v_141_47, v_141_48, v_141_49, v_141_50, v_141_52, v_141_55, v_141_58, v_141_61, v_141_64, v_141_67, vgi_0, vgi_s, vga_0, vga_s, vset_0, vset_s, vtk_0, vtk_s, vrc_0, vsw_0, vsw_s, List.all_cons, List.all_nil, zc1_i, zc1_r, Bool.and_true, Bool.and_self, true_and, and_true, List.length_cons, List.length_nil, Nat.zero_le, Nat.reduceLeDiff, Nat.reduceAdd, Nat.reduceLT, tg_143, tf_143_0, tg_144]
  refine c_168 (by omega) tg_144 ha (fun t1 o1 e1 => ?_)
  have hn1 : t1.1 144 0 = nI n := by rw [← cS_i, e1]; exact hn
  simp only [v_141_0, v_141_1, v_141_4, v_141_5, v_141_8, v_141_9, v_141_12, v_141_15, v_141_16, v_141_17, v_141_18, v_141_19, v_141_22, v_141_25, v_141_26, v_141_27, h_141_27, v_141_28, v_141_29, v_141_32, v_141_33, v_141_34, v_141_35, v_141_38, v_141_39, v_141_41, h_141_41, v_141_43, v_141_44, v_141_47, v_141_48, v_141_49, v_141_50, v_141_52, v_141_55, v_141_58, v_141_61, v_141_64, v_141_67, vgi_0, vgi_s, vga_0, vga_s, vset_0, vset_s, vtk_0, vtk_s, vrc_0, vsw_0, vsw_s, List.all_cons, List.all_nil, zc1_i, zc1_r, Bool.and_true, Bool.and_self, true_and, and_true, List.length_cons, List.length_nil, Nat.zero_le, Nat.reduceLeDiff, Nat.reduceAdd, Nat.reduceLT, Option.toList_none, List.nil_append, tg_143, tf_143_0, tg_144, hn1, ha]
  refine c_142 (by omega) hf hn6 e1 (fun t2 o2 h2 => ?_)
  simp only [v_141_0, v_141_1, v_141_4, v_141_5, v_141_8, v_141_9, v_141_12, v_141_15, v_141_16, v_141_17, v_141_18, v_141_19, v_141_22, v_141_25, v_141_26, v_141_27, h_141_27, v_141_28, v_141_29, v_141_32, v_141_33, v_141_34, v_141_35, v_141_38, v_141_39, v_141_41, h_141_41, v_141_43, v_141_44, v_141_47, v_141_48, v_141_49, v_141_50, v_141_52, v_141_55, v_141_58, v_141_61, v_141_64, v_141_67, vgi_0, vgi_s, vga_0, vga_s, vset_0, vset_s, vtk_0, vtk_s, vrc_0, vsw_0, vsw_s, List.all_cons, List.all_nil, zc1_i, zc1_r, Bool.and_true, Bool.and_self, true_and, and_true, List.length_cons, List.length_nil, Nat.zero_le, Nat.reduceLeDiff, Nat.reduceAdd, Nat.reduceLT, Option.toList_some, List.cons_append, List.nil_append, ha]
  refine c_167 (by omega) ha ?_
  have o12 : tO (mgB a) t t2 := (o1.mono (by intro b hb; simp [mgB] at hb ⊢; omega)).tr (o2.mono (by intro b hb; simp [mgB, mgA] at hb ⊢; omega))
  have ea : cS t2 a = cS t a := by
    rw [o2.str (by simp [mgA]; omega) (by simp [mgA]; omega), o1.str (by simp; omega) (by simp; omega)]
  have o3 : tO [a, a + 1] t2 (tsi (tfl t2 (a + 1) 2 104 0) a 0 (nI (GR (cS t a) n))) := (tO.fl (by simp)).tr (tO.si (by simp))
  have hm2 : mgP t2 (cS t a) n := ⟨by rw [o2.str (by simp [mgA]) (by simp [mgA])]; exact e1, h2⟩
  have hm3 := hm2.o ha ha2 o3
  simp only [v_141_0, v_141_1, v_141_4, v_141_5, v_141_8, v_141_9, v_141_12, v_141_15, v_141_16, v_141_17, v_141_18, v_141_19, v_141_22, v_141_25, v_141_26, v_141_27, h_141_27, v_141_28, v_141_29, v_141_32, v_141_33, v_141_34, v_141_35, v_141_38, v_141_39, v_141_41, h_141_41, v_141_43, v_141_44, v_141_47, v_141_48, v_141_49, v_141_50, v_141_52, v_141_55, v_141_58, v_141_61, v_141_64, v_141_67, vgi_0, vgi_s, vga_0, vga_s, vset_0, vset_s, vtk_0, vtk_s, vrc_0, vsw_0, vsw_s, List.all_cons, List.all_nil, zc1_i, zc1_r, Bool.and_true, Bool.and_self, true_and, and_true, List.length_cons, List.length_nil, Nat.zero_le, Nat.reduceLeDiff, Nat.reduceAdd, Nat.reduceLT, Option.toList_none, List.nil_append]
  refine l_141a (by omega) hf hn6 ha ha2 hm3 (fun t4 o4 b4 => h t4 (o12.tr ((o3.tr o4).mono (by intro b hb; simp [mgB] at hb ⊢; omega))) b4) n 0 _ _ (by omega) tO.rf (BI_0 ?_ (fun k k0 k3 => ?_) (fun k k3 => ?_))
  · rw [cS_i, tsi_eq]
  · obtain ⟨j, rfl⟩ : ∃ j, k = j + 1 := ⟨k - 1, by omega⟩
    rw [← ea, cS_c (by omega), cS_c (by omega), tsi_ne (by omega)]
    exact if_neg (by omega)
  · by_cases k1 : k < 105
    · obtain ⟨j, rfl⟩ : ∃ j, k = j + 1 := ⟨k - 1, by omega⟩
      rw [cS_c (by omega), tsi_ne (by omega)]
      exact if_pos ⟨rfl, by omega, by omega⟩
    · exact cS_hi (by omega)
end CM2
