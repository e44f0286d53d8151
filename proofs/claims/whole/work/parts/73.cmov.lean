/-! The program moves. -/
section CMV
variable {d b : Nat} {t : T} {F : Option Value → T → Prop} {q : FT} {m n rc e : Nat} {ru : Nat → Nat → Nat} {E : Nat → Nat}
def mvF (b : Nat) : Nat → Prop := fun x => bgF b x ∨ (44 ≤ x ∧ x ≤ 46) ∨ x = 59 ∨ x = 60
theorem bag_f {P : Nat → Prop} {t' : T} (hw : bwf t b) (hO : tF P t t') (h1 : ¬ P (b + 1)) : (∀ k, br t' b k = br t b k) ∧ bwf t' b := by
  have e : ∀ k, br t' b k = br t b k := fun k => (hO (b + 1) h1).2 k
  refine ⟨e, fun k hk => ?_, fun j k hj hk he => ?_⟩
  · rw [e]; exact hw.1 k hk
  · rw [e, e] at he; exact hw.2 j k hj hk he
/-- what a move needs of the memory -/
def cvm (t : T) (q : FT) (m : Nat) (ru : Nat → Nat → Nat) (rc e : Nat) (E : Nat → Nat) : Prop := cft t q m ∧ crl t ru rc ∧ ced t e E
theorem cvm.k {t' : T} (h : cvm t q m ru rc e E) (hr : rc ≤ 6) (he : e < 8) (hb2 : b = 61 ∨ b = 161) (hbN : bN b = 40) (hO : tF (mvF b) t t') : cvm t' q m ru rc e E := by
  refine ⟨h.1.k (fun x k h1 h2 => (hO x (by unfold mvF bgF; omega)).1 k), h.2.1.k hr (fun x k h1 h2 => (hO x (by unfold mvF bgF; omega)).1 k), h.2.2.k he (fun x k h1 h2 => (hO x (by unfold mvF bgF; omega)).1 k)⟩
theorem l_147 {Lf : List St} {sv : Value} (hd : 43 ≤ d) (he : e < 8) (hb : b ∈ bags) (hbN : bN b = 40) (hb2 : b = 61 ∨ b = 161) (hr : rwf q m ru rc) (hE : ewf q m E) (hv : cvm t q m ru rc e E) (hwk : t.2 58 3 = b) (h40 : Lf.length ≤ 40) (kf : MVA q ru rc E Lf [] none → ∀ t', tF (mvF b) t t' → bwf t' b → F (some (.int 0)) t') (k1 : ∀ K, MVA q ru rc E Lf [] (some K) → ∀ t', tF (mvF b) t t' → bwf t' b → bL t' b K → F (some (.int 1)) t') : ∀ (R K : List St) (i : Nat) (t' : T) (m5 : Value), i + R.length = Lf.length → K.length ≤ i → (∀ x, x ∈ R → wfS x) → tF (mvF b) t t' → bwf t' b → t'.1 b 1 = nI Lf.length → (∀ k, k < K.length → bg t' b k = K.getD k z0) → (∀ k, k < R.length → bg t' b (i + k) = R.getD k z0) → (∀ r, MVA q ru rc E R K r → MVA q ru rc E Lf [] r) → twp none d 147 41 [.ref 58, .ref (251 + 3 * e), sv, .int (nI K.length), .int (nI i), m5] [] t' F := by
  have hbd := bag_all b hb
  have tb : vtag b = 8 := hbd.2.2.2.2.2.1
  have et := ed_tag he
  intro R
  induction R with
  | nil =>
    intro K i t' m5 hi hK hR hO hbw hct hmK hmR hbk
    have hi : i = Lf.length := by simpa using hi
    have hwk' : t'.2 58 3 = b := by rw [(hO 58 (by unfold mvF bgF; omega)).2]; exact hwk
    refine vc_ok none zH_147 85 false _ 147 41 _ _ _ _ ?_
    simp only [v_147_0, v_147_1, v_147_4, v_147_5, v_147_8, v_147_9, v_147_12, v_147_13, v_147_16_int, v_147_16_ref, v_147_17, v_147_18, v_147_21, v_147_23, v_147_26, v_147_27, v_147_28, v_147_31, v_147_34, v_147_35, v_147_36, v_147_37, v_147_38, v_147_39, v_147_41, h_147_41, v_147_43, v_147_44, v_147_47, v_147_50, v_147_53, v_147_54, v_147_57, v_147_60, v_147_62, v_147_63, v_147_65, v_147_66, v_147_69, v_147_71, v_147_72, v_147_75, v_147_76, v_147_77, v_147_80, v_147_83, v_147_84, v_147_87, v_147_90, v_147_92, v_147_95, v_147_97, v_147_100, v_147_101, v_147_102, v_147_103, v_147_104, v_147_106, v_147_109, v_147_110, v_147_113, v_147_115, v_147_118, v_147_121, v_147_122, v_147_125, v_147_127, v_147_128, v_147_131, v_147_134, v_147_137, v_147_140, v_147_141, v_147_144, v_147_145, v_147_148, v_147_149, vgi_0, vgi_s, vga_0, vga_s, vset_0, vset_s, vtk_0, vtk_s, vrc_0, vsw_0, vsw_s, List.all_cons, List.all_nil, zc1_i, zc1_r, Bool.and_true, Bool.and_self, true_and, and_true, List.length_cons, List.length_nil, Nat.zero_le, Nat.reduceLeDiff, Nat.reduceAdd, Nat.reduceLT, tg_58, tf_58_3, hwk', tb, hct]
    simp (disch := omega) only [nI_ltI]
    rw [if_neg (by omega)]
    have o2 : tF (mvF b) t' (tsi t' b 1 (nI K.length)) := tF.rf.si (by unfold mvF bgF; omega)
    refine ⟨Or.inr trivial, k1 K (hbk _ rfl) _ (hO.tr o2) (hbw.q rfl).1 ⟨tsi_eq, fun k hk => ?_⟩⟩
    have : bg (tsi t' b 1 (nI K.length)) b k = bg t' b k := by
      obtain ⟨i1, i2, i3⟩ := hbw.1 k (by omega)
      have n4 := st_nb i3 hb
      show cS (tsi t' b 1 (nI K.length)) (br t' b k) = cS t' (br t' b k)
      exact cS_of (fun j => tsi_ne (by omega)) (fun j => tsi_ne (by omega))
    rw [this]; exact hmK k hk
  | cons x R ih =>
    intro K i t' m5 hi hK hR hO hbw hct hmK hmR hbk
    simp only [List.length_cons] at hi
    have hwx := hR x (List.mem_cons_self ..)
    obtain ⟨hn, hn6⟩ := hwx.n
    have hwk' : t'.2 58 3 = b := by rw [(hO 58 (by unfold mvF bgF; omega)).2]; exact hwk
    have hv' := hv.k hr.1 he hb2 hbN hO
    obtain ⟨i1, i2, i3⟩ := hbw.1 i (by omega)
    have hg := st_ge i3
    have hxi : cS t' (br t' b i) = x := hmR 0 (by simp)
    have hti : t'.1 (br t' b i) 0 = nI (sn x) := by rw [← cS_i, hxi]; exact hn
    have h5 := hv'.2.2.2.2.2.2.2.1
    have h4 := hv'.2.2.2.2.2.2.1
    have e5 : E 5 < m := hE.2.2.2.2.2.2.1
    have e5f : fr q (E 5) = 0 := hE.2.2.2.2.2.2.2.1
    have e4 : E 4 < 2 := hE.2.2.2.2.2.1
    have hR' : ∀ y, y ∈ R → wfS y := fun y hy => hR y (List.mem_cons_of_mem _ hy)
    have nofr : ∀ v, ¬ fb q (E 5) v := fun v hv => by unfold fb at hv; rw [e5f, Nat.zero_testBit] at hv; cases hv
    have m40 := hv'.1.1
    have hbi : t'.2 (b + 1) i = br t' b i := rfl
    have a59 : br t' b i ≠ 59 := by omega
    have a3 : br t' b i + 1 < 251 ∨ 275 ≤ br t' b i := by omega
    have ofr : ∀ t2, tF (alF (br t' b i)) t' t2 → tF (mvF b) t' t2 ∧ (∀ k, br t2 b k = br t' b k) ∧ bwf t2 b ∧ t2.1 b 1 = nI Lf.length ∧ (∀ k, k < bN b → k ≠ i → bg t2 b k = bg t' b k) ∧ cvm t2 q m ru rc e E := by
      intro t2 o2
      have n4 := st_nb i3 hb
      have n5 := ar_st i3 hb
      have f1 : tF (mvF b) t' t2 := o2.mono (fun y hy => by unfold alF at hy; unfold mvF bgF; omega)
      obtain ⟨f2, f3⟩ := bag_f hbw o2 (by unfold alF; omega)
      refine ⟨f1, f2, f3, by rw [(o2 b (by unfold alF; omega)).1]; exact hct, fun k hk hk2 => ?_, hv'.k hr.1 he hb2 hbN f1⟩
      obtain ⟨j1, j2, j3⟩ := hbw.1 k hk
      have n1 : br t' b k ≠ br t' b i := fun z => hk2 (hbw.2 k i hk (by omega) z)
      have n2 := st_ne i3 j3
      have n3 := st_ne j3 i3
      have hg2 := st_ge j3
      unfold bg
      rw [f2]
      exact o2.st (by unfold alF; omega) (by unfold alF; omega)
    have skip : ∀ (t2 : T) (m5 : Value), tF (alF (br t' b i)) t' t2 → MO1 q ru rc E x (some none) → twp none d 147 41 [.ref 58, .ref (251 + 3 * e), sv, .int (nI K.length), .int (nI (i + 1)), m5] [] t2 F := by
      intro t2 m5 o2 hmo
      obtain ⟨f1, f2, f3, f4, f5, -⟩ := ofr t2 o2
      refine ih K (i + 1) t2 m5 (by omega) (by omega) hR' (hO.tr f1) f3 f4 (fun k hk => ?_) (fun k hk => ?_) (fun r hr => hbk r ⟨_, hmo, Or.inr (Or.inl ⟨rfl, hr⟩)⟩)
      · rw [f5 k (by omega) (by omega)]; exact hmK k hk
      · rw [f5 _ (by omega) (by omega), show i + 1 + k = i + (k + 1) by omega, hmR (k + 1) (by simp; omega)]; rfl
    have keep : ∀ (t2 : T) (m5 : Value) (g : St), tF (alF (br t' b i)) t' t2 → cS t2 (br t' b i) = g → MO1 q ru rc E x (some (some g)) → twc d 108 [.ref b, .int (nI i), .int (nI K.length)] t2 (fun r t3 => r = none ∧ twp none d 147 41 [.ref 58, .ref (251 + 3 * e), sv, .int (nI (K.length + 1)), .int (nI (i + 1)), m5] [] t3 F) := by
      intro t2 m5 g o2 hcg hmo
      obtain ⟨f1, f2, f3, f4, f5, -⟩ := ofr t2 o2
      have hKl : (K ++ [g]).length = K.length + 1 := by simp
      refine c_108 (by omega) hb f3 (by omega) (by omega) ⟨rfl, ?_⟩
      have gi : bg t2 b i = g := by unfold bg; rw [f2]; exact hcg
      have sw := bg_swap (t := t2) (b := b) (i := i) (j := K.length)
      have o3 : tF (mvF b) t2 (tsr (tsr t2 (b + 1) i (br t2 b K.length)) (b + 1) K.length (br t2 b i)) := (tF.rf.sr (by unfold mvF bgF; omega)).sr (by unfold mvF bgF; omega)
      have w3 := bwf_swap (i := i) (j := K.length) f3 (by omega) (by omega)
      have := ih (K ++ [g]) (i + 1) (tsr (tsr t2 (b + 1) i (br t2 b K.length)) (b + 1) K.length (br t2 b i)) m5 (by omega) (by omega) hR' ((hO.tr f1).tr o3) w3 f4 (fun k hk => ?_) (fun k hk => ?_) (fun r hr => hbk r ⟨_, hmo, Or.inr (Or.inr ⟨g, rfl, hr⟩)⟩)
      · rw [hKl] at this; exact this
      · rw [sw k]
        by_cases z : k = K.length
        · rw [if_pos z, gi, z, gd_app_ge (Nat.le_refl _), Nat.sub_self]; rfl
        · have hk2 : k < K.length := by omega
          rw [if_neg z, if_neg (by omega), gd_app_lt hk2, f5 k (by omega) (by omega)]; exact hmK k hk2
      · rw [sw (i + 1 + k), if_neg (by omega), if_neg (by omega), f5 _ (by omega) (by omega), show i + 1 + k = i + (k + 1) by omega, hmR (k + 1) (by simp; omega)]; rfl
    have shal : ∀ t2 t3 : T, tF (shF (br t' b i)) t2 t3 → tF (alF (br t' b i)) t2 t3 := fun t2 t3 h => h.mono (fun y hy => by unfold shF at hy; unfold alF; omega)
    have alt : ∀ (t2 : T), tF (alF (br t' b i)) t' t2 → cS t2 (br t' b i) = x → EV q x (sn x) (E 5) (e2 0 0) ≠ 0 → ¬ (E 4 = 1 ∧ sn x = 6) → twc d 152 [.ref 58, .ref (251 + 3 * e), .ref (br t' b i)] t2 (fun r t3 => r = none ∧ twc d 156 [.ref 49, .ref (br t' b i)] t3 (fun r t4 => (r = some (.int 0) ∧ ∀ m5, twp none d 147 41 [.ref 58, .ref (251 + 3 * e), sv, .int (nI K.length), .int (nI (i + 1)), m5] [] t4 F) ∨ (r = some (.int 1) ∧ t4.2 58 3 = b ∧ ∀ m5, twc d 108 [.ref b, .int (nI i), .int (nI K.length)] t4 (fun r t3 => r = none ∧ twp none d 147 41 [.ref 58, .ref (251 + 3 * e), sv, .int (nI (K.length + 1)), .int (nI (i + 1)), m5] [] t3 F)))) := by
      intro t2 o2 c2 hev hno
      obtain ⟨f1, f2, f3, f4, f5, f6⟩ := ofr t2 o2
      have cw := crx_wf hwx hn hn6 hno
      refine c_152 (by omega) he hE f6.1 f6.2.2 i3 a59 a3 c2 hwx hn hn6 hno (fun t3 o3 h3 => ⟨rfl, ?_⟩)
      have o3' := o2.tr o3
      obtain ⟨g1, g2, g3, g4, g5, g6⟩ := ofr t3 o3'
      have hw3 := CHS_wf f6.1.2.1 cw.1 cw.2.1 cw.2.2 hE _ _ (Nat.le_refl _) h3
      refine c_156 (by omega) hr rfl hw3.1 hw3.2 cw.2.2 i3 g6.1 g6.2.1 (fun t4 o4 c4 => Or.inl ⟨rfl, fun m5 => ?_⟩) (fun t4 o4 c4 => Or.inr ⟨rfl, ?_, fun m5 => ?_⟩)
      · exact skip t4 m5 (o3'.tr (shal _ _ o4)) ⟨sn x, hn, hn6, Or.inr (Or.inr ⟨hev, hno, _, none, h3, c4, rfl⟩)⟩
      · rw [(o3'.tr (shal _ _ o4) 58 (by unfold alF; omega)).2]; exact hwk'
      · exact keep t4 m5 _ (o3'.tr (shal _ _ o4)) rfl ⟨sn x, hn, hn6, Or.inr (Or.inr ⟨hev, hno, _, some _, h3, c4, rfl⟩)⟩
    refine vc_ok none zH_147 85 false _ 147 41 _ _ _ _ ?_
    simp only [v_147_0, v_147_1, v_147_4, v_147_5, v_147_8, v_147_9, v_147_12, v_147_13, v_147_16_int, v_147_16_ref, v_147_17, v_147_18, v_147_21, v_147_23, v_147_26, v_147_27, v_147_28, v_147_31, v_147_34, v_147_35, v_147_36, v_147_37, v_147_38, v_147_39, v_147_41, h_147_41, v_147_43, v_147_44, v_147_47, v_147_50, v_147_53, v_147_54, v_147_57, v_147_60, v_147_62, v_147_63, v_147_65, v_147_66, v_147_69, v_147_71, v_147_72, v_147_75, v_147_76, v_147_77, v_147_80, v_147_83, v_147_84, v_147_87, v_147_90, v_147_92, v_147_95, v_147_97, v_147_100, v_147_101, v_147_102, v_147_103, v_147_104, v_147_106, v_147_109, v_147_110, v_147_113, v_147_115, v_147_118, v_147_121, v_147_122, v_147_125, v_147_127, v_147_128, v_147_131, v_147_134, v_147_137, v_147_140, v_147_141, v_147_144, v_147_145, v_147_148, v_147_149, vgi_0, vgi_s, vga_0, vga_s, vset_0, vset_s, vtk_0, vtk_s, vrc_0, vsw_0, vsw_s, List.all_cons, List.all_nil, zc1_i, zc1_r, Bool.and_true, Bool.and_self, true_and, and_true, List.length_cons, List.length_nil, Nat.zero_le, Nat.reduceLeDiff, Nat.reduceAdd, Nat.reduceLT, tg_58, tf_58_3, hwk', tb, hct, bag_arr _ hb]
    simp (disch := omega) only [nI_ltI, nI_clamp, vinb_n, hbd.2.2.1, bag_ref _ hb, hbi]
    rw [if_pos (by omega)]
    refine ⟨by omega, by omega, by show i < bN b; omega, ?_⟩
    simp only [v_147_0, v_147_1, v_147_4, v_147_5, v_147_8, v_147_9, v_147_12, v_147_13, v_147_16_int, v_147_16_ref, v_147_17, v_147_18, v_147_21, v_147_23, v_147_26, v_147_27, v_147_28, v_147_31, v_147_34, v_147_35, v_147_36, v_147_37, v_147_38, v_147_39, v_147_41, h_147_41, v_147_43, v_147_44, v_147_47, v_147_50, v_147_53, v_147_54, v_147_57, v_147_60, v_147_62, v_147_63, v_147_65, v_147_66, v_147_69, v_147_71, v_147_72, v_147_75, v_147_76, v_147_77, v_147_80, v_147_83, v_147_84, v_147_87, v_147_90, v_147_92, v_147_95, v_147_97, v_147_100, v_147_101, v_147_102, v_147_103, v_147_104, v_147_106, v_147_109, v_147_110, v_147_113, v_147_115, v_147_118, v_147_121, v_147_122, v_147_125, v_147_127, v_147_128, v_147_131, v_147_134, v_147_137, v_147_140, v_147_141, v_147_144, v_147_145, v_147_148, v_147_149, vgi_0, vgi_s, vga_0, vga_s, vset_0, vset_s, vtk_0, vtk_s, vrc_0, vsw_0, vsw_s, List.all_cons, List.all_nil, zc1_i, zc1_r, Bool.and_true, Bool.and_self, true_and, and_true, List.length_cons, List.length_nil, Nat.zero_le, Nat.reduceLeDiff, Nat.reduceAdd, Nat.reduceLT, tg_58, tf_58_0, et, h5, tg_44]
    refine c_122w (x := 0) (y := 0) (by omega) hv'.1 i3 hxi hwx hn hn6 e5 (by omega) (fun v hv => absurd hv (nofr v)) (fun t2 o2 c2 => ?_)
    have o2 := shal _ _ o2
    obtain ⟨f1, f2, f3, f4, f5, f6⟩ := ofr t2 o2
    have h42 := f6.2.2.2.2.2.2.1
    have ht2 : t2.1 (br t' b i) 0 = nI (sn x) := by rw [← cS_i, c2]; exact hn
    simp only [v_147_0, v_147_1, v_147_4, v_147_5, v_147_8, v_147_9, v_147_12, v_147_13, v_147_16_int, v_147_16_ref, v_147_17, v_147_18, v_147_21, v_147_23, v_147_26, v_147_27, v_147_28, v_147_31, v_147_34, v_147_35, v_147_36, v_147_37, v_147_38, v_147_39, v_147_41, h_147_41, v_147_43, v_147_44, v_147_47, v_147_50, v_147_53, v_147_54, v_147_57, v_147_60, v_147_62, v_147_63, v_147_65, v_147_66, v_147_69, v_147_71, v_147_72, v_147_75, v_147_76, v_147_77, v_147_80, v_147_83, v_147_84, v_147_87, v_147_90, v_147_92, v_147_95, v_147_97, v_147_100, v_147_101, v_147_102, v_147_103, v_147_104, v_147_106, v_147_109, v_147_110, v_147_113, v_147_115, v_147_118, v_147_121, v_147_122, v_147_125, v_147_127, v_147_128, v_147_131, v_147_134, v_147_137, v_147_140, v_147_141, v_147_144, v_147_145, v_147_148, v_147_149, vgi_0, vgi_s, vga_0, vga_s, vset_0, vset_s, vtk_0, vtk_s, vrc_0, vsw_0, vsw_s, List.all_cons, List.all_nil, zc1_i, zc1_r, Bool.and_true, Bool.and_self, true_and, and_true, List.length_cons, List.length_nil, Nat.zero_le, Nat.reduceLeDiff, Nat.reduceAdd, Nat.reduceLT, Option.toList_some, List.cons_append, List.nil_append, et, h42, i3, ht2, tg_58]
    by_cases hev : EV q x (sn x) (E 5) (e2 0 0) = 0
    · rw [if_pos hev, nI_1]
      exact skip t2 _ o2 ⟨sn x, hn, hn6, Or.inl ⟨hev, rfl⟩⟩
    · rw [if_neg hev]
      by_cases e40 : E 4 = 0
      · rw [if_pos (by rw [e40]; rfl)]
        refine twc.mono (alt t2 o2 c2 hev (fun z => by omega)) (fun r t3 h3 => ?_)
        obtain ⟨rfl, h3⟩ := h3
        simp only [v_147_0, v_147_1, v_147_4, v_147_5, v_147_8, v_147_9, v_147_12, v_147_13, v_147_16_int, v_147_16_ref, v_147_17, v_147_18, v_147_21, v_147_23, v_147_26, v_147_27, v_147_28, v_147_31, v_147_34, v_147_35, v_147_36, v_147_37, v_147_38, v_147_39, v_147_41, h_147_41, v_147_43, v_147_44, v_147_47, v_147_50, v_147_53, v_147_54, v_147_57, v_147_60, v_147_62, v_147_63, v_147_65, v_147_66, v_147_69, v_147_71, v_147_72, v_147_75, v_147_76, v_147_77, v_147_80, v_147_83, v_147_84, v_147_87, v_147_90, v_147_92, v_147_95, v_147_97, v_147_100, v_147_101, v_147_102, v_147_103, v_147_104, v_147_106, v_147_109, v_147_110, v_147_113, v_147_115, v_147_118, v_147_121, v_147_122, v_147_125, v_147_127, v_147_128, v_147_131, v_147_134, v_147_137, v_147_140, v_147_141, v_147_144, v_147_145, v_147_148, v_147_149, vgi_0, vgi_s, vga_0, vga_s, vset_0, vset_s, vtk_0, vtk_s, vrc_0, vsw_0, vsw_s, List.all_cons, List.all_nil, zc1_i, zc1_r, Bool.and_true, Bool.and_self, true_and, and_true, List.length_cons, List.length_nil, Nat.zero_le, Nat.reduceLeDiff, Nat.reduceAdd, Nat.reduceLT, Option.toList_none, List.nil_append, tg_58, tf_58_1, tg_49, i3]
        refine twc.mono h3 (fun r t4 h4 => ?_)
        rcases h4 with ⟨rfl, h4⟩ | ⟨rfl, w4, h4⟩
        · simp only [v_147_0, v_147_1, v_147_4, v_147_5, v_147_8, v_147_9, v_147_12, v_147_13, v_147_16_int, v_147_16_ref, v_147_17, v_147_18, v_147_21, v_147_23, v_147_26, v_147_27, v_147_28, v_147_31, v_147_34, v_147_35, v_147_36, v_147_37, v_147_38, v_147_39, v_147_41, h_147_41, v_147_43, v_147_44, v_147_47, v_147_50, v_147_53, v_147_54, v_147_57, v_147_60, v_147_62, v_147_63, v_147_65, v_147_66, v_147_69, v_147_71, v_147_72, v_147_75, v_147_76, v_147_77, v_147_80, v_147_83, v_147_84, v_147_87, v_147_90, v_147_92, v_147_95, v_147_97, v_147_100, v_147_101, v_147_102, v_147_103, v_147_104, v_147_106, v_147_109, v_147_110, v_147_113, v_147_115, v_147_118, v_147_121, v_147_122, v_147_125, v_147_127, v_147_128, v_147_131, v_147_134, v_147_137, v_147_140, v_147_141, v_147_144, v_147_145, v_147_148, v_147_149, vgi_0, vgi_s, vga_0, vga_s, vset_0, vset_s, vtk_0, vtk_s, vrc_0, vsw_0, vsw_s, List.all_cons, List.all_nil, zc1_i, zc1_r, Bool.and_true, Bool.and_self, true_and, and_true, List.length_cons, List.length_nil, Nat.zero_le, Nat.reduceLeDiff, Nat.reduceAdd, Nat.reduceLT, Option.toList_some, List.cons_append, List.nil_append]
          rw [if_pos trivial, nI_1]
          exact h4 _
        · simp only [v_147_0, v_147_1, v_147_4, v_147_5, v_147_8, v_147_9, v_147_12, v_147_13, v_147_16_int, v_147_16_ref, v_147_17, v_147_18, v_147_21, v_147_23, v_147_26, v_147_27, v_147_28, v_147_31, v_147_34, v_147_35, v_147_36, v_147_37, v_147_38, v_147_39, v_147_41, h_147_41, v_147_43, v_147_44, v_147_47, v_147_50, v_147_53, v_147_54, v_147_57, v_147_60, v_147_62, v_147_63, v_147_65, v_147_66, v_147_69, v_147_71, v_147_72, v_147_75, v_147_76, v_147_77, v_147_80, v_147_83, v_147_84, v_147_87, v_147_90, v_147_92, v_147_95, v_147_97, v_147_100, v_147_101, v_147_102, v_147_103, v_147_104, v_147_106, v_147_109, v_147_110, v_147_113, v_147_115, v_147_118, v_147_121, v_147_122, v_147_125, v_147_127, v_147_128, v_147_131, v_147_134, v_147_137, v_147_140, v_147_141, v_147_144, v_147_145, v_147_148, v_147_149, vgi_0, vgi_s, vga_0, vga_s, vset_0, vset_s, vtk_0, vtk_s, vrc_0, vsw_0, vsw_s, List.all_cons, List.all_nil, zc1_i, zc1_r, Bool.and_true, Bool.and_self, true_and, and_true, List.length_cons, List.length_nil, Nat.zero_le, Nat.reduceLeDiff, Nat.reduceAdd, Nat.reduceLT, Option.toList_some, List.cons_append, List.nil_append, tg_58, tf_58_3, w4, tb]
          rw [if_neg (by decide)]
          refine twc.mono (h4 (.ref (br t' b i))) (fun r t5 h5 => ?_)
          obtain ⟨rfl, h5⟩ := h5
          simp only [v_147_0, v_147_1, v_147_4, v_147_5, v_147_8, v_147_9, v_147_12, v_147_13, v_147_16_int, v_147_16_ref, v_147_17, v_147_18, v_147_21, v_147_23, v_147_26, v_147_27, v_147_28, v_147_31, v_147_34, v_147_35, v_147_36, v_147_37, v_147_38, v_147_39, v_147_41, h_147_41, v_147_43, v_147_44, v_147_47, v_147_50, v_147_53, v_147_54, v_147_57, v_147_60, v_147_62, v_147_63, v_147_65, v_147_66, v_147_69, v_147_71, v_147_72, v_147_75, v_147_76, v_147_77, v_147_80, v_147_83, v_147_84, v_147_87, v_147_90, v_147_92, v_147_95, v_147_97, v_147_100, v_147_101, v_147_102, v_147_103, v_147_104, v_147_106, v_147_109, v_147_110, v_147_113, v_147_115, v_147_118, v_147_121, v_147_122, v_147_125, v_147_127, v_147_128, v_147_131, v_147_134, v_147_137, v_147_140, v_147_141, v_147_144, v_147_145, v_147_148, v_147_149, vgi_0, vgi_s, vga_0, vga_s, vset_0, vset_s, vtk_0, vtk_s, vrc_0, vsw_0, vsw_s, List.all_cons, List.all_nil, zc1_i, zc1_r, Bool.and_true, Bool.and_self, true_and, and_true, List.length_cons, List.length_nil, Nat.zero_le, Nat.reduceLeDiff, Nat.reduceAdd, Nat.reduceLT, Option.toList_none, List.nil_append]
          rw [nI_1, nI_1]
          exact h5
      · have e41 : E 4 = 1 := by omega
        rw [if_neg (by rw [e41]; decide)]
        simp (disch := omega) only [li6, nI_eq]
        by_cases n6 : sn x = 6
        · rw [if_pos n6]
          exact ⟨Or.inl trivial, kf (hbk _ ⟨none, ⟨sn x, hn, hn6, Or.inr (Or.inl ⟨hev, ⟨e41, n6⟩, rfl⟩)⟩, Or.inl ⟨rfl, rfl⟩⟩) t2 (hO.tr f1) f3⟩
        · rw [if_neg n6]
          refine twc.mono (alt t2 o2 c2 hev (fun z => n6 z.2)) (fun r t3 h3 => ?_)
          obtain ⟨rfl, h3⟩ := h3
          simp only [v_147_0, v_147_1, v_147_4, v_147_5, v_147_8, v_147_9, v_147_12, v_147_13, v_147_16_int, v_147_16_ref, v_147_17, v_147_18, v_147_21, v_147_23, v_147_26, v_147_27, v_147_28, v_147_31, v_147_34, v_147_35, v_147_36, v_147_37, v_147_38, v_147_39, v_147_41, h_147_41, v_147_43, v_147_44, v_147_47, v_147_50, v_147_53, v_147_54, v_147_57, v_147_60, v_147_62, v_147_63, v_147_65, v_147_66, v_147_69, v_147_71, v_147_72, v_147_75, v_147_76, v_147_77, v_147_80, v_147_83, v_147_84, v_147_87, v_147_90, v_147_92, v_147_95, v_147_97, v_147_100, v_147_101, v_147_102, v_147_103, v_147_104, v_147_106, v_147_109, v_147_110, v_147_113, v_147_115, v_147_118, v_147_121, v_147_122, v_147_125, v_147_127, v_147_128, v_147_131, v_147_134, v_147_137, v_147_140, v_147_141, v_147_144, v_147_145, v_147_148, v_147_149, vgi_0, vgi_s, vga_0, vga_s, vset_0, vset_s, vtk_0, vtk_s, vrc_0, vsw_0, vsw_s, List.all_cons, List.all_nil, zc1_i, zc1_r, Bool.and_true, Bool.and_self, true_and, and_true, List.length_cons, List.length_nil, Nat.zero_le, Nat.reduceLeDiff, Nat.reduceAdd, Nat.reduceLT, Option.toList_none, List.nil_append, tg_58, tf_58_1, tg_49, i3]
          refine twc.mono h3 (fun r t4 h4 => ?_)
          rcases h4 with ⟨rfl, h4⟩ | ⟨rfl, w4, h4⟩
          · simp only [v_147_0, v_147_1, v_147_4, v_147_5, v_147_8, v_147_9, v_147_12, v_147_13, v_147_16_int, v_147_16_ref, v_147_17, v_147_18, v_147_21, v_147_23, v_147_26, v_147_27, v_147_28, v_147_31, v_147_34, v_147_35, v_147_36, v_147_37, v_147_38, v_147_39, v_147_41, h_147_41, v_147_43, v_147_44, v_147_47, v_147_50, v_147_53, v_147_54, v_147_57, v_147_60, v_147_62, v_147_63, v_147_65, v_147_66, v_147_69, v_147_71, v_147_72, v_147_75, v_147_76, v_147_77, v_147_80, v_147_83, v_147_84, v_147_87, v_147_90, v_147_92, v_147_95, v_147_97, v_147_100, v_147_101, v_147_102, v_147_103, v_147_104, v_147_106, v_147_109, v_147_110, v_147_113, v_147_115, v_147_118, v_147_121, v_147_122, v_147_125, v_147_127, v_147_128, v_147_131, v_147_134, v_147_137, v_147_140, v_147_141, v_147_144, v_147_145, v_147_148, v_147_149, vgi_0, vgi_s, vga_0, vga_s, vset_0, vset_s, vtk_0, vtk_s, vrc_0, vsw_0, vsw_s, List.all_cons, List.all_nil, zc1_i, zc1_r, Bool.and_true, Bool.and_self, true_and, and_true, List.length_cons, List.length_nil, Nat.zero_le, Nat.reduceLeDiff, Nat.reduceAdd, Nat.reduceLT, Option.toList_some, List.cons_append, List.nil_append]
            rw [if_pos trivial, nI_1]
            exact h4 _
          · simp only [v_147_0, v_147_1, v_147_4, v_147_5, v_147_8, v_147_9, v_147_12, v_147_13, v_147_16_int, v_147_16_ref, v_147_17, v_147_18, v_147_21, v_147_23, v_147_26, v_147_27, v_147_28, v_147_31, v_147_34, v_147_35, v_147_36, v_147_37, v_147_38, v_147_39, v_147_41, h_147_41, v_147_43, v_147_44, v_147_47, v_147_50, v_147_53, v_147_54, v_147_57, v_147_60, v_147_62, v_147_63, v_147_65, v_147_66, v_147_69, v_147_71, v_147_72, v_147_75, v_147_76, v_147_77, v_147_80, v_147_83, v_147_84, v_147_87, v_147_90, v_147_92, v_147_95, v_147_97, v_147_100, v_147_101, v_147_102, v_147_103, v_147_104, v_147_106, v_147_109, v_147_110, v_147_113, v_147_115, v_147_118, v_147_121, v_147_122, v_147_125, v_147_127, v_147_128, v_147_131, v_147_134, v_147_137, v_147_140, v_147_141, v_147_144, v_147_145, v_147_148, v_147_149, vgi_0, vgi_s, vga_0, vga_s, vset_0, vset_s, vtk_0, vtk_s, vrc_0, vsw_0, vsw_s, List.all_cons, List.all_nil, zc1_i, zc1_r, Bool.and_true, Bool.and_self, true_and, and_true, List.length_cons, List.length_nil, Nat.zero_le, Nat.reduceLeDiff, Nat.reduceAdd, Nat.reduceLT, Option.toList_some, List.cons_append, List.nil_append, tg_58, tf_58_3, w4, tb]
            rw [if_neg (by decide)]
            refine twc.mono (h4 (.ref (br t' b i))) (fun r t5 h5 => ?_)
            obtain ⟨rfl, h5⟩ := h5
            simp only [v_147_0, v_147_1, v_147_4, v_147_5, v_147_8, v_147_9, v_147_12, v_147_13, v_147_16_int, v_147_16_ref, v_147_17, v_147_18, v_147_21, v_147_23, v_147_26, v_147_27, v_147_28, v_147_31, v_147_34, v_147_35, v_147_36, v_147_37, v_147_38, v_147_39, v_147_41, h_147_41, v_147_43, v_147_44, v_147_47, v_147_50, v_147_53, v_147_54, v_147_57, v_147_60, v_147_62, v_147_63, v_147_65, v_147_66, v_147_69, v_147_71, v_147_72, v_147_75, v_147_76, v_147_77, v_147_80, v_147_83, v_147_84, v_147_87, v_147_90, v_147_92, v_147_95, v_147_97, v_147_100, v_147_101, v_147_102, v_147_103, v_147_104, v_147_106, v_147_109, v_147_110, v_147_113, v_147_115, v_147_118, v_147_121, v_147_122, v_147_125, v_147_127, v_147_128, v_147_131, v_147_134, v_147_137, v_147_140, v_147_141, v_147_144, v_147_145, v_147_148, v_147_149, vgi_0, vgi_s, vga_0, vga_s, vset_0, vset_s, vtk_0, vtk_s, vrc_0, vsw_0, vsw_s, List.all_cons, List.all_nil, zc1_i, zc1_r, Bool.and_true, Bool.and_self, true_and, and_true, List.length_cons, List.length_nil, Nat.zero_le, Nat.reduceLeDiff, Nat.reduceAdd, Nat.reduceLT, Option.toList_none, List.nil_append]
            rw [nI_1, nI_1]
            exact h5
theorem c_147 {f : St} {s : Nat} (hd : 44 ≤ d) (he : e < 8) (hb : b ∈ bags) (hbN : bN b = 40) (hb2 : b = 61 ∨ b = 161) (hbw : bwf t b) (hr : rwf q m ru rc) (hE : ewf q m E) (hv : cvm t q m ru rc e E) (hwk : t.2 58 3 = b) (hs : vtag s = 4) (hs2 : ¬ bgF b s) (hf : cS t s = f) (hwf : wfS f) (kf : MV q ru rc E f none → ∀ t', tF (mvF b) t t' → bwf t' b → F (some (.int 0)) t') (k1 : ∀ K, MV q ru rc E f (some K) → ∀ t', tF (mvF b) t t' → bwf t' b → bL t' b K → F (some (.int 1)) t') : twc d 147 [.ref 58, .ref (251 + 3 * e), .ref s] t F := by
  have hbd := bag_all b hb
  have tb : vtag b = 8 := hbd.2.2.2.2.2.1
  have et := ed_tag he
  have n4 := st_nb hs hb
  have e28 := hE.2.2.1
  have e316 : E 3 < 16 := hE.2.2.2.2.1
  refine ⟨by omega, ?_⟩
  rw [ze_147]
  refine vc_ok none zH_147 85 false _ 147 0 _ _ _ _ ?_
  simp only [v_147_0, v_147_1, v_147_4, v_147_5, v_147_8, v_147_9, v_147_12, v_147_13, v_147_16_int, v_147_16_ref, v_147_17, v_147_18, v_147_21, v_147_23, v_147_26, v_147_27, v_147_28, v_147_31, v_147_34, v_147_35, v_147_36, v_147_37, v_147_38, v_147_39, v_147_41, h_147_41, v_147_43, v_147_44, v_147_47, v_147_50, v_147_53, v_147_54, v_147_57, v_147_60, v_147_62, v_147_63, v_147_65, v_147_66, v_147_69, v_147_71, v_147_72, v_147_75, v_147_76, v_147_77, v_147_80, v_147_83, v_147_84, v_147_87, v_147_90, v_147_92, v_147_95, v_147_97, v_147_100, v_147_101, v_147_102, v_147_103, v_147_104, v_147_106, v_147_109, v_147_110, v_147_113, v_147_115, v_147_118, v_147_121, v_147_122, v_147_125, v_147_127, v_147_128, v_147_131, v_147_134, v_147_137, v_147_140, v_147_141, v_147_144, v_147_145, v_147_148, v_147_149, vgi_0, vgi_s, vga_0, vga_s, vset_0, vset_s, vtk_0, vtk_s, vrc_0, vsw_0, vsw_s, List.all_cons, List.all_nil, zc1_i, zc1_r, Bool.and_true, Bool.and_self, true_and, and_true, List.length_cons, List.length_nil, Nat.zero_le, Nat.reduceLeDiff, Nat.reduceAdd, Nat.reduceLT, tg_58, tf_58_3, hwk, tb]
  have hwk0 : (tsi t b 1 0).2 58 3 = b := hwk
  simp only [hwk0]
  have o0 : tF (mvF b) t (tsi t b 1 0) := tF.rf.si (by unfold mvF bgF; omega)
  have bw0 := hbw.q (t' := tsi t b 1 0) rfl
  obtain ⟨i1, i2, i3⟩ := hbw.1 0 (by omega)
  have n5 := st_nb i3 hb
  have hs0 : cS (tsi t b 1 0) s = f := by
    rw [cS_of (fun j => tsi_ne (by omega)) (fun j => tsi_ne (by omega))]; exact hf
  refine ⟨tb, ?_⟩
  refine c_106 (c := 0) (by omega) hb bw0.1 tsi_eq (by omega) hs (fun t1 o1 e1 w1 => ?_)
  rw [bw0.2] at o1 e1
  have hL : bL t1 b [f] := ⟨w1, fun k hk => by
    have : k = 0 := by simp at hk; exact hk
    subst this
    unfold bg
    rw [(bw0.1.q o1.1).2, bw0.2, e1]; exact hs0⟩
  have o1' : tF (mvF b) t t1 := o0.tr (tF.of o1 (fun y hy => by simp at hy; unfold mvF bgF; omega))
  have bw1 := (bw0.1.q o1.1).1
  have wk1 : t1.2 58 3 = b := by rw [(o1' 58 (by unfold mvF bgF; omega)).2]; exact hwk
  have hv1 := hv.k hr.1 he hb2 hbN o1'
  have h2 := hv1.2.2.2.2.1
  have h3 := hv1.2.2.2.2.2.1
  have h1f : ∀ x, x ∈ [f] → wfS x := fun x hx => by rw [List.mem_singleton.mp hx]; exact hwf
  have go : ∀ (t2 : T) (L : List St) (m5 : Value), tF (mvF b) t t2 → bwf t2 b → bL t2 b L → ((E 2 = 15 ∧ L = [f]) ∨ (E 2 ≠ 15 ∧ FOx (E 2) (E 3) [f] 0 (some L))) → twp none (d - 1) 147 41 [.ref 58, .ref (251 + 3 * e), .ref s, .int (nI 0), .int (nI 0), m5] [] t2 F := by
    intro t2 L m5 o2 bw2 l2 hL
    have wL : (∀ x, x ∈ L → wfS x) ∧ L.length ≤ 40 := by
      rcases hL with ⟨-, rfl⟩ | ⟨h15, k, hk⟩
      · exact ⟨h1f, by simp⟩
      · exact FO_wf (by omega) (by omega) k _ _ L h1f (by simp) hk
    have mk : ∀ r, MVA q ru rc E L [] r → MV q ru rc E f r := fun r h => ⟨some L, by
      rcases hL with ⟨h15, rfl⟩ | h15
      · exact Or.inl ⟨h15, rfl⟩
      · exact Or.inr h15, Or.inr ⟨L, rfl, h⟩⟩
    exact l_147 (t := t) (Lf := L) (by omega) he hb hbN hb2 hr hE hv hwk wL.2 (fun h t3 o3 w3 => kf (mk _ h) t3 o3 w3) (fun K h t3 o3 w3 l3 => k1 K (mk _ h) t3 o3 w3 l3) L [] 0 t2 m5 (by omega) (by simp) wL.1 o2 bw2 l2.1 (fun k hk => by simp at hk) (fun k hk => by rw [Nat.zero_add]; exact l2.2 k hk) (fun r h => h)
  simp only [v_147_0, v_147_1, v_147_4, v_147_5, v_147_8, v_147_9, v_147_12, v_147_13, v_147_16_int, v_147_16_ref, v_147_17, v_147_18, v_147_21, v_147_23, v_147_26, v_147_27, v_147_28, v_147_31, v_147_34, v_147_35, v_147_36, v_147_37, v_147_38, v_147_39, v_147_41, h_147_41, v_147_43, v_147_44, v_147_47, v_147_50, v_147_53, v_147_54, v_147_57, v_147_60, v_147_62, v_147_63, v_147_65, v_147_66, v_147_69, v_147_71, v_147_72, v_147_75, v_147_76, v_147_77, v_147_80, v_147_83, v_147_84, v_147_87, v_147_90, v_147_92, v_147_95, v_147_97, v_147_100, v_147_101, v_147_102, v_147_103, v_147_104, v_147_106, v_147_109, v_147_110, v_147_113, v_147_115, v_147_118, v_147_121, v_147_122, v_147_125, v_147_127, v_147_128, v_147_131, v_147_134, v_147_137, v_147_140, v_147_141, v_147_144, v_147_145, v_147_148, v_147_149, vgi_0, vgi_s, vga_0, vga_s, vset_0, vset_s, vtk_0, vtk_s, vrc_0, vsw_0, vsw_s, List.all_cons, List.all_nil, zc1_i, zc1_r, Bool.and_true, Bool.and_self, true_and, and_true, List.length_cons, List.length_nil, Nat.zero_le, Nat.reduceLeDiff, Nat.reduceAdd, Nat.reduceLT, Option.toList_some, List.cons_append, List.nil_append, et, h2, tg_58]
  simp (disch := omega) only [li15, nI_eq]
  by_cases p15 : E 2 = 15
  · rw [if_pos p15]
    exact go t1 [f] _ o1' bw1 hL (Or.inl ⟨p15, rfl⟩)
  · rw [if_neg p15]
    have ofq : ∀ t2, tQ (bgF b) t1 t2 → tF (mvF b) t t2 ∧ bwf t2 b := fun t2 o2 => ⟨o1'.tr (fun y hy => ⟨fun k => o2.2 y (fun z => hy (Or.inl z)) k, fun k => by rw [o2.1]⟩), (bw1.q o2.1).1⟩
    refine c_148 (p := E 2) (a := E 3) (L0 := [f]) (by omega) he (by omega) (by omega) (fun h6 => hE.2.2.2.1 h6 (by omega)) hb hbN hb2 bw1 wk1 h2 h3 hL (by simp) h1f (fun hF t2 o2 => ?_) (fun L hF t2 o2 l2 => ?_)
    · simp only [v_147_0, v_147_1, v_147_4, v_147_5, v_147_8, v_147_9, v_147_12, v_147_13, v_147_16_int, v_147_16_ref, v_147_17, v_147_18, v_147_21, v_147_23, v_147_26, v_147_27, v_147_28, v_147_31, v_147_34, v_147_35, v_147_36, v_147_37, v_147_38, v_147_39, v_147_41, h_147_41, v_147_43, v_147_44, v_147_47, v_147_50, v_147_53, v_147_54, v_147_57, v_147_60, v_147_62, v_147_63, v_147_65, v_147_66, v_147_69, v_147_71, v_147_72, v_147_75, v_147_76, v_147_77, v_147_80, v_147_83, v_147_84, v_147_87, v_147_90, v_147_92, v_147_95, v_147_97, v_147_100, v_147_101, v_147_102, v_147_103, v_147_104, v_147_106, v_147_109, v_147_110, v_147_113, v_147_115, v_147_118, v_147_121, v_147_122, v_147_125, v_147_127, v_147_128, v_147_131, v_147_134, v_147_137, v_147_140, v_147_141, v_147_144, v_147_145, v_147_148, v_147_149, vgi_0, vgi_s, vga_0, vga_s, vset_0, vset_s, vtk_0, vtk_s, vrc_0, vsw_0, vsw_s, List.all_cons, List.all_nil, zc1_i, zc1_r, Bool.and_true, Bool.and_self, true_and, and_true, List.length_cons, List.length_nil, Nat.zero_le, Nat.reduceLeDiff, Nat.reduceAdd, Nat.reduceLT, Option.toList_some, List.cons_append, List.nil_append]
      rw [if_pos trivial]
      exact ⟨Or.inl trivial, kf ⟨none, Or.inr ⟨p15, hF⟩, Or.inl ⟨rfl, rfl⟩⟩ t2 (ofq t2 o2).1 (ofq t2 o2).2⟩
    · simp only [v_147_0, v_147_1, v_147_4, v_147_5, v_147_8, v_147_9, v_147_12, v_147_13, v_147_16_int, v_147_16_ref, v_147_17, v_147_18, v_147_21, v_147_23, v_147_26, v_147_27, v_147_28, v_147_31, v_147_34, v_147_35, v_147_36, v_147_37, v_147_38, v_147_39, v_147_41, h_147_41, v_147_43, v_147_44, v_147_47, v_147_50, v_147_53, v_147_54, v_147_57, v_147_60, v_147_62, v_147_63, v_147_65, v_147_66, v_147_69, v_147_71, v_147_72, v_147_75, v_147_76, v_147_77, v_147_80, v_147_83, v_147_84, v_147_87, v_147_90, v_147_92, v_147_95, v_147_97, v_147_100, v_147_101, v_147_102, v_147_103, v_147_104, v_147_106, v_147_109, v_147_110, v_147_113, v_147_115, v_147_118, v_147_121, v_147_122, v_147_125, v_147_127, v_147_128, v_147_131, v_147_134, v_147_137, v_147_140, v_147_141, v_147_144, v_147_145, v_147_148, v_147_149, vgi_0, vgi_s, vga_0, vga_s, vset_0, vset_s, vtk_0, vtk_s, vrc_0, vsw_0, vsw_s, List.all_cons, List.all_nil, zc1_i, zc1_r, Bool.and_true, Bool.and_self, true_and, and_true, List.length_cons, List.length_nil, Nat.zero_le, Nat.reduceLeDiff, Nat.reduceAdd, Nat.reduceLT, Option.toList_some, List.cons_append, List.nil_append]
      rw [if_neg (by decide)]
      exact go t2 L _ (ofq t2 o2).1 (ofq t2 o2).2 l2 (Or.inr ⟨p15, hF⟩)
end CMV
