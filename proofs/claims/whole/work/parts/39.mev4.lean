/-! The reference's evaluator: kinds 6 to 8, and all. -/
theorem way_mono {n : Nat} {R R' : Nat → Nat → Prop} {x y : Nat} (h : ∀ u v, u < n → v < n → R u v → R' u v) (hx : x < n) (hw : way n R x y) : way n R' x y := (way_ind (P := fun v => way n R' x v) (fun v hv hr => way_one hv (h x v hx hv hr)) (fun u v hu hp hv hr => way_snoc hp hv (h u v hu hv hr)) hw).1
theorem clo_congr {n : Nat} {g g' : Nat → Nat → Int32} {x y : Nat} (h : ∀ u v, u < n → v < n → g u v = g' u v) (hx : x < n) : clo n g x y = clo n g' x y := by
  have e1 : way n (fun u v => g u v = 1) x y ↔ way n (fun u v => g' u v = 1) x y := ⟨way_mono (fun u v hu hv z => (h u v hu hv) ▸ z) hx, way_mono (fun u v hu hv z => (h u v hu hv).symm ▸ z) hx⟩
  have e2 : way n (fun u v => g u v ≠ 0) x y ↔ way n (fun u v => g' u v ≠ 0) x y := ⟨way_mono (fun u v hu hv z => (h u v hu hv) ▸ z) hx, way_mono (fun u v hu hv z => (h u v hu hv).symm ▸ z) hx⟩
  by_cases h1 : way n (fun u v => g u v = 1) x y
  · rw [clo_1 h1, clo_1 (e1.mp h1)]
  · by_cases h2 : way n (fun u v => g u v ≠ 0) x y
    · rw [clo_2 h1 h2, clo_2 (fun z => h1 (e1.mpr z)) (e2.mp h2)]
    · rw [clo_0 h1 h2, clo_0 (fun z => h1 (e1.mpr z)) (fun z => h2 (e2.mpr z))]
section ME4
variable {d : Nat} {t : T} {F : Option Value → T → Prop} {q : FT} {m s n i : Nat} {f : St} {e : Nat → Nat}
def qX (q : FT) (i : Nat) (g : Nat → Int32) (u : Nat) : Int32 := if kd q i = 6 then orN g u else andN g u
theorem qX_tri {g : Nat → Int32} {u : Nat} (h : ∀ w, w < u → tri (g w)) : tri (qX q i g u) := by
  unfold qX
  split
  · exact tri_orN u h
  · exact tri_andN u h
theorem c_66w {top u : Nat} {res sv : Int32} {g : Nat → Int32} (hd : 4 ≤ d) (hq : mvp t q m s f n) (hi : i < m) (hk : kd q i = 6 ∨ kd q i = 7) (ht : top < 8) (hu : u ≤ n) (hres : tri res) (h0 : u = 0 → t.1 506 (va q i) = sv) (h1 : 0 < u → t.1 510 top = sv ∧ t.1 509 top = qX q i g (u - 1) ∧ res = g (u - 1)) (hg : ∀ w, w < n → tri (g w)) (h : ∀ t2, tX (fun b k => (b = 509 ∨ b = 510) ∧ k = top) t t2 → t2.1 509 top = qX q i g u → t2.1 510 top = sv → F (some (.int (if u < n then nI (pc q i) else -1))) (tsi t2 506 (va q i) (if u < n then nI u else sv))) : twc d 66 [.ref 483, .int (nI s), .int (nI top), .int (nI i), .int (nI u), .int res] t F := by
  refine c_66 hd hq hi hk ht hu hres (fun z => by rw [(h1 z).2.1]; exact qX_tri (fun w hw => hg w (by omega))) (fun t1 e1 => ?_)
  by_cases hu0 : u = 0
  · rw [if_pos hu0] at e1
    have e9 : t1.1 509 top = qX q i g u := by
      rw [e1, tsi_eq, hu0]
      rfl
    have e10 : t1.1 510 top = sv := by
      rw [e1, tsi_ne (by omega), tsi_eq]
      exact h0 hu0
    rw [e10]
    refine h t1 ?_ e9 e10
    rw [e1]
    exact (tX.si ⟨Or.inr rfl, rfl⟩).si2 ⟨Or.inl rfl, rfl⟩
  · rw [if_neg hu0] at e1
    obtain ⟨g1, g2, g3⟩ := h1 (by omega)
    have e9 : t1.1 509 top = qX q i g u := by
      rw [e1, tsi_eq, g2, g3]
      obtain ⟨v, rfl⟩ : ∃ v, u = v + 1 := ⟨u - 1, by omega⟩
      unfold qX
      rcases hk with z | z
      · simp only [if_pos z]
        rfl
      · have z6 : ¬ kd q i = 6 := by omega
        simp only [if_neg z6]
        rfl
    have e10 : t1.1 510 top = sv := by
      rw [e1, tsi_ne (by omega)]
      exact g1
    rw [e10]
    refine h t1 ?_ e9 e10
    rw [e1]
    exact tX.si ⟨Or.inl rfl, rfl⟩
theorem mve_eu {a u : Nat} {t' : T} (he : mve t e) (ha : a < 6) (hu : u < 6) (h : ∀ v, v < 6 → v ≠ a → t'.1 506 v = t.1 506 v) (h2 : t'.1 506 a = nI u) : mve t' (eu e a u) := by
  intro v hv
  unfold eu
  by_cases z : v = a
  · rw [if_pos z, z]
    exact ⟨h2, hu⟩
  · rw [if_neg z, h v hv z]
    exact he v hv
theorem evm_q (hd : 6 ≤ d) (hi : i < m) (hk : kd q i = 6 ∨ kd q i = 7) (hE : EVM q m s (pc q i) d) : EVM q m s i d := by
  intro t n top f e st res j5 j6 j7 j8 F hq he hfr ht h7 h8 hr h
  have hn := hq.2.2.2.2.2.2.2
  have hm := hq.1
  obtain ⟨-, -, -, -, -, -, -, -, -, -, -, w3, -, -, w67, -⟩ := hq.2.1 i hi
  obtain ⟨p1, p2, p3, p4⟩ := w3 (by omega)
  obtain ⟨v1, v2, v3⟩ := w67 hk
  have p4 := p4 (by omega)
  have hfr2 : ∀ u, u < n → ∀ v, fb q (pc q i) v → eu e (va q i) u v < n := by
    intro u hu v hv
    unfold eu
    by_cases z : v = va q i
    · rw [if_pos z]; exact hu
    · rw [if_neg z]
      rcases v3 v hv with y | y
      · exact absurd y z
      · exact hfr v y
  have hg : ∀ w, w < n → tri (EV q f n (pc q i) (eu e (va q i) w)) := fun w hw => EV_tri hq.2.1 hq.2.2.2.2.2.1 hn _ (by omega) _ (hfr2 w hw)
  clear w3 w67 v3
  suffices H : ∀ (j u : Nat) (t' : T) (res : Int32) (j5 j6 j7 j8 : Value), u + j = n → tX (fun b k => mP top (cl q i) b k ∨ (b = 506 ∧ k = va q i)) t t' → t'.1 507 top = nI i → t'.1 508 top = nI u → (u = 0 → t'.1 506 (va q i) = t.1 506 (va q i)) → (0 < u → t'.1 510 top = t.1 506 (va q i) ∧ t'.1 509 top = qX q i (fun u => EV q f n (pc q i) (eu e (va q i) u)) (u - 1) ∧ res = EV q f n (pc q i) (eu e (va q i) (u - 1))) → tri res → twp none d 65 11 [.ref 483, .int (nI s), .int st, .int (nI top), .int res, j5, j6, j7, j8] [] t' F by
    exact H n 0 t res _ _ _ _ (by omega) tX.rf h7 h8 (fun _ => rfl) (fun z => absurd z (by omega)) hr
  intro j
  induction j with
  | zero =>
    intro u t' res j5 j6 j7 j8 hu hx f7 f8 h0 h1 hr
    have hu : u = n := by omega
    subst hu
    have hq' : mvp t' q m s f u := hq.keep (fun b k hb => hx.2 b k (by rintro (z | z); exact mP_lo (by omega) z; omega))
    refine m65_head (k := u) (by omega) hq' hi f7 f8 (by omega) ?_
    have hq2 : mvp (tsi t' 508 top (nI (u + 1))) q m s f u := hq'.keep (fun b k hb => tsi_ne (by omega))
    refine vc_ok none zH_65 150 false _ 65 53 _ _ _ _ ?_
    simp only [v_65_0, v_65_1, v_65_2, v_65_3, v_65_5, v_65_6, v_65_7, v_65_8, v_65_11, h_65_11, v_65_12, v_65_15, v_65_16, v_65_19, v_65_20, v_65_21, v_65_23, v_65_24, v_65_27, v_65_29, v_65_30, v_65_32, v_65_33, v_65_36, v_65_37, v_65_38, v_65_40, v_65_41, v_65_44, v_65_45, v_65_46, v_65_47, v_65_48, v_65_49, v_65_50, v_65_51, v_65_53, h_65_53, v_65_55, v_65_56, v_65_59, v_65_60, v_65_61, v_65_63, v_65_66, v_65_68, v_65_71, v_65_73, v_65_75, v_65_78, v_65_80, v_65_83, v_65_84, v_65_87, v_65_89, v_65_90, v_65_93, v_65_95, v_65_96, v_65_99, v_65_101, v_65_102, v_65_105, v_65_106, v_65_109, v_65_111, v_65_112, v_65_115, v_65_116, h_65_116, v_65_118, v_65_119, v_65_122, v_65_123, v_65_125, v_65_126, v_65_129, v_65_131, v_65_134, v_65_135, v_65_138, v_65_139, v_65_140, h_65_140, v_65_141, v_65_143, v_65_146, v_65_148, v_65_151, v_65_153, v_65_154, v_65_157, v_65_159, v_65_162, v_65_165, v_65_167, v_65_168, v_65_171, v_65_172, v_65_175, v_65_176, v_65_177, v_65_179, v_65_182, v_65_185, v_65_186, v_65_189, v_65_190, v_65_191, v_65_193, v_65_196, h_65_196, v_65_198, v_65_201, v_65_203, v_65_205, v_65_208, v_65_209, v_65_210, v_65_211, v_65_213, v_65_215, v_65_217, v_65_220, v_65_222, v_65_224, v_65_227, v_65_229, v_65_232, v_65_233, v_65_236, v_65_237, v_65_238, h_65_238, v_65_240, v_65_243, v_65_244, v_65_245, v_65_246, v_65_248, v_65_250, v_65_252, v_65_255, v_65_257, v_65_259, v_65_262, v_65_264, v_65_267, v_65_268, v_65_271, v_65_272, v_65_275, v_65_276, v_65_279, v_65_281, v_65_282, v_65_283, v_65_284, v_65_285, v_65_288, v_65_289, v_65_290, v_65_293, v_65_294, v_65_297, v_65_299, v_65_300, v_65_301, v_65_302, v_65_303, h_65_303, v_65_305, h_65_305, v_65_307, v_65_310, v_65_313, v_65_314, v_65_315, v_65_317, v_65_320, v_65_323, v_65_326, v_65_329, v_65_331, vgi_0, vgi_s, vga_0, vga_s, vset_0, vset_s, vtk_0, vtk_s, vrc_0, vsw_0, vsw_s, List.all_cons, List.all_nil, zc1_i, zc1_r, Bool.and_true, Bool.and_self, true_and, and_true, List.length_cons, List.length_nil, Nat.zero_le, Nat.reduceLeDiff, Nat.reduceAdd, tg_483]
    rw [li3, if_neg (nI_nlt (by omega) (by omega)), li6, if_neg (nI_nlt (by omega) (by omega)), li8, if_pos (nI_lt (by omega) (by omega))]
    refine c_66w (sv := t.1 506 (va q i)) (g := fun u => EV q f _ (pc q i) (eu e (va q i) u)) (by omega) hq2 hi hk (by omega) (Nat.le_refl _) hr (fun z => by rw [tsi_ne (by omega)]; exact h0 z) (fun z => by rw [tsi_ne (by omega), tsi_ne (by omega)]; exact h1 z) hg (fun t2 x2 e9 e10 => ?_)
    rw [if_neg (Nat.lt_irrefl _), if_neg (Nat.lt_irrefl _)]
    simp only [v_65_0, v_65_1, v_65_2, v_65_3, v_65_5, v_65_6, v_65_7, v_65_8, v_65_11, h_65_11, v_65_12, v_65_15, v_65_16, v_65_19, v_65_20, v_65_21, v_65_23, v_65_24, v_65_27, v_65_29, v_65_30, v_65_32, v_65_33, v_65_36, v_65_37, v_65_38, v_65_40, v_65_41, v_65_44, v_65_45, v_65_46, v_65_47, v_65_48, v_65_49, v_65_50, v_65_51, v_65_53, h_65_53, v_65_55, v_65_56, v_65_59, v_65_60, v_65_61, v_65_63, v_65_66, v_65_68, v_65_71, v_65_73, v_65_75, v_65_78, v_65_80, v_65_83, v_65_84, v_65_87, v_65_89, v_65_90, v_65_93, v_65_95, v_65_96, v_65_99, v_65_101, v_65_102, v_65_105, v_65_106, v_65_109, v_65_111, v_65_112, v_65_115, v_65_116, h_65_116, v_65_118, v_65_119, v_65_122, v_65_123, v_65_125, v_65_126, v_65_129, v_65_131, v_65_134, v_65_135, v_65_138, v_65_139, v_65_140, h_65_140, v_65_141, v_65_143, v_65_146, v_65_148, v_65_151, v_65_153, v_65_154, v_65_157, v_65_159, v_65_162, v_65_165, v_65_167, v_65_168, v_65_171, v_65_172, v_65_175, v_65_176, v_65_177, v_65_179, v_65_182, v_65_185, v_65_186, v_65_189, v_65_190, v_65_191, v_65_193, v_65_196, h_65_196, v_65_198, v_65_201, v_65_203, v_65_205, v_65_208, v_65_209, v_65_210, v_65_211, v_65_213, v_65_215, v_65_217, v_65_220, v_65_222, v_65_224, v_65_227, v_65_229, v_65_232, v_65_233, v_65_236, v_65_237, v_65_238, h_65_238, v_65_240, v_65_243, v_65_244, v_65_245, v_65_246, v_65_248, v_65_250, v_65_252, v_65_255, v_65_257, v_65_259, v_65_262, v_65_264, v_65_267, v_65_268, v_65_271, v_65_272, v_65_275, v_65_276, v_65_279, v_65_281, v_65_282, v_65_283, v_65_284, v_65_285, v_65_288, v_65_289, v_65_290, v_65_293, v_65_294, v_65_297, v_65_299, v_65_300, v_65_301, v_65_302, v_65_303, h_65_303, v_65_305, h_65_305, v_65_307, v_65_310, v_65_313, v_65_314, v_65_315, v_65_317, v_65_320, v_65_323, v_65_326, v_65_329, v_65_331, vgi_0, vgi_s, vga_0, vga_s, vset_0, vset_s, vtk_0, vtk_s, vrc_0, vsw_0, vsw_s, List.all_cons, List.all_nil, zc1_i, zc1_r, Bool.and_true, Bool.and_self, true_and, and_true, List.length_cons, List.length_nil, Nat.zero_le, Nat.reduceLeDiff, Nat.reduceAdd, Option.toList_some, List.cons_append, List.nil_append, tg_483, tf_483_30, tg_509, ln_509]
    rw [if_pos (by decide)]
    simp (disch := omega) only [nI_clamp, vinb_n]
    rw [tsi_ne (by omega), e9]
    refine ⟨by omega, ?_⟩
    refine vc_ok none zH_65 150 false _ 65 238 _ _ _ _ ?_
    simp only [v_65_0, v_65_1, v_65_2, v_65_3, v_65_5, v_65_6, v_65_7, v_65_8, v_65_11, h_65_11, v_65_12, v_65_15, v_65_16, v_65_19, v_65_20, v_65_21, v_65_23, v_65_24, v_65_27, v_65_29, v_65_30, v_65_32, v_65_33, v_65_36, v_65_37, v_65_38, v_65_40, v_65_41, v_65_44, v_65_45, v_65_46, v_65_47, v_65_48, v_65_49, v_65_50, v_65_51, v_65_53, h_65_53, v_65_55, v_65_56, v_65_59, v_65_60, v_65_61, v_65_63, v_65_66, v_65_68, v_65_71, v_65_73, v_65_75, v_65_78, v_65_80, v_65_83, v_65_84, v_65_87, v_65_89, v_65_90, v_65_93, v_65_95, v_65_96, v_65_99, v_65_101, v_65_102, v_65_105, v_65_106, v_65_109, v_65_111, v_65_112, v_65_115, v_65_116, h_65_116, v_65_118, v_65_119, v_65_122, v_65_123, v_65_125, v_65_126, v_65_129, v_65_131, v_65_134, v_65_135, v_65_138, v_65_139, v_65_140, h_65_140, v_65_141, v_65_143, v_65_146, v_65_148, v_65_151, v_65_153, v_65_154, v_65_157, v_65_159, v_65_162, v_65_165, v_65_167, v_65_168, v_65_171, v_65_172, v_65_175, v_65_176, v_65_177, v_65_179, v_65_182, v_65_185, v_65_186, v_65_189, v_65_190, v_65_191, v_65_193, v_65_196, h_65_196, v_65_198, v_65_201, v_65_203, v_65_205, v_65_208, v_65_209, v_65_210, v_65_211, v_65_213, v_65_215, v_65_217, v_65_220, v_65_222, v_65_224, v_65_227, v_65_229, v_65_232, v_65_233, v_65_236, v_65_237, v_65_238, h_65_238, v_65_240, v_65_243, v_65_244, v_65_245, v_65_246, v_65_248, v_65_250, v_65_252, v_65_255, v_65_257, v_65_259, v_65_262, v_65_264, v_65_267, v_65_268, v_65_271, v_65_272, v_65_275, v_65_276, v_65_279, v_65_281, v_65_282, v_65_283, v_65_284, v_65_285, v_65_288, v_65_289, v_65_290, v_65_293, v_65_294, v_65_297, v_65_299, v_65_300, v_65_301, v_65_302, v_65_303, h_65_303, v_65_305, h_65_305, v_65_307, v_65_310, v_65_313, v_65_314, v_65_315, v_65_317, v_65_320, v_65_323, v_65_326, v_65_329, v_65_331, vgi_0, vgi_s, vga_0, vga_s, vset_0, vset_s, vtk_0, vtk_s, vrc_0, vsw_0, vsw_s, List.all_cons, List.all_nil, zc1_i, zc1_r, Bool.and_true, Bool.and_self, true_and, and_true, List.length_cons, List.length_nil, Nat.zero_le, Nat.reduceLeDiff, Nat.reduceAdd]
    refine m65_pop ?_
    have hev : qX q i (fun w => EV q f u (pc q i) (eu e (va q i) w)) u = EV q f u i e := by
      unfold qX
      rcases hk with z | z
      · rw [if_pos z, EV_6 hq.2.1 hi z]
      · rw [if_neg (by omega), EV_7 hq.2.1 hi z]
    rw [hev]
    refine h _ _ _ _ _ ⟨x2.1.trans hx.1, fun b k hb => ?_⟩
    by_cases z : b = 506 ∧ k = va q i
    · rw [z.1, z.2, tsi_eq]
    · rw [tsi_ne z, x2.2 b k, tsi_ne, hx.2 b k (by rintro (y | y); exact hb y; exact z y)]
      · rintro ⟨rfl, rfl⟩; exact hb mp8
      · rintro ⟨rfl | rfl, rfl⟩
        · exact hb mp9
        · exact hb (mP_top (by omega) (by omega))
  | succ j ih =>
    intro u t' res j5 j6 j7 j8 hu hx f7 f8 h0 h1 hr
    have hun : u < n := by omega
    have hq' : mvp t' q m s f n := hq.keep (fun b k hb => hx.2 b k (by rintro (z | z); exact mP_lo (by omega) z; omega))
    refine m65_head (k := u) (by omega) hq' hi f7 f8 (by omega) ?_
    have hq2 : mvp (tsi t' 508 top (nI (u + 1))) q m s f n := hq'.keep (fun b k hb => tsi_ne (by omega))
    refine vc_ok none zH_65 150 false _ 65 53 _ _ _ _ ?_
    simp only [v_65_0, v_65_1, v_65_2, v_65_3, v_65_5, v_65_6, v_65_7, v_65_8, v_65_11, h_65_11, v_65_12, v_65_15, v_65_16, v_65_19, v_65_20, v_65_21, v_65_23, v_65_24, v_65_27, v_65_29, v_65_30, v_65_32, v_65_33, v_65_36, v_65_37, v_65_38, v_65_40, v_65_41, v_65_44, v_65_45, v_65_46, v_65_47, v_65_48, v_65_49, v_65_50, v_65_51, v_65_53, h_65_53, v_65_55, v_65_56, v_65_59, v_65_60, v_65_61, v_65_63, v_65_66, v_65_68, v_65_71, v_65_73, v_65_75, v_65_78, v_65_80, v_65_83, v_65_84, v_65_87, v_65_89, v_65_90, v_65_93, v_65_95, v_65_96, v_65_99, v_65_101, v_65_102, v_65_105, v_65_106, v_65_109, v_65_111, v_65_112, v_65_115, v_65_116, h_65_116, v_65_118, v_65_119, v_65_122, v_65_123, v_65_125, v_65_126, v_65_129, v_65_131, v_65_134, v_65_135, v_65_138, v_65_139, v_65_140, h_65_140, v_65_141, v_65_143, v_65_146, v_65_148, v_65_151, v_65_153, v_65_154, v_65_157, v_65_159, v_65_162, v_65_165, v_65_167, v_65_168, v_65_171, v_65_172, v_65_175, v_65_176, v_65_177, v_65_179, v_65_182, v_65_185, v_65_186, v_65_189, v_65_190, v_65_191, v_65_193, v_65_196, h_65_196, v_65_198, v_65_201, v_65_203, v_65_205, v_65_208, v_65_209, v_65_210, v_65_211, v_65_213, v_65_215, v_65_217, v_65_220, v_65_222, v_65_224, v_65_227, v_65_229, v_65_232, v_65_233, v_65_236, v_65_237, v_65_238, h_65_238, v_65_240, v_65_243, v_65_244, v_65_245, v_65_246, v_65_248, v_65_250, v_65_252, v_65_255, v_65_257, v_65_259, v_65_262, v_65_264, v_65_267, v_65_268, v_65_271, v_65_272, v_65_275, v_65_276, v_65_279, v_65_281, v_65_282, v_65_283, v_65_284, v_65_285, v_65_288, v_65_289, v_65_290, v_65_293, v_65_294, v_65_297, v_65_299, v_65_300, v_65_301, v_65_302, v_65_303, h_65_303, v_65_305, h_65_305, v_65_307, v_65_310, v_65_313, v_65_314, v_65_315, v_65_317, v_65_320, v_65_323, v_65_326, v_65_329, v_65_331, vgi_0, vgi_s, vga_0, vga_s, vset_0, vset_s, vtk_0, vtk_s, vrc_0, vsw_0, vsw_s, List.all_cons, List.all_nil, zc1_i, zc1_r, Bool.and_true, Bool.and_self, true_and, and_true, List.length_cons, List.length_nil, Nat.zero_le, Nat.reduceLeDiff, Nat.reduceAdd, tg_483]
    rw [li3, if_neg (nI_nlt (by omega) (by omega)), li6, if_neg (nI_nlt (by omega) (by omega)), li8, if_pos (nI_lt (by omega) (by omega))]
    refine c_66w (sv := t.1 506 (va q i)) (g := fun u => EV q f n (pc q i) (eu e (va q i) u)) (by omega) hq2 hi hk (by omega) (by omega) hr (fun z => by rw [tsi_ne (by omega)]; exact h0 z) (fun z => by rw [tsi_ne (by omega), tsi_ne (by omega)]; exact h1 z) hg (fun t2 x2 e9 e10 => ?_)
    rw [if_pos hun, if_pos hun]
    simp only [v_65_0, v_65_1, v_65_2, v_65_3, v_65_5, v_65_6, v_65_7, v_65_8, v_65_11, h_65_11, v_65_12, v_65_15, v_65_16, v_65_19, v_65_20, v_65_21, v_65_23, v_65_24, v_65_27, v_65_29, v_65_30, v_65_32, v_65_33, v_65_36, v_65_37, v_65_38, v_65_40, v_65_41, v_65_44, v_65_45, v_65_46, v_65_47, v_65_48, v_65_49, v_65_50, v_65_51, v_65_53, h_65_53, v_65_55, v_65_56, v_65_59, v_65_60, v_65_61, v_65_63, v_65_66, v_65_68, v_65_71, v_65_73, v_65_75, v_65_78, v_65_80, v_65_83, v_65_84, v_65_87, v_65_89, v_65_90, v_65_93, v_65_95, v_65_96, v_65_99, v_65_101, v_65_102, v_65_105, v_65_106, v_65_109, v_65_111, v_65_112, v_65_115, v_65_116, h_65_116, v_65_118, v_65_119, v_65_122, v_65_123, v_65_125, v_65_126, v_65_129, v_65_131, v_65_134, v_65_135, v_65_138, v_65_139, v_65_140, h_65_140, v_65_141, v_65_143, v_65_146, v_65_148, v_65_151, v_65_153, v_65_154, v_65_157, v_65_159, v_65_162, v_65_165, v_65_167, v_65_168, v_65_171, v_65_172, v_65_175, v_65_176, v_65_177, v_65_179, v_65_182, v_65_185, v_65_186, v_65_189, v_65_190, v_65_191, v_65_193, v_65_196, h_65_196, v_65_198, v_65_201, v_65_203, v_65_205, v_65_208, v_65_209, v_65_210, v_65_211, v_65_213, v_65_215, v_65_217, v_65_220, v_65_222, v_65_224, v_65_227, v_65_229, v_65_232, v_65_233, v_65_236, v_65_237, v_65_238, h_65_238, v_65_240, v_65_243, v_65_244, v_65_245, v_65_246, v_65_248, v_65_250, v_65_252, v_65_255, v_65_257, v_65_259, v_65_262, v_65_264, v_65_267, v_65_268, v_65_271, v_65_272, v_65_275, v_65_276, v_65_279, v_65_281, v_65_282, v_65_283, v_65_284, v_65_285, v_65_288, v_65_289, v_65_290, v_65_293, v_65_294, v_65_297, v_65_299, v_65_300, v_65_301, v_65_302, v_65_303, h_65_303, v_65_305, h_65_305, v_65_307, v_65_310, v_65_313, v_65_314, v_65_315, v_65_317, v_65_320, v_65_323, v_65_326, v_65_329, v_65_331, vgi_0, vgi_s, vga_0, vga_s, vset_0, vset_s, vtk_0, vtk_s, vrc_0, vsw_0, vsw_s, List.all_cons, List.all_nil, zc1_i, zc1_r, Bool.and_true, Bool.and_self, true_and, and_true, List.length_cons, List.length_nil, Nat.zero_le, Nat.reduceLeDiff, Nat.reduceAdd, Option.toList_some, List.cons_append, List.nil_append]
    rw [if_neg (nI_pos (by omega))]
    refine vc_ok none zH_65 150 false _ 65 238 _ _ _ _ ?_
    simp only [v_65_0, v_65_1, v_65_2, v_65_3, v_65_5, v_65_6, v_65_7, v_65_8, v_65_11, h_65_11, v_65_12, v_65_15, v_65_16, v_65_19, v_65_20, v_65_21, v_65_23, v_65_24, v_65_27, v_65_29, v_65_30, v_65_32, v_65_33, v_65_36, v_65_37, v_65_38, v_65_40, v_65_41, v_65_44, v_65_45, v_65_46, v_65_47, v_65_48, v_65_49, v_65_50, v_65_51, v_65_53, h_65_53, v_65_55, v_65_56, v_65_59, v_65_60, v_65_61, v_65_63, v_65_66, v_65_68, v_65_71, v_65_73, v_65_75, v_65_78, v_65_80, v_65_83, v_65_84, v_65_87, v_65_89, v_65_90, v_65_93, v_65_95, v_65_96, v_65_99, v_65_101, v_65_102, v_65_105, v_65_106, v_65_109, v_65_111, v_65_112, v_65_115, v_65_116, h_65_116, v_65_118, v_65_119, v_65_122, v_65_123, v_65_125, v_65_126, v_65_129, v_65_131, v_65_134, v_65_135, v_65_138, v_65_139, v_65_140, h_65_140, v_65_141, v_65_143, v_65_146, v_65_148, v_65_151, v_65_153, v_65_154, v_65_157, v_65_159, v_65_162, v_65_165, v_65_167, v_65_168, v_65_171, v_65_172, v_65_175, v_65_176, v_65_177, v_65_179, v_65_182, v_65_185, v_65_186, v_65_189, v_65_190, v_65_191, v_65_193, v_65_196, h_65_196, v_65_198, v_65_201, v_65_203, v_65_205, v_65_208, v_65_209, v_65_210, v_65_211, v_65_213, v_65_215, v_65_217, v_65_220, v_65_222, v_65_224, v_65_227, v_65_229, v_65_232, v_65_233, v_65_236, v_65_237, v_65_238, h_65_238, v_65_240, v_65_243, v_65_244, v_65_245, v_65_246, v_65_248, v_65_250, v_65_252, v_65_255, v_65_257, v_65_259, v_65_262, v_65_264, v_65_267, v_65_268, v_65_271, v_65_272, v_65_275, v_65_276, v_65_279, v_65_281, v_65_282, v_65_283, v_65_284, v_65_285, v_65_288, v_65_289, v_65_290, v_65_293, v_65_294, v_65_297, v_65_299, v_65_300, v_65_301, v_65_302, v_65_303, h_65_303, v_65_305, h_65_305, v_65_307, v_65_310, v_65_313, v_65_314, v_65_315, v_65_317, v_65_320, v_65_323, v_65_326, v_65_329, v_65_331, vgi_0, vgi_s, vga_0, vga_s, vset_0, vset_s, vtk_0, vtk_s, vrc_0, vsw_0, vsw_s, List.all_cons, List.all_nil, zc1_i, zc1_r, Bool.and_true, Bool.and_self, true_and, and_true, List.length_cons, List.length_nil, Nat.zero_le, Nat.reduceLeDiff, Nat.reduceAdd]
    have hx3 : tX (fun b k => mP top (cl q i) b k ∨ (b = 506 ∧ k = va q i)) t (tsi t2 506 (va q i) (nI u)) := by
      refine tX.si2 ((hx.si2 (Or.inl mp8)).tr (x2.mono ?_)) (Or.inr ⟨rfl, rfl⟩)
      rintro b k ⟨rfl | rfl, rfl⟩
      · exact Or.inl mp9
      · exact Or.inl (mP_top (by omega) (by omega))
    have hq3 : mvp (tsi t2 506 (va q i) (nI u)) q m s f n := hq.keep (fun b k hb => hx3.2 b k (by rintro (z | z); exact mP_lo (by omega) z; omega))
    have he3 : mve (tsi t2 506 (va q i) (nI u)) (eu e (va q i) u) := mve_eu he v2 (by omega) (fun v hv z => hx3.2 506 v (by rintro (y | y); exact mP_lo (by omega) y; exact z y.2)) tsi_eq
    refine m65_child (by omega) hE hq3 he3 (hfr2 u hun) (by omega) (by omega) hr (fun t4 i5 i6 i7 i8 x4 => ?_)
    refine ih (u + 1) t4 _ _ _ _ _ (by omega) (hx3.tr (x4.mono (fun b k z => Or.inl (mP_up p4 b k z)))) ?_ ?_ (fun z => absurd z (by omega)) (fun _ => ⟨?_, ?_, rfl⟩) (hg u hun)
    · rw [un7 x4, tsi_ne (by omega), x2.2 507 top (by omega), tsi_ne (by omega)]; exact f7
    · rw [un8 x4, tsi_ne (by omega), x2.2 508 top (by omega), tsi_eq]
    · rw [x4.2 510 top (mP_und (by omega)), tsi_ne (by omega)]; exact e10
    · rw [un9 x4, tsi_ne (by omega)]; exact e9
theorem c_67w {top u : Nat} {res s4 s5 : Int32} {g : Nat → Int32} (hd : 5 ≤ d) (hq : mvp t q m s f n) (hi : i < m) (hk : kd q i = 8) (ht : top < 8) (hu : u ≤ n * n) (h0 : u = 0 → t.1 506 4 = s4 ∧ t.1 506 5 = s5) (h1 : 0 < u → t.1 510 top = s4 ∧ t.1 511 top = s5 ∧ (∀ j, j < u - 1 → t.1 512 j = g j) ∧ res = g (u - 1)) (hg : ∀ w, w < n * n → tri (g w)) (h : ∀ t2, tX (fun b k => ((b = 510 ∨ b = 511) ∧ k = top) ∨ b = 512) t t2 → t2.1 510 top = s4 → t2.1 511 top = s5 → (∀ j, j < u → t2.1 512 j = g j) → (u < n * n → F (some (.int (nI (pc q i)))) (tsi (tsi t2 506 4 (nI (u / n))) 506 5 (nI (u % n)))) ∧ (u = n * n → ∀ t3, oc (tsi (tsi t2 506 4 s4) 506 5 s5) t3 → (∀ i j, i < n → j < n → t3.1 513 (i * n + j) = clo n (fun u v => g (u * n + v)) i j) → F (some (.int (-1))) t3)) : twc d 67 [.ref 483, .int (nI s), .int (nI top), .int (nI i), .int (nI u), .int res] t F := by
  refine c_67 hd hq hi hk ht hu (fun t1 e1 => ?_)
  have hmain : tX (fun b k => ((b = 510 ∨ b = 511) ∧ k = top) ∨ b = 512) t t1 ∧ t1.1 510 top = s4 ∧ t1.1 511 top = s5 ∧ ∀ j, j < u → t1.1 512 j = g j := by
    by_cases hu0 : u = 0
    · rw [if_pos hu0] at e1
      subst e1
      refine ⟨(tX.si (Or.inl ⟨Or.inl rfl, rfl⟩)).si2 (Or.inl ⟨Or.inr rfl, rfl⟩), ?_, ?_, fun j hj => by omega⟩
      · rw [tsi_ne (by omega), tsi_eq]; exact (h0 hu0).1
      · rw [tsi_eq]; exact (h0 hu0).2
    · rw [if_neg hu0] at e1
      subst e1
      obtain ⟨g1, g2, g3, g4⟩ := h1 (by omega)
      refine ⟨tX.si (Or.inr rfl), ?_, ?_, fun j hj => ?_⟩
      · rw [tsi_ne (by omega)]; exact g1
      · rw [tsi_ne (by omega)]; exact g2
      · by_cases z : j = u - 1
        · rw [z, tsi_eq]; exact g4
        · rw [tsi_ne (by omega)]; exact g3 j (by omega)
  obtain ⟨a1, a2, a3, a4⟩ := hmain
  have hF := h t1 a1 a2 a3 a4
  refine ⟨hF.1, fun z => ⟨fun j hj => by rw [a4 j (by omega)]; exact hg j hj, fun t2 o2 c2 => hF.2 z t2 (by rw [a2, a3] at o2; exact o2) (fun x y hx hy => ?_)⟩⟩
  rw [c2 x y hx hy]
  refine clo_congr (fun a b ha hb => ?_) hx
  exact a4 _ (by rw [z]; exact ix_lt ha hb)
theorem evm_8 (hd : 6 ≤ d) (hi : i < m) (hk : kd q i = 8) (hE : EVM q m s (pc q i) d) : EVM q m s i d := by
  intro t n top f e st res j5 j6 j7 j8 F hq he hfr ht h7 h8 hr h
  have hn := hq.2.2.2.2.2.2.2
  have hsq := sq_le hn
  have hm := hq.1
  have hs := hq.2.2.2.1
  obtain ⟨-, -, -, -, -, -, -, -, -, -, -, w3, -, -, -, w8⟩ := hq.2.1 i hi
  obtain ⟨p1, p2, p3, -⟩ := w3 (by omega)
  obtain ⟨a1, a2, b1, b2, fa, fb', c1, c0, v3⟩ := w8 hk
  have ea := hfr _ fa
  have eb := hfr _ fb'
  have hn0 : 0 < n := by omega
  have hfr2 : ∀ x y, x < n → y < n → ∀ v, fb q (pc q i) v → eu (eu e 4 x) 5 y v < n := by
    intro x y hx hy v hv
    unfold eu
    by_cases z5 : v = 5
    · rw [if_pos z5]; exact hy
    · rw [if_neg z5]
      by_cases z4 : v = 4
      · rw [if_pos z4]; exact hx
      · rw [if_neg z4]
        rcases v3 v hv with y | y | y
        · exact absurd y z4
        · exact absurd y z5
        · exact hfr v y
  have hdv : ∀ w, w < n * n → w / n < n ∧ w % n < n := fun w hw => ⟨Nat.div_lt_of_lt_mul hw, Nat.mod_lt _ hn0⟩
  have hg : ∀ w, w < n * n → tri (EV q f n (pc q i) (eu (eu e 4 (w / n)) 5 (w % n))) := fun w hw => EV_tri hq.2.1 hq.2.2.2.2.2.1 hn _ (by omega) _ (hfr2 _ _ (hdv w hw).1 (hdv w hw).2)
  clear w3 w8 v3
  suffices H : ∀ (j u : Nat) (t' : T) (res : Int32) (j5 j6 j7 j8 : Value), u + j = n * n → tX (fun b k => mP top (cl q i) b k ∨ (b = 506 ∧ (k = 4 ∨ k = 5))) t t' → t'.1 507 top = nI i → t'.1 508 top = nI u → (u = 0 → t'.1 506 4 = t.1 506 4 ∧ t'.1 506 5 = t.1 506 5) → (0 < u → t'.1 510 top = t.1 506 4 ∧ t'.1 511 top = t.1 506 5 ∧ (∀ j, j < u - 1 → t'.1 512 j = EV q f n (pc q i) (eu (eu e 4 (j / n)) 5 (j % n))) ∧ res = EV q f n (pc q i) (eu (eu e 4 ((u - 1) / n)) 5 ((u - 1) % n))) → tri res → twp none d 65 11 [.ref 483, .int (nI s), .int st, .int (nI top), .int res, j5, j6, j7, j8] [] t' F by
    exact H (n * n) 0 t res _ _ _ _ (by omega) tX.rf h7 h8 (fun _ => ⟨rfl, rfl⟩) (fun z => absurd z (by omega)) hr
  have hc1 : cl q i ≠ 0 := by omega
  intro j
  induction j with
  | zero =>
    intro u t' res j5 j6 j7 j8 hu hx f7 f8 h0 h1 hr
    have hu : u = n * n := by omega
    have hq' : mvp t' q m s f n := hq.keep (fun b k hb => hx.2 b k (by rintro (z | z); exact mP_lo (by omega) z; omega))
    refine m65_head (k := u) (by omega) hq' hi f7 f8 (by omega) ?_
    have hq2 : mvp (tsi t' 508 top (nI (u + 1))) q m s f n := hq'.keep (fun b k hb => tsi_ne (by omega))
    refine vc_ok none zH_65 150 false _ 65 53 _ _ _ _ ?_
    simp only [v_65_0, v_65_1, v_65_2, v_65_3, v_65_5, v_65_6, v_65_7, v_65_8, v_65_11, h_65_11, v_65_12, v_65_15, v_65_16, v_65_19, v_65_20, v_65_21, v_65_23, v_65_24, v_65_27, v_65_29, v_65_30, v_65_32, v_65_33, v_65_36, v_65_37, v_65_38, v_65_40, v_65_41, v_65_44, v_65_45, v_65_46, v_65_47, v_65_48, v_65_49, v_65_50, v_65_51, v_65_53, h_65_53, v_65_55, v_65_56, v_65_59, v_65_60, v_65_61, v_65_63, v_65_66, v_65_68, v_65_71, v_65_73, v_65_75, v_65_78, v_65_80, v_65_83, v_65_84, v_65_87, v_65_89, v_65_90, v_65_93, v_65_95, v_65_96, v_65_99, v_65_101, v_65_102, v_65_105, v_65_106, v_65_109, v_65_111, v_65_112, v_65_115, v_65_116, h_65_116, v_65_118, v_65_119, v_65_122, v_65_123, v_65_125, v_65_126, v_65_129, v_65_131, v_65_134, v_65_135, v_65_138, v_65_139, v_65_140, h_65_140, v_65_141, v_65_143, v_65_146, v_65_148, v_65_151, v_65_153, v_65_154, v_65_157, v_65_159, v_65_162, v_65_165, v_65_167, v_65_168, v_65_171, v_65_172, v_65_175, v_65_176, v_65_177, v_65_179, v_65_182, v_65_185, v_65_186, v_65_189, v_65_190, v_65_191, v_65_193, v_65_196, h_65_196, v_65_198, v_65_201, v_65_203, v_65_205, v_65_208, v_65_209, v_65_210, v_65_211, v_65_213, v_65_215, v_65_217, v_65_220, v_65_222, v_65_224, v_65_227, v_65_229, v_65_232, v_65_233, v_65_236, v_65_237, v_65_238, h_65_238, v_65_240, v_65_243, v_65_244, v_65_245, v_65_246, v_65_248, v_65_250, v_65_252, v_65_255, v_65_257, v_65_259, v_65_262, v_65_264, v_65_267, v_65_268, v_65_271, v_65_272, v_65_275, v_65_276, v_65_279, v_65_281, v_65_282, v_65_283, v_65_284, v_65_285, v_65_288, v_65_289, v_65_290, v_65_293, v_65_294, v_65_297, v_65_299, v_65_300, v_65_301, v_65_302, v_65_303, h_65_303, v_65_305, h_65_305, v_65_307, v_65_310, v_65_313, v_65_314, v_65_315, v_65_317, v_65_320, v_65_323, v_65_326, v_65_329, v_65_331, vgi_0, vgi_s, vga_0, vga_s, vset_0, vset_s, vtk_0, vtk_s, vrc_0, vsw_0, vsw_s, List.all_cons, List.all_nil, zc1_i, zc1_r, Bool.and_true, Bool.and_self, true_and, and_true, List.length_cons, List.length_nil, Nat.zero_le, Nat.reduceLeDiff, Nat.reduceAdd, tg_483]
    rw [li3, if_neg (nI_nlt (by omega) (by omega)), li6, if_neg (nI_nlt (by omega) (by omega)), li8, if_neg (nI_nlt (by omega) (by omega))]
    refine c_67w (s4 := t.1 506 4) (s5 := t.1 506 5) (g := fun w => EV q f n (pc q i) (eu (eu e 4 (w / n)) 5 (w % n))) (by omega) hq2 hi hk (by omega) (by omega) (fun z => by rw [tsi_ne (by omega), tsi_ne (by omega)]; exact h0 z) (fun z => by rw [tsi_ne (by omega), tsi_ne (by omega)]; refine ⟨(h1 z).1, (h1 z).2.1, fun j hj => ?_, (h1 z).2.2.2⟩; rw [tsi_ne (by omega)]; exact (h1 z).2.2.1 j hj) hg (fun t2 x2 e10 e11 e12 => ⟨fun z => by omega, fun _ t3 o3 c3 => ?_⟩)
    have hk3 : ∀ b k, b < 506 → t3.1 b k = t.1 b k := fun b k hb => by
      rw [o3.2 b k (by omega), tsi_ne (by omega), tsi_ne (by omega), x2.2 b k (by omega), tsi_ne (by omega)]
      exact hx.2 b k (by rintro (z | z); exact mP_lo (by omega) z; omega)
    have hq3 : mvp t3 q m s f n := hq.keep hk3
    have hv3 : ∀ v, v < 6 → t3.1 506 v = nI (e v) := fun v hv => by
      rw [← (he v hv).1, o3.2 506 v (by omega)]
      by_cases z5 : v = 5
      · rw [z5, tsi_eq]
      · rw [tsi_ne (by omega)]
        by_cases z4 : v = 4
        · rw [z4, tsi_eq]
        · rw [tsi_ne (by omega), x2.2 506 v (by omega), tsi_ne (by omega)]
          exact hx.2 506 v (by rintro (y | y); exact mP_lo (by omega) y; omega)
    have r1 : t3.1 486 i = nI (va q i) := (hq3.2.2.1 i 1 hi (by omega)).trans a1
    have r2 : t3.1 487 i = nI (vb q i) := (hq3.2.2.1 i 2 hi (by omega)).trans b1
    simp only [v_65_0, v_65_1, v_65_2, v_65_3, v_65_5, v_65_6, v_65_7, v_65_8, v_65_11, h_65_11, v_65_12, v_65_15, v_65_16, v_65_19, v_65_20, v_65_21, v_65_23, v_65_24, v_65_27, v_65_29, v_65_30, v_65_32, v_65_33, v_65_36, v_65_37, v_65_38, v_65_40, v_65_41, v_65_44, v_65_45, v_65_46, v_65_47, v_65_48, v_65_49, v_65_50, v_65_51, v_65_53, h_65_53, v_65_55, v_65_56, v_65_59, v_65_60, v_65_61, v_65_63, v_65_66, v_65_68, v_65_71, v_65_73, v_65_75, v_65_78, v_65_80, v_65_83, v_65_84, v_65_87, v_65_89, v_65_90, v_65_93, v_65_95, v_65_96, v_65_99, v_65_101, v_65_102, v_65_105, v_65_106, v_65_109, v_65_111, v_65_112, v_65_115, v_65_116, h_65_116, v_65_118, v_65_119, v_65_122, v_65_123, v_65_125, v_65_126, v_65_129, v_65_131, v_65_134, v_65_135, v_65_138, v_65_139, v_65_140, h_65_140, v_65_141, v_65_143, v_65_146, v_65_148, v_65_151, v_65_153, v_65_154, v_65_157, v_65_159, v_65_162, v_65_165, v_65_167, v_65_168, v_65_171, v_65_172, v_65_175, v_65_176, v_65_177, v_65_179, v_65_182, v_65_185, v_65_186, v_65_189, v_65_190, v_65_191, v_65_193, v_65_196, h_65_196, v_65_198, v_65_201, v_65_203, v_65_205, v_65_208, v_65_209, v_65_210, v_65_211, v_65_213, v_65_215, v_65_217, v_65_220, v_65_222, v_65_224, v_65_227, v_65_229, v_65_232, v_65_233, v_65_236, v_65_237, v_65_238, h_65_238, v_65_240, v_65_243, v_65_244, v_65_245, v_65_246, v_65_248, v_65_250, v_65_252, v_65_255, v_65_257, v_65_259, v_65_262, v_65_264, v_65_267, v_65_268, v_65_271, v_65_272, v_65_275, v_65_276, v_65_279, v_65_281, v_65_282, v_65_283, v_65_284, v_65_285, v_65_288, v_65_289, v_65_290, v_65_293, v_65_294, v_65_297, v_65_299, v_65_300, v_65_301, v_65_302, v_65_303, h_65_303, v_65_305, h_65_305, v_65_307, v_65_310, v_65_313, v_65_314, v_65_315, v_65_317, v_65_320, v_65_323, v_65_326, v_65_329, v_65_331, vgi_0, vgi_s, vga_0, vga_s, vset_0, vset_s, vtk_0, vtk_s, vrc_0, vsw_0, vsw_s, List.all_cons, List.all_nil, zc1_i, zc1_r, Bool.and_true, Bool.and_self, true_and, and_true, List.length_cons, List.length_nil, Nat.zero_le, Nat.reduceLeDiff, Nat.reduceAdd, Option.toList_some, List.cons_append, List.nil_append, tg_483, tf_483_34, tf_483_27, tf_483_3, tg_486, ln_486, tg_506, ln_506]
    rw [if_pos (by decide)]
    simp (disch := omega) only [nI_clamp, vinb_n, r1]
    rw [hv3 _ a2]
    refine ⟨by omega, by omega, ?_⟩
    refine c_40 (by omega) hs ?_
    simp only [v_65_0, v_65_1, v_65_2, v_65_3, v_65_5, v_65_6, v_65_7, v_65_8, v_65_11, h_65_11, v_65_12, v_65_15, v_65_16, v_65_19, v_65_20, v_65_21, v_65_23, v_65_24, v_65_27, v_65_29, v_65_30, v_65_32, v_65_33, v_65_36, v_65_37, v_65_38, v_65_40, v_65_41, v_65_44, v_65_45, v_65_46, v_65_47, v_65_48, v_65_49, v_65_50, v_65_51, v_65_53, h_65_53, v_65_55, v_65_56, v_65_59, v_65_60, v_65_61, v_65_63, v_65_66, v_65_68, v_65_71, v_65_73, v_65_75, v_65_78, v_65_80, v_65_83, v_65_84, v_65_87, v_65_89, v_65_90, v_65_93, v_65_95, v_65_96, v_65_99, v_65_101, v_65_102, v_65_105, v_65_106, v_65_109, v_65_111, v_65_112, v_65_115, v_65_116, h_65_116, v_65_118, v_65_119, v_65_122, v_65_123, v_65_125, v_65_126, v_65_129, v_65_131, v_65_134, v_65_135, v_65_138, v_65_139, v_65_140, h_65_140, v_65_141, v_65_143, v_65_146, v_65_148, v_65_151, v_65_153, v_65_154, v_65_157, v_65_159, v_65_162, v_65_165, v_65_167, v_65_168, v_65_171, v_65_172, v_65_175, v_65_176, v_65_177, v_65_179, v_65_182, v_65_185, v_65_186, v_65_189, v_65_190, v_65_191, v_65_193, v_65_196, h_65_196, v_65_198, v_65_201, v_65_203, v_65_205, v_65_208, v_65_209, v_65_210, v_65_211, v_65_213, v_65_215, v_65_217, v_65_220, v_65_222, v_65_224, v_65_227, v_65_229, v_65_232, v_65_233, v_65_236, v_65_237, v_65_238, h_65_238, v_65_240, v_65_243, v_65_244, v_65_245, v_65_246, v_65_248, v_65_250, v_65_252, v_65_255, v_65_257, v_65_259, v_65_262, v_65_264, v_65_267, v_65_268, v_65_271, v_65_272, v_65_275, v_65_276, v_65_279, v_65_281, v_65_282, v_65_283, v_65_284, v_65_285, v_65_288, v_65_289, v_65_290, v_65_293, v_65_294, v_65_297, v_65_299, v_65_300, v_65_301, v_65_302, v_65_303, h_65_303, v_65_305, h_65_305, v_65_307, v_65_310, v_65_313, v_65_314, v_65_315, v_65_317, v_65_320, v_65_323, v_65_326, v_65_329, v_65_331, vgi_0, vgi_s, vga_0, vga_s, vset_0, vset_s, vtk_0, vtk_s, vrc_0, vsw_0, vsw_s, List.all_cons, List.all_nil, zc1_i, zc1_r, Bool.and_true, Bool.and_self, true_and, and_true, List.length_cons, List.length_nil, Nat.zero_le, Nat.reduceLeDiff, Nat.reduceAdd, Option.toList_some, List.cons_append, List.nil_append, tg_483, tf_483_27, tf_483_4, tg_487, ln_487, tg_506, ln_506, tg_513, ln_513]
    rw [hq3.cnt]
    simp (disch := omega) only [nI_clamp, vinb_n, r2]
    rw [hv3 _ b2, pk_mul, nI_add, nI_clamp (by have := ix_lt ea eb; omega), vinb_n (by have := ix_lt ea eb; omega), c3 _ _ ea eb]
    refine ⟨by omega, by omega, by have := ix_lt ea eb; omega, ?_⟩
    refine vc_ok none zH_65 150 false _ 65 303 _ _ _ _ ?_
    simp only [v_65_0, v_65_1, v_65_2, v_65_3, v_65_5, v_65_6, v_65_7, v_65_8, v_65_11, h_65_11, v_65_12, v_65_15, v_65_16, v_65_19, v_65_20, v_65_21, v_65_23, v_65_24, v_65_27, v_65_29, v_65_30, v_65_32, v_65_33, v_65_36, v_65_37, v_65_38, v_65_40, v_65_41, v_65_44, v_65_45, v_65_46, v_65_47, v_65_48, v_65_49, v_65_50, v_65_51, v_65_53, h_65_53, v_65_55, v_65_56, v_65_59, v_65_60, v_65_61, v_65_63, v_65_66, v_65_68, v_65_71, v_65_73, v_65_75, v_65_78, v_65_80, v_65_83, v_65_84, v_65_87, v_65_89, v_65_90, v_65_93, v_65_95, v_65_96, v_65_99, v_65_101, v_65_102, v_65_105, v_65_106, v_65_109, v_65_111, v_65_112, v_65_115, v_65_116, h_65_116, v_65_118, v_65_119, v_65_122, v_65_123, v_65_125, v_65_126, v_65_129, v_65_131, v_65_134, v_65_135, v_65_138, v_65_139, v_65_140, h_65_140, v_65_141, v_65_143, v_65_146, v_65_148, v_65_151, v_65_153, v_65_154, v_65_157, v_65_159, v_65_162, v_65_165, v_65_167, v_65_168, v_65_171, v_65_172, v_65_175, v_65_176, v_65_177, v_65_179, v_65_182, v_65_185, v_65_186, v_65_189, v_65_190, v_65_191, v_65_193, v_65_196, h_65_196, v_65_198, v_65_201, v_65_203, v_65_205, v_65_208, v_65_209, v_65_210, v_65_211, v_65_213, v_65_215, v_65_217, v_65_220, v_65_222, v_65_224, v_65_227, v_65_229, v_65_232, v_65_233, v_65_236, v_65_237, v_65_238, h_65_238, v_65_240, v_65_243, v_65_244, v_65_245, v_65_246, v_65_248, v_65_250, v_65_252, v_65_255, v_65_257, v_65_259, v_65_262, v_65_264, v_65_267, v_65_268, v_65_271, v_65_272, v_65_275, v_65_276, v_65_279, v_65_281, v_65_282, v_65_283, v_65_284, v_65_285, v_65_288, v_65_289, v_65_290, v_65_293, v_65_294, v_65_297, v_65_299, v_65_300, v_65_301, v_65_302, v_65_303, h_65_303, v_65_305, h_65_305, v_65_307, v_65_310, v_65_313, v_65_314, v_65_315, v_65_317, v_65_320, v_65_323, v_65_326, v_65_329, v_65_331, vgi_0, vgi_s, vga_0, vga_s, vset_0, vset_s, vtk_0, vtk_s, vrc_0, vsw_0, vsw_s, List.all_cons, List.all_nil, zc1_i, zc1_r, Bool.and_true, Bool.and_self, true_and, and_true, List.length_cons, List.length_nil, Nat.zero_le, Nat.reduceLeDiff, Nat.reduceAdd]
    refine m65_pop ?_
    have hev : clo n (fun u v => EV q f n (pc q i) (eu (eu e 4 ((u * n + v) / n)) 5 ((u * n + v) % n))) (e (va q i)) (e (vb q i)) = EV q f n i e := by
      rw [EV_8 hq.2.1 hi hk]
      refine clo_congr (fun x y hx hy => ?_) ea
      rw [ix_div hy, ix_mod hy]
    rw [hev]
    refine h _ _ _ _ _ ⟨o3.1.trans (x2.1.trans hx.1), fun b k hb => ?_⟩
    have hb3 : b ≠ 513 := fun z => hb (Or.inr ⟨Or.inr z, hc1⟩)
    have hb2 : b ≠ 512 := fun z => hb (Or.inr ⟨Or.inl z, hc1⟩)
    rw [o3.2 b k hb3]
    by_cases z5 : b = 506 ∧ k = 5
    · rw [z5.1, z5.2, tsi_eq]
    · rw [tsi_ne z5]
      by_cases z4 : b = 506 ∧ k = 4
      · rw [z4.1, z4.2, tsi_eq]
      · rw [tsi_ne z4, x2.2 b k, tsi_ne, hx.2 b k (by rintro (y | y); exact hb y; omega)]
        · rintro ⟨rfl, rfl⟩; exact hb mp8
        · rintro (⟨rfl | rfl, rfl⟩ | z)
          · exact hb (mP_top (by omega) (by omega))
          · exact hb (mP_top (by omega) (by omega))
          · exact hb2 z
  | succ j ih =>
    intro u t' res j5 j6 j7 j8 hu hx f7 f8 h0 h1 hr
    have hun : u < n * n := by omega
    obtain ⟨d1, d2⟩ := hdv u hun
    have hq' : mvp t' q m s f n := hq.keep (fun b k hb => hx.2 b k (by rintro (z | z); exact mP_lo (by omega) z; omega))
    refine m65_head (k := u) (by omega) hq' hi f7 f8 (by omega) ?_
    have hq2 : mvp (tsi t' 508 top (nI (u + 1))) q m s f n := hq'.keep (fun b k hb => tsi_ne (by omega))
    refine vc_ok none zH_65 150 false _ 65 53 _ _ _ _ ?_
    simp only [v_65_0, v_65_1, v_65_2, v_65_3, v_65_5, v_65_6, v_65_7, v_65_8, v_65_11, h_65_11, v_65_12, v_65_15, v_65_16, v_65_19, v_65_20, v_65_21, v_65_23, v_65_24, v_65_27, v_65_29, v_65_30, v_65_32, v_65_33, v_65_36, v_65_37, v_65_38, v_65_40, v_65_41, v_65_44, v_65_45, v_65_46, v_65_47, v_65_48, v_65_49, v_65_50, v_65_51, v_65_53, h_65_53, v_65_55, v_65_56, v_65_59, v_65_60, v_65_61, v_65_63, v_65_66, v_65_68, v_65_71, v_65_73, v_65_75, v_65_78, v_65_80, v_65_83, v_65_84, v_65_87, v_65_89, v_65_90, v_65_93, v_65_95, v_65_96, v_65_99, v_65_101, v_65_102, v_65_105, v_65_106, v_65_109, v_65_111, v_65_112, v_65_115, v_65_116, h_65_116, v_65_118, v_65_119, v_65_122, v_65_123, v_65_125, v_65_126, v_65_129, v_65_131, v_65_134, v_65_135, v_65_138, v_65_139, v_65_140, h_65_140, v_65_141, v_65_143, v_65_146, v_65_148, v_65_151, v_65_153, v_65_154, v_65_157, v_65_159, v_65_162, v_65_165, v_65_167, v_65_168, v_65_171, v_65_172, v_65_175, v_65_176, v_65_177, v_65_179, v_65_182, v_65_185, v_65_186, v_65_189, v_65_190, v_65_191, v_65_193, v_65_196, h_65_196, v_65_198, v_65_201, v_65_203, v_65_205, v_65_208, v_65_209, v_65_210, v_65_211, v_65_213, v_65_215, v_65_217, v_65_220, v_65_222, v_65_224, v_65_227, v_65_229, v_65_232, v_65_233, v_65_236, v_65_237, v_65_238, h_65_238, v_65_240, v_65_243, v_65_244, v_65_245, v_65_246, v_65_248, v_65_250, v_65_252, v_65_255, v_65_257, v_65_259, v_65_262, v_65_264, v_65_267, v_65_268, v_65_271, v_65_272, v_65_275, v_65_276, v_65_279, v_65_281, v_65_282, v_65_283, v_65_284, v_65_285, v_65_288, v_65_289, v_65_290, v_65_293, v_65_294, v_65_297, v_65_299, v_65_300, v_65_301, v_65_302, v_65_303, h_65_303, v_65_305, h_65_305, v_65_307, v_65_310, v_65_313, v_65_314, v_65_315, v_65_317, v_65_320, v_65_323, v_65_326, v_65_329, v_65_331, vgi_0, vgi_s, vga_0, vga_s, vset_0, vset_s, vtk_0, vtk_s, vrc_0, vsw_0, vsw_s, List.all_cons, List.all_nil, zc1_i, zc1_r, Bool.and_true, Bool.and_self, true_and, and_true, List.length_cons, List.length_nil, Nat.zero_le, Nat.reduceLeDiff, Nat.reduceAdd, tg_483]
    rw [li3, if_neg (nI_nlt (by omega) (by omega)), li6, if_neg (nI_nlt (by omega) (by omega)), li8, if_neg (nI_nlt (by omega) (by omega))]
    refine c_67w (s4 := t.1 506 4) (s5 := t.1 506 5) (g := fun w => EV q f n (pc q i) (eu (eu e 4 (w / n)) 5 (w % n))) (by omega) hq2 hi hk (by omega) (by omega) (fun z => by rw [tsi_ne (by omega), tsi_ne (by omega)]; exact h0 z) (fun z => by rw [tsi_ne (by omega), tsi_ne (by omega)]; refine ⟨(h1 z).1, (h1 z).2.1, fun j hj => ?_, (h1 z).2.2.2⟩; rw [tsi_ne (by omega)]; exact (h1 z).2.2.1 j hj) hg (fun t2 x2 e10 e11 e12 => ⟨fun _ => ?_, fun z => by omega⟩)
    simp only [v_65_0, v_65_1, v_65_2, v_65_3, v_65_5, v_65_6, v_65_7, v_65_8, v_65_11, h_65_11, v_65_12, v_65_15, v_65_16, v_65_19, v_65_20, v_65_21, v_65_23, v_65_24, v_65_27, v_65_29, v_65_30, v_65_32, v_65_33, v_65_36, v_65_37, v_65_38, v_65_40, v_65_41, v_65_44, v_65_45, v_65_46, v_65_47, v_65_48, v_65_49, v_65_50, v_65_51, v_65_53, h_65_53, v_65_55, v_65_56, v_65_59, v_65_60, v_65_61, v_65_63, v_65_66, v_65_68, v_65_71, v_65_73, v_65_75, v_65_78, v_65_80, v_65_83, v_65_84, v_65_87, v_65_89, v_65_90, v_65_93, v_65_95, v_65_96, v_65_99, v_65_101, v_65_102, v_65_105, v_65_106, v_65_109, v_65_111, v_65_112, v_65_115, v_65_116, h_65_116, v_65_118, v_65_119, v_65_122, v_65_123, v_65_125, v_65_126, v_65_129, v_65_131, v_65_134, v_65_135, v_65_138, v_65_139, v_65_140, h_65_140, v_65_141, v_65_143, v_65_146, v_65_148, v_65_151, v_65_153, v_65_154, v_65_157, v_65_159, v_65_162, v_65_165, v_65_167, v_65_168, v_65_171, v_65_172, v_65_175, v_65_176, v_65_177, v_65_179, v_65_182, v_65_185, v_65_186, v_65_189, v_65_190, v_65_191, v_65_193, v_65_196, h_65_196, v_65_198, v_65_201, v_65_203, v_65_205, v_65_208, v_65_209, v_65_210, v_65_211, v_65_213, v_65_215, v_65_217, v_65_220, v_65_222, v_65_224, v_65_227, v_65_229, v_65_232, v_65_233, v_65_236, v_65_237, v_65_238, h_65_238, v_65_240, v_65_243, v_65_244, v_65_245, v_65_246, v_65_248, v_65_250, v_65_252, v_65_255, v_65_257, v_65_259, v_65_262, v_65_264, v_65_267, v_65_268, v_65_271, v_65_272, v_65_275, v_65_276, v_65_279, v_65_281, v_65_282, v_65_283, v_65_284, v_65_285, v_65_288, v_65_289, v_65_290, v_65_293, v_65_294, v_65_297, v_65_299, v_65_300, v_65_301, v_65_302, v_65_303, h_65_303, v_65_305, h_65_305, v_65_307, v_65_310, v_65_313, v_65_314, v_65_315, v_65_317, v_65_320, v_65_323, v_65_326, v_65_329, v_65_331, vgi_0, vgi_s, vga_0, vga_s, vset_0, vset_s, vtk_0, vtk_s, vrc_0, vsw_0, vsw_s, List.all_cons, List.all_nil, zc1_i, zc1_r, Bool.and_true, Bool.and_self, true_and, and_true, List.length_cons, List.length_nil, Nat.zero_le, Nat.reduceLeDiff, Nat.reduceAdd, Option.toList_some, List.cons_append, List.nil_append]
    rw [if_neg (nI_pos (by omega))]
    refine vc_ok none zH_65 150 false _ 65 303 _ _ _ _ ?_
    simp only [v_65_0, v_65_1, v_65_2, v_65_3, v_65_5, v_65_6, v_65_7, v_65_8, v_65_11, h_65_11, v_65_12, v_65_15, v_65_16, v_65_19, v_65_20, v_65_21, v_65_23, v_65_24, v_65_27, v_65_29, v_65_30, v_65_32, v_65_33, v_65_36, v_65_37, v_65_38, v_65_40, v_65_41, v_65_44, v_65_45, v_65_46, v_65_47, v_65_48, v_65_49, v_65_50, v_65_51, v_65_53, h_65_53, v_65_55, v_65_56, v_65_59, v_65_60, v_65_61, v_65_63, v_65_66, v_65_68, v_65_71, v_65_73, v_65_75, v_65_78, v_65_80, v_65_83, v_65_84, v_65_87, v_65_89, v_65_90, v_65_93, v_65_95, v_65_96, v_65_99, v_65_101, v_65_102, v_65_105, v_65_106, v_65_109, v_65_111, v_65_112, v_65_115, v_65_116, h_65_116, v_65_118, v_65_119, v_65_122, v_65_123, v_65_125, v_65_126, v_65_129, v_65_131, v_65_134, v_65_135, v_65_138, v_65_139, v_65_140, h_65_140, v_65_141, v_65_143, v_65_146, v_65_148, v_65_151, v_65_153, v_65_154, v_65_157, v_65_159, v_65_162, v_65_165, v_65_167, v_65_168, v_65_171, v_65_172, v_65_175, v_65_176, v_65_177, v_65_179, v_65_182, v_65_185, v_65_186, v_65_189, v_65_190, v_65_191, v_65_193, v_65_196, h_65_196, v_65_198, v_65_201, v_65_203, v_65_205, v_65_208, v_65_209, v_65_210, v_65_211, v_65_213, v_65_215, v_65_217, v_65_220, v_65_222, v_65_224, v_65_227, v_65_229, v_65_232, v_65_233, v_65_236, v_65_237, v_65_238, h_65_238, v_65_240, v_65_243, v_65_244, v_65_245, v_65_246, v_65_248, v_65_250, v_65_252, v_65_255, v_65_257, v_65_259, v_65_262, v_65_264, v_65_267, v_65_268, v_65_271, v_65_272, v_65_275, v_65_276, v_65_279, v_65_281, v_65_282, v_65_283, v_65_284, v_65_285, v_65_288, v_65_289, v_65_290, v_65_293, v_65_294, v_65_297, v_65_299, v_65_300, v_65_301, v_65_302, v_65_303, h_65_303, v_65_305, h_65_305, v_65_307, v_65_310, v_65_313, v_65_314, v_65_315, v_65_317, v_65_320, v_65_323, v_65_326, v_65_329, v_65_331, vgi_0, vgi_s, vga_0, vga_s, vset_0, vset_s, vtk_0, vtk_s, vrc_0, vsw_0, vsw_s, List.all_cons, List.all_nil, zc1_i, zc1_r, Bool.and_true, Bool.and_self, true_and, and_true, List.length_cons, List.length_nil, Nat.zero_le, Nat.reduceLeDiff, Nat.reduceAdd]
    have hx3 : tX (fun b k => mP top (cl q i) b k ∨ (b = 506 ∧ (k = 4 ∨ k = 5))) t (tsi (tsi t2 506 4 (nI (u / n))) 506 5 (nI (u % n))) := by
      refine tX.si2 (tX.si2 ((hx.si2 (Or.inl mp8)).tr (x2.mono ?_)) (Or.inr ⟨rfl, Or.inl rfl⟩)) (Or.inr ⟨rfl, Or.inr rfl⟩)
      rintro b k (⟨rfl | rfl, rfl⟩ | rfl)
      · exact Or.inl (mP_top (by omega) (by omega))
      · exact Or.inl (mP_top (by omega) (by omega))
      · exact Or.inl (Or.inr ⟨Or.inl rfl, hc1⟩)
    have hq3 : mvp (tsi (tsi t2 506 4 (nI (u / n))) 506 5 (nI (u % n))) q m s f n := hq.keep (fun b k hb => hx3.2 b k (by rintro (z | z); exact mP_lo (by omega) z; omega))
    have he3 : mve (tsi (tsi t2 506 4 (nI (u / n))) 506 5 (nI (u % n))) (eu (eu e 4 (u / n)) 5 (u % n)) := by
      intro v hv
      unfold eu
      by_cases z5 : v = 5
      · rw [if_pos z5, z5, tsi_eq]; exact ⟨rfl, by omega⟩
      · rw [if_neg z5, tsi_ne (by omega)]
        by_cases z4 : v = 4
        · rw [if_pos z4, z4, tsi_eq]; exact ⟨rfl, by omega⟩
        · rw [if_neg z4, tsi_ne (by omega), x2.2 506 v (by omega), tsi_ne (by omega), hx.2 506 v (by rintro (y | y); exact mP_lo (by omega) y; omega)]
          exact he v hv
    refine m65_child (by omega) hE hq3 he3 (hfr2 _ _ d1 d2) (by omega) (by omega) hr (fun t4 i5 i6 i7 i8 x4 => ?_)
    refine ih (u + 1) t4 _ _ _ _ _ (by omega) (hx3.tr (x4.mono (fun b k z => Or.inl (mP_up (fun y => absurd y hc1) b k z)))) ?_ ?_ (fun z => absurd z (by omega)) (fun _ => ⟨?_, ?_, fun j hj => ?_, rfl⟩) (hg u hun)
    · rw [un7 x4, tsi_ne (by omega), tsi_ne (by omega), x2.2 507 top (by omega), tsi_ne (by omega)]; exact f7
    · rw [un8 x4, tsi_ne (by omega), tsi_ne (by omega), x2.2 508 top (by omega), tsi_eq]
    · rw [x4.2 510 top (mP_und (by omega)), tsi_ne (by omega), tsi_ne (by omega)]; exact e10
    · rw [x4.2 511 top (mP_und (by omega)), tsi_ne (by omega), tsi_ne (by omega)]; exact e11
    · rw [x4.2 512 j (by unfold mP; omega), tsi_ne (by omega), tsi_ne (by omega)]; exact e12 j (by omega)
theorem EVM_all (hm : m ≤ 40) (hw : ∀ i, i < m → fwf q i) (hd : 6 ≤ d) : ∀ (i : Nat), i < m → EVM q m s i d := by
  intro i
  induction i using Nat.strongRecOn with
  | ind i ih =>
    intro hi
    obtain ⟨-, k9, -, -, -, -, -, -, -, -, -, w3, -, w45, -, -⟩ := hw i hi
    by_cases h0 : kd q i < 3
    · exact evm_0 hd hi h0
    · obtain ⟨p1, p2, -⟩ := w3 (by omega)
      have hE := ih _ p2 (by omega)
      by_cases h3 : kd q i < 6
      · refine evm_345 hd hi (by omega) hE (fun z => ?_)
        obtain ⟨-, s2, -⟩ := w45 (by omega)
        exact ih _ s2 (by omega)
      · by_cases h6 : kd q i < 8
        · exact evm_q hd hi (by omega) hE
        · exact evm_8 hd hi (by omega) hE
/-- what an evaluation of the reference may touch -/
def mE : Nat → Nat → Prop := fun b _ => 506 ≤ b ∧ b ≤ 513
theorem c_65 (hd : 7 ≤ d) (hq : mvp t q m s f n) (he : mve t e) (hi : i < m) (hfr : ∀ v, fb q i v → e v < n) (h : ∀ t', tX mE t t' → F (some (.int (EV q f n i e))) t') : twc d 65 [.ref 483, .int (nI s), .int (nI i)] t F := by
  have hm := hq.1
  have hdp := (hq.2.1 i hi).2.2.2.1
  refine ⟨by omega, ?_⟩
  rw [ze_65]
  refine vc_ok none zH_65 150 false _ 65 0 _ _ _ _ ?_
  simp only [v_65_0, v_65_1, v_65_2, v_65_3, v_65_5, v_65_6, v_65_7, v_65_8, v_65_11, h_65_11, v_65_12, v_65_15, v_65_16, v_65_19, v_65_20, v_65_21, v_65_23, v_65_24, v_65_27, v_65_29, v_65_30, v_65_32, v_65_33, v_65_36, v_65_37, v_65_38, v_65_40, v_65_41, v_65_44, v_65_45, v_65_46, v_65_47, v_65_48, v_65_49, v_65_50, v_65_51, v_65_53, h_65_53, v_65_55, v_65_56, v_65_59, v_65_60, v_65_61, v_65_63, v_65_66, v_65_68, v_65_71, v_65_73, v_65_75, v_65_78, v_65_80, v_65_83, v_65_84, v_65_87, v_65_89, v_65_90, v_65_93, v_65_95, v_65_96, v_65_99, v_65_101, v_65_102, v_65_105, v_65_106, v_65_109, v_65_111, v_65_112, v_65_115, v_65_116, h_65_116, v_65_118, v_65_119, v_65_122, v_65_123, v_65_125, v_65_126, v_65_129, v_65_131, v_65_134, v_65_135, v_65_138, v_65_139, v_65_140, h_65_140, v_65_141, v_65_143, v_65_146, v_65_148, v_65_151, v_65_153, v_65_154, v_65_157, v_65_159, v_65_162, v_65_165, v_65_167, v_65_168, v_65_171, v_65_172, v_65_175, v_65_176, v_65_177, v_65_179, v_65_182, v_65_185, v_65_186, v_65_189, v_65_190, v_65_191, v_65_193, v_65_196, h_65_196, v_65_198, v_65_201, v_65_203, v_65_205, v_65_208, v_65_209, v_65_210, v_65_211, v_65_213, v_65_215, v_65_217, v_65_220, v_65_222, v_65_224, v_65_227, v_65_229, v_65_232, v_65_233, v_65_236, v_65_237, v_65_238, h_65_238, v_65_240, v_65_243, v_65_244, v_65_245, v_65_246, v_65_248, v_65_250, v_65_252, v_65_255, v_65_257, v_65_259, v_65_262, v_65_264, v_65_267, v_65_268, v_65_271, v_65_272, v_65_275, v_65_276, v_65_279, v_65_281, v_65_282, v_65_283, v_65_284, v_65_285, v_65_288, v_65_289, v_65_290, v_65_293, v_65_294, v_65_297, v_65_299, v_65_300, v_65_301, v_65_302, v_65_303, h_65_303, v_65_305, h_65_305, v_65_307, v_65_310, v_65_313, v_65_314, v_65_315, v_65_317, v_65_320, v_65_323, v_65_326, v_65_329, v_65_331, vgi_0, vgi_s, vga_0, vga_s, vset_0, vset_s, vtk_0, vtk_s, vrc_0, vsw_0, vsw_s, List.all_cons, List.all_nil, zc1_i, zc1_r, Bool.and_true, Bool.and_self, true_and, and_true, List.length_cons, List.length_nil, Nat.zero_le, Nat.reduceLeDiff, Nat.reduceAdd, tg_483]
  refine c_64 (top := 0) (by omega) (by omega) ?_
  simp only [v_65_0, v_65_1, v_65_2, v_65_3, v_65_5, v_65_6, v_65_7, v_65_8, v_65_11, h_65_11, v_65_12, v_65_15, v_65_16, v_65_19, v_65_20, v_65_21, v_65_23, v_65_24, v_65_27, v_65_29, v_65_30, v_65_32, v_65_33, v_65_36, v_65_37, v_65_38, v_65_40, v_65_41, v_65_44, v_65_45, v_65_46, v_65_47, v_65_48, v_65_49, v_65_50, v_65_51, v_65_53, h_65_53, v_65_55, v_65_56, v_65_59, v_65_60, v_65_61, v_65_63, v_65_66, v_65_68, v_65_71, v_65_73, v_65_75, v_65_78, v_65_80, v_65_83, v_65_84, v_65_87, v_65_89, v_65_90, v_65_93, v_65_95, v_65_96, v_65_99, v_65_101, v_65_102, v_65_105, v_65_106, v_65_109, v_65_111, v_65_112, v_65_115, v_65_116, h_65_116, v_65_118, v_65_119, v_65_122, v_65_123, v_65_125, v_65_126, v_65_129, v_65_131, v_65_134, v_65_135, v_65_138, v_65_139, v_65_140, h_65_140, v_65_141, v_65_143, v_65_146, v_65_148, v_65_151, v_65_153, v_65_154, v_65_157, v_65_159, v_65_162, v_65_165, v_65_167, v_65_168, v_65_171, v_65_172, v_65_175, v_65_176, v_65_177, v_65_179, v_65_182, v_65_185, v_65_186, v_65_189, v_65_190, v_65_191, v_65_193, v_65_196, h_65_196, v_65_198, v_65_201, v_65_203, v_65_205, v_65_208, v_65_209, v_65_210, v_65_211, v_65_213, v_65_215, v_65_217, v_65_220, v_65_222, v_65_224, v_65_227, v_65_229, v_65_232, v_65_233, v_65_236, v_65_237, v_65_238, h_65_238, v_65_240, v_65_243, v_65_244, v_65_245, v_65_246, v_65_248, v_65_250, v_65_252, v_65_255, v_65_257, v_65_259, v_65_262, v_65_264, v_65_267, v_65_268, v_65_271, v_65_272, v_65_275, v_65_276, v_65_279, v_65_281, v_65_282, v_65_283, v_65_284, v_65_285, v_65_288, v_65_289, v_65_290, v_65_293, v_65_294, v_65_297, v_65_299, v_65_300, v_65_301, v_65_302, v_65_303, h_65_303, v_65_305, h_65_305, v_65_307, v_65_310, v_65_313, v_65_314, v_65_315, v_65_317, v_65_320, v_65_323, v_65_326, v_65_329, v_65_331, vgi_0, vgi_s, vga_0, vga_s, vset_0, vset_s, vtk_0, vtk_s, vrc_0, vsw_0, vsw_s, List.all_cons, List.all_nil, zc1_i, zc1_r, Bool.and_true, Bool.and_self, true_and, and_true, List.length_cons, List.length_nil, Nat.zero_le, Nat.reduceLeDiff, Nat.reduceAdd, Option.toList_none, List.nil_append]
  have hx : tX (mP 0 (cl q i)) t (tsi (tsi t 507 0 (nI i)) 508 0 0) := (tX.si mp7).si2 mp8
  refine EVM_all hm hq.2.1 (by omega) i hi _ n 0 f e _ 0 _ _ _ _ _ (hq.x hx) (he.x hx) hfr (by omega) ?_ tsi_eq tri_0 (fun t' j5 j6 j7 j8 h2 => ?_)
  · rw [tsi_ne (by omega), tsi_eq]
  · refine vc_ok none zH_65 150 false _ 65 11 _ _ _ _ ?_
    simp only [v_65_0, v_65_1, v_65_2, v_65_3, v_65_5, v_65_6, v_65_7, v_65_8, v_65_11, h_65_11, v_65_12, v_65_15, v_65_16, v_65_19, v_65_20, v_65_21, v_65_23, v_65_24, v_65_27, v_65_29, v_65_30, v_65_32, v_65_33, v_65_36, v_65_37, v_65_38, v_65_40, v_65_41, v_65_44, v_65_45, v_65_46, v_65_47, v_65_48, v_65_49, v_65_50, v_65_51, v_65_53, h_65_53, v_65_55, v_65_56, v_65_59, v_65_60, v_65_61, v_65_63, v_65_66, v_65_68, v_65_71, v_65_73, v_65_75, v_65_78, v_65_80, v_65_83, v_65_84, v_65_87, v_65_89, v_65_90, v_65_93, v_65_95, v_65_96, v_65_99, v_65_101, v_65_102, v_65_105, v_65_106, v_65_109, v_65_111, v_65_112, v_65_115, v_65_116, h_65_116, v_65_118, v_65_119, v_65_122, v_65_123, v_65_125, v_65_126, v_65_129, v_65_131, v_65_134, v_65_135, v_65_138, v_65_139, v_65_140, h_65_140, v_65_141, v_65_143, v_65_146, v_65_148, v_65_151, v_65_153, v_65_154, v_65_157, v_65_159, v_65_162, v_65_165, v_65_167, v_65_168, v_65_171, v_65_172, v_65_175, v_65_176, v_65_177, v_65_179, v_65_182, v_65_185, v_65_186, v_65_189, v_65_190, v_65_191, v_65_193, v_65_196, h_65_196, v_65_198, v_65_201, v_65_203, v_65_205, v_65_208, v_65_209, v_65_210, v_65_211, v_65_213, v_65_215, v_65_217, v_65_220, v_65_222, v_65_224, v_65_227, v_65_229, v_65_232, v_65_233, v_65_236, v_65_237, v_65_238, h_65_238, v_65_240, v_65_243, v_65_244, v_65_245, v_65_246, v_65_248, v_65_250, v_65_252, v_65_255, v_65_257, v_65_259, v_65_262, v_65_264, v_65_267, v_65_268, v_65_271, v_65_272, v_65_275, v_65_276, v_65_279, v_65_281, v_65_282, v_65_283, v_65_284, v_65_285, v_65_288, v_65_289, v_65_290, v_65_293, v_65_294, v_65_297, v_65_299, v_65_300, v_65_301, v_65_302, v_65_303, h_65_303, v_65_305, h_65_305, v_65_307, v_65_310, v_65_313, v_65_314, v_65_315, v_65_317, v_65_320, v_65_323, v_65_326, v_65_329, v_65_331, vgi_0, vgi_s, vga_0, vga_s, vset_0, vset_s, vtk_0, vtk_s, vrc_0, vsw_0, vsw_s, List.all_cons, List.all_nil, zc1_i, zc1_r, Bool.and_true, Bool.and_self, true_and, and_true, List.length_cons, List.length_nil, Nat.zero_le, Nat.reduceLeDiff, Nat.reduceAdd]
    rw [if_pos (by decide)]
    refine h t' ((hx.tr h2).mono ?_)
    intro b k z
    unfold mP at z
    show 506 ≤ b ∧ b ≤ 513
    omega
def e2 (x y : Nat) : Nat → Nat := fun v => if v = 0 then x else if v = 1 then y else 0
theorem l_68 {x y : Nat} (hd : 7 ≤ d) (hq : mvp t q m s f n) (hi : i < m) (hx : x < 6) (hy : y < 6) (hfr : ∀ v, fb q i v → e2 x y v < n) (h : ∀ t', tX mE t t' → F (some (.int (EV q f n i (e2 x y)))) t') : ∀ (j k : Nat), k + j = 6 → twp none d 68 3 [.ref 483, .int (nI s), .int (nI i), .int (nI x), .int (nI y), .int (nI k)] [] (tfl t 506 0 k 0) F := by
  intro j
  induction j with
  | zero =>
    intro k hk
    have hk : k = 6 := by omega
    subst hk
    refine vc_ok none zH_68 37 false _ 68 3 _ _ _ _ ?_
    simp only [v_68_0, v_68_1, v_68_3, h_68_3, v_68_5, v_68_7, v_68_10, v_68_11, v_68_14, v_68_16, v_68_17, v_68_18, v_68_21, v_68_24, v_68_25, v_68_28, v_68_29, v_68_30, v_68_31, v_68_32, v_68_35, v_68_36, v_68_38, v_68_39, v_68_40, v_68_41, v_68_42, v_68_45, vgi_0, vgi_s, vga_0, vga_s, vset_0, vset_s, vtk_0, vtk_s, vrc_0, vsw_0, vsw_s, List.all_cons, List.all_nil, zc1_i, zc1_r, Bool.and_true, Bool.and_self, true_and, and_true, List.length_cons, List.length_nil, Nat.zero_le, Nat.reduceLeDiff, Nat.reduceAdd, tg_483, tf_483_27, tg_506, ln_506]
    simp (disch := omega) only [li6, nI_ltI, Nat.lt_irrefl, if_false, li0, li1, nI_clamp, vinb_n]
    refine ⟨by omega, by omega, ?_⟩
    have hX : tX mE t (tsi (tsi (tfl t 506 0 6 (nI 0)) 506 0 (nI x)) 506 1 (nI y)) := by
      refine tX.si2 (tX.si2 ⟨rfl, fun b k hb => if_neg (fun z => hb ?_)⟩ ?_) ?_
      · show 506 ≤ b ∧ b ≤ 513; omega
      · show 506 ≤ 506 ∧ 506 ≤ 513; omega
      · show 506 ≤ 506 ∧ 506 ≤ 513; omega
    refine c_65 (e := e2 x y) hd (hq.keep (fun b k hb => hX.2 b k (fun z => absurd z.1 (by omega)))) (fun v hv => ?_) hi hfr (fun t' h2 => ?_)
    · unfold e2
      by_cases z1 : v = 1
      · rw [z1, tsi_eq]; exact ⟨rfl, hy⟩
      · rw [tsi_ne (by omega)]
        by_cases z0 : v = 0
        · rw [z0, tsi_eq]; exact ⟨rfl, hx⟩
        · rw [tsi_ne (by omega), if_neg z0, if_neg z1]
          exact ⟨if_pos ⟨rfl, Nat.zero_le _, hv⟩, by omega⟩
    · simp only [v_68_0, v_68_1, v_68_3, h_68_3, v_68_5, v_68_7, v_68_10, v_68_11, v_68_14, v_68_16, v_68_17, v_68_18, v_68_21, v_68_24, v_68_25, v_68_28, v_68_29, v_68_30, v_68_31, v_68_32, v_68_35, v_68_36, v_68_38, v_68_39, v_68_40, v_68_41, v_68_42, v_68_45, vgi_0, vgi_s, vga_0, vga_s, vset_0, vset_s, vtk_0, vtk_s, vrc_0, vsw_0, vsw_s, List.all_cons, List.all_nil, zc1_i, zc1_r, Bool.and_true, Bool.and_self, true_and, and_true, List.length_cons, List.length_nil, Nat.zero_le, Nat.reduceLeDiff, Nat.reduceAdd, Option.toList_some, List.cons_append, List.nil_append]
      exact h t' (hX.tr h2)
  | succ j ih =>
    intro k hk
    refine vc_ok none zH_68 37 false _ 68 3 _ _ _ _ ?_
    simp only [v_68_0, v_68_1, v_68_3, h_68_3, v_68_5, v_68_7, v_68_10, v_68_11, v_68_14, v_68_16, v_68_17, v_68_18, v_68_21, v_68_24, v_68_25, v_68_28, v_68_29, v_68_30, v_68_31, v_68_32, v_68_35, v_68_36, v_68_38, v_68_39, v_68_40, v_68_41, v_68_42, v_68_45, vgi_0, vgi_s, vga_0, vga_s, vset_0, vset_s, vtk_0, vtk_s, vrc_0, vsw_0, vsw_s, List.all_cons, List.all_nil, zc1_i, zc1_r, Bool.and_true, Bool.and_self, true_and, and_true, List.length_cons, List.length_nil, Nat.zero_le, Nat.reduceLeDiff, Nat.reduceAdd, tg_483, tf_483_27, tg_506, ln_506]
    simp (disch := omega) only [li6, nI_ltI, nI_clamp, vinb_n, nI_1]
    rw [if_pos (by omega), tfl_s _ _ _ _ _ (Nat.zero_le _)]
    exact ⟨by omega, ih (k + 1) (by omega)⟩
theorem c_68 {x y : Nat} (hd : 8 ≤ d) (hq : mvp t q m s f n) (hi : i < m) (hx : x < 6) (hy : y < 6) (hfr : ∀ v, fb q i v → e2 x y v < n) (h : ∀ t', tX mE t t' → F (some (.int (EV q f n i (e2 x y)))) t') : twc d 68 [.ref 483, .int (nI s), .int (nI i), .int (nI x), .int (nI y)] t F := by
  refine ⟨by omega, ?_⟩
  rw [ze_68]
  refine vc_ok none zH_68 37 false _ 68 0 _ _ _ _ ?_
  simp only [v_68_0, v_68_1, v_68_3, h_68_3, v_68_5, v_68_7, v_68_10, v_68_11, v_68_14, v_68_16, v_68_17, v_68_18, v_68_21, v_68_24, v_68_25, v_68_28, v_68_29, v_68_30, v_68_31, v_68_32, v_68_35, v_68_36, v_68_38, v_68_39, v_68_40, v_68_41, v_68_42, v_68_45, vgi_0, vgi_s, vga_0, vga_s, vset_0, vset_s, vtk_0, vtk_s, vrc_0, vsw_0, vsw_s, List.all_cons, List.all_nil, zc1_i, zc1_r, Bool.and_true, Bool.and_self, true_and, and_true, List.length_cons, List.length_nil, Nat.zero_le, Nat.reduceLeDiff, Nat.reduceAdd]
  have := l_68 (d := d - 1) (by omega) hq hi hx hy hfr h 6 0 (by omega)
  rw [tfl_0] at this
  exact this
end ME4
