/-! run: the reference carries. -/
section RUNM
variable {d : Nat} {t t' : T} {F : Option Value → T → Prop} {q : FT} {m rc ec : Nat} {ru Es : Nat → Nat → Nat} {S X Y Z : Nat → List St}
def rnA : Nat → Prop := fun b => b = 503 ∨ (505 ≤ b ∧ b ≤ 515)
def rnR : Nat → Prop := fun s => (4 ≤ s ∧ s < 52) ∨ (140 ≤ s ∧ s ≤ 183)
/-- the lists in the rows of the recorded -/
def mX (t : T) (X : Nat → List St) : Prop := ∀ p, p < 4 → t.1 503 p = nI (X p).length ∧ rwI t (4 + 12 * p) (X p)
/-- what the reference reads on its way -/
def rdM (t : T) (q : FT) (m : Nat) (ru : Nat → Nat → Nat) (rc ec : Nat) (Es : Nat → Nat → Nat) : Prop := rwf q m ru rc ∧ ec ≤ 8 ∧ t.1 483 14 = nI ec ∧ mfq t q m ∧ mrl t ru rc ∧ ∀ e, e < ec → ewf q m (Es e) ∧ med t e (Es e)
theorem mW.far {x k : Nat} (hO : mW rnA rnR t t') (h : x < 483 ∨ (485 ≤ x ∧ x ≤ 502)) : t'.1 x k = t.1 x k := hO.1.2.1 x (by omega) (fun z => by unfold rnA at z; omega) k
theorem rdM.k (h : rdM t q m ru rc ec Es) (hO : mW rnA rnR t t') : rdM t' q m ru rc ec Es := by
  obtain ⟨h1, h2, h3, h4, h5, h6⟩ := h
  refine ⟨h1, h2, by rw [hO.2 14 (by omega)]; exact h3, h4.k (fun x k a c => hO.far (by omega)), h5.k (fun x k a c => hO.far (by omega)) (hO.2 10 (by omega)), fun e he => ⟨(h6 e he).1, (h6 e he).2.k (fun x k a c => hO.far (by omega))⟩⟩
theorem l_98 {K : List St} {p : Nat} {ev sv : Value} (hd : 8 ≤ d) (hp : p < 4) (hK : K.length ≤ 40) (hKw : ∀ x, x ∈ K → wfS x) (hR : ∀ z g, z ∈ K → BLU z (sn z) g → Rch q ru rc ec Es S p g) (h505 : ∀ p i, p < 4 → (X p).length ≤ i → i < 12 → t.1 505 (12 * p + i) = 0) (kf : badX q ru rc ec Es S → ∀ t', mW rnA rnR t t' → F (some (.int 0)) t') (k1 : ∀ Y, exL X Y → grw q ru rc ec Es S Y → (∀ z, z ∈ K → ∃ g, g ∈ Y p ∧ BLU z (sn z) g) → ∀ t', mW rnA rnR t t' → mX t' Y → (∀ k, t'.1 505 k = t.1 505 k) → F (some (.int 1)) t') : ∀ (j i : Nat) (Y : Nat → List St) (t' : T) (j6 j7 : Value), i + j = K.length → exL X Y → grw q ru rc ec Es S Y → (∀ k, k < i → ∃ g, g ∈ Y p ∧ BLU (K.getD k z0) (sn (K.getD k z0)) g) → mW rnA rnR t t' → mX t' Y → (∀ k, i ≤ k → k < K.length → mS t' (140 + k) = K.getD k z0) → (∀ k, t'.1 505 k = t.1 505 k) → twp none d 98 18 [.ref 483, ev, sv, .int (nI K.length), .int (nI p), .int (nI i), j6, j7] [] t' F := by
  intro j
  induction j with
  | zero =>
    intro i Y t' j6 j7 hi hY hG hI hO hX hrem h5
    have hi : i = K.length := by omega
    subst hi
    refine vc_ok none zH_98 91 false _ 98 18 _ _ _ _ ?_
    simp only [v_98_0, v_98_1, v_98_2, v_98_3, v_98_6, v_98_7, v_98_8, v_98_11, v_98_12, v_98_13, v_98_15, v_98_16, v_98_18, h_98_18, v_98_20, v_98_21, v_98_24, v_98_25, v_98_28, v_98_30, v_98_31, v_98_34, v_98_35, v_98_37, v_98_39, v_98_40, v_98_41, v_98_43, v_98_44, v_98_46, v_98_47, v_98_50, v_98_52, v_98_53, v_98_56, v_98_58, v_98_59, v_98_62, v_98_64, v_98_66, v_98_68, v_98_71, v_98_72, v_98_73, v_98_75, v_98_76, v_98_79, v_98_81, v_98_82, v_98_85, v_98_86, v_98_89, v_98_91, v_98_92, v_98_94, v_98_96, v_98_97, v_98_100, v_98_101, v_98_104, v_98_106, v_98_108, v_98_109, v_98_111, v_98_112, v_98_113, v_98_114, v_98_115, v_98_118, v_98_120, v_98_121, v_98_122, v_98_123, v_98_124, v_98_125, v_98_128, v_98_131, v_98_132, v_98_135, v_98_136, v_98_139, v_98_140, vgi_0, vgi_s, vga_0, vga_s, vset_0, vset_s, vtk_0, vtk_s, vrc_0, vsw_0, vsw_s, List.all_cons, List.all_nil, zc1_i, zc1_r, Bool.and_true, Bool.and_self, true_and, and_true, List.length_cons, List.length_nil, Nat.zero_le, Nat.reduceLeDiff, Nat.reduceAdd, Nat.reduceLT]
    simp (disch := omega) only [nI_ltI, Nat.lt_irrefl, if_false]
    rw [if_neg (by rw [li0, nI_ltI (by omega) (by omega)]; omega)]
    refine ⟨Or.inr trivial, k1 Y hY hG (fun z hz => ?_) t' hO hX h5⟩
    obtain ⟨k, hk, e⟩ := mem_gd hz
    rw [← e]; exact hI k hk
  | succ j ih =>
    intro i Y t' j6 j7 hi hY hG hI hO hX hrem h5
    have il : i < K.length := by omega
    have hwx := hKw _ (gd_mem il)
    obtain ⟨hn, hn6⟩ := hwx.n
    have hxi : mS t' (140 + i) = K.getD i z0 := hrem i (Nat.le_refl _) il
    obtain ⟨y1, y2, y3, y4⟩ := hG p hp
    refine vc_ok none zH_98 91 false _ 98 18 _ _ _ _ ?_
    simp only [v_98_0, v_98_1, v_98_2, v_98_3, v_98_6, v_98_7, v_98_8, v_98_11, v_98_12, v_98_13, v_98_15, v_98_16, v_98_18, h_98_18, v_98_20, v_98_21, v_98_24, v_98_25, v_98_28, v_98_30, v_98_31, v_98_34, v_98_35, v_98_37, v_98_39, v_98_40, v_98_41, v_98_43, v_98_44, v_98_46, v_98_47, v_98_50, v_98_52, v_98_53, v_98_56, v_98_58, v_98_59, v_98_62, v_98_64, v_98_66, v_98_68, v_98_71, v_98_72, v_98_73, v_98_75, v_98_76, v_98_79, v_98_81, v_98_82, v_98_85, v_98_86, v_98_89, v_98_91, v_98_92, v_98_94, v_98_96, v_98_97, v_98_100, v_98_101, v_98_104, v_98_106, v_98_108, v_98_109, v_98_111, v_98_112, v_98_113, v_98_114, v_98_115, v_98_118, v_98_120, v_98_121, v_98_122, v_98_123, v_98_124, v_98_125, v_98_128, v_98_131, v_98_132, v_98_135, v_98_136, v_98_139, v_98_140, vgi_0, vgi_s, vga_0, vga_s, vset_0, vset_s, vtk_0, vtk_s, vrc_0, vsw_0, vsw_s, List.all_cons, List.all_nil, zc1_i, zc1_r, Bool.and_true, Bool.and_self, true_and, and_true, List.length_cons, List.length_nil, Nat.zero_le, Nat.reduceLeDiff, Nat.reduceAdd, Nat.reduceLT, tg_483]
    simp (disch := omega) only [nI_ltI, li140, nI_add]
    rw [if_pos il]
    refine c_71 (s := 140 + i) (n := sn (K.getD i z0)) (by omega) (by omega) (by omega) (by rw [hxi]; exact hwx) (by rw [hxi]; exact hn) hn6 (fun t1 o1 b1 => ?_)
    rw [hxi] at b1
    have hwg := b1.wf hwx hn6
    have hRg := hR _ _ (gd_mem il) b1
    have O1 : mW rnA rnR t' t1 := mW.of o1 (fun z => by unfold mbA at z; omega) (fun x z => by unfold mbA at z; unfold rnA; omega) (fun x z => by unfold mbR at z; unfold rnR; omega)
    have X1 : mX t1 Y := fun p' hp' => by
      obtain ⟨a1, a2⟩ := hX p' hp'
      have := (hG p' hp').1
      refine ⟨by rw [o1.2.1 503 (by omega) (fun z => by unfold mbA at z; omega)]; exact a1, fun k hk => ?_⟩
      rw [o1.2.2 _ (by unfold mbR; omega)]; exact a2 k hk
    have h51 : ∀ k, t1.1 505 k = t.1 505 k := fun k => by rw [o1.2.1 505 (by omega) (fun z => by unfold mbA at z; omega)]; exact h5 k
    have rem1 : ∀ k, i + 1 ≤ k → k < K.length → mS t1 (140 + k) = K.getD k z0 := fun k hk hk2 => by
      rw [o1.2.2 _ (by unfold mbR; omega)]; exact hrem k (by omega) hk2
    obtain ⟨l1, l2⟩ := X1 p hp
    simp only [v_98_0, v_98_1, v_98_2, v_98_3, v_98_6, v_98_7, v_98_8, v_98_11, v_98_12, v_98_13, v_98_15, v_98_16, v_98_18, h_98_18, v_98_20, v_98_21, v_98_24, v_98_25, v_98_28, v_98_30, v_98_31, v_98_34, v_98_35, v_98_37, v_98_39, v_98_40, v_98_41, v_98_43, v_98_44, v_98_46, v_98_47, v_98_50, v_98_52, v_98_53, v_98_56, v_98_58, v_98_59, v_98_62, v_98_64, v_98_66, v_98_68, v_98_71, v_98_72, v_98_73, v_98_75, v_98_76, v_98_79, v_98_81, v_98_82, v_98_85, v_98_86, v_98_89, v_98_91, v_98_92, v_98_94, v_98_96, v_98_97, v_98_100, v_98_101, v_98_104, v_98_106, v_98_108, v_98_109, v_98_111, v_98_112, v_98_113, v_98_114, v_98_115, v_98_118, v_98_120, v_98_121, v_98_122, v_98_123, v_98_124, v_98_125, v_98_128, v_98_131, v_98_132, v_98_135, v_98_136, v_98_139, v_98_140, vgi_0, vgi_s, vga_0, vga_s, vset_0, vset_s, vtk_0, vtk_s, vrc_0, vsw_0, vsw_s, List.all_cons, List.all_nil, zc1_i, zc1_r, Bool.and_true, Bool.and_self, true_and, and_true, List.length_cons, List.length_nil, Nat.zero_le, Nat.reduceLeDiff, Nat.reduceAdd, Nat.reduceLT, Option.toList_none, List.nil_append, tg_483, tf_483_23, tg_503, ln_503]
    simp (disch := omega) only [nI_clamp, vinb_n, l1, li140, li12, li4, pk_mul, nI_add]
    refine ⟨hp, ?_⟩
    refine c_94 (s := 140 + i) (by omega) (by omega) (by omega) (fun k hk => by rw [l2 k hk]; exact (y4 _ (gd_mem hk)).1) hwg (fun x hx hne hfd => ?_)
    have mem : x < (Y p).length → mS t1 (140 + i) ∈ Y p := fun h => by
      have := hfd h
      rw [l2 x h] at this
      rw [← this]; exact gd_mem h
    have nmem : x = (Y p).length → mS t1 (140 + i) ∉ Y p := fun h hm => by
      obtain ⟨k, hk, ek⟩ := mem_gd hm
      exact hne k (by omega) (by rw [l2 k hk]; exact ek)
    simp only [v_98_0, v_98_1, v_98_2, v_98_3, v_98_6, v_98_7, v_98_8, v_98_11, v_98_12, v_98_13, v_98_15, v_98_16, v_98_18, h_98_18, v_98_20, v_98_21, v_98_24, v_98_25, v_98_28, v_98_30, v_98_31, v_98_34, v_98_35, v_98_37, v_98_39, v_98_40, v_98_41, v_98_43, v_98_44, v_98_46, v_98_47, v_98_50, v_98_52, v_98_53, v_98_56, v_98_58, v_98_59, v_98_62, v_98_64, v_98_66, v_98_68, v_98_71, v_98_72, v_98_73, v_98_75, v_98_76, v_98_79, v_98_81, v_98_82, v_98_85, v_98_86, v_98_89, v_98_91, v_98_92, v_98_94, v_98_96, v_98_97, v_98_100, v_98_101, v_98_104, v_98_106, v_98_108, v_98_109, v_98_111, v_98_112, v_98_113, v_98_114, v_98_115, v_98_118, v_98_120, v_98_121, v_98_122, v_98_123, v_98_124, v_98_125, v_98_128, v_98_131, v_98_132, v_98_135, v_98_136, v_98_139, v_98_140, vgi_0, vgi_s, vga_0, vga_s, vset_0, vset_s, vtk_0, vtk_s, vrc_0, vsw_0, vsw_s, List.all_cons, List.all_nil, zc1_i, zc1_r, Bool.and_true, Bool.and_self, true_and, and_true, List.length_cons, List.length_nil, Nat.zero_le, Nat.reduceLeDiff, Nat.reduceAdd, Nat.reduceLT, Option.toList_some, List.cons_append, List.nil_append, tg_483, tf_483_23, tg_503, ln_503]
    simp (disch := omega) only [nI_clamp, vinb_n, l1, nI_eq, nI_add, li140]
    by_cases x12 : x = 12
    · rw [if_pos (by rw [x12]; rfl)]
      exact ⟨Or.inl trivial, kf (hG.full hp (by omega) (nmem (by omega)) hRg) t1 (hO.tr O1)⟩
    · rw [if_neg (by rw [li12, nI_eq (by omega) (by omega)]; exact x12)]
      refine ⟨hp, ?_⟩
      by_cases xl : x = (Y p).length
      · rw [if_pos xl]
        refine c_44g (s := 140 + i) (A := noA) (P := fun s => 4 + 12 * p ≤ s ∧ s < 16 + 12 * p) (by omega) (by omega) (by omega) hwg.b (by omega) (fun t2 o2 e2 => ?_)
        have l12 : t2.1 503 p = nI (Y p).length := by rw [o2.2.1 503 (by omega) (fun z => z)]; exact l1
        simp only [v_98_0, v_98_1, v_98_2, v_98_3, v_98_6, v_98_7, v_98_8, v_98_11, v_98_12, v_98_13, v_98_15, v_98_16, v_98_18, h_98_18, v_98_20, v_98_21, v_98_24, v_98_25, v_98_28, v_98_30, v_98_31, v_98_34, v_98_35, v_98_37, v_98_39, v_98_40, v_98_41, v_98_43, v_98_44, v_98_46, v_98_47, v_98_50, v_98_52, v_98_53, v_98_56, v_98_58, v_98_59, v_98_62, v_98_64, v_98_66, v_98_68, v_98_71, v_98_72, v_98_73, v_98_75, v_98_76, v_98_79, v_98_81, v_98_82, v_98_85, v_98_86, v_98_89, v_98_91, v_98_92, v_98_94, v_98_96, v_98_97, v_98_100, v_98_101, v_98_104, v_98_106, v_98_108, v_98_109, v_98_111, v_98_112, v_98_113, v_98_114, v_98_115, v_98_118, v_98_120, v_98_121, v_98_122, v_98_123, v_98_124, v_98_125, v_98_128, v_98_131, v_98_132, v_98_135, v_98_136, v_98_139, v_98_140, vgi_0, vgi_s, vga_0, vga_s, vset_0, vset_s, vtk_0, vtk_s, vrc_0, vsw_0, vsw_s, List.all_cons, List.all_nil, zc1_i, zc1_r, Bool.and_true, Bool.and_self, true_and, and_true, List.length_cons, List.length_nil, Nat.zero_le, Nat.reduceLeDiff, Nat.reduceAdd, Nat.reduceLT, Option.toList_none, List.nil_append, tg_483, tf_483_25, tg_505, ln_505, tf_483_23, tg_503, ln_503]
        simp (disch := omega) only [nI_clamp, vinb_n, l12, li12, pk_mul, nI_add, nI_1]
        refine ⟨by omega, ?_⟩
        rw [if_neg (by decide)]
        refine ⟨Or.inl trivial, hp, hp, ?_⟩
        rw [tsi_ne (by omega), l12, nI_1]
        obtain ⟨T3, hT⟩ : ∃ T3, T3 = tsi (tsi t2 505 (12 * p + x) 0) 503 p (nI ((Y p).length + 1)) := ⟨_, rfl⟩
        rw [← hT]
        have m3 : ∀ r, mS T3 r = mS t2 r := fun r => by
          funext k; unfold mS; rw [hT, tsi_ne (by omega), tsi_ne (by omega)]
        have O2 : mW rnA rnR t1 t2 := mW.of o2 (fun z => z) (fun x z => z.elim) (fun x z => by unfold rnR; omega)
        have O3 : mW rnA rnR t2 T3 := by
          refine ⟨⟨by rw [hT]; rfl, fun y _ hy k => ?_, fun r _ => m3 r⟩, fun k _ => by rw [hT, tsi_ne (by omega), tsi_ne (by omega)]⟩
          have : y ≠ 503 ∧ y ≠ 505 := ⟨fun e => hy (Or.inl (Or.inl e)), fun e => hy (Or.inl (by unfold rnA; omega))⟩
          rw [hT, tsi_ne (by omega), tsi_ne (by omega)]
        have z505 : t.1 505 (12 * p + x) = 0 := h505 p x hp (by have := hY.len p; omega) (by omega)
        refine ih (i + 1) (Lad Y p (Y p ++ [mS t1 (140 + i)])) T3 _ _ (by omega) (hY.tr exL.add) (hG.add (by omega) (nmem xl) hwg hRg) (fun k' hk' => ?_) (((hO.tr O1).tr O2).tr O3) (fun p' hp' => ?_) (fun k hk hk2 => ?_) (fun k => ?_)
        · by_cases z : k' = i
          · subst z
            exact ⟨_, by rw [Lad_e]; exact List.mem_append_right _ (List.mem_singleton.mpr rfl), b1⟩
          · obtain ⟨g, g1, g2⟩ := hI k' (by omega)
            exact ⟨g, exL.add.mem g1, g2⟩
        · by_cases z : p' = p
          · subst z
            rw [Lad_e]
            refine ⟨by rw [hT, tsi_eq]; simp, fun k hk => ?_⟩
            simp only [List.length_append, List.length_cons, List.length_nil] at hk
            rw [m3, e2]
            by_cases zk : k < (Y p').length
            · rw [if_neg (by omega), gd_app_lt zk]; exact l2 k zk
            · have : k = (Y p').length := by omega
              subst this
              rw [if_pos (by omega), gd_app_ge (Nat.le_refl _), Nat.sub_self]; rfl
          · rw [Lad_o z]
            obtain ⟨z1, z2⟩ := X1 p' hp'
            have := (hG p' hp').1
            refine ⟨by rw [hT, tsi_ne (by omega), tsi_ne (by omega), o2.2.1 503 (by omega) (fun z => z)]; exact z1, fun k hk => by rw [m3, e2, if_neg (by omega)]; exact z2 k hk⟩
        · rw [m3, e2, if_neg (by omega)]; exact rem1 k hk hk2
        · rw [hT, tsi_ne (by omega)]
          by_cases z : k = 12 * p + x
          · rw [z, tsi_eq, z505]
          · rw [tsi_ne (by omega), o2.2.1 505 (by omega) (fun z => z)]; exact h51 k
      · rw [if_neg xl, nI_1]
        refine ih (i + 1) Y t1 _ _ (by omega) hY hG (fun k' hk' => ?_) (hO.tr O1) X1 rem1 h51
        by_cases z : k' = i
        · subst z
          exact ⟨_, mem (by omega), b1⟩
        · exact hI k' (by omega)
theorem c_98 {e s p : Nat} {x : St} (hd : 13 ≤ d) (hr : rdM t q m ru rc ec Es) (he : e < ec) (hp : Es e 0 = p) (hs : s < 52) (hsx : mS t s = x) (hG : grw q ru rc ec Es S X) (hX : mX t X) (hx : x ∈ X p) (h505 : ∀ p i, p < 4 → (X p).length ≤ i → i < 12 → t.1 505 (12 * p + i) = 0) (kf : badX q ru rc ec Es S → ∀ t', mW rnA rnR t t' → F (some (.int 0)) t') (k1 : ∀ Y, exL X Y → grw q ru rc ec Es S Y → (∃ K, MV q ru rc (Es e) x (some K) ∧ ∀ z, z ∈ K → ∃ g, g ∈ Y (Es e 1) ∧ BLU z (sn z) g) → ∀ t', mW rnA rnR t t' → mX t' Y → (∀ k, t'.1 505 k = t.1 505 k) → F (some (.int 1)) t') : twc d 98 [.ref 483, .int (nI e), .int (nI s)] t F := by
  obtain ⟨r1, r2, r3, r4, r5, r6⟩ := hr
  obtain ⟨w1, w2⟩ := r6 e he
  have p0 : p < 4 := hp ▸ w1.1
  have p1 := w1.2.1
  obtain ⟨x1, x2⟩ := (hG p p0).2.2.2 x hx
  refine ⟨by omega, ?_⟩
  rw [ze_98]
  refine vc_ok none zH_98 91 false _ 98 0 _ _ _ _ ?_
  simp only [v_98_0, v_98_1, v_98_2, v_98_3, v_98_6, v_98_7, v_98_8, v_98_11, v_98_12, v_98_13, v_98_15, v_98_16, v_98_18, h_98_18, v_98_20, v_98_21, v_98_24, v_98_25, v_98_28, v_98_30, v_98_31, v_98_34, v_98_35, v_98_37, v_98_39, v_98_40, v_98_41, v_98_43, v_98_44, v_98_46, v_98_47, v_98_50, v_98_52, v_98_53, v_98_56, v_98_58, v_98_59, v_98_62, v_98_64, v_98_66, v_98_68, v_98_71, v_98_72, v_98_73, v_98_75, v_98_76, v_98_79, v_98_81, v_98_82, v_98_85, v_98_86, v_98_89, v_98_91, v_98_92, v_98_94, v_98_96, v_98_97, v_98_100, v_98_101, v_98_104, v_98_106, v_98_108, v_98_109, v_98_111, v_98_112, v_98_113, v_98_114, v_98_115, v_98_118, v_98_120, v_98_121, v_98_122, v_98_123, v_98_124, v_98_125, v_98_128, v_98_131, v_98_132, v_98_135, v_98_136, v_98_139, v_98_140, vgi_0, vgi_s, vga_0, vga_s, vset_0, vset_s, vtk_0, vtk_s, vrc_0, vsw_0, vsw_s, List.all_cons, List.all_nil, zc1_i, zc1_r, Bool.and_true, Bool.and_self, true_and, and_true, List.length_cons, List.length_nil, Nat.zero_le, Nat.reduceLeDiff, Nat.reduceAdd, Nat.reduceLT, tg_483]
  refine c_90 (q := q) (m := m) (ru := ru) (rc := rc) (E := Es e) (by omega) (by omega) (by omega) hsx x1 r1 w1 ⟨r4, r5, w2⟩ (fun hM t1 o1 => ?_) (fun K hM t1 o1 l1 => ?_)
  · have O1 : mW rnA rnR t t1 := o1.mono (fun b z => by unfold mEb at z; unfold rnA; omega) (fun b z => by unfold wkS at z; unfold rnR; omega)
    have f1 : t1.1 497 e = nI (Es e 1) := by rw [O1.far (by omega)]; exact w2.2.1
    simp only [v_98_0, v_98_1, v_98_2, v_98_3, v_98_6, v_98_7, v_98_8, v_98_11, v_98_12, v_98_13, v_98_15, v_98_16, v_98_18, h_98_18, v_98_20, v_98_21, v_98_24, v_98_25, v_98_28, v_98_30, v_98_31, v_98_34, v_98_35, v_98_37, v_98_39, v_98_40, v_98_41, v_98_43, v_98_44, v_98_46, v_98_47, v_98_50, v_98_52, v_98_53, v_98_56, v_98_58, v_98_59, v_98_62, v_98_64, v_98_66, v_98_68, v_98_71, v_98_72, v_98_73, v_98_75, v_98_76, v_98_79, v_98_81, v_98_82, v_98_85, v_98_86, v_98_89, v_98_91, v_98_92, v_98_94, v_98_96, v_98_97, v_98_100, v_98_101, v_98_104, v_98_106, v_98_108, v_98_109, v_98_111, v_98_112, v_98_113, v_98_114, v_98_115, v_98_118, v_98_120, v_98_121, v_98_122, v_98_123, v_98_124, v_98_125, v_98_128, v_98_131, v_98_132, v_98_135, v_98_136, v_98_139, v_98_140, vgi_0, vgi_s, vga_0, vga_s, vset_0, vset_s, vtk_0, vtk_s, vrc_0, vsw_0, vsw_s, List.all_cons, List.all_nil, zc1_i, zc1_r, Bool.and_true, Bool.and_self, true_and, and_true, List.length_cons, List.length_nil, Nat.zero_le, Nat.reduceLeDiff, Nat.reduceAdd, Nat.reduceLT, Option.toList_some, List.cons_append, List.nil_append, tg_483, tf_483_16, tg_497, ln_497]
    simp (disch := omega) only [nI_clamp, vinb_n, f1]
    refine ⟨by omega, ?_⟩
    refine vc_ok none zH_98 91 false _ 98 18 _ _ _ _ ?_
    simp only [v_98_0, v_98_1, v_98_2, v_98_3, v_98_6, v_98_7, v_98_8, v_98_11, v_98_12, v_98_13, v_98_15, v_98_16, v_98_18, h_98_18, v_98_20, v_98_21, v_98_24, v_98_25, v_98_28, v_98_30, v_98_31, v_98_34, v_98_35, v_98_37, v_98_39, v_98_40, v_98_41, v_98_43, v_98_44, v_98_46, v_98_47, v_98_50, v_98_52, v_98_53, v_98_56, v_98_58, v_98_59, v_98_62, v_98_64, v_98_66, v_98_68, v_98_71, v_98_72, v_98_73, v_98_75, v_98_76, v_98_79, v_98_81, v_98_82, v_98_85, v_98_86, v_98_89, v_98_91, v_98_92, v_98_94, v_98_96, v_98_97, v_98_100, v_98_101, v_98_104, v_98_106, v_98_108, v_98_109, v_98_111, v_98_112, v_98_113, v_98_114, v_98_115, v_98_118, v_98_120, v_98_121, v_98_122, v_98_123, v_98_124, v_98_125, v_98_128, v_98_131, v_98_132, v_98_135, v_98_136, v_98_139, v_98_140, vgi_0, vgi_s, vga_0, vga_s, vset_0, vset_s, vtk_0, vtk_s, vrc_0, vsw_0, vsw_s, List.all_cons, List.all_nil, zc1_i, zc1_r, Bool.and_true, Bool.and_self, true_and, and_true, List.length_cons, List.length_nil, Nat.zero_le, Nat.reduceLeDiff, Nat.reduceAdd, Nat.reduceLT]
    rw [if_neg (by decide), if_pos (by decide)]
    exact ⟨Or.inl trivial, kf (Or.inl ⟨p, x, e, p0, x1, x2, he, hp, hM⟩) t1 O1⟩
  · have O1 : mW rnA rnR t t1 := o1.mono (fun b z => by unfold mEb at z; unfold rnA; omega) (fun b z => by unfold wkS at z; unfold rnR; omega)
    have f1 : t1.1 497 e = nI (Es e 1) := by rw [O1.far (by omega)]; exact w2.2.1
    have wK := MV_wf r4.2 r1 w1 x1 hM
    have e505 : ∀ k, t1.1 505 k = t.1 505 k := fun k => o1.1.2.1 505 (by omega) (fun z => by unfold mEb at z; omega) k
    simp only [v_98_0, v_98_1, v_98_2, v_98_3, v_98_6, v_98_7, v_98_8, v_98_11, v_98_12, v_98_13, v_98_15, v_98_16, v_98_18, h_98_18, v_98_20, v_98_21, v_98_24, v_98_25, v_98_28, v_98_30, v_98_31, v_98_34, v_98_35, v_98_37, v_98_39, v_98_40, v_98_41, v_98_43, v_98_44, v_98_46, v_98_47, v_98_50, v_98_52, v_98_53, v_98_56, v_98_58, v_98_59, v_98_62, v_98_64, v_98_66, v_98_68, v_98_71, v_98_72, v_98_73, v_98_75, v_98_76, v_98_79, v_98_81, v_98_82, v_98_85, v_98_86, v_98_89, v_98_91, v_98_92, v_98_94, v_98_96, v_98_97, v_98_100, v_98_101, v_98_104, v_98_106, v_98_108, v_98_109, v_98_111, v_98_112, v_98_113, v_98_114, v_98_115, v_98_118, v_98_120, v_98_121, v_98_122, v_98_123, v_98_124, v_98_125, v_98_128, v_98_131, v_98_132, v_98_135, v_98_136, v_98_139, v_98_140, vgi_0, vgi_s, vga_0, vga_s, vset_0, vset_s, vtk_0, vtk_s, vrc_0, vsw_0, vsw_s, List.all_cons, List.all_nil, zc1_i, zc1_r, Bool.and_true, Bool.and_self, true_and, and_true, List.length_cons, List.length_nil, Nat.zero_le, Nat.reduceLeDiff, Nat.reduceAdd, Nat.reduceLT, Option.toList_some, List.cons_append, List.nil_append, tg_483, tf_483_16, tg_497, ln_497]
    simp (disch := omega) only [nI_clamp, vinb_n, f1]
    refine ⟨by omega, ?_⟩
    refine l_98 (t := t1) (X := X) (S := S) (q := q) (ru := ru) (rc := rc) (ec := ec) (Es := Es) (by omega) p1 wK.2 wK.1 (fun z g hz hg => Rch.step (by rw [hp]; exact x2) he hM hz hg) (fun p i a1 a2 a3 => by rw [e505]; exact h505 p i a1 a2 a3) (fun hB t2 o2 => kf hB t2 (O1.tr o2)) (fun Y hY hG2 hZ t2 o2 X2 h2 => k1 Y hY hG2 ⟨K, hM, hZ⟩ t2 (O1.tr o2) X2 (fun k => by rw [h2, e505])) K.length 0 X t1 _ _ (by omega) exL.rf hG (fun k hk => by omega) mW.rf (fun p' hp' => ?_) (fun k _ hk => l1 k hk) (fun k => rfl)
    obtain ⟨a1, a2⟩ := hX p' hp'
    have := (hG p' hp').1
    refine ⟨by rw [o1.1.2.1 503 (by omega) (fun z => by unfold mEb at z; omega)]; exact a1, fun k hk => ?_⟩
    rw [o1.1.2.2 _ (by unfold wkS; omega)]; exact a2 k hk
end RUNM
