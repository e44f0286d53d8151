/-! run: the reference, once. -/
section RUNO
variable {d : Nat} {t t' : T} {F : Option Value → T → Prop} {q : FT} {m rc ec : Nat} {ru Es : Nat → Nat → Nat} {S X Y Z : Nat → List St}
theorem l_99b {k p i : Nat} {x : St} (hd : 14 ≤ d) (hr : rdM t q m ru rc ec Es) (hp : p < 4) (hk : k = 12 * p + i) (hi12 : i < 12) (hi : i < (X p).length) (hx : (X p).getD i z0 = x) (h505 : ∀ p i, p < 4 → (X p).length ≤ i → i < 12 → t.1 505 (12 * p + i) = 0) (kf : badX q ru rc ec Es S → ∀ t', mW rnA rnR t t' → F (some (.int (-1))) t') (k1 : ∀ Y, exL X Y → grw q ru rc ec Es S Y → clsd q ru rc ec Es Y p x → ∀ t', mW rnA rnR t t' → mX t' Y → (∀ k, t'.1 505 k = t.1 505 k) → F (some (.int 1)) t') : ∀ (j e : Nat) (Y : Nat → List St) (t' : T), e + j = ec → exL X Y → grw q ru rc ec Es S Y → (∀ e', e' < e → Es e' 0 = p → ∃ K, MV q ru rc (Es e') x (some K) ∧ ∀ z, z ∈ K → ∃ g, g ∈ Y (Es e' 1) ∧ BLU z (sn z) g) → mW rnA rnR t t' → mX t' Y → (∀ k, t'.1 505 k = t.1 505 k) → twp none d 99 42 [.ref 483, .int (nI k), .int (nI e)] [] t' F := by
  intro j
  induction j with
  | zero =>
    intro e Y t' he hY hG hI hO hX h5
    obtain ⟨r1, r2, r3, r4, r5, r6⟩ := hr.k hO
    have he : e = ec := by omega
    subst he
    refine vc_ok none zH_99 66 false _ 99 42 _ _ _ _ ?_
    simp only [v_99_0, v_99_1, v_99_2, h_99_2, v_99_3, v_99_5, v_99_8, v_99_9, v_99_11, v_99_12, v_99_13, v_99_16, v_99_17, v_99_19, v_99_20, v_99_21, v_99_24, v_99_25, v_99_28, v_99_29, v_99_30, v_99_33, v_99_34, v_99_37, v_99_38, v_99_39, v_99_40, v_99_41, v_99_42, h_99_42, v_99_43, v_99_44, v_99_47, v_99_50, v_99_51, v_99_54, v_99_55, v_99_56, v_99_57, v_99_59, v_99_60, v_99_63, v_99_64, v_99_65, v_99_66, v_99_67, v_99_68, v_99_71, v_99_74, v_99_75, v_99_76, v_99_79, v_99_82, v_99_83, v_99_84, v_99_87, v_99_90, v_99_91, vgi_0, vgi_s, vga_0, vga_s, vset_0, vset_s, vtk_0, vtk_s, vrc_0, vsw_0, vsw_s, List.all_cons, List.all_nil, zc1_i, zc1_r, Bool.and_true, Bool.and_self, true_and, and_true, List.length_cons, List.length_nil, Nat.zero_le, Nat.reduceLeDiff, Nat.reduceAdd, Nat.reduceLT, tg_483, r3]
    simp (disch := omega) only [nI_ltI, Nat.lt_irrefl, if_false]
    exact k1 Y hY hG hI t' hO hX h5
  | succ j ih =>
    intro e Y t' he hY hG hI hO hX h5
    have hr' := hr.k hO
    obtain ⟨r1, r2, r3, r4, r5, r6⟩ := hr.k hO
    have el : e < ec := by omega
    obtain ⟨w1, w2⟩ := r6 e el
    have f0 := w2.1
    have p0 := w1.1
    have kd : nI k / 12 = nI p := by
      rw [li12, pk_div (by omega) (by omega) (by omega)]
      congr 1; omega
    refine vc_ok none zH_99 66 false _ 99 42 _ _ _ _ ?_
    simp only [v_99_0, v_99_1, v_99_2, h_99_2, v_99_3, v_99_5, v_99_8, v_99_9, v_99_11, v_99_12, v_99_13, v_99_16, v_99_17, v_99_19, v_99_20, v_99_21, v_99_24, v_99_25, v_99_28, v_99_29, v_99_30, v_99_33, v_99_34, v_99_37, v_99_38, v_99_39, v_99_40, v_99_41, v_99_42, h_99_42, v_99_43, v_99_44, v_99_47, v_99_50, v_99_51, v_99_54, v_99_55, v_99_56, v_99_57, v_99_59, v_99_60, v_99_63, v_99_64, v_99_65, v_99_66, v_99_67, v_99_68, v_99_71, v_99_74, v_99_75, v_99_76, v_99_79, v_99_82, v_99_83, v_99_84, v_99_87, v_99_90, v_99_91, vgi_0, vgi_s, vga_0, vga_s, vset_0, vset_s, vtk_0, vtk_s, vrc_0, vsw_0, vsw_s, List.all_cons, List.all_nil, zc1_i, zc1_r, Bool.and_true, Bool.and_self, true_and, and_true, List.length_cons, List.length_nil, Nat.zero_le, Nat.reduceLeDiff, Nat.reduceAdd, Nat.reduceLT, tg_483, r3, tf_483_15, tg_496, ln_496]
    simp (disch := omega) only [nI_ltI, nI_clamp, vinb_n, f0, kd, nI_eq, li4, nI_add]
    rw [if_pos el]
    refine ⟨by omega, by decide, ?_⟩
    by_cases z : Es e 0 = p
    · rw [if_pos z]
      have hi' : i < (Y p).length := by have := hY.len p; omega
      have hxY : (Y p).getD i z0 = x := by rw [hY.gd hi]; exact hx
      refine c_98 (X := Y) (S := S) (p := p) (x := x) (by omega) hr' el z (by omega) (by rw [hk, ← Nat.add_assoc, (hX p hp).2 i hi']; exact hxY) hG hX (by rw [← hxY]; exact gd_mem hi') (fun p i a1 a2 a3 => by rw [h5]; exact h505 p i a1 (by have := hY.len p; omega) a3) (fun hB t1 o1 => ?_) (fun Y2 hY2 hG2 hK t1 o1 X1 h1 => ?_)
      · simp only [v_99_0, v_99_1, v_99_2, h_99_2, v_99_3, v_99_5, v_99_8, v_99_9, v_99_11, v_99_12, v_99_13, v_99_16, v_99_17, v_99_19, v_99_20, v_99_21, v_99_24, v_99_25, v_99_28, v_99_29, v_99_30, v_99_33, v_99_34, v_99_37, v_99_38, v_99_39, v_99_40, v_99_41, v_99_42, h_99_42, v_99_43, v_99_44, v_99_47, v_99_50, v_99_51, v_99_54, v_99_55, v_99_56, v_99_57, v_99_59, v_99_60, v_99_63, v_99_64, v_99_65, v_99_66, v_99_67, v_99_68, v_99_71, v_99_74, v_99_75, v_99_76, v_99_79, v_99_82, v_99_83, v_99_84, v_99_87, v_99_90, v_99_91, vgi_0, vgi_s, vga_0, vga_s, vset_0, vset_s, vtk_0, vtk_s, vrc_0, vsw_0, vsw_s, List.all_cons, List.all_nil, zc1_i, zc1_r, Bool.and_true, Bool.and_self, true_and, and_true, List.length_cons, List.length_nil, Nat.zero_le, Nat.reduceLeDiff, Nat.reduceAdd, Nat.reduceLT, Option.toList_some, List.cons_append, List.nil_append]
        rw [if_pos trivial]
        exact kf hB t1 (hO.tr o1)
      · simp only [v_99_0, v_99_1, v_99_2, h_99_2, v_99_3, v_99_5, v_99_8, v_99_9, v_99_11, v_99_12, v_99_13, v_99_16, v_99_17, v_99_19, v_99_20, v_99_21, v_99_24, v_99_25, v_99_28, v_99_29, v_99_30, v_99_33, v_99_34, v_99_37, v_99_38, v_99_39, v_99_40, v_99_41, v_99_42, h_99_42, v_99_43, v_99_44, v_99_47, v_99_50, v_99_51, v_99_54, v_99_55, v_99_56, v_99_57, v_99_59, v_99_60, v_99_63, v_99_64, v_99_65, v_99_66, v_99_67, v_99_68, v_99_71, v_99_74, v_99_75, v_99_76, v_99_79, v_99_82, v_99_83, v_99_84, v_99_87, v_99_90, v_99_91, vgi_0, vgi_s, vga_0, vga_s, vset_0, vset_s, vtk_0, vtk_s, vrc_0, vsw_0, vsw_s, List.all_cons, List.all_nil, zc1_i, zc1_r, Bool.and_true, Bool.and_self, true_and, and_true, List.length_cons, List.length_nil, Nat.zero_le, Nat.reduceLeDiff, Nat.reduceAdd, Nat.reduceLT, Option.toList_some, List.cons_append, List.nil_append]
        rw [if_neg (by decide), nI_1]
        refine ih (e + 1) Y2 t1 (by omega) (hY.tr hY2) hG2 (fun e' he' ep => ?_) (hO.tr o1) X1 (fun k => by rw [h1]; exact h5 k)
        by_cases ze : e' = e
        · subst ze
          exact hK
        · obtain ⟨K', k1', k2'⟩ := hI e' (by omega) ep
          exact ⟨K', k1', fun z' hz' => by obtain ⟨g, g1, g2⟩ := k2' z' hz'; exact ⟨g, hY2.mem g1, g2⟩⟩
    · rw [if_neg z, nI_1]
      refine ih (e + 1) Y t' (by omega) hY hG (fun e' he' ep => ?_) hO hX h5
      by_cases ze : e' = e
      · subst ze; exact absurd ep z
      · exact hI e' (by omega) ep
/-- what is done is so -/
def dI (q : FT) (ru : Nat → Nat → Nat) (rc ec : Nat) (Es : Nat → Nat → Nat) (t : T) (X : Nat → List St) : Prop := (∀ k, k < 48 → t.1 505 k = 0 ∨ t.1 505 k = 1) ∧ (∀ p i, p < 4 → (X p).length ≤ i → i < 12 → t.1 505 (12 * p + i) = 0) ∧ ∀ p i, p < 4 → i < (X p).length → t.1 505 (12 * p + i) = 1 → clsd q ru rc ec Es X p ((X p).getD i z0)
theorem l_99a (hd : 14 ≤ d) (hr : rdM t q m ru rc ec Es) (hG : grw q ru rc ec Es S X) (hX : mX t X) (hD : dI q ru rc ec Es t X) (kf : badX q ru rc ec Es S → ∀ t', mW rnA rnR t t' → F (some (.int (-1))) t') (k1 : ∀ Y k, exL X Y → grw q ru rc ec Es S Y → k < 48 → t.1 505 k = 0 → ∀ t', mW rnA rnR t t' → mX t' Y → dI q ru rc ec Es t' Y → (∀ k', t'.1 505 k' = if k' = k then 1 else t.1 505 k') → F (some (.int 1)) t') (k0 : goodX q ru rc ec Es S X → F (some (.int 0)) t) : ∀ (j k : Nat) (j2 : Value), k + j = 48 → (∀ p i, p < 4 → i < (X p).length → 12 * p + i < k → t.1 505 (12 * p + i) = 1) → twp none d 99 2 [.ref 483, .int (nI k), j2] [] t F := by
  intro j
  induction j with
  | zero =>
    intro k j2 hk hI
    have hk : k = 48 := by omega
    subst hk
    refine vc_ok none zH_99 66 false _ 99 2 _ _ _ _ ?_
    simp only [v_99_0, v_99_1, v_99_2, h_99_2, v_99_3, v_99_5, v_99_8, v_99_9, v_99_11, v_99_12, v_99_13, v_99_16, v_99_17, v_99_19, v_99_20, v_99_21, v_99_24, v_99_25, v_99_28, v_99_29, v_99_30, v_99_33, v_99_34, v_99_37, v_99_38, v_99_39, v_99_40, v_99_41, v_99_42, h_99_42, v_99_43, v_99_44, v_99_47, v_99_50, v_99_51, v_99_54, v_99_55, v_99_56, v_99_57, v_99_59, v_99_60, v_99_63, v_99_64, v_99_65, v_99_66, v_99_67, v_99_68, v_99_71, v_99_74, v_99_75, v_99_76, v_99_79, v_99_82, v_99_83, v_99_84, v_99_87, v_99_90, v_99_91, vgi_0, vgi_s, vga_0, vga_s, vset_0, vset_s, vtk_0, vtk_s, vrc_0, vsw_0, vsw_s, List.all_cons, List.all_nil, zc1_i, zc1_r, Bool.and_true, Bool.and_self, true_and, and_true, List.length_cons, List.length_nil, Nat.zero_le, Nat.reduceLeDiff, Nat.reduceAdd, Nat.reduceLT]
    rw [if_neg (by decide)]
    refine k0 (hG.good (fun p hp x hx => ?_))
    obtain ⟨i, hi, e⟩ := mem_gd hx
    have := (hG p hp).1
    rw [← e]
    exact hD.2.2 p i hp hi (hI p i hp hi (by omega))
  | succ j ih =>
    intro k j2 hk hI
    obtain ⟨p, i, hp, hi12, ek⟩ : ∃ p i, p < 4 ∧ i < 12 ∧ k = 12 * p + i := ⟨k / 12, k % 12, by omega, by omega, by omega⟩
    have kd : nI k / 12 = nI p := by
      rw [li12, pk_div (by omega) (by omega) (by omega)]
      congr 1; omega
    have km : nI k - nI k / 12 * 12 = nI i := by
      rw [li12, pk_rem (by omega) (by omega) (by omega)]
      congr 1; omega
    obtain ⟨x1, x2⟩ := hX p hp
    obtain ⟨g1, g2, g3, g4⟩ := hG p hp
    refine vc_ok none zH_99 66 false _ 99 2 _ _ _ _ ?_
    simp only [v_99_0, v_99_1, v_99_2, h_99_2, v_99_3, v_99_5, v_99_8, v_99_9, v_99_11, v_99_12, v_99_13, v_99_16, v_99_17, v_99_19, v_99_20, v_99_21, v_99_24, v_99_25, v_99_28, v_99_29, v_99_30, v_99_33, v_99_34, v_99_37, v_99_38, v_99_39, v_99_40, v_99_41, v_99_42, h_99_42, v_99_43, v_99_44, v_99_47, v_99_50, v_99_51, v_99_54, v_99_55, v_99_56, v_99_57, v_99_59, v_99_60, v_99_63, v_99_64, v_99_65, v_99_66, v_99_67, v_99_68, v_99_71, v_99_74, v_99_75, v_99_76, v_99_79, v_99_82, v_99_83, v_99_84, v_99_87, v_99_90, v_99_91, vgi_0, vgi_s, vga_0, vga_s, vset_0, vset_s, vtk_0, vtk_s, vrc_0, vsw_0, vsw_s, List.all_cons, List.all_nil, zc1_i, zc1_r, Bool.and_true, Bool.and_self, true_and, and_true, List.length_cons, List.length_nil, Nat.zero_le, Nat.reduceLeDiff, Nat.reduceAdd, Nat.reduceLT, tg_483, tf_483_23, tg_503, ln_503, tf_483_25, tg_505, ln_505]
    rw [li48, if_pos (nI_lt (by omega) (by omega))]
    simp only [km]
    simp (disch := omega) only [nI_ltI, nI_clamp, vinb_n, kd, x1]
    refine ⟨by decide, by decide, hp, ?_⟩
    by_cases zi : i < (X p).length
    · rw [if_pos zi]
      refine ⟨Or.inr trivial, by omega, ?_⟩
      by_cases z0' : t.1 505 k = 0
      · rw [if_pos z0']
        refine ⟨by omega, ?_⟩
        rw [if_neg (by decide)]
        refine ⟨Or.inr trivial, ?_⟩
        obtain ⟨T1, hT⟩ : ∃ T1, T1 = tsi t 505 k 1 := ⟨_, rfl⟩
        rw [← hT]
        have m1 : ∀ r, mS T1 r = mS t r := fun r => by
          funext k'; unfold mS; rw [hT, tsi_ne (by omega)]
        have O1 : mW rnA rnR t T1 := by
          refine ⟨⟨by rw [hT]; rfl, fun y _ hy k' => ?_, fun r _ => m1 r⟩, fun k' _ => by rw [hT, tsi_ne (by omega)]⟩
          have : y ≠ 505 := fun e => hy (Or.inl (by unfold rnA; omega))
          rw [hT, tsi_ne (by omega)]
        have h5 : ∀ k', T1.1 505 k' = if k' = k then 1 else t.1 505 k' := fun k' => by
          by_cases z : k' = k
          · rw [if_pos z, z, hT, tsi_eq]
          · rw [if_neg z, hT, tsi_ne (by omega)]
        have h50 : ∀ p i, p < 4 → (X p).length ≤ i → i < 12 → T1.1 505 (12 * p + i) = 0 := fun p' i' a1 a2 a3 => by
          rw [h5, if_neg (fun z => ?_)]
          · exact hD.2.1 p' i' a1 a2 a3
          · have : p' = p := by omega
            subst this
            omega
        refine l_99b (t := T1) (X := X) (S := S) (p := p) (i := i) (by omega) (hr.k O1) hp ek hi12 zi rfl h50 (fun hB t2 o2 => kf hB t2 (O1.tr o2)) (fun Y hY hG2 hc t2 o2 X2 h2 => k1 Y k hY hG2 (by omega) z0' t2 (O1.tr o2) X2 ⟨fun k' hk' => ?_, fun p' i' a1 a2 a3 => ?_, fun p' i' a1 a2 a3 => ?_⟩ (fun k' => by rw [h2]; exact h5 k')) ec 0 X T1 (by omega) exL.rf hG (fun e' he' => by omega) mW.rf (fun p' hp' => ?_) (fun _ => rfl)
        · rw [h2, h5]
          by_cases z : k' = k
          · rw [if_pos z]; exact Or.inr rfl
          · rw [if_neg z]; exact hD.1 k' hk'
        · rw [h2]
          exact h50 p' i' a1 (by have := hY.len p'; omega) a3
        · rw [h2, h5] at a3
          have hl := (hG2 p' a1).1
          by_cases z : 12 * p' + i' = k
          · have e1 : p' = p := by omega
            subst e1
            have e2 : i' = i := by omega
            subst e2
            rw [hY.gd zi]; exact hc
          · rw [if_neg z] at a3
            by_cases zz : i' < (X p').length
            · rw [hY.gd zz]
              exact (hD.2.2 p' i' a1 zz a3).mono hY
            · rw [hD.2.1 p' i' a1 (by omega) (by omega)] at a3
              exact absurd a3 (by decide)
        · obtain ⟨y1, y2⟩ := hX p' hp'
          exact ⟨by rw [hT, tsi_ne (by omega)]; exact y1, fun k' hk' => by rw [m1]; exact y2 k' hk'⟩
      · rw [if_neg z0', nI_1]
        refine ih (k + 1) _ (by omega) (fun p' i' a1 a2 a3 => ?_)
        by_cases z : 12 * p' + i' = k
        · rw [z]
          exact (hD.1 k (by omega)).resolve_left z0'
        · exact hI p' i' a1 a2 (by omega)
    · rw [if_neg zi, nI_1]
      refine ih (k + 1) _ (by omega) (fun p' i' a1 a2 a3 => ?_)
      by_cases z : 12 * p' + i' = k
      · have := (hG p' a1).1
        have e1 : p' = p := by omega
        subst e1
        omega
      · exact hI p' i' a1 a2 (by omega)
theorem c_99 (hd : 15 ≤ d) (hr : rdM t q m ru rc ec Es) (hG : grw q ru rc ec Es S X) (hX : mX t X) (hD : dI q ru rc ec Es t X) (kf : badX q ru rc ec Es S → ∀ t', mW rnA rnR t t' → F (some (.int (-1))) t') (k1 : ∀ Y k, exL X Y → grw q ru rc ec Es S Y → k < 48 → t.1 505 k = 0 → ∀ t', mW rnA rnR t t' → mX t' Y → dI q ru rc ec Es t' Y → (∀ k', t'.1 505 k' = if k' = k then 1 else t.1 505 k') → F (some (.int 1)) t') (k0 : goodX q ru rc ec Es S X → F (some (.int 0)) t) : twc d 99 [.ref 483] t F := by
  refine ⟨by omega, ?_⟩
  rw [ze_99]
  refine vc_ok none zH_99 66 false _ 99 0 _ _ _ _ ?_
  simp only [v_99_0, v_99_1, v_99_2, h_99_2, v_99_3, v_99_5, v_99_8, v_99_9, v_99_11, v_99_12, v_99_13, v_99_16, v_99_17, v_99_19, v_99_20, v_99_21, v_99_24, v_99_25, v_99_28, v_99_29, v_99_30, v_99_33, v_99_34, v_99_37, v_99_38, v_99_39, v_99_40, v_99_41, v_99_42, h_99_42, v_99_43, v_99_44, v_99_47, v_99_50, v_99_51, v_99_54, v_99_55, v_99_56, v_99_57, v_99_59, v_99_60, v_99_63, v_99_64, v_99_65, v_99_66, v_99_67, v_99_68, v_99_71, v_99_74, v_99_75, v_99_76, v_99_79, v_99_82, v_99_83, v_99_84, v_99_87, v_99_90, v_99_91, vgi_0, vgi_s, vga_0, vga_s, vset_0, vset_s, vtk_0, vtk_s, vrc_0, vsw_0, vsw_s, List.all_cons, List.all_nil, zc1_i, zc1_r, Bool.and_true, Bool.and_self, true_and, and_true, List.length_cons, List.length_nil, Nat.zero_le, Nat.reduceLeDiff, Nat.reduceAdd, Nat.reduceLT]
  exact l_99a (by omega) hr hG hX hD kf k1 k0 48 0 _ (by omega) (fun p i _ _ h => by omega)
def cn (g : Nat → Int32) : Nat → Nat
  | 0 => 0
  | n + 1 => cn g n + if g n = 1 then 1 else 0
theorem cn_le (g : Nat → Int32) : ∀ n, cn g n ≤ n
  | 0 => Nat.le_refl _
  | n + 1 => by
    have := cn_le g n
    show cn g n + (if g n = 1 then 1 else 0) ≤ n + 1
    by_cases z : g n = 1
    · rw [if_pos z]; omega
    · rw [if_neg z]; omega
theorem cn_set {g g' : Nat → Int32} {k : Nat} (h0 : g k = 0) (h : ∀ j, g' j = if j = k then 1 else g j) : ∀ n, cn g' n = cn g n + if k < n then 1 else 0
  | 0 => by rw [if_neg (by omega)]; rfl
  | n + 1 => by
    show cn g' n + (if g' n = 1 then 1 else 0) = cn g n + (if g n = 1 then 1 else 0) + _
    rw [cn_set h0 h n, h n]
    by_cases z : n = k
    · subst z
      rw [if_pos rfl, if_neg (Nat.lt_irrefl _), if_pos rfl, h0, if_neg (by decide), if_pos (by omega)]
    · rw [if_neg z]
      by_cases zk : k < n
      · rw [if_pos zk, if_pos (show k < n + 1 by omega)]; omega
      · rw [if_neg zk, if_neg (show ¬ k < n + 1 by omega)]; omega
end RUNO
