/-! run: the program spreads, sorts. -/
section RUND
variable {d b : Nat} {t t' : T} {F : Option Value → T → Prop} {q : FT} {m rc ec : Nat} {ru Es : Nat → Nat → Nat} {S X Y Z : Nat → List St}
def ruF (b : Nat) : Nat → Prop := fun x => mvF b x ∨ (144 ≤ x ∧ x ≤ 148) ∨ (301 ≤ x ∧ x < 483 ∧ rcF x) ∨ x = 158
/-- what the program reads on its way -/
def rdC (t : T) (b : Nat) (q : FT) (m : Nat) (ru : Nat → Nat → Nat) (rc ec : Nat) (Es : Nat → Nat → Nat) : Prop := b ∈ bags ∧ bN b = 40 ∧ (b = 61 ∨ b = 161) ∧ t.2 58 3 = b ∧ rwf q m ru rc ∧ ec ≤ 8 ∧ t.1 0 13 = nI ec ∧ cft t q m ∧ crl t ru rc ∧ ∀ e, e < ec → ewf q m (Es e) ∧ ced t e (Es e)
theorem ruF.no {x : Nat} (hbN : bN b = 40) (hb2 : b = 61 ∨ b = 161) (h : x < 44 ∨ (47 ≤ x ∧ x ≤ 58) ∨ (243 ≤ x ∧ x < 301) ∨ 483 ≤ x) : ¬ ruF b x := by
  unfold ruF mvF bgF; omega
theorem rdC.k (h : rdC t b q m ru rc ec Es) (hO : tF (ruF b) t t') : rdC t' b q m ru rc ec Es := by
  obtain ⟨h1, h2, h3, h4, h5, h6, h7, h8, h9, h10⟩ := h
  refine ⟨h1, h2, h3, by rw [(hO 58 (ruF.no h2 h3 (by omega))).2]; exact h4, h5, h6, by rw [(hO 0 (ruF.no h2 h3 (by omega))).1]; exact h7, h8.k (fun x k a c => (hO x (ruF.no h2 h3 (by omega))).1 k), h9.k h5.1 (fun x k a c => (hO x (ruF.no h2 h3 (by omega))).1 k), fun e he => ⟨(h10 e he).1, (h10 e he).2.k (by omega) (fun x k a c => (hO x (ruF.no h2 h3 (by omega))).1 k)⟩⟩
theorem bgI.mv (h : bgI t) (hb : b ∈ bags) (hO : tF (mvF b) t t') (hw : bwf t' b) : bgI t' := fun x hx => by
  by_cases e : x = b
  · rw [e]; exact hw
  · have hb3 : ∀ b, b ∈ bags → 61 ≤ b := by decide +kernel
    have := hb3 x hx
    have hd := bag_dis x hx b hb e
    have hn := (bag_all x hx).2.2.2.1
    exact ((h x hx).k (t' := t') (fun k => (hO _ (by unfold mvF bgF; omega)).2 k)).1
theorem l_29 {p h s : Nat} {x : St} (hd : 46 ≤ d) (hp : p < 4) (hr : rdC t b q m ru rc ec Es) (hh : h < (X p).length) (hx : (X p).getD h z0 = x) (kf : badX q ru rc ec Es S → ∀ t', tF (ruF b) t t' → bgI t' → F (some (.int 0)) t') (k1 : ∀ Y, exL X Y → grw q ru rc ec Es S Y → clsd q ru rc ec Es Y p x → ∀ t', tF (ruF b) t t' → bgI t' → cX t' Y → (∀ k, t'.1 158 k = t.1 158 k) → F (some (.int 1)) t') : ∀ (j e : Nat) (Y : Nat → List St) (t' : T) (j4 : Value), e + j = ec → exL X Y → grw q ru rc ec Es S Y → (∀ e', e' < e → Es e' 0 = p → ∃ K, MV q ru rc (Es e') x (some K) ∧ ∀ z, z ∈ K → ∃ g, g ∈ Y (Es e' 1) ∧ BLU z (sn z) g) → tF (ruF b) t t' → bgI t' → cX t' Y → br t' (301 + 52 * p) h = s → (∀ k, t'.1 158 k = t.1 158 k) → twp none d 29 29 [.ref 0, .int (nI p), .ref s, .int (nI e), j4] [] t' F := by
  have br4 := bag_r p hp
  intro j
  induction j with
  | zero =>
    intro e Y t' j4 he hY hG hI hO hbg hX hs h158
    obtain ⟨hb, hbN, hb2, hwk, hrw, h8, h13, hcf, hcr, hEs⟩ := hr.k hO
    have he : e = ec := by omega
    subst he
    refine vc_ok none zH_29 64 false _ 29 29 _ _ _ _ ?_
    simp only [v_29_0, v_29_1, v_29_4, v_29_5, v_29_6, v_29_9, v_29_10, v_29_13, v_29_14, v_29_15, v_29_16, v_29_17, v_29_18, v_29_21, v_29_22, v_29_23, v_29_24, v_29_25, v_29_26, v_29_27, v_29_28, v_29_29, h_29_29, v_29_30, v_29_31, v_29_34, v_29_37, v_29_38, v_29_41, v_29_42, v_29_43, v_29_45, v_29_47, v_29_50, v_29_51, v_29_54, v_29_55, v_29_58, v_29_60, v_29_61, v_29_64, v_29_67, v_29_68, v_29_69, v_29_72, v_29_74, v_29_77, v_29_78, v_29_81, v_29_84, v_29_85, v_29_86, v_29_89, v_29_92, v_29_93, vgi_0, vgi_s, vga_0, vga_s, vset_0, vset_s, vtk_0, vtk_s, vrc_0, vsw_0, vsw_s, List.all_cons, List.all_nil, zc1_i, zc1_r, Bool.and_true, Bool.and_self, true_and, and_true, List.length_cons, List.length_nil, Nat.zero_le, Nat.reduceLeDiff, Nat.reduceAdd, Nat.reduceLT, tg_0, h13]
    simp (disch := omega) only [nI_ltI, Nat.lt_irrefl, if_false]
    exact ⟨Or.inr trivial, k1 Y hY hG hI t' hO hbg hX h158⟩
  | succ j ih =>
    intro e Y t' j4 he hY hG hI hO hbg hX hs h158
    obtain ⟨hb, hbN, hb2, hwk, hrw, h8, h13, hcf, hcr, hEs⟩ := hr.k hO
    have el : e < ec := by omega
    obtain ⟨w1, w2⟩ := hEs e el
    have et := ed_tag (show e < 8 by omega)
    have f0 := w2.1
    have f1 := w2.2.1
    have p1 : Es e 1 < 4 := w1.2.1
    have p0 : Es e 0 < 4 := w1.1
    have br1 := bag_r (Es e 1) p1
    have tb1 : vtag (301 + 52 * Es e 1) = 8 := (bag_all _ br1.1).2.2.2.2.2.1
    obtain ⟨y1, y2, y3, y4⟩ := hG p hp
    have hh' : h < (Y p).length := by have := hY.len p; omega
    obtain ⟨i1, i2, i3⟩ := (hbg _ br4.1).1 h (by omega)
    have hxY : (Y p).getD h z0 = x := by rw [hY.gd hh]; exact hx
    have hxm : x ∈ Y p := by rw [← hxY]; exact gd_mem hh'
    have hcs : cS t' s = x := by
      have := (hX p hp).2 h hh'
      unfold bg at this
      rw [hs, hxY] at this
      exact this
    rw [hs] at i1 i2 i3
    refine vc_ok none zH_29 64 false _ 29 29 _ _ _ _ ?_
    simp only [v_29_0, v_29_1, v_29_4, v_29_5, v_29_6, v_29_9, v_29_10, v_29_13, v_29_14, v_29_15, v_29_16, v_29_17, v_29_18, v_29_21, v_29_22, v_29_23, v_29_24, v_29_25, v_29_26, v_29_27, v_29_28, v_29_29, h_29_29, v_29_30, v_29_31, v_29_34, v_29_37, v_29_38, v_29_41, v_29_42, v_29_43, v_29_45, v_29_47, v_29_50, v_29_51, v_29_54, v_29_55, v_29_58, v_29_60, v_29_61, v_29_64, v_29_67, v_29_68, v_29_69, v_29_72, v_29_74, v_29_77, v_29_78, v_29_81, v_29_84, v_29_85, v_29_86, v_29_89, v_29_92, v_29_93, vgi_0, vgi_s, vga_0, vga_s, vset_0, vset_s, vtk_0, vtk_s, vrc_0, vsw_0, vsw_s, List.all_cons, List.all_nil, zc1_i, zc1_r, Bool.and_true, Bool.and_self, true_and, and_true, List.length_cons, List.length_nil, Nat.zero_le, Nat.reduceLeDiff, Nat.reduceAdd, Nat.reduceLT, tg_0, h13, tf_0_4, tg_57, ln_57]
    simp (disch := omega) only [nI_ltI, nI_clamp, vinb_n, tf_57, et, f0, nI_eq]
    rw [if_pos el]
    refine ⟨by omega, trivial, ?_⟩
    by_cases z : Es e 0 = p
    · rw [if_pos z]
      simp only [v_29_0, v_29_1, v_29_4, v_29_5, v_29_6, v_29_9, v_29_10, v_29_13, v_29_14, v_29_15, v_29_16, v_29_17, v_29_18, v_29_21, v_29_22, v_29_23, v_29_24, v_29_25, v_29_26, v_29_27, v_29_28, v_29_29, h_29_29, v_29_30, v_29_31, v_29_34, v_29_37, v_29_38, v_29_41, v_29_42, v_29_43, v_29_45, v_29_47, v_29_50, v_29_51, v_29_54, v_29_55, v_29_58, v_29_60, v_29_61, v_29_64, v_29_67, v_29_68, v_29_69, v_29_72, v_29_74, v_29_77, v_29_78, v_29_81, v_29_84, v_29_85, v_29_86, v_29_89, v_29_92, v_29_93, vgi_0, vgi_s, vga_0, vga_s, vset_0, vset_s, vtk_0, vtk_s, vrc_0, vsw_0, vsw_s, List.all_cons, List.all_nil, zc1_i, zc1_r, Bool.and_true, Bool.and_self, true_and, and_true, List.length_cons, List.length_nil, Nat.zero_le, Nat.reduceLeDiff, Nat.reduceAdd, Nat.reduceLT, tg_0, tf_0_5, tg_58]
      refine c_147 (b := b) (q := q) (m := m) (ru := ru) (rc := rc) (E := Es e) (by omega) (by omega) hb hbN hb2 (hbg b hb) hrw w1 ⟨hcf, hcr, w2⟩ hwk i3 (by unfold bgF; omega) hcs (y4 x hxm).1 (fun hM t1 o1 bw1 => ?_) (fun K hM t1 o1 bw1 l1 => ?_)
      · simp only [v_29_0, v_29_1, v_29_4, v_29_5, v_29_6, v_29_9, v_29_10, v_29_13, v_29_14, v_29_15, v_29_16, v_29_17, v_29_18, v_29_21, v_29_22, v_29_23, v_29_24, v_29_25, v_29_26, v_29_27, v_29_28, v_29_29, h_29_29, v_29_30, v_29_31, v_29_34, v_29_37, v_29_38, v_29_41, v_29_42, v_29_43, v_29_45, v_29_47, v_29_50, v_29_51, v_29_54, v_29_55, v_29_58, v_29_60, v_29_61, v_29_64, v_29_67, v_29_68, v_29_69, v_29_72, v_29_74, v_29_77, v_29_78, v_29_81, v_29_84, v_29_85, v_29_86, v_29_89, v_29_92, v_29_93, vgi_0, vgi_s, vga_0, vga_s, vset_0, vset_s, vtk_0, vtk_s, vrc_0, vsw_0, vsw_s, List.all_cons, List.all_nil, zc1_i, zc1_r, Bool.and_true, Bool.and_self, true_and, and_true, List.length_cons, List.length_nil, Nat.zero_le, Nat.reduceLeDiff, Nat.reduceAdd, Nat.reduceLT, Option.toList_some, List.cons_append, List.nil_append]
        rw [if_pos trivial]
        exact ⟨Or.inl trivial, kf (Or.inl ⟨p, x, e, hp, (y4 x hxm).1, (y4 x hxm).2, el, z, hM⟩) t1 (hO.tr (o1.mono (fun y hy => Or.inl hy))) (hbg.mv hb o1 bw1)⟩
      · have wK := MV_wf hcf.2.1 hrw w1 (y4 x hxm).1 hM
        have bg1 := hbg.mv hb o1 bw1
        have nf : ∀ y, 243 ≤ y ∨ y = 58 ∨ y = 0 ∨ y = 57 ∨ y = 157 ∨ y = 158 → ¬ mvF b y := fun y hy => by unfold mvF bgF; omega
        have wk1 : t1.2 58 3 = b := by rw [(o1 58 (nf 58 (by omega))).2]; exact hwk
        have f1' : t1.1 (251 + 3 * e) 1 = nI (Es e 1) := by rw [(o1 _ (nf _ (by omega))).1]; exact f1
        have X1 : cX t1 Y := fun p' hp' => bL_k (hX p' hp') (hbg _ (bag_r p' hp').1) (by have := (hG p' hp').1; have := (bag_r p' hp').2.2.1; omega) (fun x k a c => (o1 x (nf x (by omega))).1 k) (fun k => (o1 _ (nf _ (by omega))).2 k)
        simp only [v_29_0, v_29_1, v_29_4, v_29_5, v_29_6, v_29_9, v_29_10, v_29_13, v_29_14, v_29_15, v_29_16, v_29_17, v_29_18, v_29_21, v_29_22, v_29_23, v_29_24, v_29_25, v_29_26, v_29_27, v_29_28, v_29_29, h_29_29, v_29_30, v_29_31, v_29_34, v_29_37, v_29_38, v_29_41, v_29_42, v_29_43, v_29_45, v_29_47, v_29_50, v_29_51, v_29_54, v_29_55, v_29_58, v_29_60, v_29_61, v_29_64, v_29_67, v_29_68, v_29_69, v_29_72, v_29_74, v_29_77, v_29_78, v_29_81, v_29_84, v_29_85, v_29_86, v_29_89, v_29_92, v_29_93, vgi_0, vgi_s, vga_0, vga_s, vset_0, vset_s, vtk_0, vtk_s, vrc_0, vsw_0, vsw_s, List.all_cons, List.all_nil, zc1_i, zc1_r, Bool.and_true, Bool.and_self, true_and, and_true, List.length_cons, List.length_nil, Nat.zero_le, Nat.reduceLeDiff, Nat.reduceAdd, Nat.reduceLT, Option.toList_some, List.cons_append, List.nil_append, tg_0, tf_0_9, tg_157, ln_157, et, f1']
        rw [if_neg (by decide)]
        simp (disch := omega) only [nI_clamp, vinb_n, tf_157, tb1]
        refine ⟨p1, ?_⟩
        refine c_30 (b := b) (X := Y) (q := q) (ru := ru) (rc := rc) (ec := ec) (Es := Es) (S := S) (by omega) p1 hb hbN hb2 bg1 wk1 wK.2 wK.1 l1 hG X1 (fun z' g hz hg => Rch.step (by rw [z]; exact (y4 x hxm).2) el hM hz hg) (fun hB t2 o2 => ?_) (fun Y2 hY2 hG2 hZ t2 o2 X2 => ?_)
        · have oT : tF (ruF b) t1 t2 := fun y hy => ⟨fun k => o2.2 y (fun q => hy (by
            rcases q with q | q | q
            · exact Or.inl (Or.inl q)
            · exact Or.inr (Or.inl q)
            · exact Or.inr (Or.inr (Or.inl ⟨by omega, by omega, Es e 1, p1, q⟩)))) k, fun k => by rw [o2.1]⟩
          simp only [v_29_0, v_29_1, v_29_4, v_29_5, v_29_6, v_29_9, v_29_10, v_29_13, v_29_14, v_29_15, v_29_16, v_29_17, v_29_18, v_29_21, v_29_22, v_29_23, v_29_24, v_29_25, v_29_26, v_29_27, v_29_28, v_29_29, h_29_29, v_29_30, v_29_31, v_29_34, v_29_37, v_29_38, v_29_41, v_29_42, v_29_43, v_29_45, v_29_47, v_29_50, v_29_51, v_29_54, v_29_55, v_29_58, v_29_60, v_29_61, v_29_64, v_29_67, v_29_68, v_29_69, v_29_72, v_29_74, v_29_77, v_29_78, v_29_81, v_29_84, v_29_85, v_29_86, v_29_89, v_29_92, v_29_93, vgi_0, vgi_s, vga_0, vga_s, vset_0, vset_s, vtk_0, vtk_s, vrc_0, vsw_0, vsw_s, List.all_cons, List.all_nil, zc1_i, zc1_r, Bool.and_true, Bool.and_self, true_and, and_true, List.length_cons, List.length_nil, Nat.zero_le, Nat.reduceLeDiff, Nat.reduceAdd, Nat.reduceLT, Option.toList_some, List.cons_append, List.nil_append]
          rw [if_pos trivial]
          exact ⟨Or.inl trivial, kf hB t2 ((hO.tr (o1.mono (fun y hy => Or.inl hy))).tr oT) (fun y hy => ((bg1 y hy).q o2.1).1)⟩
        · have oT : tF (ruF b) t1 t2 := fun y hy => ⟨fun k => o2.2 y (fun q => hy (by
            rcases q with q | q | q
            · exact Or.inl (Or.inl q)
            · exact Or.inr (Or.inl q)
            · exact Or.inr (Or.inr (Or.inl ⟨by omega, by omega, Es e 1, p1, q⟩)))) k, fun k => by rw [o2.1]⟩
          simp only [v_29_0, v_29_1, v_29_4, v_29_5, v_29_6, v_29_9, v_29_10, v_29_13, v_29_14, v_29_15, v_29_16, v_29_17, v_29_18, v_29_21, v_29_22, v_29_23, v_29_24, v_29_25, v_29_26, v_29_27, v_29_28, v_29_29, h_29_29, v_29_30, v_29_31, v_29_34, v_29_37, v_29_38, v_29_41, v_29_42, v_29_43, v_29_45, v_29_47, v_29_50, v_29_51, v_29_54, v_29_55, v_29_58, v_29_60, v_29_61, v_29_64, v_29_67, v_29_68, v_29_69, v_29_72, v_29_74, v_29_77, v_29_78, v_29_81, v_29_84, v_29_85, v_29_86, v_29_89, v_29_92, v_29_93, vgi_0, vgi_s, vga_0, vga_s, vset_0, vset_s, vtk_0, vtk_s, vrc_0, vsw_0, vsw_s, List.all_cons, List.all_nil, zc1_i, zc1_r, Bool.and_true, Bool.and_self, true_and, and_true, List.length_cons, List.length_nil, Nat.zero_le, Nat.reduceLeDiff, Nat.reduceAdd, Nat.reduceLT, Option.toList_some, List.cons_append, List.nil_append]
          rw [if_neg (by decide), nI_1]
          refine ih (e + 1) Y2 t2 _ (by omega) (hY.tr hY2) hG2 (fun e' he' ep => ?_) ((hO.tr (o1.mono (fun y hy => Or.inl hy))).tr oT) (fun y hy => ((bg1 y hy).q o2.1).1) X2 ?_ (fun k => ?_)
          · by_cases ze : e' = e
            · subst ze
              exact ⟨K, hM, hZ⟩
            · obtain ⟨K', k1', k2'⟩ := hI e' (by omega) ep
              exact ⟨K', k1', fun z' hz' => by obtain ⟨g, g1, g2⟩ := k2' z' hz'; exact ⟨g, hY2.mem g1, g2⟩⟩
          · show t2.2 (301 + 52 * p + 1) h = s
            rw [o2.1, (o1 _ (nf _ (by omega))).2]; exact hs
          · rw [o2.2 158 (by unfold roF bgF; omega), (o1 158 (nf 158 (by omega))).1]; exact h158 k
    · rw [if_neg z, nI_1]
      refine ih (e + 1) Y t' _ (by omega) hY hG (fun e' he' ep => ?_) hO hbg hX hs h158
      by_cases ze : e' = e
      · subst ze; exact absurd ep z
      · exact hI e' (by omega) ep
theorem c_29 {p h : Nat} (hd : 47 ≤ d) (hp : p < 4) (hr : rdC t b q m ru rc ec Es) (hbg : bgI t) (hG : grw q ru rc ec Es S X) (hX : cX t X) (hh : h < (X p).length) (h158 : t.1 158 p = nI h) (kf : badX q ru rc ec Es S → ∀ t', tF (ruF b) t t' → bgI t' → F (some (.int 0)) t') (k1 : ∀ Y, exL X Y → grw q ru rc ec Es S Y → clsd q ru rc ec Es Y p ((X p).getD h z0) → ∀ t', tF (ruF b) t t' → bgI t' → cX t' Y → (∀ k, t'.1 158 k = if k = p then nI (h + 1) else t.1 158 k) → F (some (.int 1)) t') : twc d 29 [.ref 0, .int (nI p)] t F := by
  have br4 := bag_r p hp
  have hbd := bag_all _ br4.1
  have tb : vtag (301 + 52 * p) = 8 := hbd.2.2.2.2.2.1
  obtain ⟨y1, y2, y3, y4⟩ := hG p hp
  have hbi : t.2 (301 + 52 * p + 1) h = br t (301 + 52 * p) h := rfl
  have oA : tF (ruF b) t (tsi t 158 p (nI (h + 1))) := tF.rf.si (Or.inr (Or.inr (Or.inr rfl)))
  refine ⟨by omega, ?_⟩
  rw [ze_29]
  refine vc_ok none zH_29 64 false _ 29 0 _ _ _ _ ?_
  simp only [v_29_0, v_29_1, v_29_4, v_29_5, v_29_6, v_29_9, v_29_10, v_29_13, v_29_14, v_29_15, v_29_16, v_29_17, v_29_18, v_29_21, v_29_22, v_29_23, v_29_24, v_29_25, v_29_26, v_29_27, v_29_28, v_29_29, h_29_29, v_29_30, v_29_31, v_29_34, v_29_37, v_29_38, v_29_41, v_29_42, v_29_43, v_29_45, v_29_47, v_29_50, v_29_51, v_29_54, v_29_55, v_29_58, v_29_60, v_29_61, v_29_64, v_29_67, v_29_68, v_29_69, v_29_72, v_29_74, v_29_77, v_29_78, v_29_81, v_29_84, v_29_85, v_29_86, v_29_89, v_29_92, v_29_93, vgi_0, vgi_s, vga_0, vga_s, vset_0, vset_s, vtk_0, vtk_s, vrc_0, vsw_0, vsw_s, List.all_cons, List.all_nil, zc1_i, zc1_r, Bool.and_true, Bool.and_self, true_and, and_true, List.length_cons, List.length_nil, Nat.zero_le, Nat.reduceLeDiff, Nat.reduceAdd, Nat.reduceLT, tg_0, tf_0_9, tg_157, ln_157, tf_0_10, tg_158, ln_158]
  simp (disch := omega) only [nI_clamp, vinb_n, tf_157, tb, bag_arr _ br4.1, h158, hbd.2.2.1, bag_ref _ br4.1, hbi, nI_1]
  refine ⟨hp, trivial, hp, by omega, by omega, by show h < bN (301 + 52 * p); omega, hp, hp, ?_⟩
  refine l_29 (t := tsi t 158 p (nI (h + 1))) (X := X) (S := S) (h := h) (by omega) hp (hr.k oA) hh rfl (fun hB t1 o1 b1 => kf hB t1 (oA.tr o1) b1) (fun Y hY hG' hc t1 o1 b1 X1 h1 => k1 Y hY hG' hc t1 (oA.tr o1) b1 X1 (fun k => ?_)) ec 0 X _ _ (by omega) exL.rf hG (fun e' he' => by omega) tF.rf (fun y hy => ((hbg y hy).q rfl).1) (fun p' hp' => ?_) rfl (fun k => rfl)
  · rw [h1]
    by_cases z : k = p
    · subst z; rw [if_pos rfl, tsi_eq]
    · rw [if_neg z, tsi_ne (by omega)]
  · have br' := bag_r p' hp'
    exact bL_k (hX p' hp') (hbg _ br'.1) (by have := (hG p' hp').1; omega) (fun x k a c => tsi_ne (by omega)) (fun k => rfl)
theorem l_31 (hd : 3 ≤ d) (hG : ∀ p, p < 4 → (X p).length ≤ 12 ∧ ∀ x, x ∈ X p → wfS x) (h : ∀ t', t'.1 = t.1 → (∀ a k, ¬ rcF a → t'.2 a k = t.2 a k) → bgI t' → (∀ p, p < 4 → ∃ L, stdL L (X p) ∧ bL t' (301 + 52 * p) L) → F (some (.int (nI (tot X 4)))) t') : ∀ (j p : Nat) (t' : T), p + j = 4 → t'.1 = t.1 → (∀ a k, ¬ rcF a → t'.2 a k = t.2 a k) → bgI t' → (∀ p', p' < p → ∃ L, stdL L (X p') ∧ bL t' (301 + 52 * p') L) → (∀ p', p ≤ p' → p' < 4 → bL t' (301 + 52 * p') (X p')) → twp none d 31 4 [.ref 0, .int (nI (tot X p)), .int (nI p)] [] t' F := by
  intro j
  induction j with
  | zero =>
    intro p t' hp hi hr hbg hI hJ
    have hp : p = 4 := by omega
    subst hp
    refine vc_ok none zH_31 34 false _ 31 4 _ _ _ _ ?_
    simp only [v_31_0, v_31_1, v_31_2, v_31_3, v_31_4, h_31_4, v_31_5, v_31_6, v_31_9, v_31_10, v_31_13, v_31_14, v_31_15, v_31_18, v_31_19, v_31_20, v_31_23, v_31_24, v_31_25, v_31_28, v_31_29, v_31_30, v_31_33, v_31_36, v_31_37, vgi_0, vgi_s, vga_0, vga_s, vset_0, vset_s, vtk_0, vtk_s, vrc_0, vsw_0, vsw_s, List.all_cons, List.all_nil, zc1_i, zc1_r, Bool.and_true, Bool.and_self, true_and, and_true, List.length_cons, List.length_nil, Nat.zero_le, Nat.reduceLeDiff, Nat.reduceAdd, Nat.reduceLT]
    rw [if_neg (by decide)]
    exact h t' hi hr hbg hI
  | succ j ih =>
    intro p t' hp hi hr hbg hI hJ
    have hp4 : p < 4 := by omega
    have br4 := bag_r p hp4
    have tb : vtag (301 + 52 * p) = 8 := (bag_all _ br4.1).2.2.2.2.2.1
    obtain ⟨g1, g2⟩ := hG p hp4
    have l0 := hJ p (Nat.le_refl _) hp4
    refine vc_ok none zH_31 34 false _ 31 4 _ _ _ _ ?_
    simp only [v_31_0, v_31_1, v_31_2, v_31_3, v_31_4, h_31_4, v_31_5, v_31_6, v_31_9, v_31_10, v_31_13, v_31_14, v_31_15, v_31_18, v_31_19, v_31_20, v_31_23, v_31_24, v_31_25, v_31_28, v_31_29, v_31_30, v_31_33, v_31_36, v_31_37, vgi_0, vgi_s, vga_0, vga_s, vset_0, vset_s, vtk_0, vtk_s, vrc_0, vsw_0, vsw_s, List.all_cons, List.all_nil, zc1_i, zc1_r, Bool.and_true, Bool.and_self, true_and, and_true, List.length_cons, List.length_nil, Nat.zero_le, Nat.reduceLeDiff, Nat.reduceAdd, Nat.reduceLT, tg_0, tf_0_9, tg_157, ln_157]
    rw [li4, if_pos (nI_lt (by omega) (by omega))]
    simp (disch := omega) only [nI_clamp, vinb_n, tf_157, tb]
    refine ⟨hp4, trivial, ?_⟩
    refine c_109 (c := (X p).length) (by omega) br4.1 (hbg _ br4.1) l0.1 (by omega) (fun k hk => by rw [l0.2 k hk]; exact g2 _ (gd_mem hk)) (fun t1 hs1 srt1 => ?_)
    obtain ⟨u1, u2, u3, u4⟩ := hs1
    have c1 : t1.1 (301 + 52 * p) 1 = nI (X p).length := by rw [u1]; exact l0.1
    have perm : (lst (bg t1 (301 + 52 * p)) (X p).length).Perm (X p) := by
      have := u4
      rw [lst_gd l0.2] at this
      exact this
    simp only [v_31_0, v_31_1, v_31_2, v_31_3, v_31_4, h_31_4, v_31_5, v_31_6, v_31_9, v_31_10, v_31_13, v_31_14, v_31_15, v_31_18, v_31_19, v_31_20, v_31_23, v_31_24, v_31_25, v_31_28, v_31_29, v_31_30, v_31_33, v_31_36, v_31_37, vgi_0, vgi_s, vga_0, vga_s, vset_0, vset_s, vtk_0, vtk_s, vrc_0, vsw_0, vsw_s, List.all_cons, List.all_nil, zc1_i, zc1_r, Bool.and_true, Bool.and_self, true_and, and_true, List.length_cons, List.length_nil, Nat.zero_le, Nat.reduceLeDiff, Nat.reduceAdd, Nat.reduceLT, Option.toList_none, List.nil_append, tg_0, tf_0_9, tg_157, ln_157]
    simp (disch := omega) only [nI_clamp, vinb_n, tf_157, tb, c1, nI_add, nI_1]
    refine ⟨hp4, ?_⟩
    refine ih (p + 1) t1 (by omega) (by rw [u1]; exact hi) (fun a k ha => by rw [u2 a k (fun z => ha ⟨p, hp4, by omega, by omega⟩)]; exact hr a k ha) (fun y hy => ?_) (fun p' hp' => ?_) (fun p' h1 h2 => ?_)
    · by_cases z : y = 301 + 52 * p
      · rw [z]; exact u3
      · have := bag_dis y hy _ br4.1 z
        exact ((hbg y hy).k (t' := t1) (fun k => u2 _ _ (by omega))).1
    · by_cases z : p' = p
      · subst z
        refine ⟨lst (bg t1 (301 + 52 * p')) (X p').length, ⟨perm, lst_srt _ srt1⟩, by rw [lst_len]; exact c1, fun k hk => ?_⟩
        rw [lst_len] at hk
        rw [lst_get _ k hk]
      · obtain ⟨L, a1, a2⟩ := hI p' (by omega)
        have ll := a1.1.length_eq
        have := (hG p' (by omega)).1
        have br' := bag_r p' (by omega)
        exact ⟨L, a1, bL_k a2 (hbg _ br'.1) (by omega) (fun x k a c => by rw [u1]) (fun k => u2 _ _ (by omega))⟩
    · have br' := bag_r p' h2
      have := (hG p' h2).1
      exact bL_k (hJ p' (by omega) h2) (hbg _ br'.1) (by omega) (fun x k a c => by rw [u1]) (fun k => u2 _ _ (by omega))
theorem c_31 (hd : 4 ≤ d) (hbg : bgI t) (hX : cX t X) (hG : ∀ p, p < 4 → (X p).length ≤ 12 ∧ ∀ x, x ∈ X p → wfS x) (h : ∀ t', t'.1 = t.1 → (∀ a k, ¬ rcF a → t'.2 a k = t.2 a k) → bgI t' → (∀ p, p < 4 → ∃ L, stdL L (X p) ∧ bL t' (301 + 52 * p) L) → F (some (.int (nI (tot X 4)))) t') : twc d 31 [.ref 0] t F := by
  refine ⟨by omega, ?_⟩
  rw [ze_31]
  refine vc_ok none zH_31 34 false _ 31 0 _ _ _ _ ?_
  simp only [v_31_0, v_31_1, v_31_2, v_31_3, v_31_4, h_31_4, v_31_5, v_31_6, v_31_9, v_31_10, v_31_13, v_31_14, v_31_15, v_31_18, v_31_19, v_31_20, v_31_23, v_31_24, v_31_25, v_31_28, v_31_29, v_31_30, v_31_33, v_31_36, v_31_37, vgi_0, vgi_s, vga_0, vga_s, vset_0, vset_s, vtk_0, vtk_s, vrc_0, vsw_0, vsw_s, List.all_cons, List.all_nil, zc1_i, zc1_r, Bool.and_true, Bool.and_self, true_and, and_true, List.length_cons, List.length_nil, Nat.zero_le, Nat.reduceLeDiff, Nat.reduceAdd, Nat.reduceLT]
  exact l_31 (by omega) hG h 4 0 t (by omega) rfl (fun _ _ _ => rfl) hbg (fun p hp => by omega) (fun p _ hp => hX p hp)
end RUND
