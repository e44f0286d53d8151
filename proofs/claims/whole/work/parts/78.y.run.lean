/-! run: the program, whole. -/
section RUNE
variable {d b : Nat} {t t' : T} {F : Option Value → T → Prop} {q : FT} {m rc ec : Nat} {ru Es : Nat → Nat → Nat} {S X Y Z : Nat → List St}
theorem started_k (hbN : bN b = 40) (hb2 : b = 61 ∨ b = 161) (hbg : bgI t) (hS : ∀ p, p < 4 → (S p).length ≤ 12 ∧ bL t (275 + 52 * p) (S p)) (hO : tF (ruF b) t t') : ∀ p, p < 4 → (S p).length ≤ 12 ∧ bL t' (275 + 52 * p) (S p) := fun p hp => by
  have br4 := bag_r p hp
  have nf : ∀ x, 275 + 52 * p ≤ x → x < 301 + 52 * p → ¬ ruF b x := fun x h1 h2 h => by
    rcases h with h | h | ⟨-, -, p', a1, a2, a3⟩ | h
    · unfold mvF bgF at h; omega
    · omega
    · omega
    · omega
  exact ⟨(hS p hp).1, bL_k (hS p hp).2 (hbg _ br4.2.1) (by have := (hS p hp).1; omega) (fun x k a c => (hO x (nf x a (by omega))).1 k) (fun k => (hO _ (nf _ (by omega) (by omega))).2 k)⟩
theorem rcF.tF (h : tQ rcF t t') : tF (ruF b) t t' := fun y hy => ⟨fun k => h.2 y (fun z => hy (by
  have z' := z
  obtain ⟨p, h1, h2, h3⟩ := z'
  exact Or.inr (Or.inr (Or.inl ⟨by omega, by omega, z⟩)))) k, fun k => by rw [h.1]⟩
theorem l_18 (hd : 48 ≤ d) (hr : rdC t b q m ru rc ec Es) (hbg : bgI t) (hS : ∀ p, p < 4 → (S p).length ≤ 12 ∧ bL t (275 + 52 * p) (S p)) (kf : badX q ru rc ec Es S → ∀ t', tF (ruF b) t t' → bgI t' → cX t' S → F (some (.int (-3))) t') (k1 : ∀ X, goodX q ru rc ec Es S X → ∀ t', tF (ruF b) t t' → bgI t' → (∀ p, p < 4 → ∃ L, stdL L (X p) ∧ bL t' (301 + 52 * p) L) → F (some (.int (nI (tot X 4)))) t') : ∀ (j i : Nat) (H : Nat → Nat) (X : Nat → List St) (t' : T) (j2 : Value), i + j = 49 → H 0 + H 1 + H 2 + H 3 = i → grw q ru rc ec Es S X → (∀ p, p < 4 → (X p).length ≤ 12 ∧ H p ≤ (X p).length ∧ t'.1 158 p = nI (H p)) → (∀ p, p < 4 → ∀ k, k < H p → clsd q ru rc ec Es X p ((X p).getD k z0)) → tF (ruF b) t t' → bgI t' → cX t' X → twp none d 18 14 [.ref 0, .int (nI i), j2] [] t' F := by
  intro j
  induction j with
  | zero =>
    intro i H X t' j2 hi hs hG hH hC hO hbg' hX
    have := hH 0 (by omega)
    have := hH 1 (by omega)
    have := hH 2 (by omega)
    have := hH 3 (by omega)
    omega
  | succ j ih =>
    intro i H X t' j2 hi hs hG hH hC hO hbg' hX
    have hr' := hr.k hO
    refine vc_ok none zH_18 40 false _ 18 14 _ _ _ _ ?_
    simp only [v_18_0, v_18_1, v_18_4, v_18_5, v_18_8, v_18_9, v_18_12, v_18_13, v_18_14, h_18_14, v_18_15, v_18_17, v_18_20, v_18_21, v_18_24, v_18_25, v_18_26, v_18_29, v_18_30, v_18_33, v_18_34, v_18_35, v_18_36, v_18_39, v_18_42, v_18_45, v_18_48, v_18_51, v_18_52, v_18_55, v_18_57, vgi_0, vgi_s, vga_0, vga_s, vset_0, vset_s, vtk_0, vtk_s, vrc_0, vsw_0, vsw_s, List.all_cons, List.all_nil, zc1_i, zc1_r, Bool.and_true, Bool.and_self, true_and, and_true, List.length_cons, List.length_nil, Nat.zero_le, Nat.reduceLeDiff, Nat.reduceAdd, Nat.reduceLT, tg_0]
    rw [if_neg (by rw [show (48 : Int32) = nI 48 from rfl, nI_ltI (by omega) (by omega)]; omega)]
    refine c_28 (H := H) (by omega) hX hH (fun p hp hl => ?_) (fun hall => ?_)
    · simp only [v_18_0, v_18_1, v_18_4, v_18_5, v_18_8, v_18_9, v_18_12, v_18_13, v_18_14, h_18_14, v_18_15, v_18_17, v_18_20, v_18_21, v_18_24, v_18_25, v_18_26, v_18_29, v_18_30, v_18_33, v_18_34, v_18_35, v_18_36, v_18_39, v_18_42, v_18_45, v_18_48, v_18_51, v_18_52, v_18_55, v_18_57, vgi_0, vgi_s, vga_0, vga_s, vset_0, vset_s, vtk_0, vtk_s, vrc_0, vsw_0, vsw_s, List.all_cons, List.all_nil, zc1_i, zc1_r, Bool.and_true, Bool.and_self, true_and, and_true, List.length_cons, List.length_nil, Nat.zero_le, Nat.reduceLeDiff, Nat.reduceAdd, Nat.reduceLT, Option.toList_some, List.cons_append, List.nil_append, tg_0]
      rw [if_neg (by rw [li0, nI_ltI (by omega) (by omega)]; omega)]
      refine c_29 (X := X) (S := S) (h := H p) (by omega) hp hr' hbg' hG hX hl (hH p hp).2.2 (fun hB t1 o1 b1 => ?_) (fun Y hY hG2 hc t1 o1 b1 X1 h1 => ?_)
      · have hS1 := started_k hr.2.1 hr.2.2.1 hbg hS (hO.tr o1)
        simp only [v_18_0, v_18_1, v_18_4, v_18_5, v_18_8, v_18_9, v_18_12, v_18_13, v_18_14, h_18_14, v_18_15, v_18_17, v_18_20, v_18_21, v_18_24, v_18_25, v_18_26, v_18_29, v_18_30, v_18_33, v_18_34, v_18_35, v_18_36, v_18_39, v_18_42, v_18_45, v_18_48, v_18_51, v_18_52, v_18_55, v_18_57, vgi_0, vgi_s, vga_0, vga_s, vset_0, vset_s, vtk_0, vtk_s, vrc_0, vsw_0, vsw_s, List.all_cons, List.all_nil, zc1_i, zc1_r, Bool.and_true, Bool.and_self, true_and, and_true, List.length_cons, List.length_nil, Nat.zero_le, Nat.reduceLeDiff, Nat.reduceAdd, Nat.reduceLT, Option.toList_some, List.cons_append, List.nil_append, tg_0]
        rw [if_pos trivial]
        refine c_27 (S := S) (by omega) b1 hS1 (fun t2 o2 l2 => ?_)
        simp only [v_18_0, v_18_1, v_18_4, v_18_5, v_18_8, v_18_9, v_18_12, v_18_13, v_18_14, h_18_14, v_18_15, v_18_17, v_18_20, v_18_21, v_18_24, v_18_25, v_18_26, v_18_29, v_18_30, v_18_33, v_18_34, v_18_35, v_18_36, v_18_39, v_18_42, v_18_45, v_18_48, v_18_51, v_18_52, v_18_55, v_18_57, vgi_0, vgi_s, vga_0, vga_s, vset_0, vset_s, vtk_0, vtk_s, vrc_0, vsw_0, vsw_s, List.all_cons, List.all_nil, zc1_i, zc1_r, Bool.and_true, Bool.and_self, true_and, and_true, List.length_cons, List.length_nil, Nat.zero_le, Nat.reduceLeDiff, Nat.reduceAdd, Nat.reduceLT, Option.toList_none, List.nil_append]
        exact kf hB t2 ((hO.tr o1).tr (rcF.tF o2)) (fun y hy => ((b1 y hy).q o2.1).1) l2
      · simp only [v_18_0, v_18_1, v_18_4, v_18_5, v_18_8, v_18_9, v_18_12, v_18_13, v_18_14, h_18_14, v_18_15, v_18_17, v_18_20, v_18_21, v_18_24, v_18_25, v_18_26, v_18_29, v_18_30, v_18_33, v_18_34, v_18_35, v_18_36, v_18_39, v_18_42, v_18_45, v_18_48, v_18_51, v_18_52, v_18_55, v_18_57, vgi_0, vgi_s, vga_0, vga_s, vset_0, vset_s, vtk_0, vtk_s, vrc_0, vsw_0, vsw_s, List.all_cons, List.all_nil, zc1_i, zc1_r, Bool.and_true, Bool.and_self, true_and, and_true, List.length_cons, List.length_nil, Nat.zero_le, Nat.reduceLeDiff, Nat.reduceAdd, Nat.reduceLT, Option.toList_some, List.cons_append, List.nil_append]
        rw [if_neg (by decide), nI_1]
        refine ih (i + 1) (fun p' => if p' = p then H p + 1 else H p') Y t1 _ (by omega) ?_ hG2 (fun p' hp' => ?_) (fun p' hp' k hk => ?_) (hO.tr o1) b1 X1
        · have : p = 0 ∨ p = 1 ∨ p = 2 ∨ p = 3 := by omega
          rcases this with rfl | rfl | rfl | rfl <;> simp <;> omega
        · have := hY.len p'
          have h3 := hH p' hp'
          refine ⟨(hG2 p' hp').1, ?_, ?_⟩
          · by_cases z : p' = p
            · subst z; rw [if_pos rfl]; omega
            · rw [if_neg z]; omega
          · rw [h1]
            by_cases z : p' = p
            · rw [if_pos z, if_pos z]
            · rw [if_neg z, if_neg z]; exact h3.2.2
        · have h3 := (hH p' hp').2.1
          by_cases z : p' = p
          · subst z
            rw [if_pos rfl] at hk
            rw [hY.gd (by omega)]
            by_cases zk : k = H p'
            · subst zk; exact hc
            · exact (hC p' hp' k (by omega)).mono hY
          · rw [if_neg z] at hk
            rw [hY.gd (by omega)]
            exact (hC p' hp' k hk).mono hY
    · simp only [v_18_0, v_18_1, v_18_4, v_18_5, v_18_8, v_18_9, v_18_12, v_18_13, v_18_14, h_18_14, v_18_15, v_18_17, v_18_20, v_18_21, v_18_24, v_18_25, v_18_26, v_18_29, v_18_30, v_18_33, v_18_34, v_18_35, v_18_36, v_18_39, v_18_42, v_18_45, v_18_48, v_18_51, v_18_52, v_18_55, v_18_57, vgi_0, vgi_s, vga_0, vga_s, vset_0, vset_s, vtk_0, vtk_s, vrc_0, vsw_0, vsw_s, List.all_cons, List.all_nil, zc1_i, zc1_r, Bool.and_true, Bool.and_self, true_and, and_true, List.length_cons, List.length_nil, Nat.zero_le, Nat.reduceLeDiff, Nat.reduceAdd, Nat.reduceLT, Option.toList_some, List.cons_append, List.nil_append, tg_0]
      rw [if_pos (by decide)]
      refine c_31 (X := X) (by omega) hbg' hX (fun p hp => ⟨(hG p hp).1, fun x hx => ((hG p hp).2.2.2 x hx).1⟩) (fun t1 u1 u2 u3 u4 => ?_)
      simp only [v_18_0, v_18_1, v_18_4, v_18_5, v_18_8, v_18_9, v_18_12, v_18_13, v_18_14, h_18_14, v_18_15, v_18_17, v_18_20, v_18_21, v_18_24, v_18_25, v_18_26, v_18_29, v_18_30, v_18_33, v_18_34, v_18_35, v_18_36, v_18_39, v_18_42, v_18_45, v_18_48, v_18_51, v_18_52, v_18_55, v_18_57, vgi_0, vgi_s, vga_0, vga_s, vset_0, vset_s, vtk_0, vtk_s, vrc_0, vsw_0, vsw_s, List.all_cons, List.all_nil, zc1_i, zc1_r, Bool.and_true, Bool.and_self, true_and, and_true, List.length_cons, List.length_nil, Nat.zero_le, Nat.reduceLeDiff, Nat.reduceAdd, Nat.reduceLT, Option.toList_some, List.cons_append, List.nil_append]
      refine k1 X (hG.good (fun p hp x hx => ?_)) t1 (hO.tr (fun y hy => ⟨fun k => by rw [u1], fun k => u2 y k (fun z => hy (by
        have z' := z
        obtain ⟨p, h1, h2, h3⟩ := z'
        exact Or.inr (Or.inr (Or.inl ⟨by omega, by omega, z⟩))))⟩)) u3 u4
      obtain ⟨k, hk, e⟩ := mem_gd hx
      rw [← e]
      exact hC p hp k (by rw [hall p hp]; exact hk)
theorem c_18 (hd : 49 ≤ d) (hr : rdC t b q m ru rc ec Es) (hbg : bgI t) (hS : ∀ p, p < 4 → (S p).length ≤ 12 ∧ bL t (275 + 52 * p) (S p)) (hN : ∀ p, p < 4 → (S p).Nodup ∧ ∀ x, x ∈ S p → wfS x) (kf : badX q ru rc ec Es S → ∀ t', tF (ruF b) t t' → bgI t' → cX t' S → F (some (.int (-3))) t') (k1 : ∀ X, goodX q ru rc ec Es S X → ∀ t', tF (ruF b) t t' → bgI t' → (∀ p, p < 4 → ∃ L, stdL L (X p) ∧ bL t' (301 + 52 * p) L) → F (some (.int (nI (tot X 4)))) t') : twc d 18 [.ref 0] t F := by
  refine ⟨by omega, ?_⟩
  rw [ze_18]
  refine vc_ok none zH_18 40 false _ 18 0 _ _ _ _ ?_
  simp only [v_18_0, v_18_1, v_18_4, v_18_5, v_18_8, v_18_9, v_18_12, v_18_13, v_18_14, h_18_14, v_18_15, v_18_17, v_18_20, v_18_21, v_18_24, v_18_25, v_18_26, v_18_29, v_18_30, v_18_33, v_18_34, v_18_35, v_18_36, v_18_39, v_18_42, v_18_45, v_18_48, v_18_51, v_18_52, v_18_55, v_18_57, vgi_0, vgi_s, vga_0, vga_s, vset_0, vset_s, vtk_0, vtk_s, vrc_0, vsw_0, vsw_s, List.all_cons, List.all_nil, zc1_i, zc1_r, Bool.and_true, Bool.and_self, true_and, and_true, List.length_cons, List.length_nil, Nat.zero_le, Nat.reduceLeDiff, Nat.reduceAdd, Nat.reduceLT, tg_0]
  refine c_27 (S := S) (by omega) hbg hS (fun t1 o1 l1 => ?_)
  simp only [v_18_0, v_18_1, v_18_4, v_18_5, v_18_8, v_18_9, v_18_12, v_18_13, v_18_14, h_18_14, v_18_15, v_18_17, v_18_20, v_18_21, v_18_24, v_18_25, v_18_26, v_18_29, v_18_30, v_18_33, v_18_34, v_18_35, v_18_36, v_18_39, v_18_42, v_18_45, v_18_48, v_18_51, v_18_52, v_18_55, v_18_57, vgi_0, vgi_s, vga_0, vga_s, vset_0, vset_s, vtk_0, vtk_s, vrc_0, vsw_0, vsw_s, List.all_cons, List.all_nil, zc1_i, zc1_r, Bool.and_true, Bool.and_self, true_and, and_true, List.length_cons, List.length_nil, Nat.zero_le, Nat.reduceLeDiff, Nat.reduceAdd, Nat.reduceLT, Option.toList_none, List.nil_append, tg_0, tf_0_10, tg_158]
  refine c_172 (n := 4) (by omega) tg_158 ln_158 (by omega) ?_
  simp only [v_18_0, v_18_1, v_18_4, v_18_5, v_18_8, v_18_9, v_18_12, v_18_13, v_18_14, h_18_14, v_18_15, v_18_17, v_18_20, v_18_21, v_18_24, v_18_25, v_18_26, v_18_29, v_18_30, v_18_33, v_18_34, v_18_35, v_18_36, v_18_39, v_18_42, v_18_45, v_18_48, v_18_51, v_18_52, v_18_55, v_18_57, vgi_0, vgi_s, vga_0, vga_s, vset_0, vset_s, vtk_0, vtk_s, vrc_0, vsw_0, vsw_s, List.all_cons, List.all_nil, zc1_i, zc1_r, Bool.and_true, Bool.and_self, true_and, and_true, List.length_cons, List.length_nil, Nat.zero_le, Nat.reduceLeDiff, Nat.reduceAdd, Nat.reduceLT, Option.toList_none, List.nil_append]
  have oF : tO [158] t1 (tfl t1 158 0 4 0) := tO.fl (by simp)
  refine l_18 (t := t) (S := S) (by omega) hr hbg hS kf k1 49 0 (fun _ => 0) S _ _ (by omega) rfl (fun p hp => ⟨(hS p hp).1, (hN p hp).1, fun x hx => hx, fun x hx => ⟨(hN p hp).2 x hx, 0, hx⟩⟩) (fun p hp => ⟨(hS p hp).1, Nat.zero_le _, ?_⟩) (fun p hp k hk => by omega) ((rcF.tF o1).tr (tF.of oF (fun x hx => by simp at hx; exact Or.inr (Or.inr (Or.inr hx))))) (fun y hy => ((hbg y hy).q (oF.1.trans o1.1)).1) (fun p hp => ?_)
  · show (if 158 = 158 ∧ 0 ≤ p ∧ p < 4 then (0 : Int32) else _) = _
    rw [if_pos ⟨rfl, by omega, hp⟩]; rfl
  · have br4 := bag_r p hp
    exact bL_k (l1 p hp) ((hbg _ br4.1).q o1.1).1 (by have := (hS p hp).1; omega) (fun x k a c => oF.2 x (by simp; omega) k) (fun k => rfl)
end RUNE
