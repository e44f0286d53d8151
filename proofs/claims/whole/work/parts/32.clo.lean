/-! Ways; the class's closure. -/
theorem tsi_ne {t : T} {a j b k : Nat} {v : Int32} (h : ¬ (b = a ∧ k = j)) : (tsi t a j v).1 b k = t.1 b k := if_neg h
theorem tsi_eq {t : T} {a j : Nat} {v : Int32} : (tsi t a j v).1 a j = v := if_pos ⟨rfl, rfl⟩
theorem way_ind {n : Nat} {R : Nat → Nat → Prop} {x y : Nat} {P : Nat → Prop} (h1 : ∀ v, v < n → R x v → P v) (h2 : ∀ u v, u < n → P u → v < n → R u v → P v) (h : way n R x y) : P y ∧ y < n := by
  obtain ⟨l, hl, k, hk, a, b, c⟩ := h
  have hlt : ∀ i, i ≤ k → l.getD i 0 < n := by
    intro i hi
    apply hl
    rw [List.getD_eq_getElem?_getD, List.getElem?_eq_getElem (by omega)]
    exact List.getElem_mem _
  have : ∀ i, i ≤ k → P (l.getD i 0) := by
    intro i
    induction i with
    | zero => intro _; exact h1 _ (hlt 0 (by omega)) a
    | succ i ih => intro hi; exact h2 _ _ (hlt i (by omega)) (ih (by omega)) (hlt (i + 1) hi) (b i (by omega))
  rw [← c]
  exact ⟨this k (by omega), hlt k (by omega)⟩
theorem way_one {n : Nat} {R : Nat → Nat → Prop} {x y : Nat} (hy : y < n) (h : R x y) : way n R x y := ⟨[y], by simpa using hy, 0, rfl, h, fun i hi => absurd hi (Nat.not_lt_zero _), rfl⟩
theorem way_snoc {n : Nat} {R : Nat → Nat → Prop} {x y z : Nat} (h : way n R x y) (hz : z < n) (hr : R y z) : way n R x z := by
  obtain ⟨l, hl, k, hk, a, b, c⟩ := h
  have hg : ∀ i, i ≤ k → (l ++ [z]).getD i 0 = l.getD i 0 := by
    intro i hi
    rw [List.getD_eq_getElem?_getD, List.getD_eq_getElem?_getD, List.getElem?_append_left (by omega)]
  have hz2 : (l ++ [z]).getD (k + 1) 0 = z := by
    rw [List.getD_eq_getElem?_getD, List.getElem?_append_right (by omega), hk]
    simp
  refine ⟨l ++ [z], fun w hw => ?_, k + 1, by simp [hk], by rw [hg 0 (by omega)]; exact a, fun i hi => ?_, hz2⟩
  · rcases List.mem_append.mp hw with h | h
    · exact hl w h
    · rw [List.mem_singleton.mp h]; exact hz
  · by_cases hik : i = k
    · subst hik
      rw [hg i (by omega), hz2, c]
      exact hr
    · rw [hg i (by omega), hg (i + 1) (by omega)]
      exact b i (by omega)
theorem clo_1 {n : Nat} {g : Nat → Nat → Int32} {x y : Nat} (h : way n (fun u v => g u v = 1) x y) : clo n g x y = 1 := by
  unfold clo
  rw [if_pos h]
theorem clo_2 {n : Nat} {g : Nat → Nat → Int32} {x y : Nat} (h1 : ¬ way n (fun u v => g u v = 1) x y) (h : way n (fun u v => g u v ≠ 0) x y) : clo n g x y = 2 := by
  unfold clo
  rw [if_neg h1, if_pos h]
theorem clo_0 {n : Nat} {g : Nat → Nat → Int32} {x y : Nat} (h1 : ¬ way n (fun u v => g u v = 1) x y) (h : ¬ way n (fun u v => g u v ≠ 0) x y) : clo n g x y = 0 := by
  unfold clo
  rw [if_neg h1, if_neg h]
/-- a table of strengths that is sound and closed is the closure -/
theorem clo_of {n : Nat} {g : Nat → Nat → Int32} {x y : Nat} {r : Nat → Int32} (hr : tri (r y)) (s1 : r y = 1 → way n (fun u v => g u v = 1) x y) (s2 : r y ≠ 0 → way n (fun u v => g u v ≠ 0) x y) (c1 : way n (fun u v => g u v = 1) x y → r y = 1) (c2 : way n (fun u v => g u v ≠ 0) x y → r y ≠ 0) : r y = clo n g x y := by
  obtain ⟨v, hv, he⟩ := hr
  have : v = 0 ∨ v = 1 ∨ v = 2 := by omega
  rcases this with rfl | rfl | rfl
  · have h0 : r y = 0 := he
    rw [clo_0 (fun q => by have := c1 q; rw [h0] at this; exact absurd this (by decide)) (fun q => c2 q h0), h0]
  · have h0 : r y = 1 := he
    rw [clo_1 (s1 h0), h0]
  · have h0 : r y = 2 := he
    rw [clo_2 (fun q => by have := c1 q; rw [h0] at this; exact absurd this (by decide)) (s2 (by rw [h0]; decide)), h0]
theorem bit6 : ∀ m, m < 64 → ∀ x, x < 6 → ((((nI m) >>> (nI x &&& 31)) &&& 1 = 0) ↔ m.testBit x = false) := by decide +kernel
theorem bor6 : ∀ m, m < 64 → ∀ x, x < 6 → (nI m ||| ((1 : Int32) <<< (nI x &&& 31)) = nI (m ||| 2 ^ x)) ∧ (m ||| 2 ^ x) < 64 := by decide +kernel
theorem bof6 (m x y : Nat) : (m ||| 2 ^ x).testBit y = (m.testBit y || decide (x = y)) := by
  rw [Nat.testBit_or, Nat.testBit_two_pow]
def pc6 (m : Nat) : Nat := (List.range 6).countP (fun x => m.testBit x)
theorem pc6_add : ∀ m, m < 64 → ∀ x, x < 6 → m.testBit x = false → pc6 (m ||| 2 ^ x) = pc6 m + 1 := by decide +kernel
theorem pc6_all : ∀ m, m < 64 → ∀ n, n ≤ 6 → (∀ x, x < 6 → n ≤ x → m.testBit x = false) → pc6 m = n → ∀ x, x < n → m.testBit x = true := by decide +kernel
theorem ts_a : ∀ i, i < 3 → ∀ j, j < 3 → (nI i = 1 ∨ nI i = 2 → tor (nI i) (tand (nI i) (nI j)) = nI i) := by decide
theorem ts_b : ∀ i, i < 3 → ∀ j, j < 3 → (tor (nI i) (nI j) = 1 ↔ (nI i = 1 ∨ nI j = 1)) := by decide
theorem ts_c : ∀ i, i < 3 → ∀ j, j < 3 → (tor (nI i) (nI j) = 0 ↔ (nI i = 0 ∧ nI j = 0)) := by decide
theorem ts_d : ∀ i, i < 3 → ∀ j, j < 3 → (tand (nI i) (nI j) = 1 ↔ (nI i = 1 ∧ nI j = 1)) := by decide
theorem ts_e : ∀ i, i < 3 → ∀ j, j < 3 → (tand (nI i) (nI j) = 0 ↔ (nI i = 0 ∨ nI j = 0)) := by decide
theorem tor_1 {x y : Int32} (hx : tri x) (hy : tri y) : tor x y = 1 ↔ (x = 1 ∨ y = 1) := by
  obtain ⟨i, hi, rfl⟩ := hx
  obtain ⟨j, hj, rfl⟩ := hy
  exact ts_b i hi j hj
theorem tor_0 {x y : Int32} (hx : tri x) (hy : tri y) : tor x y = 0 ↔ (x = 0 ∧ y = 0) := by
  obtain ⟨i, hi, rfl⟩ := hx
  obtain ⟨j, hj, rfl⟩ := hy
  exact ts_c i hi j hj
theorem tand_1 {x y : Int32} (hx : tri x) (hy : tri y) : tand x y = 1 ↔ (x = 1 ∧ y = 1) := by
  obtain ⟨i, hi, rfl⟩ := hx
  obtain ⟨j, hj, rfl⟩ := hy
  exact ts_d i hi j hj
theorem tand_0 {x y : Int32} (hx : tri x) (hy : tri y) : tand x y = 0 ↔ (x = 0 ∨ y = 0) := by
  obtain ⟨i, hi, rfl⟩ := hx
  obtain ⟨j, hj, rfl⟩ := hy
  exact ts_e i hi j hj
theorem tor_skip {r s g : Int32} (hr : tri r) (hs : tri s) (hg : tri g) (h : r = 1 ∨ r = s) (h2 : s = 1 ∨ s = 2) : tor r (tand s g) = r := by
  rcases h with rfl | rfl
  · exact tor_one _
  · obtain ⟨i, hi, rfl⟩ := hr
    obtain ⟨j, hj, rfl⟩ := hg
    exact ts_a i hi j hj h2
section CLO
variable {d : Nat} {t : T} {F : Option Value → T → Prop} {q : FT} {m a n i : Nat} {f : St} {e : Nat → Nat}
/-- while a closure is looked for: only its two variables and the row differ -/
def cs (t t' : T) : Prop := t'.2 = t.2 ∧ ∀ b k, b ≠ 46 → ¬ (b = 45 ∧ (k = 4 ∨ k = 5)) → t'.1 b k = t.1 b k
theorem cs.rf : cs t t := ⟨rfl, fun _ _ _ _ => rfl⟩
theorem cs.tr {t1 t2 : T} (h1 : cs t t1) (h2 : cs t1 t2) : cs t t2 := ⟨h2.1.trans h1.1, fun b k h3 h4 => (h2.2 b k h3 h4).trans (h1.2 b k h3 h4)⟩
theorem cs.evp {t' : T} (h : cs t t') (hq : evp t q m a f n) : evp t' q m a f n := hq.keep h.1 (fun b k h1 h2 => h.2 b k h2 (fun z => h1 z.1))
/-- the value of the step from x to w -/
noncomputable def stp (q : FT) (f : St) (n c : Nat) (e : Nat → Nat) (x w : Nat) : Int32 := EV q f n c (eu (eu e 4 x) 5 w)
theorem tO_nil {t t' : T} (h : tO [] t t') : t' = t := T_ext (fun b k => h.2 b (by simp) k) (fun b k => by rw [h.1])
theorem l_127 {c x : Nat} {s : Int32} (hd : 3 ≤ d) (hq : evp t q m a f n) (hc : c < m) (hcl : cl q c = 0) (he : ∀ v, fb q c v → v = 4 ∨ v = 5 ∨ (e v < n ∧ t.1 45 v = nI (e v))) (hx : x < n) (hx4 : t.1 45 4 = nI x) (hs : s = 1 ∨ s = 2) (hr : ∀ w, w < n → tri (t.1 46 w)) (hE : EVC q m c d) (h : ∀ t', cs t t' → (∀ w, w < n → t'.1 46 w = tor (t.1 46 w) (tand s (stp q f n c e x w))) → F none t') : ∀ (j w : Nat) (t' : T), w + j = n → cs t t' → t'.1 45 4 = nI x → (∀ u, u < w → t'.1 46 u = tor (t.1 46 u) (tand s (stp q f n c e x u))) → (∀ u, w ≤ u → u < n → t'.1 46 u = t.1 46 u) → twp none d 127 10 [.ref 44, .int (nI x), .int s, .ref (4 + c), .int (nI w)] [] t' F := by
  have hn := hq.2.2.2.2.2.2.2.2.2
  have hm := hq.1
  have htri : ∀ w, w < n → tri (stp q f n c e x w) := by
    intro w hw
    refine EV_tri hq.2.1 hq.2.2.2.2.2.2.2.1 hn c hc _ (fun v hv => ?_)
    unfold eu
    split
    · exact hw
    · split
      · exact hx
      · rcases he v hv with z | z | z
        · rename_i h1 h2; exact absurd z h2
        · rename_i h1 h2; exact absurd z h1
        · exact z.1
  have hst : tri s := by rcases hs with rfl | rfl; exact tri_1; exact tri_2
  intro j
  induction j with
  | zero =>
    intro w t' hw hcs h4 h1 h2
    have hw : w = n := by omega
    subst hw
    have hq' := hcs.evp hq
    refine vc_ok none zH_127 56 false _ 127 10 _ _ _ _ ?_
    simp only [v_127_0, v_127_1, v_127_4, v_127_5, v_127_6, v_127_7, v_127_8, v_127_10, h_127_10, v_127_12, v_127_13, v_127_16, v_127_19, v_127_22, v_127_23, v_127_26, v_127_28, v_127_29, v_127_30, v_127_33, v_127_34, v_127_37, v_127_39, v_127_40, v_127_41, v_127_44, v_127_45, v_127_48, v_127_49, v_127_51, v_127_52, v_127_53, v_127_56, v_127_58, v_127_59, v_127_62, v_127_64, v_127_65, v_127_66, v_127_67, v_127_68, v_127_71, v_127_74, v_127_77, v_127_78, v_127_81, v_127_84, vgi_0, vgi_s, vga_0, vga_s, vset_0, vset_s, vtk_0, vtk_s, vrc_0, vsw_0, vsw_s, List.all_cons, List.all_nil, zc1_i, zc1_r, Bool.and_true, Bool.and_self, true_and, and_true, List.length_cons, List.length_nil, Nat.zero_le, Nat.reduceLeDiff, Nat.reduceAdd, tg_44, tf_44_3, hq'.2.2.2.2.1, hq'.2.2.2.2.2.1, hq'.cnt]
    simp (disch := omega) only [nI_ltI, Nat.lt_irrefl, if_false]
    exact h t' hcs h1
  | succ j ih =>
    intro w t' hw hcs h4 h1 h2
    have hq' := hcs.evp hq
    have hrw : t'.1 46 w = t.1 46 w := h2 w (by omega) (by omega)
    refine vc_ok none zH_127 56 false _ 127 10 _ _ _ _ ?_
    simp only [v_127_0, v_127_1, v_127_4, v_127_5, v_127_6, v_127_7, v_127_8, v_127_10, h_127_10, v_127_12, v_127_13, v_127_16, v_127_19, v_127_22, v_127_23, v_127_26, v_127_28, v_127_29, v_127_30, v_127_33, v_127_34, v_127_37, v_127_39, v_127_40, v_127_41, v_127_44, v_127_45, v_127_48, v_127_49, v_127_51, v_127_52, v_127_53, v_127_56, v_127_58, v_127_59, v_127_62, v_127_64, v_127_65, v_127_66, v_127_67, v_127_68, v_127_71, v_127_74, v_127_77, v_127_78, v_127_81, v_127_84, vgi_0, vgi_s, vga_0, vga_s, vset_0, vset_s, vtk_0, vtk_s, vrc_0, vsw_0, vsw_s, List.all_cons, List.all_nil, zc1_i, zc1_r, Bool.and_true, Bool.and_self, true_and, and_true, List.length_cons, List.length_nil, Nat.zero_le, Nat.reduceLeDiff, Nat.reduceAdd, tg_44, tf_44_3, hq'.2.2.2.2.1, hq'.2.2.2.2.2.1, hq'.cnt, tf_44_2, tg_46, ln_46, tf_44_1, tg_45, ln_45]
    simp (disch := omega) only [li5, li1, nI_ltI, nI_clamp, vinb_n, nI_add]
    rw [if_pos (by omega)]
    refine ⟨by omega, ?_⟩
    rw [hrw]
    have skip : (t.1 46 w = nI 1 ∨ t.1 46 w = s) → twp none d 127 10 [.ref 44, .int (nI x), .int s, .ref (4 + c), .int (nI (w + 1))] [] t' F := by
      intro hsk
      refine ih (w + 1) t' (by omega) hcs h4 (fun u hu => ?_) (fun u hu1 hu2 => h2 u (by omega) hu2)
      by_cases huw : u = w
      · subst huw
        rw [hrw, tor_skip (hr u (by omega)) hst (htri u (by omega)) hsk hs]
      · exact h1 u (by omega)
    by_cases z1 : t.1 46 w = nI 1
    · rw [if_pos z1]
      exact skip (Or.inl z1)
    · rw [if_neg z1]
      refine ⟨by omega, ?_⟩
      by_cases z2 : t.1 46 w = s
      · rw [if_pos z2]
        exact skip (Or.inr z2)
      · rw [if_neg z2]
        refine ⟨by omega, by omega, ?_⟩
        have hc5 : cs t (tsi t' 45 5 (nI w)) := hcs.tr ⟨rfl, fun b k hb hbk => by
          show (if b = 45 ∧ k = 5 then nI w else t'.1 b k) = _
          rw [if_neg (fun z => hbk ⟨z.1, Or.inr z.2⟩)]⟩
        have hEe : eve (tsi t' 45 5 (nI w)) q c n (eu (eu e 4 x) 5 w) := by
          intro v hv
          unfold eu
          by_cases v5 : v = 5
          · rw [if_pos v5]
            refine ⟨by omega, ?_⟩
            show (if 45 = 45 ∧ v = 5 then nI w else t'.1 45 v) = _
            rw [if_pos ⟨rfl, v5⟩]
          · rw [if_neg v5]
            have e1 : (tsi t' 45 5 (nI w)).1 45 v = t'.1 45 v := by
              show (if 45 = 45 ∧ v = 5 then nI w else t'.1 45 v) = _
              rw [if_neg (fun z => v5 z.2)]
            rw [e1]
            by_cases v4 : v = 4
            · rw [if_pos v4, v4]
              exact ⟨hx, h4⟩
            · rw [if_neg v4]
              rcases he v hv with z | z | z
              · exact absurd z v4
              · exact absurd z v5
              · refine ⟨z.1, ?_⟩
                rw [hcs.2 45 v (by omega) (fun y => by rcases y.2 with y | y; exact v4 y; exact v5 y)]
                exact z.2
        refine hE _ a n f (eu (eu e 4 x) 5 w) _ (hc5.evp hq) hEe (fun t2 ht2 => ?_)
        have ht2 : t2 = tsi t' 45 5 (nI w) := by
          unfold clA at ht2
          rw [if_pos hcl] at ht2
          exact tO_nil ht2
        subst ht2
        simp only [v_127_0, v_127_1, v_127_4, v_127_5, v_127_6, v_127_7, v_127_8, v_127_10, h_127_10, v_127_12, v_127_13, v_127_16, v_127_19, v_127_22, v_127_23, v_127_26, v_127_28, v_127_29, v_127_30, v_127_33, v_127_34, v_127_37, v_127_39, v_127_40, v_127_41, v_127_44, v_127_45, v_127_48, v_127_49, v_127_51, v_127_52, v_127_53, v_127_56, v_127_58, v_127_59, v_127_62, v_127_64, v_127_65, v_127_66, v_127_67, v_127_68, v_127_71, v_127_74, v_127_77, v_127_78, v_127_81, v_127_84, vgi_0, vgi_s, vga_0, vga_s, vset_0, vset_s, vtk_0, vtk_s, vrc_0, vsw_0, vsw_s, List.all_cons, List.all_nil, zc1_i, zc1_r, Bool.and_true, Bool.and_self, true_and, and_true, List.length_cons, List.length_nil, Nat.zero_le, Nat.reduceLeDiff, Nat.reduceAdd, Option.toList_some, List.cons_append, List.nil_append]
        refine c_130 (by omega) ?_
        simp only [v_127_0, v_127_1, v_127_4, v_127_5, v_127_6, v_127_7, v_127_8, v_127_10, h_127_10, v_127_12, v_127_13, v_127_16, v_127_19, v_127_22, v_127_23, v_127_26, v_127_28, v_127_29, v_127_30, v_127_33, v_127_34, v_127_37, v_127_39, v_127_40, v_127_41, v_127_44, v_127_45, v_127_48, v_127_49, v_127_51, v_127_52, v_127_53, v_127_56, v_127_58, v_127_59, v_127_62, v_127_64, v_127_65, v_127_66, v_127_67, v_127_68, v_127_71, v_127_74, v_127_77, v_127_78, v_127_81, v_127_84, vgi_0, vgi_s, vga_0, vga_s, vset_0, vset_s, vtk_0, vtk_s, vrc_0, vsw_0, vsw_s, List.all_cons, List.all_nil, zc1_i, zc1_r, Bool.and_true, Bool.and_self, true_and, and_true, List.length_cons, List.length_nil, Nat.zero_le, Nat.reduceLeDiff, Nat.reduceAdd, Option.toList_some, List.cons_append, List.nil_append]
        refine c_131 (by omega) ?_
        simp only [v_127_0, v_127_1, v_127_4, v_127_5, v_127_6, v_127_7, v_127_8, v_127_10, h_127_10, v_127_12, v_127_13, v_127_16, v_127_19, v_127_22, v_127_23, v_127_26, v_127_28, v_127_29, v_127_30, v_127_33, v_127_34, v_127_37, v_127_39, v_127_40, v_127_41, v_127_44, v_127_45, v_127_48, v_127_49, v_127_51, v_127_52, v_127_53, v_127_56, v_127_58, v_127_59, v_127_62, v_127_64, v_127_65, v_127_66, v_127_67, v_127_68, v_127_71, v_127_74, v_127_77, v_127_78, v_127_81, v_127_84, vgi_0, vgi_s, vga_0, vga_s, vset_0, vset_s, vtk_0, vtk_s, vrc_0, vsw_0, vsw_s, List.all_cons, List.all_nil, zc1_i, zc1_r, Bool.and_true, Bool.and_self, true_and, and_true, List.length_cons, List.length_nil, Nat.zero_le, Nat.reduceLeDiff, Nat.reduceAdd, Option.toList_some, List.cons_append, List.nil_append, tg_46, ln_46]
        simp (disch := omega) only [li1, nI_clamp, vinb_n, nI_add]
        refine ⟨by omega, ?_⟩
        have e46 : (tsi t' 45 5 (nI w)).1 46 w = t.1 46 w := by
          show (if 46 = 45 ∧ w = 5 then nI w else t'.1 46 w) = _
          rw [if_neg (by omega)]
          exact hrw
        rw [e46]
        refine ih (w + 1) _ (by omega) (hc5.tr ⟨rfl, fun b k hb _ => ?_⟩) ?_ (fun u hu => ?_) (fun u hu1 hu2 => ?_)
        · show (if b = 46 ∧ k = w then _ else _) = _
          rw [if_neg (fun z => hb z.1)]
        · rw [tsi_ne (by omega), tsi_ne (by omega)]
          exact h4
        · show (if 46 = 46 ∧ u = w then tor (t.1 46 w) (tand s (stp q f n c e x w)) else (if 46 = 45 ∧ u = 5 then nI w else t'.1 46 u)) = _
          by_cases huw : u = w
          · rw [if_pos ⟨rfl, huw⟩, huw]
          · rw [if_neg (fun z => huw z.2), if_neg (by omega)]
            exact h1 u (by omega)
        · rw [tsi_ne (by omega), tsi_ne (by omega)]
          exact h2 u (by omega) hu2
theorem c_127 {c x : Nat} {s : Int32} (hd : 4 ≤ d) (hq : evp t q m a f n) (hc : c < m) (hcl : cl q c = 0) (he : ∀ v, fb q c v → v = 4 ∨ v = 5 ∨ (e v < n ∧ t.1 45 v = nI (e v))) (hx : x < n) (hs : s = 1 ∨ s = 2) (hr : ∀ w, w < n → tri (t.1 46 w)) (hE : EVC q m c (d - 1)) (h : ∀ t', cs t t' → (∀ w, w < n → t'.1 46 w = tor (t.1 46 w) (tand s (stp q f n c e x w))) → F none t') : twc d 127 [.ref 44, .int (nI x), .int s, .ref (4 + c)] t F := by
  refine ⟨by omega, ?_⟩
  rw [ze_127]
  refine vc_ok none zH_127 56 false _ 127 0 _ _ _ _ ?_
  simp only [v_127_0, v_127_1, v_127_4, v_127_5, v_127_6, v_127_7, v_127_8, v_127_10, h_127_10, v_127_12, v_127_13, v_127_16, v_127_19, v_127_22, v_127_23, v_127_26, v_127_28, v_127_29, v_127_30, v_127_33, v_127_34, v_127_37, v_127_39, v_127_40, v_127_41, v_127_44, v_127_45, v_127_48, v_127_49, v_127_51, v_127_52, v_127_53, v_127_56, v_127_58, v_127_59, v_127_62, v_127_64, v_127_65, v_127_66, v_127_67, v_127_68, v_127_71, v_127_74, v_127_77, v_127_78, v_127_81, v_127_84, vgi_0, vgi_s, vga_0, vga_s, vset_0, vset_s, vtk_0, vtk_s, vrc_0, vsw_0, vsw_s, List.all_cons, List.all_nil, zc1_i, zc1_r, Bool.and_true, Bool.and_self, true_and, and_true, List.length_cons, List.length_nil, Nat.zero_le, Nat.reduceLeDiff, Nat.reduceAdd, tg_44, tf_44_1, tg_45, ln_45]
  simp (disch := omega) only [li4, nI_clamp, vinb_n]
  refine ⟨by omega, ?_⟩
  have hc4 : cs t (tsi t 45 4 (nI x)) := ⟨rfl, fun b k hb hbk => by
    show (if b = 45 ∧ k = 4 then nI x else t.1 b k) = _
    rw [if_neg (fun z => hbk ⟨z.1, Or.inl z.2⟩)]⟩
  have h46 : ∀ w, (tsi t 45 4 (nI x)).1 46 w = t.1 46 w := fun w => by
    show (if 46 = 45 ∧ w = 4 then nI x else t.1 46 w) = _
    rw [if_neg (by omega)]
  refine l_127 (e := e) (t := tsi t 45 4 (nI x)) (by omega) (hc4.evp hq) hc hcl (fun v hv => ?_) hx ?_ hs (fun w hw => by rw [h46]; exact hr w hw) hE (fun t' h1 h2 => ?_) n 0 _ (by omega) cs.rf ?_ (fun u hu => absurd hu (Nat.not_lt_zero _)) (fun _ _ _ => rfl)
  · rcases he v hv with z | z | z
    · exact Or.inl z
    · exact Or.inr (Or.inl z)
    · by_cases v4 : v = 4
      · exact Or.inl v4
      · refine Or.inr (Or.inr ⟨z.1, ?_⟩)
        show (if 45 = 45 ∧ v = 4 then nI x else t.1 45 v) = _
        rw [if_neg (fun y => v4 y.2)]
        exact z.2
  · exact tsi_eq
  · refine h t' (hc4.tr h1) (fun w hw => ?_)
    rw [h2 w hw, h46]
  · exact tsi_eq
/-- the strongest of those not left, up to k -/
def best (r : Nat → Int32) (lf k : Nat) (x : Int32) : Prop := (x = -1 ∧ ∀ y, y < k → lf.testBit y = true ∨ r y = 0) ∨ ∃ z, z < k ∧ x = nI z ∧ lf.testBit z = false ∧ r z ≠ 0 ∧ (r z = 1 ∨ ∀ y, y < k → lf.testBit y = false → r y ≠ 1)
theorem l_128 {lf : Nat} (hq : evp t q m a f n) (hl : lf < 64) (h : ∀ x, best (t.1 46) lf n x → F (some (.int x)) t) : ∀ (j k : Nat) (x : Int32), k + j = n → best (t.1 46) lf k x → twp none d 128 4 [.ref 44, .int (nI lf), .int x, .int (nI k)] [] t F := by
  have hn := hq.2.2.2.2.2.2.2.2.2
  intro j
  induction j with
  | zero =>
    intro k x hk hb
    have hk : k = n := by omega
    subst hk
    refine vc_ok none zH_128 44 false _ 128 4 _ _ _ _ ?_
    simp only [v_128_0, v_128_1, v_128_2, v_128_3, v_128_4, h_128_4, v_128_5, v_128_6, v_128_9, v_128_12, v_128_15, v_128_16, v_128_17, v_128_18, v_128_19, v_128_20, v_128_23, v_128_24, v_128_27, v_128_28, v_128_29, v_128_32, v_128_33, v_128_36, v_128_37, v_128_40, v_128_41, v_128_42, v_128_43, v_128_46, v_128_47, v_128_48, v_128_51, v_128_54, v_128_55, vgi_0, vgi_s, vga_0, vga_s, vset_0, vset_s, vtk_0, vtk_s, vrc_0, vsw_0, vsw_s, List.all_cons, List.all_nil, zc1_i, zc1_r, Bool.and_true, Bool.and_self, true_and, and_true, List.length_cons, List.length_nil, Nat.zero_le, Nat.reduceLeDiff, Nat.reduceAdd, tg_44, tf_44_3, hq.2.2.2.2.1, hq.2.2.2.2.2.1, hq.cnt]
    simp (disch := omega) only [nI_ltI, Nat.lt_irrefl, if_false]
    exact h x hb
  | succ j ih =>
    intro k x hk hb
    refine vc_ok none zH_128 44 false _ 128 4 _ _ _ _ ?_
    simp only [v_128_0, v_128_1, v_128_2, v_128_3, v_128_4, h_128_4, v_128_5, v_128_6, v_128_9, v_128_12, v_128_15, v_128_16, v_128_17, v_128_18, v_128_19, v_128_20, v_128_23, v_128_24, v_128_27, v_128_28, v_128_29, v_128_32, v_128_33, v_128_36, v_128_37, v_128_40, v_128_41, v_128_42, v_128_43, v_128_46, v_128_47, v_128_48, v_128_51, v_128_54, v_128_55, vgi_0, vgi_s, vga_0, vga_s, vset_0, vset_s, vtk_0, vtk_s, vrc_0, vsw_0, vsw_s, List.all_cons, List.all_nil, zc1_i, zc1_r, Bool.and_true, Bool.and_self, true_and, and_true, List.length_cons, List.length_nil, Nat.zero_le, Nat.reduceLeDiff, Nat.reduceAdd, tg_44, tf_44_3, hq.2.2.2.2.1, hq.2.2.2.2.2.1, hq.cnt, tf_44_2, tg_46, ln_46]
    rw [if_pos (nI_lt (by omega) (by omega))]
    have hb6 := bit6 lf hl k (by omega)
    by_cases z0 : (nI lf >>> (nI k &&& 31)) &&& 1 = 0
    · rw [if_pos z0]
      have hbit := hb6.mp z0
      simp (disch := omega) only [li1, nI_add, nI_clamp, vinb_n]
      refine ⟨by omega, ?_⟩
      by_cases z1 : t.1 46 k = 0
      · rw [if_pos z1]
        refine ih (k + 1) x (by omega) ?_
        rcases hb with ⟨h1, h2⟩ | ⟨z, h1, h2, h3, h4, h5⟩
        · exact Or.inl ⟨h1, fun y hy => if e : y = k then Or.inr (by rw [e]; exact z1) else h2 y (by omega)⟩
        · refine Or.inr ⟨z, by omega, h2, h3, h4, ?_⟩
          rcases h5 with h5 | h5
          · exact Or.inl h5
          · exact Or.inr (fun y hy hyb => if e : y = k then (by rw [e, z1]; decide) else h5 y (by omega) hyb)
      · rw [if_neg z1]
        by_cases z2 : x < 0
        · rw [if_pos z2]
          refine ih (k + 1) (nI k) (by omega) ?_
          rcases hb with ⟨h1, h2⟩ | ⟨z, h1, h2, h3, h4, h5⟩
          · by_cases z3 : t.1 46 k = 1
            · exact Or.inr ⟨k, by omega, rfl, hbit, z1, Or.inl z3⟩
            · refine Or.inr ⟨k, by omega, rfl, hbit, z1, Or.inr (fun y hy hyb => ?_)⟩
              by_cases e : y = k
              · rw [e]; exact z3
              · rcases h2 y (by omega) with g | g
                · rw [g] at hyb; cases hyb
                · rw [g]; decide
          · rw [h2] at z2
            exact absurd z2 (nI_pos (by omega))
        · rw [if_neg z2]
          refine ⟨by omega, ?_⟩
          rcases hb with ⟨h1, h2⟩ | ⟨z, h1, h2, h3, h4, h5⟩
          · rw [h1] at z2
            exact absurd (by decide) z2
          · by_cases z3 : t.1 46 k = nI 1
            · rw [if_pos z3]
              exact ih (k + 1) (nI k) (by omega) (Or.inr ⟨k, by omega, rfl, hbit, z1, Or.inl z3⟩)
            · rw [if_neg z3]
              refine ih (k + 1) x (by omega) (Or.inr ⟨z, by omega, h2, h3, h4, ?_⟩)
              rcases h5 with h5 | h5
              · exact Or.inl h5
              · exact Or.inr (fun y hy hyb => if e : y = k then (by rw [e]; exact z3) else h5 y (by omega) hyb)
    · rw [if_neg z0]
      simp (disch := omega) only [li1, nI_add]
      have hbit : lf.testBit k = true := by
        cases hbb : lf.testBit k with
        | true => rfl
        | false => exact absurd (hb6.mpr hbb) z0
      refine ih (k + 1) x (by omega) ?_
      rcases hb with ⟨h1, h2⟩ | ⟨z, h1, h2, h3, h4, h5⟩
      · exact Or.inl ⟨h1, fun y hy => if e : y = k then Or.inl (by rw [e]; exact hbit) else h2 y (by omega)⟩
      · refine Or.inr ⟨z, by omega, h2, h3, h4, ?_⟩
        rcases h5 with h5 | h5
        · exact Or.inl h5
        · exact Or.inr (fun y hy hyb => if e : y = k then (by rw [e, hbit] at hyb; cases hyb) else h5 y (by omega) hyb)
theorem c_128 {lf : Nat} (hd : 1 ≤ d) (hq : evp t q m a f n) (hl : lf < 64) (h : ∀ x, best (t.1 46) lf n x → F (some (.int x)) t) : twc d 128 [.ref 44, .int (nI lf)] t F := by
  refine ⟨by omega, ?_⟩
  rw [ze_128]
  refine vc_ok none zH_128 44 false _ 128 0 _ _ _ _ ?_
  simp only [v_128_0, v_128_1, v_128_2, v_128_3, v_128_4, h_128_4, v_128_5, v_128_6, v_128_9, v_128_12, v_128_15, v_128_16, v_128_17, v_128_18, v_128_19, v_128_20, v_128_23, v_128_24, v_128_27, v_128_28, v_128_29, v_128_32, v_128_33, v_128_36, v_128_37, v_128_40, v_128_41, v_128_42, v_128_43, v_128_46, v_128_47, v_128_48, v_128_51, v_128_54, v_128_55, vgi_0, vgi_s, vga_0, vga_s, vset_0, vset_s, vtk_0, vtk_s, vrc_0, vsw_0, vsw_s, List.all_cons, List.all_nil, zc1_i, zc1_r, Bool.and_true, Bool.and_self, true_and, and_true, List.length_cons, List.length_nil, Nat.zero_le, Nat.reduceLeDiff, Nat.reduceAdd]
  exact l_128 hq hl h n 0 (-1) (by omega) (Or.inl ⟨rfl, fun y hy => absurd hy (Nat.not_lt_zero _)⟩)
end CLO
