/-! The reference: its cells. -/
def mO (A R : List Nat) (t t' : T) : Prop := t'.2 = t.2 ∧ (∀ b, b ≠ 484 → b ∉ A → ∀ k, t'.1 b k = t.1 b k) ∧ ∀ s, s ∉ R → mS t' s = mS t s
theorem mO.rf {A R : List Nat} {t : T} : mO A R t t := ⟨rfl, fun _ _ _ _ => rfl, fun _ _ => rfl⟩
theorem mO.tr {A R : List Nat} {t t1 t2 : T} (h1 : mO A R t t1) (h2 : mO A R t1 t2) : mO A R t t2 := ⟨h2.1.trans h1.1, fun b hb hb2 k => (h2.2.1 b hb hb2 k).trans (h1.2.1 b hb hb2 k), fun s hs => (h2.2.2 s hs).trans (h1.2.2 s hs)⟩
theorem mO.mono {A B R P : List Nat} {t t1 : T} (h1 : mO A R t t1) (h : ∀ b, b ∈ A → b ∈ B) (h2 : ∀ b, b ∈ R → b ∈ P) : mO B P t t1 := ⟨h1.1, fun b hb hb2 k => h1.2.1 b hb (fun q => hb2 (h b q)) k, fun s hs => h1.2.2 s (fun q => hs (h2 s q))⟩
def bS (f : St) : Prop := ∀ k, k < 105 → (f k).toInt8.toInt32 = f k
theorem n_byte : ∀ x, x < 100 → (nI x).toInt8.toInt32 = nI x := by decide +kernel
theorem wfS.b {f : St} (h : wfS f) : bS f := by
  intro k hk
  by_cases h0 : k = 0
  · subst h0
    rw [h.n.1]
    have := h.n.2
    exact n_byte _ (by omega)
  · obtain ⟨v, h1, h2⟩ := h.2.1 k (by omega) hk
    rw [h2]
    exact n_byte _ (by omega)
theorem mS_at {t : T} {s k : Nat} (h : k < 105) : mS t s k = t.1 484 (105 * s + k) := by
  unfold mS
  rw [if_pos h]
theorem mS_si {t : T} {s k : Nat} {v : Int32} (h : k < 105) (r : Nat) : mS (tsi t 484 (105 * s + k) v) r = if r = s then su (mS t s) k v else mS t r := by
  funext j
  by_cases hr : r = s
  · subst hr
    rw [if_pos rfl]
    unfold su mS tsi
    dsimp only
    by_cases hj : j < 105
    · simp only [if_pos hj]
      by_cases hjk : j = k
      · subst hjk; simp
      · rw [if_neg (by omega), if_neg hjk]
    · simp only [if_neg hj]
      rw [if_neg (by omega)]
  · rw [if_neg hr]
    unfold mS tsi
    dsimp only
    by_cases hj : j < 105
    · rw [if_pos hj, if_pos hj, if_neg (by omega)]
    · rw [if_neg hj, if_neg hj]
theorem mO_si {t : T} {s k : Nat} {v : Int32} {A R : List Nat} (h : k < 105) (hR : s ∈ R) : mO A R t (tsi t 484 (105 * s + k) v) := by
  refine ⟨rfl, fun b hb _ j => ?_, fun r hr => ?_⟩
  · show (if b = 484 ∧ j = 105 * s + k then v else t.1 b j) = _
    rw [if_neg (fun q => hb q.1)]
  · rw [mS_si h, if_neg]
    rintro rfl
    exact hr hR
section MOD
variable {d : Nat} {t : T} {F : Option Value → T → Prop}
theorem c_38 {s k : Nat} (hd : 1 ≤ d) (hs : s < 184) (hk : k < 105) (h : F (some (.int (mS t s k))) t) : twc d 38 [.ref 483, .int (nI s), .int (nI k)] t F := by
  refine ⟨hd, ?_⟩
  rw [ze_38]
  refine vc_ok none zH_38 19 false _ 38 0 _ _ _ _ ?_
  simp only [v_38_0, v_38_1, v_38_4, v_38_6, v_38_7, v_38_8, v_38_9, v_38_10, v_38_11, vgi_0, vgi_s, vga_0, vga_s, vset_0, vset_s, vtk_0, vtk_s, vrc_0, vsw_0, vsw_s, List.all_cons, List.all_nil, zc1_i, zc1_r, Bool.and_true, Bool.and_self, true_and, and_true, List.length_cons, List.length_nil, Nat.zero_le, Nat.reduceLeDiff, Nat.reduceAdd, tg_483, tf_483_0, tg_484, ln_484]
  simp (disch := omega) only [li105, pk_mul, nI_add, nI_clamp, vinb_n]
  rw [mS_at hk] at h
  exact ⟨Or.inl trivial, by omega, h⟩
theorem c_39 {s k : Nat} {v : Int32} (hd : 1 ≤ d) (hs : s < 184) (hk : k < 105) (hv : v.toInt8.toInt32 = v) (h : F none (tsi t 484 (105 * s + k) v)) : twc d 39 [.ref 483, .int (nI s), .int (nI k), .int v] t F := by
  refine ⟨hd, ?_⟩
  rw [ze_39]
  refine vc_ok none zH_39 21 false _ 39 0 _ _ _ _ ?_
  simp only [v_39_0, v_39_1, v_39_4, v_39_6, v_39_7, v_39_8, v_39_9, v_39_10, v_39_11, v_39_12, v_39_13, vgi_0, vgi_s, vga_0, vga_s, vset_0, vset_s, vtk_0, vtk_s, vrc_0, vsw_0, vsw_s, List.all_cons, List.all_nil, zc1_i, zc1_r, Bool.and_true, Bool.and_self, true_and, and_true, List.length_cons, List.length_nil, Nat.zero_le, Nat.reduceLeDiff, Nat.reduceAdd, tg_483, tf_483_0, tg_484, ln_484]
  simp (disch := omega) only [li105, pk_mul, nI_add, nI_clamp, vinb_n]
  refine ⟨by omega, ?_⟩
  simp only [hv, if_true]
  exact h
theorem c_40 {s : Nat} (hd : 2 ≤ d) (hs : s < 184) (h : F (some (.int (mS t s 0))) t) : twc d 40 [.ref 483, .int (nI s)] t F := by
  refine ⟨by omega, ?_⟩
  rw [ze_40]
  refine vc_ok none zH_40 15 false _ 40 0 _ _ _ _ ?_
  simp only [v_40_0, v_40_1, v_40_2, v_40_3, v_40_6, vgi_0, vgi_s, vga_0, vga_s, vset_0, vset_s, vtk_0, vtk_s, vrc_0, vsw_0, vsw_s, List.all_cons, List.all_nil, zc1_i, zc1_r, Bool.and_true, Bool.and_self, true_and, and_true, List.length_cons, List.length_nil, Nat.zero_le, Nat.reduceLeDiff, Nat.reduceAdd, tg_483]
  refine c_38 (k := 0) (by omega) hs (by omega) ?_
  simp only [v_40_0, v_40_1, v_40_2, v_40_3, v_40_6, vgi_0, vgi_s, vga_0, vga_s, vset_0, vset_s, vtk_0, vtk_s, vrc_0, vsw_0, vsw_s, List.all_cons, List.all_nil, zc1_i, zc1_r, Bool.and_true, Bool.and_self, true_and, and_true, List.length_cons, List.length_nil, Nat.zero_le, Nat.reduceLeDiff, Nat.reduceAdd, Option.toList_some, List.cons_append, List.nil_append]
  exact h
theorem c_41 {p u w : Nat} (hd : 1 ≤ d) (hp : p < 9) (hu : u < 1000) (hw : w < 1000) (h : F (some (.int (nI (cel p u w + 1)))) t) : twc d 41 [.int (nI p), .int (nI u), .int (nI w)] t F := by
  refine ⟨hd, ?_⟩
  rw [ze_41]
  refine vc_ok none zH_41 40 false _ 41 0 _ _ _ _ ?_
  simp only [v_41_0, v_41_1, v_41_2, v_41_5, v_41_6, v_41_7, v_41_8, v_41_11, v_41_12, v_41_14, v_41_17, v_41_18, v_41_19, v_41_20, v_41_21, v_41_22, v_41_23, v_41_24, v_41_27, v_41_29, v_41_30, v_41_32, v_41_33, v_41_34, v_41_35, v_41_36, v_41_37, v_41_38, v_41_39, v_41_40, vgi_0, vgi_s, vga_0, vga_s, vset_0, vset_s, vtk_0, vtk_s, vrc_0, vsw_0, vsw_s, List.all_cons, List.all_nil, zc1_i, zc1_r, Bool.and_true, Bool.and_self, true_and, and_true, List.length_cons, List.length_nil, Nat.zero_le, Nat.reduceLeDiff, Nat.reduceAdd]
  simp (disch := omega) only [li2, li5, li6, li27, li1, nI_ltI, pk_mul, nI_add]
  unfold cel at h
  split
  · rename_i h1; rw [if_pos h1, Nat.add_comm] at h; exact h
  · rename_i h1
    rw [if_neg h1] at h
    split
    · rename_i h2; rw [if_pos h2] at h
      rw [show 2 + 5 * u + p = 1 + 5 * u + p + 1 by omega]
      exact h
    · rename_i h2; rw [if_neg h2] at h
      rw [show 27 + 2 * (6 * u + w) + p = 26 + 12 * u + 2 * w + p + 1 by omega]
      exact h
theorem c_42 {s u : Nat} (hd : 2 ≤ d) (hs : s < 184) (hu : u < 6) (h1 : mS t s (3 + 5 * u) = 1 → F (some (.int 1)) t) (h0 : ¬ mS t s (3 + 5 * u) = 1 → F (some (.int 0)) t) : twc d 42 [.ref 483, .int (nI s), .int (nI u)] t F := by
  refine ⟨by omega, ?_⟩
  rw [ze_42]
  refine vc_ok none zH_42 24 false _ 42 0 _ _ _ _ ?_
  simp only [v_42_0, v_42_1, v_42_2, v_42_3, v_42_4, v_42_5, v_42_6, v_42_7, v_42_10, v_42_11, v_42_14, v_42_15, v_42_18, v_42_19, vgi_0, vgi_s, vga_0, vga_s, vset_0, vset_s, vtk_0, vtk_s, vrc_0, vsw_0, vsw_s, List.all_cons, List.all_nil, zc1_i, zc1_r, Bool.and_true, Bool.and_self, true_and, and_true, List.length_cons, List.length_nil, Nat.zero_le, Nat.reduceLeDiff, Nat.reduceAdd, tg_483]
  simp (disch := omega) only [li3, li5, pk_mul, nI_add]
  refine c_38 (by omega) hs (by omega) ?_
  simp only [v_42_0, v_42_1, v_42_2, v_42_3, v_42_4, v_42_5, v_42_6, v_42_7, v_42_10, v_42_11, v_42_14, v_42_15, v_42_18, v_42_19, vgi_0, vgi_s, vga_0, vga_s, vset_0, vset_s, vtk_0, vtk_s, vrc_0, vsw_0, vsw_s, List.all_cons, List.all_nil, zc1_i, zc1_r, Bool.and_true, Bool.and_self, true_and, and_true, List.length_cons, List.length_nil, Nat.zero_le, Nat.reduceLeDiff, Nat.reduceAdd, Option.toList_some, List.cons_append, List.nil_append]
  split
  · rename_i e; exact ⟨Or.inr trivial, h1 e⟩
  · rename_i e; exact ⟨Or.inl trivial, h0 e⟩
theorem c_43 {s p u w : Nat} (hd : 3 ≤ d) (hs : s < 184) (hp : p < 9) (hu : u < 6) (hw : w < 6) (h : F (some (.int (sg (mS t s) p u w))) t) : twc d 43 [.ref 483, .int (nI s), .int (nI p), .int (nI u), .int (nI w)] t F := by
  refine ⟨by omega, ?_⟩
  rw [ze_43]
  refine vc_ok none zH_43 35 false _ 43 0 _ _ _ _ ?_
  simp only [v_43_0, v_43_1, v_43_3, v_43_6, v_43_7, v_43_9, v_43_12, v_43_13, v_43_16, v_43_17, v_43_18, v_43_19, v_43_22, v_43_25, v_43_26, v_43_29, v_43_30, v_43_31, v_43_32, v_43_33, v_43_34, v_43_35, v_43_37, v_43_40, v_43_43, vgi_0, vgi_s, vga_0, vga_s, vset_0, vset_s, vtk_0, vtk_s, vrc_0, vsw_0, vsw_s, List.all_cons, List.all_nil, zc1_i, zc1_r, Bool.and_true, Bool.and_self, true_and, and_true, List.length_cons, List.length_nil, Nat.zero_le, Nat.reduceLeDiff, Nat.reduceAdd, tg_483]
  simp (disch := omega) only [li8, nI_eq]
  unfold sg at h
  by_cases hx : p = 8
  · rw [if_pos hx] at h ⊢
    by_cases huw : u = w
    · rw [if_pos huw] at h ⊢
      refine c_42 (by omega) hs hu (fun e => ?_) (fun e => ?_)
      · simp only [v_43_0, v_43_1, v_43_3, v_43_6, v_43_7, v_43_9, v_43_12, v_43_13, v_43_16, v_43_17, v_43_18, v_43_19, v_43_22, v_43_25, v_43_26, v_43_29, v_43_30, v_43_31, v_43_32, v_43_33, v_43_34, v_43_35, v_43_37, v_43_40, v_43_43, vgi_0, vgi_s, vga_0, vga_s, vset_0, vset_s, vtk_0, vtk_s, vrc_0, vsw_0, vsw_s, List.all_cons, List.all_nil, zc1_i, zc1_r, Bool.and_true, Bool.and_self, true_and, and_true, List.length_cons, List.length_nil, Nat.zero_le, Nat.reduceLeDiff, Nat.reduceAdd, Option.toList_some, List.cons_append, List.nil_append]
        rw [if_pos e] at h
        rw [if_neg (by decide)]
        exact h
      · simp only [v_43_0, v_43_1, v_43_3, v_43_6, v_43_7, v_43_9, v_43_12, v_43_13, v_43_16, v_43_17, v_43_18, v_43_19, v_43_22, v_43_25, v_43_26, v_43_29, v_43_30, v_43_31, v_43_32, v_43_33, v_43_34, v_43_35, v_43_37, v_43_40, v_43_43, vgi_0, vgi_s, vga_0, vga_s, vset_0, vset_s, vtk_0, vtk_s, vrc_0, vsw_0, vsw_s, List.all_cons, List.all_nil, zc1_i, zc1_r, Bool.and_true, Bool.and_self, true_and, and_true, List.length_cons, List.length_nil, Nat.zero_le, Nat.reduceLeDiff, Nat.reduceAdd, Option.toList_some, List.cons_append, List.nil_append]
        rw [if_neg e] at h
        simp only [if_true]
        exact h
    · rw [if_neg huw] at h ⊢
      exact h
  · rw [if_neg hx] at h ⊢
    refine c_41 (by omega) (by omega) (by omega) (by omega) ?_
    simp only [v_43_0, v_43_1, v_43_3, v_43_6, v_43_7, v_43_9, v_43_12, v_43_13, v_43_16, v_43_17, v_43_18, v_43_19, v_43_22, v_43_25, v_43_26, v_43_29, v_43_30, v_43_31, v_43_32, v_43_33, v_43_34, v_43_35, v_43_37, v_43_40, v_43_43, vgi_0, vgi_s, vga_0, vga_s, vset_0, vset_s, vtk_0, vtk_s, vrc_0, vsw_0, vsw_s, List.all_cons, List.all_nil, zc1_i, zc1_r, Bool.and_true, Bool.and_self, true_and, and_true, List.length_cons, List.length_nil, Nat.zero_le, Nat.reduceLeDiff, Nat.reduceAdd, Option.toList_some, List.cons_append, List.nil_append, tg_483]
    have hc := cel_lt (p := p) (by omega) hu hw
    refine c_38 (by omega) hs (by omega) ?_
    simp only [v_43_0, v_43_1, v_43_3, v_43_6, v_43_7, v_43_9, v_43_12, v_43_13, v_43_16, v_43_17, v_43_18, v_43_19, v_43_22, v_43_25, v_43_26, v_43_29, v_43_30, v_43_31, v_43_32, v_43_33, v_43_34, v_43_35, v_43_37, v_43_40, v_43_43, vgi_0, vgi_s, vga_0, vga_s, vset_0, vset_s, vtk_0, vtk_s, vrc_0, vsw_0, vsw_s, List.all_cons, List.all_nil, zc1_i, zc1_r, Bool.and_true, Bool.and_self, true_and, and_true, List.length_cons, List.length_nil, Nat.zero_le, Nat.reduceLeDiff, Nat.reduceAdd, Option.toList_some, List.cons_append, List.nil_append]
    exact h
theorem tcp_0 (a sp e dp : Nat) : tcp t a sp e dp 0 = t := by
  apply T_ext
  · intro b k
    show (if b = e ∧ dp ≤ k ∧ k < dp + 0 then t.1 a (sp + (k - dp)) else t.1 b k) = _
    rw [if_neg (by omega)]
  · intro b k; rfl
theorem tcp_s (a sp e dp i : Nat) : tsi (tcp t a sp e dp i) e (dp + i) (t.1 a (sp + i)) = tcp t a sp e dp (i + 1) := by
  apply T_ext
  · intro b k
    show (if b = e ∧ k = dp + i then t.1 a (sp + i) else if b = e ∧ dp ≤ k ∧ k < dp + i then t.1 a (sp + (k - dp)) else t.1 b k) = (if b = e ∧ dp ≤ k ∧ k < dp + (i + 1) then t.1 a (sp + (k - dp)) else t.1 b k)
    by_cases h1 : b = e ∧ k = dp + i
    · rw [if_pos h1, if_pos (by omega), show k - dp = i by omega]
    · rw [if_neg h1]
      by_cases h2 : b = e ∧ dp ≤ k ∧ k < dp + i
      · rw [if_pos h2, if_pos (by omega)]
      · rw [if_neg h2, if_neg (by omega)]
  · intro b k; rfl
theorem l_44 {s r : Nat} (hd : 1 ≤ d) (hs : s < 184) (hr : r < 184) (hb : bS (mS t s)) (h : F none (tcp t 484 (105 * s) 484 (105 * r) 105)) : ∀ (j i : Nat), i + j = 105 → twp none d 44 2 [.ref 483, .int (nI s), .int (nI r), .int (nI i)] [] (tcp t 484 (105 * s) 484 (105 * r) i) F := by
  intro j
  induction j with
  | zero =>
    intro i hi
    have hi8 : i = 105 := by omega
    subst hi8
    refine vc_ok none zH_44 26 false _ 44 2 _ _ _ _ ?_
    simp only [v_44_0, v_44_1, v_44_2, h_44_2, v_44_3, v_44_5, v_44_8, v_44_9, v_44_10, v_44_11, v_44_12, v_44_13, v_44_14, v_44_17, v_44_20, v_44_23, v_44_26, vgi_0, vgi_s, vga_0, vga_s, vset_0, vset_s, vtk_0, vtk_s, vrc_0, vsw_0, vsw_s, List.all_cons, List.all_nil, zc1_i, zc1_r, Bool.and_true, Bool.and_self, true_and, and_true, List.length_cons, List.length_nil, Nat.zero_le, Nat.reduceLeDiff, Nat.reduceAdd]
    simp (disch := omega) only [li105, nI_ltI, Nat.lt_irrefl, if_false]
    exact h
  | succ j ih =>
    intro i hi
    refine vc_ok none zH_44 26 false _ 44 2 _ _ _ _ ?_
    simp only [v_44_0, v_44_1, v_44_2, h_44_2, v_44_3, v_44_5, v_44_8, v_44_9, v_44_10, v_44_11, v_44_12, v_44_13, v_44_14, v_44_17, v_44_20, v_44_23, v_44_26, vgi_0, vgi_s, vga_0, vga_s, vset_0, vset_s, vtk_0, vtk_s, vrc_0, vsw_0, vsw_s, List.all_cons, List.all_nil, zc1_i, zc1_r, Bool.and_true, Bool.and_self, true_and, and_true, List.length_cons, List.length_nil, Nat.zero_le, Nat.reduceLeDiff, Nat.reduceAdd, tg_483]
    simp (disch := omega) only [li105, li1, nI_ltI, nI_add]
    rw [if_pos (by omega)]
    refine c_38 hd hs (by omega) ?_
    simp only [v_44_0, v_44_1, v_44_2, h_44_2, v_44_3, v_44_5, v_44_8, v_44_9, v_44_10, v_44_11, v_44_12, v_44_13, v_44_14, v_44_17, v_44_20, v_44_23, v_44_26, vgi_0, vgi_s, vga_0, vga_s, vset_0, vset_s, vtk_0, vtk_s, vrc_0, vsw_0, vsw_s, List.all_cons, List.all_nil, zc1_i, zc1_r, Bool.and_true, Bool.and_self, true_and, and_true, List.length_cons, List.length_nil, Nat.zero_le, Nat.reduceLeDiff, Nat.reduceAdd, tg_483, Option.toList_some, List.cons_append, List.nil_append]
    have hv : mS (tcp t 484 (105 * s) 484 (105 * r) i) s i = mS t s i := by
      rw [mS_at (by omega), mS_at (by omega)]
      show (if 484 = 484 ∧ 105 * r ≤ 105 * s + i ∧ 105 * s + i < 105 * r + i then t.1 484 (105 * s + (105 * s + i - 105 * r)) else t.1 484 (105 * s + i)) = _
      rw [if_neg (by omega)]
    rw [hv]
    refine c_39 hd hr (by omega) (hb i (by omega)) ?_
    simp only [v_44_0, v_44_1, v_44_2, h_44_2, v_44_3, v_44_5, v_44_8, v_44_9, v_44_10, v_44_11, v_44_12, v_44_13, v_44_14, v_44_17, v_44_20, v_44_23, v_44_26, vgi_0, vgi_s, vga_0, vga_s, vset_0, vset_s, vtk_0, vtk_s, vrc_0, vsw_0, vsw_s, List.all_cons, List.all_nil, zc1_i, zc1_r, Bool.and_true, Bool.and_self, true_and, and_true, List.length_cons, List.length_nil, Nat.zero_le, Nat.reduceLeDiff, Nat.reduceAdd, Option.toList_none, List.nil_append]
    rw [mS_at (by omega), tcp_s]
    exact ih (i + 1) (by omega)
theorem c_44 {s r : Nat} (hd : 2 ≤ d) (hs : s < 184) (hr : r < 184) (hb : bS (mS t s)) (h : ∀ t', mO [] [r] t t' → mS t' r = mS t s → F none t') : twc d 44 [.ref 483, .int (nI s), .int (nI r)] t F := by
  refine ⟨by omega, ?_⟩
  rw [ze_44]
  refine vc_ok none zH_44 26 false _ 44 0 _ _ _ _ ?_
  simp only [v_44_0, v_44_1, v_44_2, h_44_2, v_44_3, v_44_5, v_44_8, v_44_9, v_44_10, v_44_11, v_44_12, v_44_13, v_44_14, v_44_17, v_44_20, v_44_23, v_44_26, vgi_0, vgi_s, vga_0, vga_s, vset_0, vset_s, vtk_0, vtk_s, vrc_0, vsw_0, vsw_s, List.all_cons, List.all_nil, zc1_i, zc1_r, Bool.and_true, Bool.and_self, true_and, and_true, List.length_cons, List.length_nil, Nat.zero_le, Nat.reduceLeDiff, Nat.reduceAdd]
  have key := l_44 (d := d - 1) (F := F) (t := t) (s := s) (r := r) (by omega) hs hr hb (h _ ?_ ?_) 105 0 rfl
  · rw [tcp_0] at key
    exact key
  · refine ⟨rfl, fun b hb9 _ k => ?_, fun q hq => ?_⟩
    · show (if b = 484 ∧ _ then _ else t.1 b k) = _
      rw [if_neg (fun z => hb9 z.1)]
    · funext k
      unfold mS
      by_cases hk : k < 105
      · rw [if_pos hk, if_pos hk]
        show (if 484 = 484 ∧ 105 * r ≤ 105 * q + k ∧ 105 * q + k < 105 * r + 105 then _ else t.1 484 (105 * q + k)) = _
        have hqr : q ≠ r := fun z => hq (by simp [z])
        rw [if_neg (by omega)]
      · rw [if_neg hk, if_neg hk]
  · funext k
    unfold mS
    by_cases hk : k < 105
    · rw [if_pos hk, if_pos hk]
      show (if 484 = 484 ∧ 105 * r ≤ 105 * r + k ∧ 105 * r + k < 105 * r + 105 then t.1 484 (105 * s + (105 * r + k - 105 * r)) else _) = _
      rw [if_pos (by omega), show 105 * r + k - 105 * r = k by omega]
    · rw [if_neg hk, if_neg hk]
theorem l_45 {s r : Nat} {n : Int32} (hd : 1 ≤ d) (hs : s < 184) (hr : r < 184) (h : ∀ x, sgn x (lx (mS t s) (mS t r) 1 104) → F (some (.int x)) t) : ∀ (j i : Nat), i + j = 104 → lx (mS t s) (mS t r) 1 104 = lx (mS t s) (mS t r) (i + 1) j → twp none d 45 33 [.ref 483, .int (nI s), .int (nI r), .int n, .int (nI (i + 1))] [] t F := by
  intro j
  induction j with
  | zero =>
    intro i hi hx
    have hi8 : i = 104 := by omega
    subst hi8
    refine vc_ok none zH_45 59 false _ 45 33 _ _ _ _ ?_
    simp only [v_45_0, v_45_1, v_45_2, v_45_5, v_45_6, v_45_7, v_45_8, v_45_9, v_45_12, v_45_15, v_45_16, v_45_17, v_45_18, v_45_21, v_45_24, v_45_25, v_45_28, v_45_29, v_45_30, v_45_31, v_45_33, h_45_33, v_45_35, v_45_37, v_45_40, v_45_41, v_45_42, v_45_44, v_45_47, v_45_48, v_45_49, v_45_51, v_45_54, v_45_57, v_45_58, v_45_59, v_45_61, v_45_64, v_45_65, v_45_66, v_45_68, v_45_71, v_45_74, v_45_75, v_45_78, v_45_79, v_45_80, v_45_83, v_45_86, v_45_87, vgi_0, vgi_s, vga_0, vga_s, vset_0, vset_s, vtk_0, vtk_s, vrc_0, vsw_0, vsw_s, List.all_cons, List.all_nil, zc1_i, zc1_r, Bool.and_true, Bool.and_self, true_and, and_true, List.length_cons, List.length_nil, Nat.zero_le, Nat.reduceLeDiff, Nat.reduceAdd]
    simp (disch := omega) only [li105, nI_ltI, Nat.reduceAdd, Nat.lt_irrefl, if_false]
    refine h 0 ?_
    rw [hx, lx_0]
    exact ⟨by decide, by decide⟩
  | succ j ih =>
    intro i hi hx
    refine vc_ok none zH_45 59 false _ 45 33 _ _ _ _ ?_
    simp only [v_45_0, v_45_1, v_45_2, v_45_5, v_45_6, v_45_7, v_45_8, v_45_9, v_45_12, v_45_15, v_45_16, v_45_17, v_45_18, v_45_21, v_45_24, v_45_25, v_45_28, v_45_29, v_45_30, v_45_31, v_45_33, h_45_33, v_45_35, v_45_37, v_45_40, v_45_41, v_45_42, v_45_44, v_45_47, v_45_48, v_45_49, v_45_51, v_45_54, v_45_57, v_45_58, v_45_59, v_45_61, v_45_64, v_45_65, v_45_66, v_45_68, v_45_71, v_45_74, v_45_75, v_45_78, v_45_79, v_45_80, v_45_83, v_45_86, v_45_87, vgi_0, vgi_s, vga_0, vga_s, vset_0, vset_s, vtk_0, vtk_s, vrc_0, vsw_0, vsw_s, List.all_cons, List.all_nil, zc1_i, zc1_r, Bool.and_true, Bool.and_self, true_and, and_true, List.length_cons, List.length_nil, Nat.zero_le, Nat.reduceLeDiff, Nat.reduceAdd, tg_483]
    simp (disch := omega) only [li105, li1, nI_ltI, nI_add]
    rw [if_pos (by omega)]
    refine c_38 hd hs (by omega) ?_
    simp only [v_45_0, v_45_1, v_45_2, v_45_5, v_45_6, v_45_7, v_45_8, v_45_9, v_45_12, v_45_15, v_45_16, v_45_17, v_45_18, v_45_21, v_45_24, v_45_25, v_45_28, v_45_29, v_45_30, v_45_31, v_45_33, h_45_33, v_45_35, v_45_37, v_45_40, v_45_41, v_45_42, v_45_44, v_45_47, v_45_48, v_45_49, v_45_51, v_45_54, v_45_57, v_45_58, v_45_59, v_45_61, v_45_64, v_45_65, v_45_66, v_45_68, v_45_71, v_45_74, v_45_75, v_45_78, v_45_79, v_45_80, v_45_83, v_45_86, v_45_87, vgi_0, vgi_s, vga_0, vga_s, vset_0, vset_s, vtk_0, vtk_s, vrc_0, vsw_0, vsw_s, List.all_cons, List.all_nil, zc1_i, zc1_r, Bool.and_true, Bool.and_self, true_and, and_true, List.length_cons, List.length_nil, Nat.zero_le, Nat.reduceLeDiff, Nat.reduceAdd, tg_483, Option.toList_some, List.cons_append, List.nil_append]
    refine c_38 hd hr (by omega) ?_
    simp only [v_45_0, v_45_1, v_45_2, v_45_5, v_45_6, v_45_7, v_45_8, v_45_9, v_45_12, v_45_15, v_45_16, v_45_17, v_45_18, v_45_21, v_45_24, v_45_25, v_45_28, v_45_29, v_45_30, v_45_31, v_45_33, h_45_33, v_45_35, v_45_37, v_45_40, v_45_41, v_45_42, v_45_44, v_45_47, v_45_48, v_45_49, v_45_51, v_45_54, v_45_57, v_45_58, v_45_59, v_45_61, v_45_64, v_45_65, v_45_66, v_45_68, v_45_71, v_45_74, v_45_75, v_45_78, v_45_79, v_45_80, v_45_83, v_45_86, v_45_87, vgi_0, vgi_s, vga_0, vga_s, vset_0, vset_s, vtk_0, vtk_s, vrc_0, vsw_0, vsw_s, List.all_cons, List.all_nil, zc1_i, zc1_r, Bool.and_true, Bool.and_self, true_and, and_true, List.length_cons, List.length_nil, Nat.zero_le, Nat.reduceLeDiff, Nat.reduceAdd, tg_483, Option.toList_some, List.cons_append, List.nil_append]
    rw [lx_s _ _ (i + 1) j] at hx
    split
    · rename_i he
      rw [if_pos he] at hx
      simp (disch := omega) only [li1, nI_add]
      exact ih (i + 1) (by omega) hx
    · rename_i he
      rw [if_neg he] at hx
      refine c_38 hd hs (by omega) ?_
      simp only [v_45_0, v_45_1, v_45_2, v_45_5, v_45_6, v_45_7, v_45_8, v_45_9, v_45_12, v_45_15, v_45_16, v_45_17, v_45_18, v_45_21, v_45_24, v_45_25, v_45_28, v_45_29, v_45_30, v_45_31, v_45_33, h_45_33, v_45_35, v_45_37, v_45_40, v_45_41, v_45_42, v_45_44, v_45_47, v_45_48, v_45_49, v_45_51, v_45_54, v_45_57, v_45_58, v_45_59, v_45_61, v_45_64, v_45_65, v_45_66, v_45_68, v_45_71, v_45_74, v_45_75, v_45_78, v_45_79, v_45_80, v_45_83, v_45_86, v_45_87, vgi_0, vgi_s, vga_0, vga_s, vset_0, vset_s, vtk_0, vtk_s, vrc_0, vsw_0, vsw_s, List.all_cons, List.all_nil, zc1_i, zc1_r, Bool.and_true, Bool.and_self, true_and, and_true, List.length_cons, List.length_nil, Nat.zero_le, Nat.reduceLeDiff, Nat.reduceAdd, tg_483, Option.toList_some, List.cons_append, List.nil_append]
      refine c_38 hd hr (by omega) ?_
      simp only [v_45_0, v_45_1, v_45_2, v_45_5, v_45_6, v_45_7, v_45_8, v_45_9, v_45_12, v_45_15, v_45_16, v_45_17, v_45_18, v_45_21, v_45_24, v_45_25, v_45_28, v_45_29, v_45_30, v_45_31, v_45_33, h_45_33, v_45_35, v_45_37, v_45_40, v_45_41, v_45_42, v_45_44, v_45_47, v_45_48, v_45_49, v_45_51, v_45_54, v_45_57, v_45_58, v_45_59, v_45_61, v_45_64, v_45_65, v_45_66, v_45_68, v_45_71, v_45_74, v_45_75, v_45_78, v_45_79, v_45_80, v_45_83, v_45_86, v_45_87, vgi_0, vgi_s, vga_0, vga_s, vset_0, vset_s, vtk_0, vtk_s, vrc_0, vsw_0, vsw_s, List.all_cons, List.all_nil, zc1_i, zc1_r, Bool.and_true, Bool.and_self, true_and, and_true, List.length_cons, List.length_nil, Nat.zero_le, Nat.reduceLeDiff, Nat.reduceAdd, tg_483, Option.toList_some, List.cons_append, List.nil_append]
      split
      · rename_i hl
        rw [if_pos hl] at hx
        exact h _ (by rw [hx]; exact ⟨by decide, by decide⟩)
      · rename_i hl
        rw [if_neg hl] at hx
        exact h _ (by rw [hx]; exact ⟨by decide, by decide⟩)
theorem c_45 {s r : Nat} (hd : 3 ≤ d) (hs : s < 184) (hr : r < 184) (h : ∀ x, sgn x (so (mS t s) (mS t r)) → F (some (.int x)) t) : twc d 45 [.ref 483, .int (nI s), .int (nI r)] t F := by
  refine ⟨by omega, ?_⟩
  rw [ze_45]
  refine vc_ok none zH_45 59 false _ 45 0 _ _ _ _ ?_
  simp only [v_45_0, v_45_1, v_45_2, v_45_5, v_45_6, v_45_7, v_45_8, v_45_9, v_45_12, v_45_15, v_45_16, v_45_17, v_45_18, v_45_21, v_45_24, v_45_25, v_45_28, v_45_29, v_45_30, v_45_31, v_45_33, h_45_33, v_45_35, v_45_37, v_45_40, v_45_41, v_45_42, v_45_44, v_45_47, v_45_48, v_45_49, v_45_51, v_45_54, v_45_57, v_45_58, v_45_59, v_45_61, v_45_64, v_45_65, v_45_66, v_45_68, v_45_71, v_45_74, v_45_75, v_45_78, v_45_79, v_45_80, v_45_83, v_45_86, v_45_87, vgi_0, vgi_s, vga_0, vga_s, vset_0, vset_s, vtk_0, vtk_s, vrc_0, vsw_0, vsw_s, List.all_cons, List.all_nil, zc1_i, zc1_r, Bool.and_true, Bool.and_self, true_and, and_true, List.length_cons, List.length_nil, Nat.zero_le, Nat.reduceLeDiff, Nat.reduceAdd, tg_483]
  refine c_40 (by omega) hs ?_
  simp only [v_45_0, v_45_1, v_45_2, v_45_5, v_45_6, v_45_7, v_45_8, v_45_9, v_45_12, v_45_15, v_45_16, v_45_17, v_45_18, v_45_21, v_45_24, v_45_25, v_45_28, v_45_29, v_45_30, v_45_31, v_45_33, h_45_33, v_45_35, v_45_37, v_45_40, v_45_41, v_45_42, v_45_44, v_45_47, v_45_48, v_45_49, v_45_51, v_45_54, v_45_57, v_45_58, v_45_59, v_45_61, v_45_64, v_45_65, v_45_66, v_45_68, v_45_71, v_45_74, v_45_75, v_45_78, v_45_79, v_45_80, v_45_83, v_45_86, v_45_87, vgi_0, vgi_s, vga_0, vga_s, vset_0, vset_s, vtk_0, vtk_s, vrc_0, vsw_0, vsw_s, List.all_cons, List.all_nil, zc1_i, zc1_r, Bool.and_true, Bool.and_self, true_and, and_true, List.length_cons, List.length_nil, Nat.zero_le, Nat.reduceLeDiff, Nat.reduceAdd, tg_483, Option.toList_some, List.cons_append, List.nil_append]
  refine c_40 (by omega) hr ?_
  simp only [v_45_0, v_45_1, v_45_2, v_45_5, v_45_6, v_45_7, v_45_8, v_45_9, v_45_12, v_45_15, v_45_16, v_45_17, v_45_18, v_45_21, v_45_24, v_45_25, v_45_28, v_45_29, v_45_30, v_45_31, v_45_33, h_45_33, v_45_35, v_45_37, v_45_40, v_45_41, v_45_42, v_45_44, v_45_47, v_45_48, v_45_49, v_45_51, v_45_54, v_45_57, v_45_58, v_45_59, v_45_61, v_45_64, v_45_65, v_45_66, v_45_68, v_45_71, v_45_74, v_45_75, v_45_78, v_45_79, v_45_80, v_45_83, v_45_86, v_45_87, vgi_0, vgi_s, vga_0, vga_s, vset_0, vset_s, vtk_0, vtk_s, vrc_0, vsw_0, vsw_s, List.all_cons, List.all_nil, zc1_i, zc1_r, Bool.and_true, Bool.and_self, true_and, and_true, List.length_cons, List.length_nil, Nat.zero_le, Nat.reduceLeDiff, Nat.reduceAdd, tg_483, Option.toList_some, List.cons_append, List.nil_append]
  simp only [so_s] at h
  split
  · rename_i he
    rw [if_pos he] at h
    have := l_45 (n := mS t s 0) (d := d - 1) (by omega) hs hr h 104 0 (by omega) (congrArg (fun z => lx (mS t s) (mS t r) z 104) (Nat.zero_add 1).symm)
    exact this
  · rename_i he
    rw [if_neg he] at h
    refine c_40 (by omega) hr ?_
    simp only [v_45_0, v_45_1, v_45_2, v_45_5, v_45_6, v_45_7, v_45_8, v_45_9, v_45_12, v_45_15, v_45_16, v_45_17, v_45_18, v_45_21, v_45_24, v_45_25, v_45_28, v_45_29, v_45_30, v_45_31, v_45_33, h_45_33, v_45_35, v_45_37, v_45_40, v_45_41, v_45_42, v_45_44, v_45_47, v_45_48, v_45_49, v_45_51, v_45_54, v_45_57, v_45_58, v_45_59, v_45_61, v_45_64, v_45_65, v_45_66, v_45_68, v_45_71, v_45_74, v_45_75, v_45_78, v_45_79, v_45_80, v_45_83, v_45_86, v_45_87, vgi_0, vgi_s, vga_0, vga_s, vset_0, vset_s, vtk_0, vtk_s, vrc_0, vsw_0, vsw_s, List.all_cons, List.all_nil, zc1_i, zc1_r, Bool.and_true, Bool.and_self, true_and, and_true, List.length_cons, List.length_nil, Nat.zero_le, Nat.reduceLeDiff, Nat.reduceAdd, tg_483, Option.toList_some, List.cons_append, List.nil_append]
    split
    · rename_i hl
      rw [if_pos hl] at h
      exact h _ ⟨by decide, by decide⟩
    · rename_i hl
      rw [if_neg hl] at h
      exact h _ ⟨by decide, by decide⟩
theorem c_48 {s n : Nat} {x : Int32} (hd : 3 ≤ d) (hs : s < 184) (hn : mS t s 0 = nI n) (hn2 : n < 1000) (h1 : ∀ k, k < n → x = nI k → F (some (.int 1)) t) (h0 : (∀ k, k < n → x ≠ nI k) → F (some (.int 0)) t) : twc d 48 [.ref 483, .int (nI s), .int x] t F := by
  refine ⟨by omega, ?_⟩
  rw [ze_48]
  refine vc_ok none zH_48 21 false _ 48 0 _ _ _ _ ?_
  simp only [v_48_0, v_48_1, v_48_4, v_48_5, v_48_6, v_48_7, v_48_10, v_48_13, v_48_14, v_48_17, v_48_18, vgi_0, vgi_s, vga_0, vga_s, vset_0, vset_s, vtk_0, vtk_s, vrc_0, vsw_0, vsw_s, List.all_cons, List.all_nil, zc1_i, zc1_r, Bool.and_true, Bool.and_self, true_and, and_true, List.length_cons, List.length_nil, Nat.zero_le, Nat.reduceLeDiff, Nat.reduceAdd, tg_483]
  rcases in_cases x (L := n) (by omega) with ⟨k, hk, rfl⟩ | ⟨hx, hno⟩
  · rw [if_neg (nI_pos (by omega))]
    refine c_40 (by omega) hs ?_
    simp only [v_48_0, v_48_1, v_48_4, v_48_5, v_48_6, v_48_7, v_48_10, v_48_13, v_48_14, v_48_17, v_48_18, vgi_0, vgi_s, vga_0, vga_s, vset_0, vset_s, vtk_0, vtk_s, vrc_0, vsw_0, vsw_s, List.all_cons, List.all_nil, zc1_i, zc1_r, Bool.and_true, Bool.and_self, true_and, and_true, List.length_cons, List.length_nil, Nat.zero_le, Nat.reduceLeDiff, Nat.reduceAdd, tg_483, Option.toList_some, List.cons_append, List.nil_append]
    rw [hn, if_pos (nI_lt hk (by omega))]
    exact ⟨Or.inr trivial, h1 k hk rfl⟩
  · by_cases hz : x < 0
    · rw [if_pos hz]; exact ⟨Or.inl trivial, h0 hno⟩
    · rw [if_neg hz]
      refine c_40 (by omega) hs ?_
      simp only [v_48_0, v_48_1, v_48_4, v_48_5, v_48_6, v_48_7, v_48_10, v_48_13, v_48_14, v_48_17, v_48_18, vgi_0, vgi_s, vga_0, vga_s, vset_0, vset_s, vtk_0, vtk_s, vrc_0, vsw_0, vsw_s, List.all_cons, List.all_nil, zc1_i, zc1_r, Bool.and_true, Bool.and_self, true_and, and_true, List.length_cons, List.length_nil, Nat.zero_le, Nat.reduceLeDiff, Nat.reduceAdd, tg_483, Option.toList_some, List.cons_append, List.nil_append]
      rw [hn, if_neg]
      · exact ⟨Or.inl trivial, h0 hno⟩
      · rcases hx with hx | hx
        · exact absurd hx hz
        · exact Int32.not_lt.mpr hx
end MOD
