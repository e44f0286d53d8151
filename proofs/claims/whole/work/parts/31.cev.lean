/-! The class's evaluator: all kinds but closures. -/
theorem fo_tag : ∀ i, i < 40 → vtag (4 + i) = 2 := by decide +kernel
section CEV
variable {d : Nat} {t : T} {F : Option Value → T → Prop} {q : FT} {m a n i : Nat} {f : St} {e : Nat → Nat}
theorem c_161b {p : Nat} {u w : Int32} (hd : 1 ≤ d) (hp : p < 9) (hu : 2 ≤ p → ∃ k, k < 1000 ∧ u = nI k) (hw : 6 ≤ p → ∃ k, k < 1000 ∧ w = nI k) (h : F (some (.int (nI (cel p (nn u) (nn w))))) t) : twc d 161 [.int (nI p), .int u, .int w] t F := by
  refine ⟨hd, ?_⟩
  rw [ze_161]
  refine vc_ok none zH_161 42 false _ 161 0 _ _ _ _ ?_
  simp only [v_161_0, v_161_1, v_161_2, v_161_5, v_161_6, v_161_7, v_161_8, v_161_10, v_161_13, v_161_14, v_161_15, v_161_16, v_161_17, v_161_18, v_161_19, v_161_20, v_161_21, v_161_22, v_161_23, v_161_25, v_161_27, v_161_28, v_161_29, v_161_30, v_161_31, v_161_32, v_161_33, v_161_34, v_161_35, v_161_36, v_161_38, v_161_39, vgi_0, vgi_s, vga_0, vga_s, vset_0, vset_s, vtk_0, vtk_s, vrc_0, vsw_0, vsw_s, List.all_cons, List.all_nil, zc1_i, zc1_r, Bool.and_true, Bool.and_self, true_and, and_true, List.length_cons, List.length_nil, Nat.zero_le, Nat.reduceLeDiff, Nat.reduceAdd]
  unfold cel at h
  by_cases p2 : p < 2
  · rw [if_pos p2] at h
    rw [li2, if_pos (nI_lt p2 (by omega))]
    exact h
  · rw [if_neg p2] at h
    obtain ⟨k, hk, rfl⟩ := hu (by omega)
    rw [nn_nI (by omega)] at h
    by_cases p6 : p < 6
    · rw [if_pos p6] at h
      rw [li2, if_neg (nI_nlt (by omega) (by omega)), li6, if_pos (nI_lt p6 (by omega))]
      simp (disch := omega) only [li5, li1, pk_mul, nI_add, pk_sub]
      rw [show 2 + 5 * k + p - 1 = 1 + 5 * k + p by omega]
      exact h
    · rw [if_neg p6] at h
      obtain ⟨j, hj, rfl⟩ := hw (by omega)
      rw [nn_nI (by omega)] at h
      rw [li2, if_neg (nI_nlt (by omega) (by omega)), li6, if_neg (nI_nlt (by omega) (by omega))]
      simp (disch := omega) only [li32, li12, pk_mul, nI_add, pk_sub]
      rw [show 32 + 12 * k + 2 * j + p - 6 = 26 + 12 * k + 2 * j + p by omega]
      exact h
def evp (t : T) (q : FT) (m a : Nat) (f : St) (n : Nat) : Prop := m ≤ 40 ∧ (∀ i, i < m → fwf q i) ∧ (∀ i, i < m → kd q i = 1 → (va q i < 2 → q i 2 = 0) ∧ (va q i < 6 → q i 3 = 0)) ∧ (∀ i k, i < m → k < 8 → t.1 (4 + i) k = q i k) ∧ t.2 44 3 = a ∧ vtag a = 4 ∧ cS t a = f ∧ wfS f ∧ f 0 = nI n ∧ n ≤ 6
def eve (t : T) (q : FT) (i n : Nat) (e : Nat → Nat) : Prop := ∀ v, fb q i v → e v < n ∧ t.1 45 v = nI (e v)
def clA (q : FT) (i : Nat) : List Nat := if cl q i = 0 then [] else [46]
theorem st_45 (h : vtag a = 4) : a ≠ 45 ∧ a ≠ 46 ∧ a + 1 ≠ 45 ∧ a + 1 ≠ 46 ∧ a ≠ 44 := by
  refine ⟨?_, ?_, ?_, ?_, ?_⟩
  · rintro rfl; rw [tg_45] at h; omega
  · rintro rfl; rw [tg_46] at h; omega
  · intro q; have : a = 44 := by omega
    subst this; rw [tg_44] at h; omega
  · intro q; have : a = 45 := by omega
    subst this; rw [tg_45] at h; omega
  · rintro rfl; rw [tg_44] at h; omega
theorem evp.keep {t' : T} (h : evp t q m a f n) (h1 : t'.2 = t.2) (h2 : ∀ b k, b ≠ 45 → b ≠ 46 → t'.1 b k = t.1 b k) : evp t' q m a f n := by
  obtain ⟨g1, g2, g3, g4, g5, g6, g7, g8⟩ := h
  have hs := st_45 g6
  refine ⟨g1, g2, g3, fun i k hi hk => by rw [h2 _ _ (by omega) (by omega)]; exact g4 i k hi hk, by rw [h1]; exact g5, g6, ?_, g8⟩
  rw [← g7]
  funext k
  unfold cS
  rw [h2 a 0 hs.1 hs.2.1, h2 (a + 1) (k - 1) hs.2.2.1 hs.2.2.2.1]
theorem evp.cnt (h : evp t q m a f n) : t.1 a 0 = nI n := by
  obtain ⟨-, -, -, -, -, -, g7, -, g9, -⟩ := h
  rw [← cS_i, g7, g9]
/-- the contract of valueOf for formula i -/
def EVC (q : FT) (m i d : Nat) : Prop := ∀ (t : T) (a n : Nat) (f : St) (e : Nat → Nat) (F : Option Value → T → Prop), evp t q m a f n → eve t q i n e → (∀ t', tO (clA q i) t t' → F (some (.int (EV q f n i e))) t') → twc d 123 [.ref 44, .ref (4 + i)] t F
theorem tor_one (x : Int32) : tor 1 x = 1 := by unfold tor; rw [if_pos (Or.inl rfl)]
theorem tand_zero (x : Int32) : tand 0 x = 0 := by unfold tand; rw [if_pos (Or.inl rfl)]
theorem orN_one {g : Nat → Int32} {u : Nat} : ∀ (j : Nat), orN g u = 1 → orN g (u + j) = 1
  | 0, h => h
  | j + 1, h => by
    show tor (orN g (u + j)) (g (u + j)) = 1
    rw [orN_one j h, tor_one]
theorem andN_zero {g : Nat → Int32} {u : Nat} : ∀ (j : Nat), andN g u = 0 → andN g (u + j) = 0
  | 0, h => h
  | j + 1, h => by
    show tand (andN g (u + j)) (g (u + j)) = 0
    rw [andN_zero j h, tand_zero]
/-- between the beginning and the end of a quantifier: one variable may differ -/
def qs (t t' : T) (q : FT) (i : Nat) : Prop := t'.2 = t.2 ∧ ∀ b k, (b ≠ 46 ∨ cl q i = 0) → ¬ (b = 45 ∧ k = va q i) → t'.1 b k = t.1 b k
theorem qs.fin {t t' : T} (h : qs t t' q i) : tO (clA q i) t (tsi t' 45 (va q i) (t.1 45 (va q i))) := by
  refine ⟨h.1, fun b hb k => ?_⟩
  show (if b = 45 ∧ k = va q i then t.1 45 (va q i) else t'.1 b k) = _
  by_cases hc : b = 45 ∧ k = va q i
  · rw [if_pos hc, hc.1, hc.2]
  · rw [if_neg hc]
    refine h.2 b k ?_ hc
    unfold clA at hb
    by_cases h0 : cl q i = 0
    · exact Or.inr h0
    · rw [if_neg h0] at hb
      left
      intro z
      exact hb (by simp [z])
/-- one round of a quantifier -/
theorem q_step {t t' : T} {u : Nat} (hq : evp t q m a f n) (he : eve t q i n e) (hi : i < m) (hk : kd q i = 6 ∨ kd q i = 7) (hu : u < n) (hs : qs t t' q i) (hE : EVC q m (pc q i) d) (h : ∀ t2, qs t t2 q i → F (some (.int (EV q f n (pc q i) (eu e (va q i) u)))) t2) : twc d 123 [.ref 44, .ref (4 + pc q i)] (tsi t' 45 (va q i) (nI u)) F := by
  have hwi := hq.2.1 i hi
  obtain ⟨-, g1, -, g3⟩ := hwi.2.2.2.2.2.2.2.2.2.2.2.1 (by omega)
  obtain ⟨-, g4, g5⟩ := hwi.2.2.2.2.2.2.2.2.2.2.2.2.2.2.1 hk
  refine hE _ a n f (eu e (va q i) u) F (hq.keep hs.1 (fun b k h1 h2 => ?_)) (fun v hv => ?_) (fun t2 h2 => h t2 ⟨h2.1.trans hs.1, fun b k h3 h4 => ?_⟩)
  · show (if b = 45 ∧ k = va q i then nI u else t'.1 b k) = _
    rw [if_neg (fun z => h1 z.1)]
    exact hs.2 b k (Or.inl h2) (fun z => h1 z.1)
  · unfold eu
    by_cases hv2 : v = va q i
    · rw [if_pos hv2]
      refine ⟨hu, ?_⟩
      show (if 45 = 45 ∧ v = va q i then nI u else t'.1 45 v) = _
      rw [if_pos ⟨rfl, hv2⟩]
    · rw [if_neg hv2]
      have h9 : fb q i v := by
        rcases g5 v hv with z | z
        · exact absurd z hv2
        · exact z
      refine ⟨(he v h9).1, ?_⟩
      show (if 45 = 45 ∧ v = va q i then nI u else t'.1 45 v) = _
      rw [if_neg (fun z => hv2 z.2), hs.2 45 v (Or.inl (by omega)) (fun z => hv2 z.2)]
      exact (he v h9).2
  · have h5 : t2.1 b k = (tsi t' 45 (va q i) (nI u)).1 b k := by
      refine h2.2 b ?_ k
      unfold clA
      split
      · simp
      · rename_i hc
        simp only [List.mem_singleton]
        intro hb
        subst hb
        rcases h3 with z | z
        · exact z rfl
        · exact hc (g3 (by omega) z)
    rw [h5]
    show (if b = 45 ∧ k = va q i then nI u else t'.1 b k) = _
    rw [if_neg h4]
    exact hs.2 b k h3 h4
theorem l_124 (hd : 2 ≤ d) (hq : evp t q m a f n) (he : eve t q i n e) (hi : i < m) (hk : kd q i = 6) (hE : EVC q m (pc q i) d) (h : ∀ t', tO (clA q i) t t' → F (some (.int (EV q f n i e))) t') : ∀ (j u : Nat) (t' : T) (r : Int32), u + j = n → qs t t' q i → r = orN (fun u => EV q f n (pc q i) (eu e (va q i) u)) u → twp none d 124 15 [.ref 44, .ref (4 + i), .int (t.1 45 (va q i)), .int r, .int (nI u)] [] t' F := by
  have hwi := hq.2.1 i hi
  obtain ⟨p1, p2, -⟩ := hwi.2.2.2.2.2.2.2.2.2.2.2.1 (by omega)
  obtain ⟨v1, v2, -⟩ := hwi.2.2.2.2.2.2.2.2.2.2.2.2.2.2.1 (Or.inl hk)
  have hm := hq.1
  have hn := hq.2.2.2.2.2.2.2.2.2
  have fo := fo_tag i (by omega)
  intro j
  induction j with
  | zero =>
    intro u t' r hu hs hr
    have hu : u = n := by omega
    subst hu
    have hq' := hq.keep (t' := t') hs.1 (fun b k h1 h2 => hs.2 b k (Or.inl h2) (fun z => h1 z.1))
    have h44 := hq'.2.2.2.2.1
    have hva : t'.1 (4 + i) 1 = nI (va q i) := (hq'.2.2.2.1 i 1 hi (by omega)).trans v1
    refine vc_ok none zH_124 54 false _ 124 15 _ _ _ _ ?_
    simp only [v_124_0, v_124_1, v_124_4, v_124_5, v_124_8, v_124_9, v_124_10, v_124_11, v_124_12, v_124_13, v_124_15, h_124_15, v_124_17, v_124_18, v_124_21, v_124_24, v_124_27, v_124_28, v_124_29, v_124_32, v_124_33, v_124_36, v_124_37, v_124_40, v_124_42, v_124_43, v_124_44, v_124_45, v_124_46, v_124_49, v_124_50, v_124_53, v_124_54, v_124_57, v_124_60, v_124_61, v_124_64, v_124_67, v_124_68, v_124_71, v_124_72, v_124_75, v_124_76, v_124_77, v_124_78, vgi_0, vgi_s, vga_0, vga_s, vset_0, vset_s, vtk_0, vtk_s, vrc_0, vsw_0, vsw_s, List.all_cons, List.all_nil, zc1_i, zc1_r, Bool.and_true, Bool.and_self, true_and, and_true, List.length_cons, List.length_nil, Nat.zero_le, Nat.reduceLeDiff, Nat.reduceAdd, tg_44, tf_44_3, h44, hq'.2.2.2.2.2.1, hq'.cnt, fo, tf_44_1, tg_45, ln_45, hva]
    simp (disch := omega) only [nI_ltI, nI_clamp, vinb_n, Nat.lt_irrefl, if_false]
    refine ⟨by omega, ?_⟩
    rw [hr, ← EV_6 hq.2.1 hi hk]
    exact h _ hs.fin
  | succ j ih =>
    intro u t' r hu hs hr
    have hq' := hq.keep (t' := t') hs.1 (fun b k h1 h2 => hs.2 b k (Or.inl h2) (fun z => h1 z.1))
    have h44 := hq'.2.2.2.2.1
    have hva : t'.1 (4 + i) 1 = nI (va q i) := (hq'.2.2.2.1 i 1 hi (by omega)).trans v1
    have hpc : (tsi t' 45 (va q i) (nI u)).1 (4 + i) 3 = nI (pc q i) := by
      show (if 4 + i = 45 ∧ _ then _ else t'.1 (4 + i) 3) = _
      rw [if_neg (fun z => by omega)]
      exact (hq'.2.2.2.1 i 3 hi (by omega)).trans p1
    refine vc_ok none zH_124 54 false _ 124 15 _ _ _ _ ?_
    simp only [v_124_0, v_124_1, v_124_4, v_124_5, v_124_8, v_124_9, v_124_10, v_124_11, v_124_12, v_124_13, v_124_15, h_124_15, v_124_17, v_124_18, v_124_21, v_124_24, v_124_27, v_124_28, v_124_29, v_124_32, v_124_33, v_124_36, v_124_37, v_124_40, v_124_42, v_124_43, v_124_44, v_124_45, v_124_46, v_124_49, v_124_50, v_124_53, v_124_54, v_124_57, v_124_60, v_124_61, v_124_64, v_124_67, v_124_68, v_124_71, v_124_72, v_124_75, v_124_76, v_124_77, v_124_78, vgi_0, vgi_s, vga_0, vga_s, vset_0, vset_s, vtk_0, vtk_s, vrc_0, vsw_0, vsw_s, List.all_cons, List.all_nil, zc1_i, zc1_r, Bool.and_true, Bool.and_self, true_and, and_true, List.length_cons, List.length_nil, Nat.zero_le, Nat.reduceLeDiff, Nat.reduceAdd, tg_44, tf_44_3, h44, hq'.2.2.2.2.2.1, hq'.cnt, fo, tf_44_1, tf_44_0, tg_45, ln_45, tg_3, ln_3, hva]
    simp (disch := omega) only [nI_ltI, nI_clamp, vinb_n]
    rw [if_pos (by omega)]
    by_cases h1 : r = 1
    · rw [if_pos h1]
      refine ⟨by omega, ?_⟩
      have : r = EV q f n i e := by
        have := orN_one (g := fun u => EV q f n (pc q i) (eu e (va q i) u)) (u := u) (j + 1) (hr.symm.trans h1)
        rw [hu] at this
        rw [EV_6 hq.2.1 hi hk, h1, this]
      rw [this]
      exact h _ hs.fin
    · rw [if_neg h1]
      refine ⟨by omega, ?_⟩
      simp (disch := omega) only [hpc, nI_clamp, vinb_n, tf_3]
      refine ⟨by omega, by omega, ?_⟩
      refine q_step (u := u) hq he hi (Or.inl hk) (by omega) hs hE (fun t2 h2 => ?_)
      simp only [v_124_0, v_124_1, v_124_4, v_124_5, v_124_8, v_124_9, v_124_10, v_124_11, v_124_12, v_124_13, v_124_15, h_124_15, v_124_17, v_124_18, v_124_21, v_124_24, v_124_27, v_124_28, v_124_29, v_124_32, v_124_33, v_124_36, v_124_37, v_124_40, v_124_42, v_124_43, v_124_44, v_124_45, v_124_46, v_124_49, v_124_50, v_124_53, v_124_54, v_124_57, v_124_60, v_124_61, v_124_64, v_124_67, v_124_68, v_124_71, v_124_72, v_124_75, v_124_76, v_124_77, v_124_78, vgi_0, vgi_s, vga_0, vga_s, vset_0, vset_s, vtk_0, vtk_s, vrc_0, vsw_0, vsw_s, List.all_cons, List.all_nil, zc1_i, zc1_r, Bool.and_true, Bool.and_self, true_and, and_true, List.length_cons, List.length_nil, Nat.zero_le, Nat.reduceLeDiff, Nat.reduceAdd, Option.toList_some, List.cons_append, List.nil_append]
      refine c_131 (by omega) ?_
      simp only [v_124_0, v_124_1, v_124_4, v_124_5, v_124_8, v_124_9, v_124_10, v_124_11, v_124_12, v_124_13, v_124_15, h_124_15, v_124_17, v_124_18, v_124_21, v_124_24, v_124_27, v_124_28, v_124_29, v_124_32, v_124_33, v_124_36, v_124_37, v_124_40, v_124_42, v_124_43, v_124_44, v_124_45, v_124_46, v_124_49, v_124_50, v_124_53, v_124_54, v_124_57, v_124_60, v_124_61, v_124_64, v_124_67, v_124_68, v_124_71, v_124_72, v_124_75, v_124_76, v_124_77, v_124_78, vgi_0, vgi_s, vga_0, vga_s, vset_0, vset_s, vtk_0, vtk_s, vrc_0, vsw_0, vsw_s, List.all_cons, List.all_nil, zc1_i, zc1_r, Bool.and_true, Bool.and_self, true_and, and_true, List.length_cons, List.length_nil, Nat.zero_le, Nat.reduceLeDiff, Nat.reduceAdd, Option.toList_some, List.cons_append, List.nil_append]
      simp (disch := omega) only [li1, nI_add]
      exact ih (u + 1) t2 _ (by omega) h2 (by rw [hr]; rfl)
theorem c_124 (hd : 3 ≤ d) (hq : evp t q m a f n) (he : eve t q i n e) (hi : i < m) (hk : kd q i = 6) (hE : EVC q m (pc q i) (d - 1)) (h : ∀ t', tO (clA q i) t t' → F (some (.int (EV q f n i e))) t') : twc d 124 [.ref 44, .ref (4 + i)] t F := by
  have hwi := hq.2.1 i hi
  obtain ⟨v1, v2, -⟩ := hwi.2.2.2.2.2.2.2.2.2.2.2.2.2.2.1 (Or.inl hk)
  have hm := hq.1
  have fo := fo_tag i (by omega)
  have hva : t.1 (4 + i) 1 = nI (va q i) := (hq.2.2.2.1 i 1 hi (by omega)).trans v1
  refine ⟨by omega, ?_⟩
  rw [ze_124]
  refine vc_ok none zH_124 54 false _ 124 0 _ _ _ _ ?_
  simp only [v_124_0, v_124_1, v_124_4, v_124_5, v_124_8, v_124_9, v_124_10, v_124_11, v_124_12, v_124_13, v_124_15, h_124_15, v_124_17, v_124_18, v_124_21, v_124_24, v_124_27, v_124_28, v_124_29, v_124_32, v_124_33, v_124_36, v_124_37, v_124_40, v_124_42, v_124_43, v_124_44, v_124_45, v_124_46, v_124_49, v_124_50, v_124_53, v_124_54, v_124_57, v_124_60, v_124_61, v_124_64, v_124_67, v_124_68, v_124_71, v_124_72, v_124_75, v_124_76, v_124_77, v_124_78, vgi_0, vgi_s, vga_0, vga_s, vset_0, vset_s, vtk_0, vtk_s, vrc_0, vsw_0, vsw_s, List.all_cons, List.all_nil, zc1_i, zc1_r, Bool.and_true, Bool.and_self, true_and, and_true, List.length_cons, List.length_nil, Nat.zero_le, Nat.reduceLeDiff, Nat.reduceAdd, tg_44, fo, tf_44_1, tg_45, ln_45, hva]
  simp (disch := omega) only [nI_clamp, vinb_n]
  refine ⟨by omega, ?_⟩
  exact l_124 (by omega) hq he hi hk hE h n 0 t 0 (by omega) ⟨rfl, fun _ _ _ _ => rfl⟩ rfl
theorem l_125 (hd : 2 ≤ d) (hq : evp t q m a f n) (he : eve t q i n e) (hi : i < m) (hk : kd q i = 7) (hE : EVC q m (pc q i) d) (h : ∀ t', tO (clA q i) t t' → F (some (.int (EV q f n i e))) t') : ∀ (j u : Nat) (t' : T) (r : Int32), u + j = n → qs t t' q i → r = andN (fun u => EV q f n (pc q i) (eu e (va q i) u)) u → twp none d 125 15 [.ref 44, .ref (4 + i), .int (t.1 45 (va q i)), .int r, .int (nI u)] [] t' F := by
  have hwi := hq.2.1 i hi
  obtain ⟨p1, p2, -⟩ := hwi.2.2.2.2.2.2.2.2.2.2.2.1 (by omega)
  obtain ⟨v1, v2, -⟩ := hwi.2.2.2.2.2.2.2.2.2.2.2.2.2.2.1 (Or.inr hk)
  have hm := hq.1
  have hn := hq.2.2.2.2.2.2.2.2.2
  have fo := fo_tag i (by omega)
  intro j
  induction j with
  | zero =>
    intro u t' r hu hs hr
    have hu : u = n := by omega
    subst hu
    have hq' := hq.keep (t' := t') hs.1 (fun b k h1 h2 => hs.2 b k (Or.inl h2) (fun z => h1 z.1))
    have h44 := hq'.2.2.2.2.1
    have hva : t'.1 (4 + i) 1 = nI (va q i) := (hq'.2.2.2.1 i 1 hi (by omega)).trans v1
    refine vc_ok none zH_125 53 false _ 125 15 _ _ _ _ ?_
    simp only [v_125_0, v_125_1, v_125_4, v_125_5, v_125_8, v_125_9, v_125_10, v_125_11, v_125_12, v_125_13, v_125_15, h_125_15, v_125_17, v_125_18, v_125_21, v_125_24, v_125_27, v_125_28, v_125_31, v_125_32, v_125_35, v_125_36, v_125_39, v_125_41, v_125_42, v_125_43, v_125_44, v_125_45, v_125_48, v_125_49, v_125_52, v_125_53, v_125_56, v_125_59, v_125_60, v_125_63, v_125_66, v_125_67, v_125_70, v_125_71, v_125_74, v_125_75, v_125_76, v_125_77, vgi_0, vgi_s, vga_0, vga_s, vset_0, vset_s, vtk_0, vtk_s, vrc_0, vsw_0, vsw_s, List.all_cons, List.all_nil, zc1_i, zc1_r, Bool.and_true, Bool.and_self, true_and, and_true, List.length_cons, List.length_nil, Nat.zero_le, Nat.reduceLeDiff, Nat.reduceAdd, tg_44, tf_44_3, h44, hq'.2.2.2.2.2.1, hq'.cnt, fo, tf_44_1, tg_45, ln_45, hva]
    simp (disch := omega) only [nI_ltI, nI_clamp, vinb_n, Nat.lt_irrefl, if_false]
    refine ⟨by omega, ?_⟩
    rw [hr, ← EV_7 hq.2.1 hi hk]
    exact h _ hs.fin
  | succ j ih =>
    intro u t' r hu hs hr
    have hq' := hq.keep (t' := t') hs.1 (fun b k h1 h2 => hs.2 b k (Or.inl h2) (fun z => h1 z.1))
    have h44 := hq'.2.2.2.2.1
    have hva : t'.1 (4 + i) 1 = nI (va q i) := (hq'.2.2.2.1 i 1 hi (by omega)).trans v1
    have hpc : (tsi t' 45 (va q i) (nI u)).1 (4 + i) 3 = nI (pc q i) := by
      show (if 4 + i = 45 ∧ _ then _ else t'.1 (4 + i) 3) = _
      rw [if_neg (fun z => by omega)]
      exact (hq'.2.2.2.1 i 3 hi (by omega)).trans p1
    refine vc_ok none zH_125 53 false _ 125 15 _ _ _ _ ?_
    simp only [v_125_0, v_125_1, v_125_4, v_125_5, v_125_8, v_125_9, v_125_10, v_125_11, v_125_12, v_125_13, v_125_15, h_125_15, v_125_17, v_125_18, v_125_21, v_125_24, v_125_27, v_125_28, v_125_31, v_125_32, v_125_35, v_125_36, v_125_39, v_125_41, v_125_42, v_125_43, v_125_44, v_125_45, v_125_48, v_125_49, v_125_52, v_125_53, v_125_56, v_125_59, v_125_60, v_125_63, v_125_66, v_125_67, v_125_70, v_125_71, v_125_74, v_125_75, v_125_76, v_125_77, vgi_0, vgi_s, vga_0, vga_s, vset_0, vset_s, vtk_0, vtk_s, vrc_0, vsw_0, vsw_s, List.all_cons, List.all_nil, zc1_i, zc1_r, Bool.and_true, Bool.and_self, true_and, and_true, List.length_cons, List.length_nil, Nat.zero_le, Nat.reduceLeDiff, Nat.reduceAdd, tg_44, tf_44_3, h44, hq'.2.2.2.2.2.1, hq'.cnt, fo, tf_44_1, tf_44_0, tg_45, ln_45, tg_3, ln_3, hva]
    simp (disch := omega) only [nI_ltI, nI_clamp, vinb_n]
    rw [if_pos (by omega)]
    by_cases h1 : r = 0
    · rw [if_pos h1]
      refine ⟨by omega, ?_⟩
      have : r = EV q f n i e := by
        have := andN_zero (g := fun u => EV q f n (pc q i) (eu e (va q i) u)) (u := u) (j + 1) (hr.symm.trans h1)
        rw [hu] at this
        rw [EV_7 hq.2.1 hi hk, h1, this]
      rw [this]
      exact h _ hs.fin
    · rw [if_neg h1]
      refine ⟨by omega, ?_⟩
      simp (disch := omega) only [hpc, nI_clamp, vinb_n, tf_3]
      refine ⟨by omega, by omega, ?_⟩
      refine q_step (u := u) hq he hi (Or.inr hk) (by omega) hs hE (fun t2 h2 => ?_)
      simp only [v_125_0, v_125_1, v_125_4, v_125_5, v_125_8, v_125_9, v_125_10, v_125_11, v_125_12, v_125_13, v_125_15, h_125_15, v_125_17, v_125_18, v_125_21, v_125_24, v_125_27, v_125_28, v_125_31, v_125_32, v_125_35, v_125_36, v_125_39, v_125_41, v_125_42, v_125_43, v_125_44, v_125_45, v_125_48, v_125_49, v_125_52, v_125_53, v_125_56, v_125_59, v_125_60, v_125_63, v_125_66, v_125_67, v_125_70, v_125_71, v_125_74, v_125_75, v_125_76, v_125_77, vgi_0, vgi_s, vga_0, vga_s, vset_0, vset_s, vtk_0, vtk_s, vrc_0, vsw_0, vsw_s, List.all_cons, List.all_nil, zc1_i, zc1_r, Bool.and_true, Bool.and_self, true_and, and_true, List.length_cons, List.length_nil, Nat.zero_le, Nat.reduceLeDiff, Nat.reduceAdd, Option.toList_some, List.cons_append, List.nil_append]
      refine c_130 (by omega) ?_
      simp only [v_125_0, v_125_1, v_125_4, v_125_5, v_125_8, v_125_9, v_125_10, v_125_11, v_125_12, v_125_13, v_125_15, h_125_15, v_125_17, v_125_18, v_125_21, v_125_24, v_125_27, v_125_28, v_125_31, v_125_32, v_125_35, v_125_36, v_125_39, v_125_41, v_125_42, v_125_43, v_125_44, v_125_45, v_125_48, v_125_49, v_125_52, v_125_53, v_125_56, v_125_59, v_125_60, v_125_63, v_125_66, v_125_67, v_125_70, v_125_71, v_125_74, v_125_75, v_125_76, v_125_77, vgi_0, vgi_s, vga_0, vga_s, vset_0, vset_s, vtk_0, vtk_s, vrc_0, vsw_0, vsw_s, List.all_cons, List.all_nil, zc1_i, zc1_r, Bool.and_true, Bool.and_self, true_and, and_true, List.length_cons, List.length_nil, Nat.zero_le, Nat.reduceLeDiff, Nat.reduceAdd, Option.toList_some, List.cons_append, List.nil_append]
      simp (disch := omega) only [li1, nI_add]
      exact ih (u + 1) t2 _ (by omega) h2 (by rw [hr]; rfl)
theorem c_125 (hd : 3 ≤ d) (hq : evp t q m a f n) (he : eve t q i n e) (hi : i < m) (hk : kd q i = 7) (hE : EVC q m (pc q i) (d - 1)) (h : ∀ t', tO (clA q i) t t' → F (some (.int (EV q f n i e))) t') : twc d 125 [.ref 44, .ref (4 + i)] t F := by
  have hwi := hq.2.1 i hi
  obtain ⟨v1, v2, -⟩ := hwi.2.2.2.2.2.2.2.2.2.2.2.2.2.2.1 (Or.inr hk)
  have hm := hq.1
  have fo := fo_tag i (by omega)
  have hva : t.1 (4 + i) 1 = nI (va q i) := (hq.2.2.2.1 i 1 hi (by omega)).trans v1
  refine ⟨by omega, ?_⟩
  rw [ze_125]
  refine vc_ok none zH_125 53 false _ 125 0 _ _ _ _ ?_
  simp only [v_125_0, v_125_1, v_125_4, v_125_5, v_125_8, v_125_9, v_125_10, v_125_11, v_125_12, v_125_13, v_125_15, h_125_15, v_125_17, v_125_18, v_125_21, v_125_24, v_125_27, v_125_28, v_125_31, v_125_32, v_125_35, v_125_36, v_125_39, v_125_41, v_125_42, v_125_43, v_125_44, v_125_45, v_125_48, v_125_49, v_125_52, v_125_53, v_125_56, v_125_59, v_125_60, v_125_63, v_125_66, v_125_67, v_125_70, v_125_71, v_125_74, v_125_75, v_125_76, v_125_77, vgi_0, vgi_s, vga_0, vga_s, vset_0, vset_s, vtk_0, vtk_s, vrc_0, vsw_0, vsw_s, List.all_cons, List.all_nil, zc1_i, zc1_r, Bool.and_true, Bool.and_self, true_and, and_true, List.length_cons, List.length_nil, Nat.zero_le, Nat.reduceLeDiff, Nat.reduceAdd, tg_44, fo, tf_44_1, tg_45, ln_45, hva]
  simp (disch := omega) only [nI_clamp, vinb_n]
  refine ⟨by omega, ?_⟩
  exact l_125 (by omega) hq he hi hk hE h n 0 t 1 (by omega) ⟨rfl, fun _ _ _ _ => rfl⟩ rfl
/-- the contract of valueOfClosure -/
def CLC (q : FT) (m i d : Nat) : Prop := ∀ (t : T) (a n : Nat) (f : St) (e : Nat → Nat) (F : Option Value → T → Prop), evp t q m a f n → eve t q i n e → (∀ t', tO (clA q i) t t' → F (some (.int (EV q f n i e))) t') → twc d 126 [.ref 44, .ref (4 + i)] t F
theorem tand_early {x y : Int32} (h : x = 0) : tand x y = 0 := by subst h; exact tand_zero y
theorem tor_early {x y : Int32} (h : x = 1) : tor x y = 1 := by subst h; exact tor_one y
theorem clA_sub {c : Nat} (h : cl q i = 0 → cl q c = 0) : ∀ b, b ∈ clA q c → b ∈ clA q i := by
  intro b hb
  unfold clA at hb ⊢
  by_cases h0 : cl q i = 0
  · rw [if_pos (h h0)] at hb
    cases hb
  · rw [if_neg h0]
    by_cases h1 : cl q c = 0
    · rw [if_pos h1] at hb; cases hb
    · rw [if_neg h1] at hb; exact hb
theorem tO.cl {t' : T} {c : Nat} (h : tO (clA q c) t t') : t'.2 = t.2 ∧ ∀ b k, b ≠ 46 → t'.1 b k = t.1 b k := by
  refine ⟨h.1, fun b k hb => h.2 b ?_ k⟩
  unfold clA
  split
  · simp
  · simpa using hb
theorem c_123 (hd : 4 ≤ d) (hi : i < m) (hc : 3 ≤ kd q i → EVC q m (pc q i) (d - 1) ∧ EVC q m (pc q i) (d - 2)) (hd2 : kd q i = 4 ∨ kd q i = 5 → EVC q m (pd q i) (d - 1)) (h8 : kd q i = 8 → CLC q m i (d - 1)) : EVC q m i d := by
  intro t a n f e F hq he h
  have hwi := hq.2.1 i hi
  have hnm := hq.2.2.1 i hi
  obtain ⟨k0, k9, -, -, -, -, -, -, w0, w1, w2, w3, w3b, w45, w67, w8⟩ := hwi
  have hm := hq.1
  have hn := hq.2.2.2.2.2.2.2.2.2
  have fo := fo_tag i (by omega)
  have hf := hq.2.2.2.2.2.2.2.1
  have ha := hq.2.2.2.2.2.1
  have h44 := hq.2.2.2.2.1
  have hcs := hq.2.2.2.2.2.2.1
  have hk0 : t.1 (4 + i) 0 = nI (kd q i) := (hq.2.2.2.1 i 0 hi (by omega)).trans k0
  have r1 : t.1 (4 + i) 1 = q i 1 := hq.2.2.2.1 i 1 hi (by omega)
  have r2 : t.1 (4 + i) 2 = q i 2 := hq.2.2.2.1 i 2 hi (by omega)
  have r3 : t.1 (4 + i) 3 = q i 3 := hq.2.2.2.1 i 3 hi (by omega)
  have r4 : t.1 (4 + i) 4 = q i 4 := hq.2.2.2.1 i 4 hi (by omega)
  refine ⟨by omega, ?_⟩
  rw [ze_123]
  refine vc_ok none zH_123 114 false _ 123 0 _ _ _ _ ?_
  rw [v_123_0]
  simp only [vga_0, vga_s]
  rw [v_123_1, hk0]
  refine ⟨fo, ?_⟩
  rw [v_123_4]
  have : kd q i = 0 ∨ kd q i = 1 ∨ kd q i = 2 ∨ kd q i = 3 ∨ kd q i = 4 ∨ kd q i = 5 ∨ kd q i = 6 ∨ kd q i = 7 ∨ kd q i = 8 := by omega
  rcases this with hk | hk | hk | hk | hk | hk | hk | hk | hk
  · rw [hk]
    simp only [vsw_s, vsw_0]
    rw [if_pos (by decide)]
    simp only [v_123_0, v_123_1, v_123_4, v_123_52, v_123_53, v_123_56, v_123_57, v_123_58, v_123_61, v_123_64, v_123_65, v_123_68, v_123_69, v_123_72, v_123_73, v_123_76, v_123_77, v_123_78, v_123_81, v_123_82, v_123_85, v_123_86, v_123_89, v_123_90, v_123_91, v_123_92, v_123_95, v_123_96, v_123_99, v_123_100, v_123_103, v_123_104, v_123_105, v_123_108, v_123_109, v_123_112, v_123_113, v_123_116, v_123_117, v_123_118, v_123_119, v_123_122, v_123_123, v_123_126, v_123_127, v_123_130, v_123_133, v_123_134, v_123_135, v_123_136, v_123_139, v_123_140, v_123_143, v_123_144, v_123_147, v_123_148, v_123_149, v_123_152, v_123_153, v_123_156, v_123_157, v_123_158, v_123_159, v_123_162, v_123_163, v_123_166, v_123_167, v_123_170, v_123_173, v_123_174, v_123_175, v_123_176, v_123_179, v_123_180, v_123_183, v_123_184, v_123_187, v_123_188, v_123_189, v_123_190, v_123_193, v_123_194, v_123_197, v_123_198, v_123_199, v_123_200, v_123_203, v_123_204, v_123_207, v_123_208, v_123_211, v_123_214, v_123_215, v_123_216, v_123_217, v_123_220, v_123_221, v_123_222, v_123_223, v_123_226, v_123_227, v_123_228, v_123_229, v_123_232, vgi_0, vgi_s, vga_0, vga_s, vset_0, vset_s, vtk_0, vtk_s, vrc_0, vsw_0, vsw_s, List.all_cons, List.all_nil, zc1_i, zc1_r, Bool.and_true, Bool.and_self, true_and, and_true, List.length_cons, List.length_nil, Nat.zero_le, Nat.reduceLeDiff, Nat.reduceAdd, fo, r1]
    have := h t tO.rf
    rw [EV_0 hk] at this
    exact this
  · rw [hk]
    simp only [vsw_s, vsw_0]
    rw [if_neg (by decide), if_pos (by decide)]
    obtain ⟨p1, p2, p3, p4⟩ := w1 hk
    have hb : ∃ x, x < 6 ∧ q i 2 = nI x ∧ (2 ≤ va q i → x = vb q i) := by
      by_cases h2 : va q i < 2
      · exact ⟨0, by omega, (hnm hk).1 h2, fun z => by omega⟩
      · exact ⟨vb q i, (p3 (by omega)).2.1, (p3 (by omega)).1, fun _ => rfl⟩
    have hcx : ∃ x, x < 6 ∧ q i 3 = nI x ∧ (6 ≤ va q i → x = pc q i) := by
      by_cases h2 : va q i < 6
      · exact ⟨0, by omega, (hnm hk).2 h2, fun z => by omega⟩
      · exact ⟨pc q i, (p4 (by omega)).2.1, (p4 (by omega)).1, fun _ => rfl⟩
    obtain ⟨xb, b1, b2, b3⟩ := hb
    obtain ⟨xc, c1, c2, c3⟩ := hcx
    rw [p1] at r1
    rw [b2] at r2
    rw [c2] at r3
    simp only [v_123_0, v_123_1, v_123_4, v_123_52, v_123_53, v_123_56, v_123_57, v_123_58, v_123_61, v_123_64, v_123_65, v_123_68, v_123_69, v_123_72, v_123_73, v_123_76, v_123_77, v_123_78, v_123_81, v_123_82, v_123_85, v_123_86, v_123_89, v_123_90, v_123_91, v_123_92, v_123_95, v_123_96, v_123_99, v_123_100, v_123_103, v_123_104, v_123_105, v_123_108, v_123_109, v_123_112, v_123_113, v_123_116, v_123_117, v_123_118, v_123_119, v_123_122, v_123_123, v_123_126, v_123_127, v_123_130, v_123_133, v_123_134, v_123_135, v_123_136, v_123_139, v_123_140, v_123_143, v_123_144, v_123_147, v_123_148, v_123_149, v_123_152, v_123_153, v_123_156, v_123_157, v_123_158, v_123_159, v_123_162, v_123_163, v_123_166, v_123_167, v_123_170, v_123_173, v_123_174, v_123_175, v_123_176, v_123_179, v_123_180, v_123_183, v_123_184, v_123_187, v_123_188, v_123_189, v_123_190, v_123_193, v_123_194, v_123_197, v_123_198, v_123_199, v_123_200, v_123_203, v_123_204, v_123_207, v_123_208, v_123_211, v_123_214, v_123_215, v_123_216, v_123_217, v_123_220, v_123_221, v_123_222, v_123_223, v_123_226, v_123_227, v_123_228, v_123_229, v_123_232, vgi_0, vgi_s, vga_0, vga_s, vset_0, vset_s, vtk_0, vtk_s, vrc_0, vsw_0, vsw_s, List.all_cons, List.all_nil, zc1_i, zc1_r, Bool.and_true, Bool.and_self, true_and, and_true, List.length_cons, List.length_nil, Nat.zero_le, Nat.reduceLeDiff, Nat.reduceAdd, fo, tg_44, tf_44_3, h44, ha, st_row t ha, tf_44_1, tg_45, ln_45, r1, r2, r3]
    simp (disch := omega) only [nI_clamp, vinb_n]
    refine ⟨by omega, by omega, ?_⟩
    refine c_161b (by omega) (by omega) (fun z => ?_) (fun z => ?_) ?_
    · rw [b3 z]
      have := he _ (p3 z).2.2
      exact ⟨e (vb q i), by omega, this.2⟩
    · rw [c3 z]
      have := he _ (p4 z).2.2
      exact ⟨e (pc q i), by omega, this.2⟩
    · simp only [v_123_0, v_123_1, v_123_4, v_123_52, v_123_53, v_123_56, v_123_57, v_123_58, v_123_61, v_123_64, v_123_65, v_123_68, v_123_69, v_123_72, v_123_73, v_123_76, v_123_77, v_123_78, v_123_81, v_123_82, v_123_85, v_123_86, v_123_89, v_123_90, v_123_91, v_123_92, v_123_95, v_123_96, v_123_99, v_123_100, v_123_103, v_123_104, v_123_105, v_123_108, v_123_109, v_123_112, v_123_113, v_123_116, v_123_117, v_123_118, v_123_119, v_123_122, v_123_123, v_123_126, v_123_127, v_123_130, v_123_133, v_123_134, v_123_135, v_123_136, v_123_139, v_123_140, v_123_143, v_123_144, v_123_147, v_123_148, v_123_149, v_123_152, v_123_153, v_123_156, v_123_157, v_123_158, v_123_159, v_123_162, v_123_163, v_123_166, v_123_167, v_123_170, v_123_173, v_123_174, v_123_175, v_123_176, v_123_179, v_123_180, v_123_183, v_123_184, v_123_187, v_123_188, v_123_189, v_123_190, v_123_193, v_123_194, v_123_197, v_123_198, v_123_199, v_123_200, v_123_203, v_123_204, v_123_207, v_123_208, v_123_211, v_123_214, v_123_215, v_123_216, v_123_217, v_123_220, v_123_221, v_123_222, v_123_223, v_123_226, v_123_227, v_123_228, v_123_229, v_123_232, vgi_0, vgi_s, vga_0, vga_s, vset_0, vset_s, vtk_0, vtk_s, vrc_0, vsw_0, vsw_s, List.all_cons, List.all_nil, zc1_i, zc1_r, Bool.and_true, Bool.and_self, true_and, and_true, List.length_cons, List.length_nil, Nat.zero_le, Nat.reduceLeDiff, Nat.reduceAdd, Option.toList_some, List.cons_append, List.nil_append, st_tag ha, st_len ha]
      have hce : cel (va q i) (nn (t.1 45 xb)) (nn (t.1 45 xc)) = cel (va q i) (e (vb q i)) (e (pc q i)) ∧ cel (va q i) (e (vb q i)) (e (pc q i)) < 104 := by
        unfold cel
        by_cases h2 : va q i < 2
        · rw [if_pos h2]; simp only [if_pos h2]; exact ⟨trivial, by omega⟩
        · simp only [if_neg h2]
          have e1 := he _ (p3 (by omega)).2.2
          rw [b3 (by omega), e1.2, nn_nI (by omega)]
          by_cases h6 : va q i < 6
          · simp only [if_pos h6]; exact ⟨trivial, by omega⟩
          · simp only [if_neg h6]
            have e2 := he _ (p4 (by omega)).2.2
            rw [c3 (by omega), e2.2, nn_nI (by omega)]
            exact ⟨rfl, by omega⟩
      rw [hce.1]
      simp (disch := omega) only [nI_clamp, vinb_n]
      refine ⟨hce.2, ?_⟩
      have := h t tO.rf
      rw [EV_1 hk] at this
      unfold sg at this
      rw [if_neg (by omega), ← hcs, cS_c hce.2] at this
      exact this
  · rw [hk]
    simp only [vsw_s, vsw_0]
    rw [if_neg (by decide), if_neg (by decide), if_pos (by decide)]
    obtain ⟨p1, p2, p3, p4, p5, p6⟩ := w2 hk
    rw [p1] at r2
    rw [p4] at r3
    have e1 := he _ p3
    have e2 := he _ p6
    simp only [v_123_0, v_123_1, v_123_4, v_123_52, v_123_53, v_123_56, v_123_57, v_123_58, v_123_61, v_123_64, v_123_65, v_123_68, v_123_69, v_123_72, v_123_73, v_123_76, v_123_77, v_123_78, v_123_81, v_123_82, v_123_85, v_123_86, v_123_89, v_123_90, v_123_91, v_123_92, v_123_95, v_123_96, v_123_99, v_123_100, v_123_103, v_123_104, v_123_105, v_123_108, v_123_109, v_123_112, v_123_113, v_123_116, v_123_117, v_123_118, v_123_119, v_123_122, v_123_123, v_123_126, v_123_127, v_123_130, v_123_133, v_123_134, v_123_135, v_123_136, v_123_139, v_123_140, v_123_143, v_123_144, v_123_147, v_123_148, v_123_149, v_123_152, v_123_153, v_123_156, v_123_157, v_123_158, v_123_159, v_123_162, v_123_163, v_123_166, v_123_167, v_123_170, v_123_173, v_123_174, v_123_175, v_123_176, v_123_179, v_123_180, v_123_183, v_123_184, v_123_187, v_123_188, v_123_189, v_123_190, v_123_193, v_123_194, v_123_197, v_123_198, v_123_199, v_123_200, v_123_203, v_123_204, v_123_207, v_123_208, v_123_211, v_123_214, v_123_215, v_123_216, v_123_217, v_123_220, v_123_221, v_123_222, v_123_223, v_123_226, v_123_227, v_123_228, v_123_229, v_123_232, vgi_0, vgi_s, vga_0, vga_s, vset_0, vset_s, vtk_0, vtk_s, vrc_0, vsw_0, vsw_s, List.all_cons, List.all_nil, zc1_i, zc1_r, Bool.and_true, Bool.and_self, true_and, and_true, List.length_cons, List.length_nil, Nat.zero_le, Nat.reduceLeDiff, Nat.reduceAdd, fo, tg_44, tf_44_3, h44, ha, tf_44_1, tg_45, ln_45, r2, r3]
    simp (disch := omega) only [nI_clamp, vinb_n, e1.2, e2.2]
    refine ⟨by omega, by omega, ?_⟩
    refine c_164 (by omega) ha (by omega) (by omega) ?_
    simp only [v_123_0, v_123_1, v_123_4, v_123_52, v_123_53, v_123_56, v_123_57, v_123_58, v_123_61, v_123_64, v_123_65, v_123_68, v_123_69, v_123_72, v_123_73, v_123_76, v_123_77, v_123_78, v_123_81, v_123_82, v_123_85, v_123_86, v_123_89, v_123_90, v_123_91, v_123_92, v_123_95, v_123_96, v_123_99, v_123_100, v_123_103, v_123_104, v_123_105, v_123_108, v_123_109, v_123_112, v_123_113, v_123_116, v_123_117, v_123_118, v_123_119, v_123_122, v_123_123, v_123_126, v_123_127, v_123_130, v_123_133, v_123_134, v_123_135, v_123_136, v_123_139, v_123_140, v_123_143, v_123_144, v_123_147, v_123_148, v_123_149, v_123_152, v_123_153, v_123_156, v_123_157, v_123_158, v_123_159, v_123_162, v_123_163, v_123_166, v_123_167, v_123_170, v_123_173, v_123_174, v_123_175, v_123_176, v_123_179, v_123_180, v_123_183, v_123_184, v_123_187, v_123_188, v_123_189, v_123_190, v_123_193, v_123_194, v_123_197, v_123_198, v_123_199, v_123_200, v_123_203, v_123_204, v_123_207, v_123_208, v_123_211, v_123_214, v_123_215, v_123_216, v_123_217, v_123_220, v_123_221, v_123_222, v_123_223, v_123_226, v_123_227, v_123_228, v_123_229, v_123_232, vgi_0, vgi_s, vga_0, vga_s, vset_0, vset_s, vtk_0, vtk_s, vrc_0, vsw_0, vsw_s, List.all_cons, List.all_nil, zc1_i, zc1_r, Bool.and_true, Bool.and_self, true_and, and_true, List.length_cons, List.length_nil, Nat.zero_le, Nat.reduceLeDiff, Nat.reduceAdd, Option.toList_some, List.cons_append, List.nil_append]
    have := h t tO.rf
    rw [EV_2 hk, ← hcs] at this
    exact this
  · rw [hk]
    simp only [vsw_s, vsw_0]
    rw [if_neg (by decide), if_neg (by decide), if_neg (by decide), if_pos (by decide)]
    obtain ⟨p1, p2, p3, p4⟩ := w3 (by omega)
    rw [p1] at r3
    simp only [v_123_0, v_123_1, v_123_4, v_123_52, v_123_53, v_123_56, v_123_57, v_123_58, v_123_61, v_123_64, v_123_65, v_123_68, v_123_69, v_123_72, v_123_73, v_123_76, v_123_77, v_123_78, v_123_81, v_123_82, v_123_85, v_123_86, v_123_89, v_123_90, v_123_91, v_123_92, v_123_95, v_123_96, v_123_99, v_123_100, v_123_103, v_123_104, v_123_105, v_123_108, v_123_109, v_123_112, v_123_113, v_123_116, v_123_117, v_123_118, v_123_119, v_123_122, v_123_123, v_123_126, v_123_127, v_123_130, v_123_133, v_123_134, v_123_135, v_123_136, v_123_139, v_123_140, v_123_143, v_123_144, v_123_147, v_123_148, v_123_149, v_123_152, v_123_153, v_123_156, v_123_157, v_123_158, v_123_159, v_123_162, v_123_163, v_123_166, v_123_167, v_123_170, v_123_173, v_123_174, v_123_175, v_123_176, v_123_179, v_123_180, v_123_183, v_123_184, v_123_187, v_123_188, v_123_189, v_123_190, v_123_193, v_123_194, v_123_197, v_123_198, v_123_199, v_123_200, v_123_203, v_123_204, v_123_207, v_123_208, v_123_211, v_123_214, v_123_215, v_123_216, v_123_217, v_123_220, v_123_221, v_123_222, v_123_223, v_123_226, v_123_227, v_123_228, v_123_229, v_123_232, vgi_0, vgi_s, vga_0, vga_s, vset_0, vset_s, vtk_0, vtk_s, vrc_0, vsw_0, vsw_s, List.all_cons, List.all_nil, zc1_i, zc1_r, Bool.and_true, Bool.and_self, true_and, and_true, List.length_cons, List.length_nil, Nat.zero_le, Nat.reduceLeDiff, Nat.reduceAdd, fo, tg_44, tf_44_0, tg_3, ln_3, r3]
    simp (disch := omega) only [nI_clamp, vinb_n, tf_3]
    refine ⟨by omega, by omega, ?_⟩
    refine (hc (by omega)).1 t a n f e _ hq (fun v hv => he v (w3b hk v hv)) (fun t' ht => ?_)
    simp only [v_123_0, v_123_1, v_123_4, v_123_52, v_123_53, v_123_56, v_123_57, v_123_58, v_123_61, v_123_64, v_123_65, v_123_68, v_123_69, v_123_72, v_123_73, v_123_76, v_123_77, v_123_78, v_123_81, v_123_82, v_123_85, v_123_86, v_123_89, v_123_90, v_123_91, v_123_92, v_123_95, v_123_96, v_123_99, v_123_100, v_123_103, v_123_104, v_123_105, v_123_108, v_123_109, v_123_112, v_123_113, v_123_116, v_123_117, v_123_118, v_123_119, v_123_122, v_123_123, v_123_126, v_123_127, v_123_130, v_123_133, v_123_134, v_123_135, v_123_136, v_123_139, v_123_140, v_123_143, v_123_144, v_123_147, v_123_148, v_123_149, v_123_152, v_123_153, v_123_156, v_123_157, v_123_158, v_123_159, v_123_162, v_123_163, v_123_166, v_123_167, v_123_170, v_123_173, v_123_174, v_123_175, v_123_176, v_123_179, v_123_180, v_123_183, v_123_184, v_123_187, v_123_188, v_123_189, v_123_190, v_123_193, v_123_194, v_123_197, v_123_198, v_123_199, v_123_200, v_123_203, v_123_204, v_123_207, v_123_208, v_123_211, v_123_214, v_123_215, v_123_216, v_123_217, v_123_220, v_123_221, v_123_222, v_123_223, v_123_226, v_123_227, v_123_228, v_123_229, v_123_232, vgi_0, vgi_s, vga_0, vga_s, vset_0, vset_s, vtk_0, vtk_s, vrc_0, vsw_0, vsw_s, List.all_cons, List.all_nil, zc1_i, zc1_r, Bool.and_true, Bool.and_self, true_and, and_true, List.length_cons, List.length_nil, Nat.zero_le, Nat.reduceLeDiff, Nat.reduceAdd, Option.toList_some, List.cons_append, List.nil_append]
    refine c_129 (by omega) ?_
    simp only [v_123_0, v_123_1, v_123_4, v_123_52, v_123_53, v_123_56, v_123_57, v_123_58, v_123_61, v_123_64, v_123_65, v_123_68, v_123_69, v_123_72, v_123_73, v_123_76, v_123_77, v_123_78, v_123_81, v_123_82, v_123_85, v_123_86, v_123_89, v_123_90, v_123_91, v_123_92, v_123_95, v_123_96, v_123_99, v_123_100, v_123_103, v_123_104, v_123_105, v_123_108, v_123_109, v_123_112, v_123_113, v_123_116, v_123_117, v_123_118, v_123_119, v_123_122, v_123_123, v_123_126, v_123_127, v_123_130, v_123_133, v_123_134, v_123_135, v_123_136, v_123_139, v_123_140, v_123_143, v_123_144, v_123_147, v_123_148, v_123_149, v_123_152, v_123_153, v_123_156, v_123_157, v_123_158, v_123_159, v_123_162, v_123_163, v_123_166, v_123_167, v_123_170, v_123_173, v_123_174, v_123_175, v_123_176, v_123_179, v_123_180, v_123_183, v_123_184, v_123_187, v_123_188, v_123_189, v_123_190, v_123_193, v_123_194, v_123_197, v_123_198, v_123_199, v_123_200, v_123_203, v_123_204, v_123_207, v_123_208, v_123_211, v_123_214, v_123_215, v_123_216, v_123_217, v_123_220, v_123_221, v_123_222, v_123_223, v_123_226, v_123_227, v_123_228, v_123_229, v_123_232, vgi_0, vgi_s, vga_0, vga_s, vset_0, vset_s, vtk_0, vtk_s, vrc_0, vsw_0, vsw_s, List.all_cons, List.all_nil, zc1_i, zc1_r, Bool.and_true, Bool.and_self, true_and, and_true, List.length_cons, List.length_nil, Nat.zero_le, Nat.reduceLeDiff, Nat.reduceAdd, Option.toList_some, List.cons_append, List.nil_append]
    have := h t' (ht.mono (clA_sub (p4 (by omega))))
    rw [EV_3 hq.2.1 hi hk] at this
    exact this
  · rw [hk]
    simp only [vsw_s, vsw_0]
    rw [if_neg (by decide), if_neg (by decide), if_neg (by decide), if_neg (by decide), if_pos (by decide)]
    obtain ⟨p1, p2, p3, p4⟩ := w3 (by omega)
    obtain ⟨s1, s2, s3, s4, s5, s6⟩ := w45 (Or.inl hk)
    rw [p1] at r3
    simp only [v_123_0, v_123_1, v_123_4, v_123_52, v_123_53, v_123_56, v_123_57, v_123_58, v_123_61, v_123_64, v_123_65, v_123_68, v_123_69, v_123_72, v_123_73, v_123_76, v_123_77, v_123_78, v_123_81, v_123_82, v_123_85, v_123_86, v_123_89, v_123_90, v_123_91, v_123_92, v_123_95, v_123_96, v_123_99, v_123_100, v_123_103, v_123_104, v_123_105, v_123_108, v_123_109, v_123_112, v_123_113, v_123_116, v_123_117, v_123_118, v_123_119, v_123_122, v_123_123, v_123_126, v_123_127, v_123_130, v_123_133, v_123_134, v_123_135, v_123_136, v_123_139, v_123_140, v_123_143, v_123_144, v_123_147, v_123_148, v_123_149, v_123_152, v_123_153, v_123_156, v_123_157, v_123_158, v_123_159, v_123_162, v_123_163, v_123_166, v_123_167, v_123_170, v_123_173, v_123_174, v_123_175, v_123_176, v_123_179, v_123_180, v_123_183, v_123_184, v_123_187, v_123_188, v_123_189, v_123_190, v_123_193, v_123_194, v_123_197, v_123_198, v_123_199, v_123_200, v_123_203, v_123_204, v_123_207, v_123_208, v_123_211, v_123_214, v_123_215, v_123_216, v_123_217, v_123_220, v_123_221, v_123_222, v_123_223, v_123_226, v_123_227, v_123_228, v_123_229, v_123_232, vgi_0, vgi_s, vga_0, vga_s, vset_0, vset_s, vtk_0, vtk_s, vrc_0, vsw_0, vsw_s, List.all_cons, List.all_nil, zc1_i, zc1_r, Bool.and_true, Bool.and_self, true_and, and_true, List.length_cons, List.length_nil, Nat.zero_le, Nat.reduceLeDiff, Nat.reduceAdd, fo, tg_44, tf_44_0, tg_3, ln_3, r3]
    simp (disch := omega) only [nI_clamp, vinb_n, tf_3]
    refine ⟨by omega, by omega, ?_⟩
    refine (hc (by omega)).1 t a n f e _ hq (fun v hv => he v (s5 v hv)) (fun t' ht => ?_)
    have hcl := ht.cl
    have hq' := hq.keep (t' := t') hcl.1 (fun b k _ h2 => hcl.2 b k h2)
    have r4' : t'.1 (4 + i) 4 = nI (pd q i) := (hq'.2.2.2.1 i 4 hi (by omega)).trans s1
    simp only [v_123_0, v_123_1, v_123_4, v_123_52, v_123_53, v_123_56, v_123_57, v_123_58, v_123_61, v_123_64, v_123_65, v_123_68, v_123_69, v_123_72, v_123_73, v_123_76, v_123_77, v_123_78, v_123_81, v_123_82, v_123_85, v_123_86, v_123_89, v_123_90, v_123_91, v_123_92, v_123_95, v_123_96, v_123_99, v_123_100, v_123_103, v_123_104, v_123_105, v_123_108, v_123_109, v_123_112, v_123_113, v_123_116, v_123_117, v_123_118, v_123_119, v_123_122, v_123_123, v_123_126, v_123_127, v_123_130, v_123_133, v_123_134, v_123_135, v_123_136, v_123_139, v_123_140, v_123_143, v_123_144, v_123_147, v_123_148, v_123_149, v_123_152, v_123_153, v_123_156, v_123_157, v_123_158, v_123_159, v_123_162, v_123_163, v_123_166, v_123_167, v_123_170, v_123_173, v_123_174, v_123_175, v_123_176, v_123_179, v_123_180, v_123_183, v_123_184, v_123_187, v_123_188, v_123_189, v_123_190, v_123_193, v_123_194, v_123_197, v_123_198, v_123_199, v_123_200, v_123_203, v_123_204, v_123_207, v_123_208, v_123_211, v_123_214, v_123_215, v_123_216, v_123_217, v_123_220, v_123_221, v_123_222, v_123_223, v_123_226, v_123_227, v_123_228, v_123_229, v_123_232, vgi_0, vgi_s, vga_0, vga_s, vset_0, vset_s, vtk_0, vtk_s, vrc_0, vsw_0, vsw_s, List.all_cons, List.all_nil, zc1_i, zc1_r, Bool.and_true, Bool.and_self, true_and, and_true, List.length_cons, List.length_nil, Nat.zero_le, Nat.reduceLeDiff, Nat.reduceAdd, Option.toList_some, List.cons_append, List.nil_append, fo, tg_44, tf_44_0, tg_3, ln_3, r4']
    have ht1 := ht.mono (clA_sub (p4 (by omega)))
    by_cases hz : EV q f n (pc q i) e = 0
    · rw [if_pos hz]
      have := h t' ht1
      rw [EV_4 hq.2.1 hi hk, tand_early hz] at this
      exact this
    · rw [if_neg hz]
      simp (disch := omega) only [nI_clamp, vinb_n, tf_3]
      refine ⟨by omega, by omega, ?_⟩
      refine hd2 (Or.inl hk) t' a n f e _ hq' (fun v hv => ?_) (fun t2 ht2 => ?_)
      · have := he v (s6 v hv)
        exact ⟨this.1, by rw [hcl.2 45 v (by omega)]; exact this.2⟩
      · simp only [v_123_0, v_123_1, v_123_4, v_123_52, v_123_53, v_123_56, v_123_57, v_123_58, v_123_61, v_123_64, v_123_65, v_123_68, v_123_69, v_123_72, v_123_73, v_123_76, v_123_77, v_123_78, v_123_81, v_123_82, v_123_85, v_123_86, v_123_89, v_123_90, v_123_91, v_123_92, v_123_95, v_123_96, v_123_99, v_123_100, v_123_103, v_123_104, v_123_105, v_123_108, v_123_109, v_123_112, v_123_113, v_123_116, v_123_117, v_123_118, v_123_119, v_123_122, v_123_123, v_123_126, v_123_127, v_123_130, v_123_133, v_123_134, v_123_135, v_123_136, v_123_139, v_123_140, v_123_143, v_123_144, v_123_147, v_123_148, v_123_149, v_123_152, v_123_153, v_123_156, v_123_157, v_123_158, v_123_159, v_123_162, v_123_163, v_123_166, v_123_167, v_123_170, v_123_173, v_123_174, v_123_175, v_123_176, v_123_179, v_123_180, v_123_183, v_123_184, v_123_187, v_123_188, v_123_189, v_123_190, v_123_193, v_123_194, v_123_197, v_123_198, v_123_199, v_123_200, v_123_203, v_123_204, v_123_207, v_123_208, v_123_211, v_123_214, v_123_215, v_123_216, v_123_217, v_123_220, v_123_221, v_123_222, v_123_223, v_123_226, v_123_227, v_123_228, v_123_229, v_123_232, vgi_0, vgi_s, vga_0, vga_s, vset_0, vset_s, vtk_0, vtk_s, vrc_0, vsw_0, vsw_s, List.all_cons, List.all_nil, zc1_i, zc1_r, Bool.and_true, Bool.and_self, true_and, and_true, List.length_cons, List.length_nil, Nat.zero_le, Nat.reduceLeDiff, Nat.reduceAdd, Option.toList_some, List.cons_append, List.nil_append]
        refine c_130 (by omega) ?_
        simp only [v_123_0, v_123_1, v_123_4, v_123_52, v_123_53, v_123_56, v_123_57, v_123_58, v_123_61, v_123_64, v_123_65, v_123_68, v_123_69, v_123_72, v_123_73, v_123_76, v_123_77, v_123_78, v_123_81, v_123_82, v_123_85, v_123_86, v_123_89, v_123_90, v_123_91, v_123_92, v_123_95, v_123_96, v_123_99, v_123_100, v_123_103, v_123_104, v_123_105, v_123_108, v_123_109, v_123_112, v_123_113, v_123_116, v_123_117, v_123_118, v_123_119, v_123_122, v_123_123, v_123_126, v_123_127, v_123_130, v_123_133, v_123_134, v_123_135, v_123_136, v_123_139, v_123_140, v_123_143, v_123_144, v_123_147, v_123_148, v_123_149, v_123_152, v_123_153, v_123_156, v_123_157, v_123_158, v_123_159, v_123_162, v_123_163, v_123_166, v_123_167, v_123_170, v_123_173, v_123_174, v_123_175, v_123_176, v_123_179, v_123_180, v_123_183, v_123_184, v_123_187, v_123_188, v_123_189, v_123_190, v_123_193, v_123_194, v_123_197, v_123_198, v_123_199, v_123_200, v_123_203, v_123_204, v_123_207, v_123_208, v_123_211, v_123_214, v_123_215, v_123_216, v_123_217, v_123_220, v_123_221, v_123_222, v_123_223, v_123_226, v_123_227, v_123_228, v_123_229, v_123_232, vgi_0, vgi_s, vga_0, vga_s, vset_0, vset_s, vtk_0, vtk_s, vrc_0, vsw_0, vsw_s, List.all_cons, List.all_nil, zc1_i, zc1_r, Bool.and_true, Bool.and_self, true_and, and_true, List.length_cons, List.length_nil, Nat.zero_le, Nat.reduceLeDiff, Nat.reduceAdd, Option.toList_some, List.cons_append, List.nil_append]
        have := h t2 (ht1.tr (ht2.mono (clA_sub s4)))
        rw [EV_4 hq.2.1 hi hk] at this
        exact this
  · rw [hk]
    simp only [vsw_s, vsw_0]
    rw [if_neg (by decide), if_neg (by decide), if_neg (by decide), if_neg (by decide), if_neg (by decide), if_pos (by decide)]
    obtain ⟨p1, p2, p3, p4⟩ := w3 (by omega)
    obtain ⟨s1, s2, s3, s4, s5, s6⟩ := w45 (Or.inr hk)
    rw [p1] at r3
    simp only [v_123_0, v_123_1, v_123_4, v_123_52, v_123_53, v_123_56, v_123_57, v_123_58, v_123_61, v_123_64, v_123_65, v_123_68, v_123_69, v_123_72, v_123_73, v_123_76, v_123_77, v_123_78, v_123_81, v_123_82, v_123_85, v_123_86, v_123_89, v_123_90, v_123_91, v_123_92, v_123_95, v_123_96, v_123_99, v_123_100, v_123_103, v_123_104, v_123_105, v_123_108, v_123_109, v_123_112, v_123_113, v_123_116, v_123_117, v_123_118, v_123_119, v_123_122, v_123_123, v_123_126, v_123_127, v_123_130, v_123_133, v_123_134, v_123_135, v_123_136, v_123_139, v_123_140, v_123_143, v_123_144, v_123_147, v_123_148, v_123_149, v_123_152, v_123_153, v_123_156, v_123_157, v_123_158, v_123_159, v_123_162, v_123_163, v_123_166, v_123_167, v_123_170, v_123_173, v_123_174, v_123_175, v_123_176, v_123_179, v_123_180, v_123_183, v_123_184, v_123_187, v_123_188, v_123_189, v_123_190, v_123_193, v_123_194, v_123_197, v_123_198, v_123_199, v_123_200, v_123_203, v_123_204, v_123_207, v_123_208, v_123_211, v_123_214, v_123_215, v_123_216, v_123_217, v_123_220, v_123_221, v_123_222, v_123_223, v_123_226, v_123_227, v_123_228, v_123_229, v_123_232, vgi_0, vgi_s, vga_0, vga_s, vset_0, vset_s, vtk_0, vtk_s, vrc_0, vsw_0, vsw_s, List.all_cons, List.all_nil, zc1_i, zc1_r, Bool.and_true, Bool.and_self, true_and, and_true, List.length_cons, List.length_nil, Nat.zero_le, Nat.reduceLeDiff, Nat.reduceAdd, fo, tg_44, tf_44_0, tg_3, ln_3, r3]
    simp (disch := omega) only [nI_clamp, vinb_n, tf_3]
    refine ⟨by omega, by omega, ?_⟩
    refine (hc (by omega)).1 t a n f e _ hq (fun v hv => he v (s5 v hv)) (fun t' ht => ?_)
    have hcl := ht.cl
    have hq' := hq.keep (t' := t') hcl.1 (fun b k _ h2 => hcl.2 b k h2)
    have r4' : t'.1 (4 + i) 4 = nI (pd q i) := (hq'.2.2.2.1 i 4 hi (by omega)).trans s1
    simp only [v_123_0, v_123_1, v_123_4, v_123_52, v_123_53, v_123_56, v_123_57, v_123_58, v_123_61, v_123_64, v_123_65, v_123_68, v_123_69, v_123_72, v_123_73, v_123_76, v_123_77, v_123_78, v_123_81, v_123_82, v_123_85, v_123_86, v_123_89, v_123_90, v_123_91, v_123_92, v_123_95, v_123_96, v_123_99, v_123_100, v_123_103, v_123_104, v_123_105, v_123_108, v_123_109, v_123_112, v_123_113, v_123_116, v_123_117, v_123_118, v_123_119, v_123_122, v_123_123, v_123_126, v_123_127, v_123_130, v_123_133, v_123_134, v_123_135, v_123_136, v_123_139, v_123_140, v_123_143, v_123_144, v_123_147, v_123_148, v_123_149, v_123_152, v_123_153, v_123_156, v_123_157, v_123_158, v_123_159, v_123_162, v_123_163, v_123_166, v_123_167, v_123_170, v_123_173, v_123_174, v_123_175, v_123_176, v_123_179, v_123_180, v_123_183, v_123_184, v_123_187, v_123_188, v_123_189, v_123_190, v_123_193, v_123_194, v_123_197, v_123_198, v_123_199, v_123_200, v_123_203, v_123_204, v_123_207, v_123_208, v_123_211, v_123_214, v_123_215, v_123_216, v_123_217, v_123_220, v_123_221, v_123_222, v_123_223, v_123_226, v_123_227, v_123_228, v_123_229, v_123_232, vgi_0, vgi_s, vga_0, vga_s, vset_0, vset_s, vtk_0, vtk_s, vrc_0, vsw_0, vsw_s, List.all_cons, List.all_nil, zc1_i, zc1_r, Bool.and_true, Bool.and_self, true_and, and_true, List.length_cons, List.length_nil, Nat.zero_le, Nat.reduceLeDiff, Nat.reduceAdd, Option.toList_some, List.cons_append, List.nil_append, fo, tg_44, tf_44_0, tg_3, ln_3, r4']
    have ht1 := ht.mono (clA_sub (p4 (by omega)))
    by_cases hz : EV q f n (pc q i) e = 1
    · rw [if_pos hz]
      have := h t' ht1
      rw [EV_5 hq.2.1 hi hk, tor_early hz] at this
      exact this
    · rw [if_neg hz]
      simp (disch := omega) only [nI_clamp, vinb_n, tf_3]
      refine ⟨by omega, by omega, ?_⟩
      refine hd2 (Or.inr hk) t' a n f e _ hq' (fun v hv => ?_) (fun t2 ht2 => ?_)
      · have := he v (s6 v hv)
        exact ⟨this.1, by rw [hcl.2 45 v (by omega)]; exact this.2⟩
      · simp only [v_123_0, v_123_1, v_123_4, v_123_52, v_123_53, v_123_56, v_123_57, v_123_58, v_123_61, v_123_64, v_123_65, v_123_68, v_123_69, v_123_72, v_123_73, v_123_76, v_123_77, v_123_78, v_123_81, v_123_82, v_123_85, v_123_86, v_123_89, v_123_90, v_123_91, v_123_92, v_123_95, v_123_96, v_123_99, v_123_100, v_123_103, v_123_104, v_123_105, v_123_108, v_123_109, v_123_112, v_123_113, v_123_116, v_123_117, v_123_118, v_123_119, v_123_122, v_123_123, v_123_126, v_123_127, v_123_130, v_123_133, v_123_134, v_123_135, v_123_136, v_123_139, v_123_140, v_123_143, v_123_144, v_123_147, v_123_148, v_123_149, v_123_152, v_123_153, v_123_156, v_123_157, v_123_158, v_123_159, v_123_162, v_123_163, v_123_166, v_123_167, v_123_170, v_123_173, v_123_174, v_123_175, v_123_176, v_123_179, v_123_180, v_123_183, v_123_184, v_123_187, v_123_188, v_123_189, v_123_190, v_123_193, v_123_194, v_123_197, v_123_198, v_123_199, v_123_200, v_123_203, v_123_204, v_123_207, v_123_208, v_123_211, v_123_214, v_123_215, v_123_216, v_123_217, v_123_220, v_123_221, v_123_222, v_123_223, v_123_226, v_123_227, v_123_228, v_123_229, v_123_232, vgi_0, vgi_s, vga_0, vga_s, vset_0, vset_s, vtk_0, vtk_s, vrc_0, vsw_0, vsw_s, List.all_cons, List.all_nil, zc1_i, zc1_r, Bool.and_true, Bool.and_self, true_and, and_true, List.length_cons, List.length_nil, Nat.zero_le, Nat.reduceLeDiff, Nat.reduceAdd, Option.toList_some, List.cons_append, List.nil_append]
        refine c_131 (by omega) ?_
        simp only [v_123_0, v_123_1, v_123_4, v_123_52, v_123_53, v_123_56, v_123_57, v_123_58, v_123_61, v_123_64, v_123_65, v_123_68, v_123_69, v_123_72, v_123_73, v_123_76, v_123_77, v_123_78, v_123_81, v_123_82, v_123_85, v_123_86, v_123_89, v_123_90, v_123_91, v_123_92, v_123_95, v_123_96, v_123_99, v_123_100, v_123_103, v_123_104, v_123_105, v_123_108, v_123_109, v_123_112, v_123_113, v_123_116, v_123_117, v_123_118, v_123_119, v_123_122, v_123_123, v_123_126, v_123_127, v_123_130, v_123_133, v_123_134, v_123_135, v_123_136, v_123_139, v_123_140, v_123_143, v_123_144, v_123_147, v_123_148, v_123_149, v_123_152, v_123_153, v_123_156, v_123_157, v_123_158, v_123_159, v_123_162, v_123_163, v_123_166, v_123_167, v_123_170, v_123_173, v_123_174, v_123_175, v_123_176, v_123_179, v_123_180, v_123_183, v_123_184, v_123_187, v_123_188, v_123_189, v_123_190, v_123_193, v_123_194, v_123_197, v_123_198, v_123_199, v_123_200, v_123_203, v_123_204, v_123_207, v_123_208, v_123_211, v_123_214, v_123_215, v_123_216, v_123_217, v_123_220, v_123_221, v_123_222, v_123_223, v_123_226, v_123_227, v_123_228, v_123_229, v_123_232, vgi_0, vgi_s, vga_0, vga_s, vset_0, vset_s, vtk_0, vtk_s, vrc_0, vsw_0, vsw_s, List.all_cons, List.all_nil, zc1_i, zc1_r, Bool.and_true, Bool.and_self, true_and, and_true, List.length_cons, List.length_nil, Nat.zero_le, Nat.reduceLeDiff, Nat.reduceAdd, Option.toList_some, List.cons_append, List.nil_append]
        have := h t2 (ht1.tr (ht2.mono (clA_sub s4)))
        rw [EV_5 hq.2.1 hi hk] at this
        exact this
  · rw [hk]
    simp only [vsw_s, vsw_0]
    rw [if_neg (by decide), if_neg (by decide), if_neg (by decide), if_neg (by decide), if_neg (by decide), if_neg (by decide), if_pos (by decide)]
    simp only [v_123_0, v_123_1, v_123_4, v_123_52, v_123_53, v_123_56, v_123_57, v_123_58, v_123_61, v_123_64, v_123_65, v_123_68, v_123_69, v_123_72, v_123_73, v_123_76, v_123_77, v_123_78, v_123_81, v_123_82, v_123_85, v_123_86, v_123_89, v_123_90, v_123_91, v_123_92, v_123_95, v_123_96, v_123_99, v_123_100, v_123_103, v_123_104, v_123_105, v_123_108, v_123_109, v_123_112, v_123_113, v_123_116, v_123_117, v_123_118, v_123_119, v_123_122, v_123_123, v_123_126, v_123_127, v_123_130, v_123_133, v_123_134, v_123_135, v_123_136, v_123_139, v_123_140, v_123_143, v_123_144, v_123_147, v_123_148, v_123_149, v_123_152, v_123_153, v_123_156, v_123_157, v_123_158, v_123_159, v_123_162, v_123_163, v_123_166, v_123_167, v_123_170, v_123_173, v_123_174, v_123_175, v_123_176, v_123_179, v_123_180, v_123_183, v_123_184, v_123_187, v_123_188, v_123_189, v_123_190, v_123_193, v_123_194, v_123_197, v_123_198, v_123_199, v_123_200, v_123_203, v_123_204, v_123_207, v_123_208, v_123_211, v_123_214, v_123_215, v_123_216, v_123_217, v_123_220, v_123_221, v_123_222, v_123_223, v_123_226, v_123_227, v_123_228, v_123_229, v_123_232, vgi_0, vgi_s, vga_0, vga_s, vset_0, vset_s, vtk_0, vtk_s, vrc_0, vsw_0, vsw_s, List.all_cons, List.all_nil, zc1_i, zc1_r, Bool.and_true, Bool.and_self, true_and, and_true, List.length_cons, List.length_nil, Nat.zero_le, Nat.reduceLeDiff, Nat.reduceAdd, tg_44]
    refine c_124 (by omega) hq he hi hk ((hc (by omega)).2) (fun t' ht => ?_)
    simp only [v_123_0, v_123_1, v_123_4, v_123_52, v_123_53, v_123_56, v_123_57, v_123_58, v_123_61, v_123_64, v_123_65, v_123_68, v_123_69, v_123_72, v_123_73, v_123_76, v_123_77, v_123_78, v_123_81, v_123_82, v_123_85, v_123_86, v_123_89, v_123_90, v_123_91, v_123_92, v_123_95, v_123_96, v_123_99, v_123_100, v_123_103, v_123_104, v_123_105, v_123_108, v_123_109, v_123_112, v_123_113, v_123_116, v_123_117, v_123_118, v_123_119, v_123_122, v_123_123, v_123_126, v_123_127, v_123_130, v_123_133, v_123_134, v_123_135, v_123_136, v_123_139, v_123_140, v_123_143, v_123_144, v_123_147, v_123_148, v_123_149, v_123_152, v_123_153, v_123_156, v_123_157, v_123_158, v_123_159, v_123_162, v_123_163, v_123_166, v_123_167, v_123_170, v_123_173, v_123_174, v_123_175, v_123_176, v_123_179, v_123_180, v_123_183, v_123_184, v_123_187, v_123_188, v_123_189, v_123_190, v_123_193, v_123_194, v_123_197, v_123_198, v_123_199, v_123_200, v_123_203, v_123_204, v_123_207, v_123_208, v_123_211, v_123_214, v_123_215, v_123_216, v_123_217, v_123_220, v_123_221, v_123_222, v_123_223, v_123_226, v_123_227, v_123_228, v_123_229, v_123_232, vgi_0, vgi_s, vga_0, vga_s, vset_0, vset_s, vtk_0, vtk_s, vrc_0, vsw_0, vsw_s, List.all_cons, List.all_nil, zc1_i, zc1_r, Bool.and_true, Bool.and_self, true_and, and_true, List.length_cons, List.length_nil, Nat.zero_le, Nat.reduceLeDiff, Nat.reduceAdd, Option.toList_some, List.cons_append, List.nil_append]
    exact h t' ht
  · rw [hk]
    simp only [vsw_s, vsw_0]
    rw [if_neg (by decide), if_neg (by decide), if_neg (by decide), if_neg (by decide), if_neg (by decide), if_neg (by decide), if_neg (by decide), if_pos (by decide)]
    simp only [v_123_0, v_123_1, v_123_4, v_123_52, v_123_53, v_123_56, v_123_57, v_123_58, v_123_61, v_123_64, v_123_65, v_123_68, v_123_69, v_123_72, v_123_73, v_123_76, v_123_77, v_123_78, v_123_81, v_123_82, v_123_85, v_123_86, v_123_89, v_123_90, v_123_91, v_123_92, v_123_95, v_123_96, v_123_99, v_123_100, v_123_103, v_123_104, v_123_105, v_123_108, v_123_109, v_123_112, v_123_113, v_123_116, v_123_117, v_123_118, v_123_119, v_123_122, v_123_123, v_123_126, v_123_127, v_123_130, v_123_133, v_123_134, v_123_135, v_123_136, v_123_139, v_123_140, v_123_143, v_123_144, v_123_147, v_123_148, v_123_149, v_123_152, v_123_153, v_123_156, v_123_157, v_123_158, v_123_159, v_123_162, v_123_163, v_123_166, v_123_167, v_123_170, v_123_173, v_123_174, v_123_175, v_123_176, v_123_179, v_123_180, v_123_183, v_123_184, v_123_187, v_123_188, v_123_189, v_123_190, v_123_193, v_123_194, v_123_197, v_123_198, v_123_199, v_123_200, v_123_203, v_123_204, v_123_207, v_123_208, v_123_211, v_123_214, v_123_215, v_123_216, v_123_217, v_123_220, v_123_221, v_123_222, v_123_223, v_123_226, v_123_227, v_123_228, v_123_229, v_123_232, vgi_0, vgi_s, vga_0, vga_s, vset_0, vset_s, vtk_0, vtk_s, vrc_0, vsw_0, vsw_s, List.all_cons, List.all_nil, zc1_i, zc1_r, Bool.and_true, Bool.and_self, true_and, and_true, List.length_cons, List.length_nil, Nat.zero_le, Nat.reduceLeDiff, Nat.reduceAdd, tg_44]
    refine c_125 (by omega) hq he hi hk ((hc (by omega)).2) (fun t' ht => ?_)
    simp only [v_123_0, v_123_1, v_123_4, v_123_52, v_123_53, v_123_56, v_123_57, v_123_58, v_123_61, v_123_64, v_123_65, v_123_68, v_123_69, v_123_72, v_123_73, v_123_76, v_123_77, v_123_78, v_123_81, v_123_82, v_123_85, v_123_86, v_123_89, v_123_90, v_123_91, v_123_92, v_123_95, v_123_96, v_123_99, v_123_100, v_123_103, v_123_104, v_123_105, v_123_108, v_123_109, v_123_112, v_123_113, v_123_116, v_123_117, v_123_118, v_123_119, v_123_122, v_123_123, v_123_126, v_123_127, v_123_130, v_123_133, v_123_134, v_123_135, v_123_136, v_123_139, v_123_140, v_123_143, v_123_144, v_123_147, v_123_148, v_123_149, v_123_152, v_123_153, v_123_156, v_123_157, v_123_158, v_123_159, v_123_162, v_123_163, v_123_166, v_123_167, v_123_170, v_123_173, v_123_174, v_123_175, v_123_176, v_123_179, v_123_180, v_123_183, v_123_184, v_123_187, v_123_188, v_123_189, v_123_190, v_123_193, v_123_194, v_123_197, v_123_198, v_123_199, v_123_200, v_123_203, v_123_204, v_123_207, v_123_208, v_123_211, v_123_214, v_123_215, v_123_216, v_123_217, v_123_220, v_123_221, v_123_222, v_123_223, v_123_226, v_123_227, v_123_228, v_123_229, v_123_232, vgi_0, vgi_s, vga_0, vga_s, vset_0, vset_s, vtk_0, vtk_s, vrc_0, vsw_0, vsw_s, List.all_cons, List.all_nil, zc1_i, zc1_r, Bool.and_true, Bool.and_self, true_and, and_true, List.length_cons, List.length_nil, Nat.zero_le, Nat.reduceLeDiff, Nat.reduceAdd, Option.toList_some, List.cons_append, List.nil_append]
    exact h t' ht
  · rw [hk]
    simp only [vsw_s, vsw_0]
    rw [if_neg (by decide), if_neg (by decide), if_neg (by decide), if_neg (by decide), if_neg (by decide), if_neg (by decide), if_neg (by decide), if_neg (by decide)]
    simp only [v_123_0, v_123_1, v_123_4, v_123_52, v_123_53, v_123_56, v_123_57, v_123_58, v_123_61, v_123_64, v_123_65, v_123_68, v_123_69, v_123_72, v_123_73, v_123_76, v_123_77, v_123_78, v_123_81, v_123_82, v_123_85, v_123_86, v_123_89, v_123_90, v_123_91, v_123_92, v_123_95, v_123_96, v_123_99, v_123_100, v_123_103, v_123_104, v_123_105, v_123_108, v_123_109, v_123_112, v_123_113, v_123_116, v_123_117, v_123_118, v_123_119, v_123_122, v_123_123, v_123_126, v_123_127, v_123_130, v_123_133, v_123_134, v_123_135, v_123_136, v_123_139, v_123_140, v_123_143, v_123_144, v_123_147, v_123_148, v_123_149, v_123_152, v_123_153, v_123_156, v_123_157, v_123_158, v_123_159, v_123_162, v_123_163, v_123_166, v_123_167, v_123_170, v_123_173, v_123_174, v_123_175, v_123_176, v_123_179, v_123_180, v_123_183, v_123_184, v_123_187, v_123_188, v_123_189, v_123_190, v_123_193, v_123_194, v_123_197, v_123_198, v_123_199, v_123_200, v_123_203, v_123_204, v_123_207, v_123_208, v_123_211, v_123_214, v_123_215, v_123_216, v_123_217, v_123_220, v_123_221, v_123_222, v_123_223, v_123_226, v_123_227, v_123_228, v_123_229, v_123_232, vgi_0, vgi_s, vga_0, vga_s, vset_0, vset_s, vtk_0, vtk_s, vrc_0, vsw_0, vsw_s, List.all_cons, List.all_nil, zc1_i, zc1_r, Bool.and_true, Bool.and_self, true_and, and_true, List.length_cons, List.length_nil, Nat.zero_le, Nat.reduceLeDiff, Nat.reduceAdd, tg_44]
    refine h8 hk t a n f e _ hq he (fun t' ht => ?_)
    simp only [v_123_0, v_123_1, v_123_4, v_123_52, v_123_53, v_123_56, v_123_57, v_123_58, v_123_61, v_123_64, v_123_65, v_123_68, v_123_69, v_123_72, v_123_73, v_123_76, v_123_77, v_123_78, v_123_81, v_123_82, v_123_85, v_123_86, v_123_89, v_123_90, v_123_91, v_123_92, v_123_95, v_123_96, v_123_99, v_123_100, v_123_103, v_123_104, v_123_105, v_123_108, v_123_109, v_123_112, v_123_113, v_123_116, v_123_117, v_123_118, v_123_119, v_123_122, v_123_123, v_123_126, v_123_127, v_123_130, v_123_133, v_123_134, v_123_135, v_123_136, v_123_139, v_123_140, v_123_143, v_123_144, v_123_147, v_123_148, v_123_149, v_123_152, v_123_153, v_123_156, v_123_157, v_123_158, v_123_159, v_123_162, v_123_163, v_123_166, v_123_167, v_123_170, v_123_173, v_123_174, v_123_175, v_123_176, v_123_179, v_123_180, v_123_183, v_123_184, v_123_187, v_123_188, v_123_189, v_123_190, v_123_193, v_123_194, v_123_197, v_123_198, v_123_199, v_123_200, v_123_203, v_123_204, v_123_207, v_123_208, v_123_211, v_123_214, v_123_215, v_123_216, v_123_217, v_123_220, v_123_221, v_123_222, v_123_223, v_123_226, v_123_227, v_123_228, v_123_229, v_123_232, vgi_0, vgi_s, vga_0, vga_s, vset_0, vset_s, vtk_0, vtk_s, vrc_0, vsw_0, vsw_s, List.all_cons, List.all_nil, zc1_i, zc1_r, Bool.and_true, Bool.and_self, true_and, and_true, List.length_cons, List.length_nil, Nat.zero_le, Nat.reduceLeDiff, Nat.reduceAdd, Option.toList_some, List.cons_append, List.nil_append]
    exact h t' ht
end CEV
