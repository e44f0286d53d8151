/-! Frames by addresses; bags. -/
def tF (P : Nat → Prop) (t t' : T) : Prop := ∀ b, ¬ P b → (∀ k, t'.1 b k = t.1 b k) ∧ ∀ k, t'.2 b k = t.2 b k
theorem tF.rf {P : Nat → Prop} {t : T} : tF P t t := fun _ _ => ⟨fun _ => rfl, fun _ => rfl⟩
theorem tF.tr {P : Nat → Prop} {t t1 t2 : T} (h1 : tF P t t1) (h2 : tF P t1 t2) : tF P t t2 := fun b hb => ⟨fun k => ((h2 b hb).1 k).trans ((h1 b hb).1 k), fun k => ((h2 b hb).2 k).trans ((h1 b hb).2 k)⟩
theorem tF.mono {P Q : Nat → Prop} {t t1 : T} (h1 : tF P t t1) (h : ∀ b, P b → Q b) : tF Q t t1 := fun b hb => h1 b (fun z => hb (h b z))
theorem tF.si {P : Nat → Prop} {t t1 : T} {a k : Nat} {v : Int32} (h1 : tF P t t1) (h : P a) : tF P t (tsi t1 a k v) := fun b hb => ⟨fun j => by rw [tsi_ne (by rintro ⟨rfl, -⟩; exact hb h)]; exact (h1 b hb).1 j, (h1 b hb).2⟩
theorem tsr_ne {t : T} {a j b k v : Nat} (h : ¬ (b = a ∧ k = j)) : (tsr t a j v).2 b k = t.2 b k := if_neg h
theorem tsr_eq {t : T} {a j v : Nat} : (tsr t a j v).2 a j = v := if_pos ⟨rfl, rfl⟩
theorem tF.sr {P : Nat → Prop} {t t1 : T} {a k : Nat} {v : Nat} (h1 : tF P t t1) (h : P a) : tF P t (tsr t1 a k v) := fun b hb => ⟨(h1 b hb).1, fun j => by rw [tsr_ne (by rintro ⟨rfl, -⟩; exact hb h)]; exact (h1 b hb).2 j⟩
theorem tF.of {A : List Nat} {P : Nat → Prop} {t t' : T} (h : tO A t t') (h2 : ∀ b, b ∈ A → P b) : tF P t t' := fun b hb => ⟨fun k => h.2 b (fun z => hb (h2 b z)) k, fun k => by rw [h.1]⟩
theorem tF.st {P : Nat → Prop} {t t' : T} {a : Nat} (h : tF P t t') (h1 : ¬ P a) (h2 : ¬ P (a + 1)) : cS t' a = cS t a := by
  funext k
  unfold cS
  rw [(h a h1).1 0, (h (a + 1) h2).1 (k - 1)]
theorem cS_of {t t' : T} {a : Nat} (h1 : ∀ k, t'.1 a k = t.1 a k) (h2 : ∀ k, t'.1 (a + 1) k = t.1 (a + 1) k) : cS t' a = cS t a := by
  funext k
  unfold cS
  rw [h1 0, h2 (k - 1)]
def bags : List Nat := [61, 161, 275, 301, 327, 353, 379, 405, 431, 457]
theorem bag_dec : ∀ a, a < 517 → vtag a = 8 → a ∈ bags := by decide +kernel
def bN (b : Nat) : Nat := vlen (b + 1)
theorem bag_all : ∀ b, b ∈ bags → tmut b 0 = false ∧ tcr b 0 = b + 1 ∧ vtag (b + 1) = 103 ∧ (bN b = 12 ∨ bN b = 40) ∧ [62, 162, 276, 328, 380, 432, 302, 354, 406, 458].contains (b + 1) = true ∧ vtag b = 8 ∧ b + 2 + 2 * bN b ≤ 483 := by decide +kernel
theorem bag_dis : ∀ a, a ∈ bags → ∀ b, b ∈ bags → a ≠ b → a + 2 + 2 * bN a ≤ b ∨ b + 2 + 2 * bN b ≤ a := by decide +kernel
theorem bag_in {b : Nat} (h : vtag b = 8) : b ∈ bags := bag_dec b (vtag_lt h (by omega)) h
section BAG
variable {d : Nat} {t : T} {F : Option Value → T → Prop} {b a c : Nat}
theorem bag_arr (t : T) (h : b ∈ bags) : tref t b 0 = b + 1 := by
  have := bag_all b h
  unfold tref
  rw [this.1, if_neg (by decide), this.2.1]
theorem bag_mut (h : b ∈ bags) (k : Nat) : tmut (b + 1) k = true := by
  have := (bag_all b h).2.2.2.2.1
  unfold tmut
  rw [this, Bool.true_or]
theorem bag_ref (t : T) (h : b ∈ bags) (k : Nat) : tref t (b + 1) k = t.2 (b + 1) k := by
  unfold tref
  rw [if_pos (bag_mut h k)]
def br (t : T) (b k : Nat) : Nat := t.2 (b + 1) k
def bwf (t : T) (b : Nat) : Prop := (∀ k, k < bN b → b + 2 ≤ br t b k ∧ br t b k + 1 < b + 2 + 2 * bN b ∧ vtag (br t b k) = 4) ∧ ∀ j k, j < bN b → k < bN b → br t b j = br t b k → j = k
def bg (t : T) (b k : Nat) : St := cS t (br t b k)
theorem bN_le (h : b ∈ bags) : bN b ≤ 40 := by have := (bag_all b h).2.2.2.1; omega
theorem c_105 {k : Nat} (hd : 1 ≤ d) (hb : b ∈ bags) (hc : t.1 b 1 = nI c) (hc2 : c ≤ bN b) (hk : k < 10) (h1 : c + k ≤ bN b → F (some (.int 1)) t) (h0 : bN b < c + k → F (some (.int 0)) t) : twc d 105 [.ref b, .int (nI k)] t F := by
  have hB := bag_all b hb
  have hN := bN_le hb
  refine ⟨by omega, ?_⟩
  rw [ze_105]
  refine vc_ok none zH_105 22 false _ 105 0 _ _ _ _ ?_
  simp only [v_105_0, v_105_1, v_105_4, v_105_5, v_105_6, v_105_7, v_105_10, v_105_11, v_105_14, v_105_15, v_105_18, v_105_19, vgi_0, vgi_s, vga_0, vga_s, vset_0, vset_s, vtk_0, vtk_s, vrc_0, vsw_0, vsw_s, List.all_cons, List.all_nil, zc1_i, zc1_r, Bool.and_true, Bool.and_self, true_and, and_true, List.length_cons, List.length_nil, Nat.zero_le, Nat.reduceLeDiff, Nat.reduceAdd, Nat.reduceLT, bag_arr t hb, hB.2.2.1, hB.2.2.2.2.2.1, hc]
  have e : Int32.ofNat (vlen (b + 1)) = nI (bN b) := rfl
  rw [e]
  simp (disch := omega) only [nI_add, nI_ltI]
  by_cases z : c + k ≤ bN b
  · rw [if_neg (by omega)]
    simp
    exact h1 z
  · rw [if_pos (by omega)]
    simp
    exact h0 (by omega)
theorem st_lt {x : Nat} (h : vtag x = 4) : x ∉ bags ∧ x + 1 ∉ bags := by
  constructor
  · intro z
    have := (bag_all x z).2.2.2.2.2.1
    omega
  · intro z
    have := (bag_all _ z).2.2.2.2.2.1
    have := st_tag h
    omega
theorem ar_st {x : Nat} (h : vtag x = 4) (hb : b ∈ bags) : b + 1 ≠ x ∧ b + 1 ≠ x + 1 := by
  have hB := bag_all b hb
  constructor
  · intro z; rw [← z] at h; omega
  · intro z
    have := st_tag h
    rw [← z] at this
    omega
theorem st_nb {x : Nat} (h : vtag x = 4) (hb : b ∈ bags) : b ≠ x ∧ b ≠ x + 1 := ⟨fun z => (st_lt h).1 (z ▸ hb), fun z => (st_lt h).2 (z ▸ hb)⟩
theorem c_106 (hd : 2 ≤ d) (hb : b ∈ bags) (hw : bwf t b) (hc : t.1 b 1 = nI c) (hc2 : c < bN b) (ha : vtag a = 4) (h : ∀ t', tO [br t b c, br t b c + 1, b] t t' → cS t' (br t b c) = cS t a → t'.1 b 1 = nI (c + 1) → F (some (.ref (br t b c))) t') : twc d 106 [.ref b, .ref a] t F := by
  have hB := bag_all b hb
  have hN := bN_le hb
  have hx := hw.1 c hc2
  refine ⟨by omega, ?_⟩
  rw [ze_106]
  refine vc_ok none zH_106 27 false _ 106 0 _ _ _ _ ?_
  simp only [v_106_0, v_106_1, v_106_4, v_106_5, v_106_8, v_106_9, v_106_10, v_106_11, v_106_12, v_106_15, v_106_16_int, v_106_16_ref, v_106_17, v_106_20, v_106_21, v_106_22, v_106_25, v_106_26, vgi_0, vgi_s, vga_0, vga_s, vset_0, vset_s, vtk_0, vtk_s, vrc_0, vsw_0, vsw_s, List.all_cons, List.all_nil, zc1_i, zc1_r, Bool.and_true, Bool.and_self, true_and, and_true, List.length_cons, List.length_nil, Nat.zero_le, Nat.reduceLeDiff, Nat.reduceAdd, Nat.reduceLT, bag_arr t hb, bag_ref t hb, hB.2.2.1, hB.2.2.2.2.2.1, hc]
  simp (disch := omega) only [nI_clamp, vinb_n]
  have e : vlen (b + 1) = bN b := rfl
  rw [e]
  have hr : t.2 (b + 1) c = br t b c := rfl
  simp only [hr]
  refine ⟨hc2, hx.2.2, ?_⟩
  refine c_168 (by omega) hx.2.2 ha (fun t1 h1 h2 => ?_)
  have hn := st_nb hx.2.2 hb
  have hc' : t1.1 b 1 = nI c := by rw [h1.2 b (by simp [hn])]; exact hc
  simp only [v_106_0, v_106_1, v_106_4, v_106_5, v_106_8, v_106_9, v_106_10, v_106_11, v_106_12, v_106_15, v_106_16_int, v_106_16_ref, v_106_17, v_106_20, v_106_21, v_106_22, v_106_25, v_106_26, vgi_0, vgi_s, vga_0, vga_s, vset_0, vset_s, vtk_0, vtk_s, vrc_0, vsw_0, vsw_s, List.all_cons, List.all_nil, zc1_i, zc1_r, Bool.and_true, Bool.and_self, true_and, and_true, List.length_cons, List.length_nil, Nat.zero_le, Nat.reduceLeDiff, Nat.reduceAdd, Nat.reduceLT, Option.toList_none, List.nil_append, hB.2.2.2.2.2.1, hc']
  simp only [nI_1]
  refine h _ ((h1.mono (by intro z; simp; omega)).tr (tO.si (by simp))) ?_ tsi_eq
  rw [← h2]
  exact cS_of (fun k => tsi_ne (by omega)) (fun k => tsi_ne (by omega))
theorem l_107 (hd : 3 ≤ d) (hb : b ∈ bags) (hw : bwf t b) (hc : t.1 b 1 = nI c) (hc2 : c ≤ bN b) (ha : vtag a = 4) (hs : ∀ k, k < c → wfS (bg t b k)) (hsa : wfS (cS t a)) (h1 : ∀ k, k < c → bg t b k = cS t a → F (some (.int 1)) t) (h2 : (∀ k, k < c → bg t b k ≠ cS t a) → (c < bN b → ∀ t', tO [br t b c, br t b c + 1, b] t t' → cS t' (br t b c) = cS t a → t'.1 b 1 = nI (c + 1) → F (some (.int 1)) t') ∧ (c = bN b → F (some (.int 0)) t)) : ∀ (j i : Nat), i + j = c → (∀ k, k < i → bg t b k ≠ cS t a) → twp none d 107 2 [.ref b, .ref a, .int (nI i)] [] t F := by
  have hB := bag_all b hb
  have hN := bN_le hb
  have e : vlen (b + 1) = bN b := rfl
  intro j
  induction j with
  | zero =>
    intro i hi hne
    have hi : i = c := by omega
    subst hi
    refine vc_ok none zH_107 39 false _ 107 2 _ _ _ _ ?_
    simp only [v_107_0, v_107_1, v_107_2, h_107_2, v_107_3, v_107_4, v_107_7, v_107_10, v_107_11, v_107_14, v_107_15, v_107_16, v_107_17, v_107_20, v_107_23, v_107_24, v_107_25, v_107_28, v_107_31, v_107_32, v_107_33, v_107_36, v_107_39, v_107_40, v_107_41, v_107_42, v_107_43, v_107_46_int, v_107_46_ref, v_107_47, v_107_48, vgi_0, vgi_s, vga_0, vga_s, vset_0, vset_s, vtk_0, vtk_s, vrc_0, vsw_0, vsw_s, List.all_cons, List.all_nil, zc1_i, zc1_r, Bool.and_true, Bool.and_self, true_and, and_true, List.length_cons, List.length_nil, Nat.zero_le, Nat.reduceLeDiff, Nat.reduceAdd, Nat.reduceLT, bag_arr t hb, bag_ref t hb, hB.2.2.1, hB.2.2.2.2.2.1, hc]
    simp (disch := omega) only [nI_ltI, Nat.lt_irrefl, if_false]
    have h2 := h2 hne
    refine c_105 (k := 1) (by omega) hb hc hc2 (by omega) (fun z => ?_) (fun z => ?_)
    · simp only [v_107_0, v_107_1, v_107_2, h_107_2, v_107_3, v_107_4, v_107_7, v_107_10, v_107_11, v_107_14, v_107_15, v_107_16, v_107_17, v_107_20, v_107_23, v_107_24, v_107_25, v_107_28, v_107_31, v_107_32, v_107_33, v_107_36, v_107_39, v_107_40, v_107_41, v_107_42, v_107_43, v_107_46_int, v_107_46_ref, v_107_47, v_107_48, vgi_0, vgi_s, vga_0, vga_s, vset_0, vset_s, vtk_0, vtk_s, vrc_0, vsw_0, vsw_s, List.all_cons, List.all_nil, zc1_i, zc1_r, Bool.and_true, Bool.and_self, true_and, and_true, List.length_cons, List.length_nil, Nat.zero_le, Nat.reduceLeDiff, Nat.reduceAdd, Nat.reduceLT, Option.toList_some, List.cons_append, List.nil_append, hB.2.2.2.2.2.1]
      rw [if_neg (by decide)]
      refine c_106 (by omega) hb hw hc (by omega) ha (fun t' g1 g2 g3 => ?_)
      simp only [v_107_0, v_107_1, v_107_2, h_107_2, v_107_3, v_107_4, v_107_7, v_107_10, v_107_11, v_107_14, v_107_15, v_107_16, v_107_17, v_107_20, v_107_23, v_107_24, v_107_25, v_107_28, v_107_31, v_107_32, v_107_33, v_107_36, v_107_39, v_107_40, v_107_41, v_107_42, v_107_43, v_107_46_int, v_107_46_ref, v_107_47, v_107_48, vgi_0, vgi_s, vga_0, vga_s, vset_0, vset_s, vtk_0, vtk_s, vrc_0, vsw_0, vsw_s, List.all_cons, List.all_nil, zc1_i, zc1_r, Bool.and_true, Bool.and_self, true_and, and_true, List.length_cons, List.length_nil, Nat.zero_le, Nat.reduceLeDiff, Nat.reduceAdd, Nat.reduceLT, Option.toList_some, List.cons_append, List.nil_append]
      exact ⟨Or.inr trivial, h2.1 (by omega) t' g1 g2 g3⟩
    · simp only [v_107_0, v_107_1, v_107_2, h_107_2, v_107_3, v_107_4, v_107_7, v_107_10, v_107_11, v_107_14, v_107_15, v_107_16, v_107_17, v_107_20, v_107_23, v_107_24, v_107_25, v_107_28, v_107_31, v_107_32, v_107_33, v_107_36, v_107_39, v_107_40, v_107_41, v_107_42, v_107_43, v_107_46_int, v_107_46_ref, v_107_47, v_107_48, vgi_0, vgi_s, vga_0, vga_s, vset_0, vset_s, vtk_0, vtk_s, vrc_0, vsw_0, vsw_s, List.all_cons, List.all_nil, zc1_i, zc1_r, Bool.and_true, Bool.and_self, true_and, and_true, List.length_cons, List.length_nil, Nat.zero_le, Nat.reduceLeDiff, Nat.reduceAdd, Nat.reduceLT, Option.toList_some, List.cons_append, List.nil_append]
      rw [if_pos (by decide)]
      exact ⟨Or.inl trivial, h2.2 (by omega)⟩
  | succ j ih =>
    intro i hi hne
    have hx := hw.1 i (by omega)
    have hr : t.2 (b + 1) i = br t b i := rfl
    refine vc_ok none zH_107 39 false _ 107 2 _ _ _ _ ?_
    simp only [v_107_0, v_107_1, v_107_2, h_107_2, v_107_3, v_107_4, v_107_7, v_107_10, v_107_11, v_107_14, v_107_15, v_107_16, v_107_17, v_107_20, v_107_23, v_107_24, v_107_25, v_107_28, v_107_31, v_107_32, v_107_33, v_107_36, v_107_39, v_107_40, v_107_41, v_107_42, v_107_43, v_107_46_int, v_107_46_ref, v_107_47, v_107_48, vgi_0, vgi_s, vga_0, vga_s, vset_0, vset_s, vtk_0, vtk_s, vrc_0, vsw_0, vsw_s, List.all_cons, List.all_nil, zc1_i, zc1_r, Bool.and_true, Bool.and_self, true_and, and_true, List.length_cons, List.length_nil, Nat.zero_le, Nat.reduceLeDiff, Nat.reduceAdd, Nat.reduceLT, bag_arr t hb, bag_ref t hb, hB.2.2.1, hB.2.2.2.2.2.1, hc]
    simp (disch := omega) only [nI_ltI, nI_clamp, vinb_n, hr, e]
    rw [if_pos (by omega)]
    refine ⟨by omega, hx.2.2, ?_⟩
    refine c_169 (by omega) hx.2.2 ha (hs i (by omega)) hsa (fun r hr => ?_)
    simp only [v_107_0, v_107_1, v_107_2, h_107_2, v_107_3, v_107_4, v_107_7, v_107_10, v_107_11, v_107_14, v_107_15, v_107_16, v_107_17, v_107_20, v_107_23, v_107_24, v_107_25, v_107_28, v_107_31, v_107_32, v_107_33, v_107_36, v_107_39, v_107_40, v_107_41, v_107_42, v_107_43, v_107_46_int, v_107_46_ref, v_107_47, v_107_48, vgi_0, vgi_s, vga_0, vga_s, vset_0, vset_s, vtk_0, vtk_s, vrc_0, vsw_0, vsw_s, List.all_cons, List.all_nil, zc1_i, zc1_r, Bool.and_true, Bool.and_self, true_and, and_true, List.length_cons, List.length_nil, Nat.zero_le, Nat.reduceLeDiff, Nat.reduceAdd, Nat.reduceLT, Option.toList_some, List.cons_append, List.nil_append]
    have hz := hr.2.trans (so_zero (hs i (by omega)) hsa)
    by_cases hr0 : r = 0
    · rw [if_pos hr0]
      exact ⟨Or.inr trivial, h1 i (by omega) (hz.mp hr0)⟩
    · rw [if_neg hr0]
      simp only [nI_1]
      refine ih (i + 1) (by omega) (fun k hk => ?_)
      by_cases z : k = i
      · rw [z]; exact fun y => hr0 (hz.mpr y)
      · exact hne k (by omega)
theorem c_107 (hd : 4 ≤ d) (hb : b ∈ bags) (hw : bwf t b) (hc : t.1 b 1 = nI c) (hc2 : c ≤ bN b) (ha : vtag a = 4) (hs : ∀ k, k < c → wfS (bg t b k)) (hsa : wfS (cS t a)) (h1 : ∀ k, k < c → bg t b k = cS t a → F (some (.int 1)) t) (h2 : (∀ k, k < c → bg t b k ≠ cS t a) → (c < bN b → ∀ t', tO [br t b c, br t b c + 1, b] t t' → cS t' (br t b c) = cS t a → t'.1 b 1 = nI (c + 1) → F (some (.int 1)) t') ∧ (c = bN b → F (some (.int 0)) t)) : twc d 107 [.ref b, .ref a] t F := by
  refine ⟨by omega, ?_⟩
  rw [ze_107]
  refine vc_ok none zH_107 39 false _ 107 0 _ _ _ _ ?_
  simp only [v_107_0, v_107_1, v_107_2, h_107_2, v_107_3, v_107_4, v_107_7, v_107_10, v_107_11, v_107_14, v_107_15, v_107_16, v_107_17, v_107_20, v_107_23, v_107_24, v_107_25, v_107_28, v_107_31, v_107_32, v_107_33, v_107_36, v_107_39, v_107_40, v_107_41, v_107_42, v_107_43, v_107_46_int, v_107_46_ref, v_107_47, v_107_48, vgi_0, vgi_s, vga_0, vga_s, vset_0, vset_s, vtk_0, vtk_s, vrc_0, vsw_0, vsw_s, List.all_cons, List.all_nil, zc1_i, zc1_r, Bool.and_true, Bool.and_self, true_and, and_true, List.length_cons, List.length_nil, Nat.zero_le, Nat.reduceLeDiff, Nat.reduceAdd, Nat.reduceLT]
  exact l_107 (by omega) hb hw hc hc2 ha hs hsa h1 h2 c 0 (by omega) (fun k hk => absurd hk (Nat.not_lt_zero _))
theorem c_108 {i j : Nat} (hd : 1 ≤ d) (hb : b ∈ bags) (hw : bwf t b) (hi : i < bN b) (hj : j < bN b) (h : F none (tsr (tsr t (b + 1) i (br t b j)) (b + 1) j (br t b i))) : twc d 108 [.ref b, .int (nI i), .int (nI j)] t F := by
  have hB := bag_all b hb
  have hN := bN_le hb
  have e : vlen (b + 1) = bN b := rfl
  have hxi := hw.1 i hi
  have hxj := hw.1 j hj
  have hri : t.2 (b + 1) i = br t b i := rfl
  have hrj : t.2 (b + 1) j = br t b j := rfl
  refine ⟨by omega, ?_⟩
  rw [ze_108]
  refine vc_ok none zH_108 29 false _ 108 0 _ _ _ _ ?_
  simp only [v_108_0, v_108_1, v_108_4, v_108_5, v_108_6, v_108_7, v_108_8, v_108_11, v_108_12, v_108_13, v_108_16, v_108_17, v_108_18, v_108_19, v_108_20, v_108_23, v_108_24, v_108_25, v_108_26, vgi_0, vgi_s, vga_0, vga_s, vset_0, vset_s, vtk_0, vtk_s, vrc_0, vsw_0, vsw_s, List.all_cons, List.all_nil, zc1_i, zc1_r, Bool.and_true, Bool.and_self, true_and, and_true, List.length_cons, List.length_nil, Nat.zero_le, Nat.reduceLeDiff, Nat.reduceAdd, Nat.reduceLT, bag_arr _ hb, bag_ref t hb, hB.2.2.1, hB.2.2.2.2.2.1]
  simp (disch := omega) only [nI_clamp, vinb_n, hri, hrj, e, hxi.2.2, hxj.2.2, bag_mut hb]
  exact ⟨hi, hj, rfl, hi, trivial, rfl, hj, trivial, h⟩
end BAG
