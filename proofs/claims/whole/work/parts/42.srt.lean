/-! Sorting, on both sides. -/
section SRT
variable {d : Nat} {t : T} {F : Option Value → T → Prop} {b a c : Nat}
def sR (t t' : T) (b c : Nat) : Prop := t'.1 = t.1 ∧ (∀ a k, ¬ (a = b + 1 ∧ k < c) → t'.2 a k = t.2 a k) ∧ bwf t' b ∧ (lst (bg t' b) c).Perm (lst (bg t b) c)
theorem bg_swap {t : T} {b i j : Nat} (k : Nat) : bg (tsr (tsr t (b + 1) i (br t b j)) (b + 1) j (br t b i)) b k = if k = j then bg t b i else if k = i then bg t b j else bg t b k := by
  unfold bg br
  by_cases h1 : k = j
  · rw [if_pos h1, h1, tsr_eq]; rfl
  · rw [if_neg h1, tsr_ne (fun z => h1 z.2)]
    by_cases h2 : k = i
    · rw [if_pos h2, h2, tsr_eq]; rfl
    · rw [if_neg h2, tsr_ne (fun z => h2 z.2)]; rfl
theorem br_swap {t : T} {b i j : Nat} (k : Nat) : br (tsr (tsr t (b + 1) i (br t b j)) (b + 1) j (br t b i)) b k = if k = j then br t b i else if k = i then br t b j else br t b k := by
  unfold br
  by_cases h1 : k = j
  · rw [if_pos h1, h1, tsr_eq]
  · rw [if_neg h1, tsr_ne (fun z => h1 z.2)]
    by_cases h2 : k = i
    · rw [if_pos h2, h2, tsr_eq]
    · rw [if_neg h2, tsr_ne (fun z => h2 z.2)]
theorem bwf_swap {t : T} {b i j : Nat} (hw : bwf t b) (hi : i < bN b) (hj : j < bN b) : bwf (tsr (tsr t (b + 1) i (br t b j)) (b + 1) j (br t b i)) b := by
  constructor
  · intro k hk
    rw [br_swap]
    by_cases h1 : k = j
    · rw [if_pos h1]; exact hw.1 i hi
    · rw [if_neg h1]
      by_cases h2 : k = i
      · rw [if_pos h2]; exact hw.1 j hj
      · rw [if_neg h2]; exact hw.1 k hk
  · intro x y hx hy
    rw [br_swap, br_swap]
    intro e
    have hinj := hw.2
    by_cases x1 : x = j
    · rw [if_pos x1] at e
      by_cases y1 : y = j
      · omega
      · rw [if_neg y1] at e
        by_cases y2 : y = i
        · rw [if_pos y2] at e
          have := hinj i j hi hj e
          omega
        · rw [if_neg y2] at e
          have := hinj i y hi hy e
          omega
    · rw [if_neg x1] at e
      by_cases x2 : x = i
      · rw [if_pos x2] at e
        by_cases y1 : y = j
        · rw [if_pos y1] at e
          have := hinj j i hj hi e
          omega
        · rw [if_neg y1] at e
          by_cases y2 : y = i
          · omega
          · rw [if_neg y2] at e
            have := hinj j y hj hy e
            omega
      · rw [if_neg x2] at e
        by_cases y1 : y = j
        · rw [if_pos y1] at e
          have := hinj x i hx hi e
          omega
        · rw [if_neg y1] at e
          by_cases y2 : y = i
          · rw [if_pos y2] at e
            have := hinj x j hx hj e
            omega
          · rw [if_neg y2] at e
            exact hinj x y hx hy e
theorem sR.wf {t' : T} (h : sR t t' b c) (hs : ∀ k, k < c → wfS (bg t b k)) : ∀ k, k < c → wfS (bg t' b k) := by
  intro k hk
  have : bg t' b k ∈ lst (bg t b) c := h.2.2.2.mem_iff.mp (lst_mem.mpr ⟨k, hk, rfl⟩)
  obtain ⟨j, hj, e⟩ := lst_mem.mp this
  rw [← e]
  exact hs j hj
theorem l_109b {i : Nat} (hd : 2 ≤ d) (hb : b ∈ bags) (hc2 : c ≤ bN b) (hs : ∀ k, k < c → wfS (bg t b k)) (hi : i < c) (h : ∀ (t' : T) (jv : Value), sR t t' b c → (∀ k, k + 1 ≤ i → so (bg t' b k) (bg t' b (k + 1)) ≤ 0) → twp none d 109 2 [.ref b, .int (nI (i + 1)), jv] [] t' F) : ∀ (j : Nat) (t' : T), j ≤ i → sR t t' b c → (∀ k, k + 1 ≤ i → k + 1 ≠ j → so (bg t' b k) (bg t' b (k + 1)) ≤ 0) → (0 < j → j + 1 ≤ i → so (bg t' b (j - 1)) (bg t' b (j + 1)) ≤ 0) → twp none d 109 12 [.ref b, .int (nI i), .int (nI j)] [] t' F := by
  have hB := bag_all b hb
  have hN := bN_le hb
  have e : vlen (b + 1) = bN b := rfl
  intro j
  induction j with
  | zero =>
    intro t' hj hR h1 h2
    refine vc_ok none zH_109 43 false _ 109 12 _ _ _ _ ?_
    simp only [v_109_0, v_109_1, v_109_2, h_109_2, v_109_3, v_109_4, v_109_7, v_109_10, v_109_11, v_109_12, h_109_12, v_109_13, v_109_16, v_109_17, v_109_20, v_109_21, v_109_22, v_109_23, v_109_26, v_109_27, v_109_28, v_109_29, v_109_30, v_109_33, v_109_36, v_109_37, v_109_38, v_109_39, v_109_40, v_109_41, v_109_44, v_109_47, v_109_50, v_109_53, v_109_56, vgi_0, vgi_s, vga_0, vga_s, vset_0, vset_s, vtk_0, vtk_s, vrc_0, vsw_0, vsw_s, List.all_cons, List.all_nil, zc1_i, zc1_r, Bool.and_true, Bool.and_self, true_and, and_true, List.length_cons, List.length_nil, Nat.zero_le, Nat.reduceLeDiff, Nat.reduceAdd, Nat.reduceLT]
    rw [if_neg (by decide), nI_1]
    exact h t' _ hR (fun k hk => h1 k hk (by omega))
  | succ j ih =>
    intro t' hj hR h1 h2
    have hw := hR.2.2.1
    have hs' := hR.wf hs
    have hx := hw.1 (j + 1) (by omega)
    have hy := hw.1 j (by omega)
    have hri : t'.2 (b + 1) (j + 1) = br t' b (j + 1) := rfl
    have hrj : t'.2 (b + 1) j = br t' b j := rfl
    refine vc_ok none zH_109 43 false _ 109 12 _ _ _ _ ?_
    simp only [v_109_0, v_109_1, v_109_2, h_109_2, v_109_3, v_109_4, v_109_7, v_109_10, v_109_11, v_109_12, h_109_12, v_109_13, v_109_16, v_109_17, v_109_20, v_109_21, v_109_22, v_109_23, v_109_26, v_109_27, v_109_28, v_109_29, v_109_30, v_109_33, v_109_36, v_109_37, v_109_38, v_109_39, v_109_40, v_109_41, v_109_44, v_109_47, v_109_50, v_109_53, v_109_56, vgi_0, vgi_s, vga_0, vga_s, vset_0, vset_s, vtk_0, vtk_s, vrc_0, vsw_0, vsw_s, List.all_cons, List.all_nil, zc1_i, zc1_r, Bool.and_true, Bool.and_self, true_and, and_true, List.length_cons, List.length_nil, Nat.zero_le, Nat.reduceLeDiff, Nat.reduceAdd, Nat.reduceLT, bag_arr _ hb, bag_ref t' hb, hB.2.2.1, hB.2.2.2.2.2.1]
    rw [if_pos (show (0 : Int32) < nI (j + 1) from nI_lt (a := 0) (by omega) (by omega))]
    simp (disch := omega) only [nI_clamp, vinb_n, nI_pred, e, hri, hrj]
    refine ⟨by omega, by omega, hx.2.2, ?_⟩
    refine c_169 (by omega) hx.2.2 hy.2.2 (hs' _ (by omega)) (hs' _ (by omega)) (fun r hr => ?_)
    have hr : sgn r (so (bg t' b (j + 1)) (bg t' b j)) := hr
    have hv := so_v (bg t' b (j + 1)) (bg t' b j)
    have hav := so_anti (bg t' b (j + 1)) (bg t' b j)
    simp only [v_109_0, v_109_1, v_109_2, h_109_2, v_109_3, v_109_4, v_109_7, v_109_10, v_109_11, v_109_12, h_109_12, v_109_13, v_109_16, v_109_17, v_109_20, v_109_21, v_109_22, v_109_23, v_109_26, v_109_27, v_109_28, v_109_29, v_109_30, v_109_33, v_109_36, v_109_37, v_109_38, v_109_39, v_109_40, v_109_41, v_109_44, v_109_47, v_109_50, v_109_53, v_109_56, vgi_0, vgi_s, vga_0, vga_s, vset_0, vset_s, vtk_0, vtk_s, vrc_0, vsw_0, vsw_s, List.all_cons, List.all_nil, zc1_i, zc1_r, Bool.and_true, Bool.and_self, true_and, and_true, List.length_cons, List.length_nil, Nat.zero_le, Nat.reduceLeDiff, Nat.reduceAdd, Nat.reduceLT, Option.toList_some, List.cons_append, List.nil_append, hB.2.2.2.2.2.1]
    by_cases hr0 : r < 0
    · have hm := hr.1.mp hr0
      rw [if_pos hr0]
      simp only [nI_pred]
      refine c_108 (by omega) hb hw (by omega) (by omega) ?_
      simp only [v_109_0, v_109_1, v_109_2, h_109_2, v_109_3, v_109_4, v_109_7, v_109_10, v_109_11, v_109_12, h_109_12, v_109_13, v_109_16, v_109_17, v_109_20, v_109_21, v_109_22, v_109_23, v_109_26, v_109_27, v_109_28, v_109_29, v_109_30, v_109_33, v_109_36, v_109_37, v_109_38, v_109_39, v_109_40, v_109_41, v_109_44, v_109_47, v_109_50, v_109_53, v_109_56, vgi_0, vgi_s, vga_0, vga_s, vset_0, vset_s, vtk_0, vtk_s, vrc_0, vsw_0, vsw_s, List.all_cons, List.all_nil, zc1_i, zc1_r, Bool.and_true, Bool.and_self, true_and, and_true, List.length_cons, List.length_nil, Nat.zero_le, Nat.reduceLeDiff, Nat.reduceAdd, Nat.reduceLT, Option.toList_none, List.nil_append]
      rw [pk_m1]
      have hg := fun k => bg_swap (t := t') (b := b) (i := j + 1) (j := j) k
      refine ih _ (by omega) ⟨hR.1, fun a k hk => ?_, bwf_swap hw (by omega) (by omega), ?_⟩ (fun k hk hne => ?_) (fun z1 z2 => ?_)
      · rw [tsr_ne (fun z => hk ⟨z.1, by omega⟩), tsr_ne (fun z => hk ⟨z.1, by omega⟩)]
        exact hR.2.1 a k hk
      · refine (lst_swap (g := bg t' b) (k := j) ?_ ?_ (fun k k1 k2 => ?_) c (by omega)).trans hR.2.2.2
        · rw [hg, if_pos rfl]
        · rw [hg, if_neg (by omega), if_pos rfl]
        · rw [hg, if_neg k1, if_neg k2]
      · rw [hg, hg]
        by_cases k1 : k = j
        · subst k1
          rw [if_pos rfl, if_neg (by omega), if_pos rfl]
          omega
        · rw [if_neg k1]
          by_cases k2 : k = j + 1
          · rw [if_pos k2, if_neg (by omega), if_neg (by omega)]
            have := h2 (by omega) (by omega)
            rw [k2]
            exact this
          · rw [if_neg k2, if_neg (by omega), if_neg (by omega)]
            exact h1 k hk (by omega)
      · rw [hg, hg, if_neg (by omega), if_neg (by omega), if_neg (by omega), if_pos rfl]
        have := h1 (j - 1) (by omega) (by omega)
        rw [show j - 1 + 1 = j by omega] at this
        exact this
    · have hm : ¬ so (bg t' b (j + 1)) (bg t' b j) = -1 := fun z => hr0 (hr.1.mpr z)
      rw [if_neg hr0]
      rw [nI_1]
      refine h t' _ hR (fun k hk => ?_)
      by_cases k1 : k = j
      · subst k1
        omega
      · exact h1 k hk (by omega)
theorem l_109a (hd : 2 ≤ d) (hb : b ∈ bags) (hc : t.1 b 1 = nI c) (hc2 : c ≤ bN b) (hs : ∀ k, k < c → wfS (bg t b k)) (h : ∀ t', sR t t' b c → srt (bg t' b) c → F none t') : ∀ (j i : Nat) (t' : T) (jv : Value), (i + j = c ∨ (c ≤ i ∧ j = 0 ∧ i < 100)) → 1 ≤ i → sR t t' b c → (∀ k, k + 1 < i → so (bg t' b k) (bg t' b (k + 1)) ≤ 0) → twp none d 109 2 [.ref b, .int (nI i), jv] [] t' F := by
  have hB := bag_all b hb
  have hN := bN_le hb
  intro j
  induction j with
  | zero =>
    intro i t' jv hi h1i hR h1
    have hc' : t'.1 b 1 = nI c := by rw [hR.1]; exact hc
    refine vc_ok none zH_109 43 false _ 109 2 _ _ _ _ ?_
    simp only [v_109_0, v_109_1, v_109_2, h_109_2, v_109_3, v_109_4, v_109_7, v_109_10, v_109_11, v_109_12, h_109_12, v_109_13, v_109_16, v_109_17, v_109_20, v_109_21, v_109_22, v_109_23, v_109_26, v_109_27, v_109_28, v_109_29, v_109_30, v_109_33, v_109_36, v_109_37, v_109_38, v_109_39, v_109_40, v_109_41, v_109_44, v_109_47, v_109_50, v_109_53, v_109_56, vgi_0, vgi_s, vga_0, vga_s, vset_0, vset_s, vtk_0, vtk_s, vrc_0, vsw_0, vsw_s, List.all_cons, List.all_nil, zc1_i, zc1_r, Bool.and_true, Bool.and_self, true_and, and_true, List.length_cons, List.length_nil, Nat.zero_le, Nat.reduceLeDiff, Nat.reduceAdd, Nat.reduceLT, hB.2.2.2.2.2.1, hc']
    simp (disch := omega) only [nI_ltI]
    rw [if_neg (by omega)]
    exact h t' hR (srt_adj (fun k hk => h1 k (by omega)))
  | succ j ih =>
    intro i t' jv hi h1i hR h1
    have hc' : t'.1 b 1 = nI c := by rw [hR.1]; exact hc
    refine vc_ok none zH_109 43 false _ 109 2 _ _ _ _ ?_
    simp only [v_109_0, v_109_1, v_109_2, h_109_2, v_109_3, v_109_4, v_109_7, v_109_10, v_109_11, v_109_12, h_109_12, v_109_13, v_109_16, v_109_17, v_109_20, v_109_21, v_109_22, v_109_23, v_109_26, v_109_27, v_109_28, v_109_29, v_109_30, v_109_33, v_109_36, v_109_37, v_109_38, v_109_39, v_109_40, v_109_41, v_109_44, v_109_47, v_109_50, v_109_53, v_109_56, vgi_0, vgi_s, vga_0, vga_s, vset_0, vset_s, vtk_0, vtk_s, vrc_0, vsw_0, vsw_s, List.all_cons, List.all_nil, zc1_i, zc1_r, Bool.and_true, Bool.and_self, true_and, and_true, List.length_cons, List.length_nil, Nat.zero_le, Nat.reduceLeDiff, Nat.reduceAdd, Nat.reduceLT, hB.2.2.2.2.2.1, hc']
    simp (disch := omega) only [nI_ltI]
    rw [if_pos (by omega)]
    refine l_109b hd hb hc2 hs (by omega) (fun t2 jv h2 h3 => ?_) i t' (Nat.le_refl _) hR (fun k hk hne => h1 k (by omega)) (fun _ z => by omega)
    exact ih (i + 1) t2 jv (by omega) (by omega) h2 (fun k hk => h3 k (by omega))
theorem c_109 (hd : 3 ≤ d) (hb : b ∈ bags) (hw : bwf t b) (hc : t.1 b 1 = nI c) (hc2 : c ≤ bN b) (hs : ∀ k, k < c → wfS (bg t b k)) (h : ∀ t', sR t t' b c → srt (bg t' b) c → F none t') : twc d 109 [.ref b] t F := by
  have hN := bN_le hb
  refine ⟨by omega, ?_⟩
  rw [ze_109]
  refine vc_ok none zH_109 43 false _ 109 0 _ _ _ _ ?_
  simp only [v_109_0, v_109_1, v_109_2, h_109_2, v_109_3, v_109_4, v_109_7, v_109_10, v_109_11, v_109_12, h_109_12, v_109_13, v_109_16, v_109_17, v_109_20, v_109_21, v_109_22, v_109_23, v_109_26, v_109_27, v_109_28, v_109_29, v_109_30, v_109_33, v_109_36, v_109_37, v_109_38, v_109_39, v_109_40, v_109_41, v_109_44, v_109_47, v_109_50, v_109_53, v_109_56, vgi_0, vgi_s, vga_0, vga_s, vset_0, vset_s, vtk_0, vtk_s, vrc_0, vsw_0, vsw_s, List.all_cons, List.all_nil, zc1_i, zc1_r, Bool.and_true, Bool.and_self, true_and, and_true, List.length_cons, List.length_nil, Nat.zero_le, Nat.reduceLeDiff, Nat.reduceAdd, Nat.reduceLT]
  exact l_109a (by omega) hb hc hc2 hs h (c - 1) 1 t _ (by omega) (by omega) ⟨rfl, fun _ _ _ => rfl, hw, List.Perm.refl _⟩ (fun k hk => by omega)

def mG (A R : Nat → Prop) (t t' : T) : Prop := t'.2 = t.2 ∧ (∀ b, b ≠ 484 → ¬ A b → ∀ k, t'.1 b k = t.1 b k) ∧ ∀ s, ¬ R s → mS t' s = mS t s
theorem mG.rf {A R : Nat → Prop} {t : T} : mG A R t t := ⟨rfl, fun _ _ _ _ => rfl, fun _ _ => rfl⟩
theorem mG.tr {A R : Nat → Prop} {t t1 t2 : T} (h1 : mG A R t t1) (h2 : mG A R t1 t2) : mG A R t t2 := ⟨h2.1.trans h1.1, fun b hb hb2 k => (h2.2.1 b hb hb2 k).trans (h1.2.1 b hb hb2 k), fun s hs => (h2.2.2 s hs).trans (h1.2.2 s hs)⟩
theorem mG.mono {A B R P : Nat → Prop} {t t1 : T} (h1 : mG A R t t1) (h : ∀ b, A b → B b) (h2 : ∀ b, R b → P b) : mG B P t t1 := ⟨h1.1, fun b hb hb2 k => h1.2.1 b hb (fun q => hb2 (h b q)) k, fun s hs => h1.2.2 s (fun q => hs (h2 s q))⟩
theorem mG.of {A R : List Nat} {B P : Nat → Prop} {t t1 : T} (h1 : mO A R t t1) (h : ∀ b, b ∈ A → B b) (h2 : ∀ b, b ∈ R → P b) : mG B P t t1 := ⟨h1.1, fun b hb hb2 k => h1.2.1 b hb (fun q => hb2 (h b q)) k, fun s hs => h1.2.2 s (fun q => hs (h2 s q))⟩
/-- a copy, by predicates -/
theorem c_44g {s r : Nat} {A P : Nat → Prop} (hd : 2 ≤ d) (hs : s < 184) (hr : r < 184) (hb : bS (mS t s)) (hP : P r) (h : ∀ t', mG A P t t' → (∀ x, mS t' x = if x = r then mS t s else mS t x) → F none t') : twc d 44 [.ref 483, .int (nI s), .int (nI r)] t F := by
  refine c_44 hd hs hr hb (fun t' h1 h2 => h t' (mG.of h1 (fun b hb => by cases hb) (fun b hb => by rw [List.mem_singleton] at hb; rw [hb]; exact hP)) (fun x => ?_))
  by_cases z : x = r
  · rw [if_pos z, z]; exact h2
  · rw [if_neg z]; exact h1.2.2 x (by simpa using z)
def sP (p n : Nat) : Nat → Prop := fun s => (p ≤ s ∧ s < p + n) ∨ s = 183
def sM (t t' : T) (p n : Nat) : Prop := mG (fun _ => False) (sP p n) t t' ∧ (lst (fun k => mS t' (p + k)) n).Perm (lst (fun k => mS t (p + k)) n)
theorem sM.wf {t' : T} {p n : Nat} (h : sM t t' p n) (hs : ∀ k, k < n → wfS (mS t (p + k))) : ∀ k, k < n → wfS (mS t' (p + k)) := by
  intro k hk
  have : mS t' (p + k) ∈ lst (fun k => mS t (p + k)) n := h.2.mem_iff.mp (lst_mem.mpr ⟨k, hk, rfl⟩)
  obtain ⟨j, hj, e⟩ := lst_mem.mp this
  rw [← e]
  exact hs j hj
theorem l_46b {p n i : Nat} (hd : 4 ≤ d) (hp : p + n ≤ 183) (hs : ∀ k, k < n → wfS (mS t (p + k))) (hi : i < n) (h : ∀ (t' : T) (jv : Value), sM t t' p n → (∀ k l, k ≤ i → k ≤ l → l < n → so (mS t' (p + k)) (mS t' (p + l)) ≤ 0) → twp none d 46 2 [.ref 483, .int (nI p), .int (nI n), .int (nI (i + 1)), jv] [] t' F) : ∀ (j k : Nat) (t' : T), k = i + j → k < n → sM t t' p n → (∀ x l, x < i → x ≤ l → l < n → so (mS t' (p + x)) (mS t' (p + l)) ≤ 0) → (∀ l, k ≤ l → l < n → so (mS t' (p + k)) (mS t' (p + l)) ≤ 0) → twp none d 46 12 [.ref 483, .int (nI p), .int (nI n), .int (nI i), .int (nI k)] [] t' F := by
  intro j
  induction j with
  | zero =>
    intro k t' hk hkn hR h1 h2
    have hk : k = i := by omega
    subst hk
    refine vc_ok none zH_46 62 false _ 46 12 _ _ _ _ ?_
    simp only [v_46_0, v_46_1, v_46_2, h_46_2, v_46_3, v_46_4, v_46_7, v_46_8, v_46_9, v_46_10, v_46_12, h_46_12, v_46_14, v_46_15, v_46_18, v_46_19, v_46_20, v_46_22, v_46_23, v_46_24, v_46_26, v_46_27, v_46_28, v_46_29, v_46_32, v_46_35, v_46_36, v_46_37, v_46_39, v_46_40, v_46_43, v_46_46, v_46_47, v_46_48, v_46_50, v_46_51, v_46_52, v_46_53, v_46_54, v_46_56, v_46_57, v_46_60, v_46_61, v_46_64, v_46_65, v_46_67, v_46_68, v_46_69, v_46_70, v_46_73, v_46_76, v_46_79, v_46_82, v_46_85, vgi_0, vgi_s, vga_0, vga_s, vset_0, vset_s, vtk_0, vtk_s, vrc_0, vsw_0, vsw_s, List.all_cons, List.all_nil, zc1_i, zc1_r, Bool.and_true, Bool.and_self, true_and, and_true, List.length_cons, List.length_nil, Nat.zero_le, Nat.reduceLeDiff, Nat.reduceAdd, Nat.reduceLT]
    simp (disch := omega) only [nI_ltI]
    rw [if_neg (by omega), nI_1]
    refine h t' _ hR (fun x l hx hl hln => ?_)
    by_cases z : x = k
    · rw [z]; exact h2 l (by omega) hln
    · exact h1 x l (by omega) hl hln
  | succ j ih =>
    intro k t' hk hkn hR h1 h2
    obtain ⟨m, rfl⟩ : ∃ m, k = m + 1 := ⟨k - 1, by omega⟩
    have hs' := hR.wf hs
    have e1 : p + (m + 1) - 1 = p + m := by omega
    refine vc_ok none zH_46 62 false _ 46 12 _ _ _ _ ?_
    simp only [v_46_0, v_46_1, v_46_2, h_46_2, v_46_3, v_46_4, v_46_7, v_46_8, v_46_9, v_46_10, v_46_12, h_46_12, v_46_14, v_46_15, v_46_18, v_46_19, v_46_20, v_46_22, v_46_23, v_46_24, v_46_26, v_46_27, v_46_28, v_46_29, v_46_32, v_46_35, v_46_36, v_46_37, v_46_39, v_46_40, v_46_43, v_46_46, v_46_47, v_46_48, v_46_50, v_46_51, v_46_52, v_46_53, v_46_54, v_46_56, v_46_57, v_46_60, v_46_61, v_46_64, v_46_65, v_46_67, v_46_68, v_46_69, v_46_70, v_46_73, v_46_76, v_46_79, v_46_82, v_46_85, vgi_0, vgi_s, vga_0, vga_s, vset_0, vset_s, vtk_0, vtk_s, vrc_0, vsw_0, vsw_s, List.all_cons, List.all_nil, zc1_i, zc1_r, Bool.and_true, Bool.and_self, true_and, and_true, List.length_cons, List.length_nil, Nat.zero_le, Nat.reduceLeDiff, Nat.reduceAdd, Nat.reduceLT, tg_483]
    simp (disch := omega) only [nI_ltI, nI_add, li1, pk_sub, e1]
    rw [if_pos (by omega)]
    refine c_45 (by omega) (by omega) (by omega) (fun r hr => ?_)
    have hv := so_v (mS t' (p + (m + 1))) (mS t' (p + m))
    have hav := so_anti (mS t' (p + (m + 1))) (mS t' (p + m))
    simp only [v_46_0, v_46_1, v_46_2, h_46_2, v_46_3, v_46_4, v_46_7, v_46_8, v_46_9, v_46_10, v_46_12, h_46_12, v_46_14, v_46_15, v_46_18, v_46_19, v_46_20, v_46_22, v_46_23, v_46_24, v_46_26, v_46_27, v_46_28, v_46_29, v_46_32, v_46_35, v_46_36, v_46_37, v_46_39, v_46_40, v_46_43, v_46_46, v_46_47, v_46_48, v_46_50, v_46_51, v_46_52, v_46_53, v_46_54, v_46_56, v_46_57, v_46_60, v_46_61, v_46_64, v_46_65, v_46_67, v_46_68, v_46_69, v_46_70, v_46_73, v_46_76, v_46_79, v_46_82, v_46_85, vgi_0, vgi_s, vga_0, vga_s, vset_0, vset_s, vtk_0, vtk_s, vrc_0, vsw_0, vsw_s, List.all_cons, List.all_nil, zc1_i, zc1_r, Bool.and_true, Bool.and_self, true_and, and_true, List.length_cons, List.length_nil, Nat.zero_le, Nat.reduceLeDiff, Nat.reduceAdd, Nat.reduceLT, Option.toList_some, List.cons_append, List.nil_append, tg_483]
    by_cases hr0 : r < 0
    · have hm := hr.1.mp hr0
      rw [if_pos hr0]
      simp only [nI_add]
      refine c_44g (A := fun _ => False) (P := sP p n) (r := 183) (by omega) (by omega) (by omega) (hs' _ hkn).b (Or.inr rfl) (fun t1 g1 e1' => ?_)
      simp only [v_46_0, v_46_1, v_46_2, h_46_2, v_46_3, v_46_4, v_46_7, v_46_8, v_46_9, v_46_10, v_46_12, h_46_12, v_46_14, v_46_15, v_46_18, v_46_19, v_46_20, v_46_22, v_46_23, v_46_24, v_46_26, v_46_27, v_46_28, v_46_29, v_46_32, v_46_35, v_46_36, v_46_37, v_46_39, v_46_40, v_46_43, v_46_46, v_46_47, v_46_48, v_46_50, v_46_51, v_46_52, v_46_53, v_46_54, v_46_56, v_46_57, v_46_60, v_46_61, v_46_64, v_46_65, v_46_67, v_46_68, v_46_69, v_46_70, v_46_73, v_46_76, v_46_79, v_46_82, v_46_85, vgi_0, vgi_s, vga_0, vga_s, vset_0, vset_s, vtk_0, vtk_s, vrc_0, vsw_0, vsw_s, List.all_cons, List.all_nil, zc1_i, zc1_r, Bool.and_true, Bool.and_self, true_and, and_true, List.length_cons, List.length_nil, Nat.zero_le, Nat.reduceLeDiff, Nat.reduceAdd, Nat.reduceLT, Option.toList_none, List.nil_append, tg_483]
      simp (disch := omega) only [nI_add, li1, pk_sub, e1]
      refine c_44g (A := fun _ => False) (P := sP p n) (by omega) (by omega) (by omega) ?_ (Or.inl ⟨by omega, by omega⟩) (fun t2 g2 e2' => ?_)
      · rw [e1', if_neg (by omega)]; exact (hs' _ (by omega)).b
      simp only [v_46_0, v_46_1, v_46_2, h_46_2, v_46_3, v_46_4, v_46_7, v_46_8, v_46_9, v_46_10, v_46_12, h_46_12, v_46_14, v_46_15, v_46_18, v_46_19, v_46_20, v_46_22, v_46_23, v_46_24, v_46_26, v_46_27, v_46_28, v_46_29, v_46_32, v_46_35, v_46_36, v_46_37, v_46_39, v_46_40, v_46_43, v_46_46, v_46_47, v_46_48, v_46_50, v_46_51, v_46_52, v_46_53, v_46_54, v_46_56, v_46_57, v_46_60, v_46_61, v_46_64, v_46_65, v_46_67, v_46_68, v_46_69, v_46_70, v_46_73, v_46_76, v_46_79, v_46_82, v_46_85, vgi_0, vgi_s, vga_0, vga_s, vset_0, vset_s, vtk_0, vtk_s, vrc_0, vsw_0, vsw_s, List.all_cons, List.all_nil, zc1_i, zc1_r, Bool.and_true, Bool.and_self, true_and, and_true, List.length_cons, List.length_nil, Nat.zero_le, Nat.reduceLeDiff, Nat.reduceAdd, Nat.reduceLT, Option.toList_none, List.nil_append, tg_483]
      refine c_44g (s := 183) (A := fun _ => False) (P := sP p n) (by omega) (by omega) (by omega) ?_ (Or.inl ⟨by omega, by omega⟩) (fun t3 g3 e3' => ?_)
      · rw [e2', if_neg (by omega), e1', if_pos rfl]; exact (hs' _ (by omega)).b
      simp only [v_46_0, v_46_1, v_46_2, h_46_2, v_46_3, v_46_4, v_46_7, v_46_8, v_46_9, v_46_10, v_46_12, h_46_12, v_46_14, v_46_15, v_46_18, v_46_19, v_46_20, v_46_22, v_46_23, v_46_24, v_46_26, v_46_27, v_46_28, v_46_29, v_46_32, v_46_35, v_46_36, v_46_37, v_46_39, v_46_40, v_46_43, v_46_46, v_46_47, v_46_48, v_46_50, v_46_51, v_46_52, v_46_53, v_46_54, v_46_56, v_46_57, v_46_60, v_46_61, v_46_64, v_46_65, v_46_67, v_46_68, v_46_69, v_46_70, v_46_73, v_46_76, v_46_79, v_46_82, v_46_85, vgi_0, vgi_s, vga_0, vga_s, vset_0, vset_s, vtk_0, vtk_s, vrc_0, vsw_0, vsw_s, List.all_cons, List.all_nil, zc1_i, zc1_r, Bool.and_true, Bool.and_self, true_and, and_true, List.length_cons, List.length_nil, Nat.zero_le, Nat.reduceLeDiff, Nat.reduceAdd, Nat.reduceLT, Option.toList_none, List.nil_append]
      have hg : ∀ x, x < n → mS t3 (p + x) = if x = m then mS t' (p + (m + 1)) else if x = m + 1 then mS t' (p + m) else mS t' (p + x) := by
        intro x hx
        rw [e3', e2', e1', e1', e2', e1', e1']
        by_cases z : x = m
        · rw [if_pos (by omega), if_neg (by omega), if_pos rfl, if_pos z]
        · rw [if_neg (by omega), if_neg z]
          by_cases z2 : x = m + 1
          · rw [if_pos (by omega), if_neg (by omega), if_pos z2]
          · rw [if_neg (by omega), if_neg (by omega), if_neg z2]
      have hperm : (lst (fun k => mS t3 (p + k)) n).Perm (lst (fun k => mS t' (p + k)) n) := by
        have e5 : lst (fun k => mS t3 (p + k)) n = lst (fun x => if x = m then mS t' (p + (m + 1)) else if x = m + 1 then mS t' (p + m) else mS t' (p + x)) n := lst_congr n (fun x hx => hg x hx)
        rw [e5]
        refine lst_swap (k := m) ?_ ?_ (fun x x1 x2 => ?_) n hkn
        · show (if m = m then _ else _) = _
          rw [if_pos rfl]
        · show (if m + 1 = m then _ else if m + 1 = m + 1 then _ else _) = _
          rw [if_neg (by omega), if_pos rfl]
        · show (if x = m then _ else if x = m + 1 then _ else _) = _
          rw [if_neg x1, if_neg x2]
      rw [show (-nI 1 : Int32) = -1 from rfl, pk_m1]
      refine ih m t3 (by omega) (by omega) ⟨hR.1.tr (g1.tr (g2.tr g3)), hperm.trans hR.2⟩ (fun x l hx hl hln => ?_) (fun l hl hln => ?_)
      · rw [hg x (by omega), hg l hln, if_neg (by omega), if_neg (by omega)]
        by_cases z : l = m
        · rw [if_pos z]; exact h1 x _ hx (by omega) hkn
        · rw [if_neg z]
          by_cases z2 : l = m + 1
          · rw [if_pos z2]; exact h1 x _ hx (by omega) (by omega)
          · rw [if_neg z2]; exact h1 x l hx hl hln
      · rw [hg m (by omega), hg l hln, if_pos rfl]
        by_cases z : l = m
        · rw [if_pos z, so_rf]; omega
        · rw [if_neg z]
          by_cases z2 : l = m + 1
          · rw [if_pos z2]; omega
          · rw [if_neg z2]; exact h2 l (by omega) hln
    · have hm : ¬ so (mS t' (p + (m + 1))) (mS t' (p + m)) = -1 := fun z => hr0 (hr.1.mpr z)
      rw [if_neg hr0, pk_m1]
      refine ih m t' (by omega) (by omega) hR h1 (fun l hl hln => ?_)
      by_cases z : l = m
      · rw [z, so_rf]; omega
      · exact so_tr (g := mS t' (p + (m + 1))) (by omega) (h2 l (by omega) hln)
theorem l_46a {p n : Nat} (hd : 4 ≤ d) (hp : p + n ≤ 183) (hs : ∀ k, k < n → wfS (mS t (p + k))) (h : ∀ t', sM t t' p n → srt (fun k => mS t' (p + k)) n → F none t') : ∀ (j i : Nat) (t' : T) (jv : Value), i + j = n → sM t t' p n → (∀ x l, x < i → x ≤ l → l < n → so (mS t' (p + x)) (mS t' (p + l)) ≤ 0) → twp none d 46 2 [.ref 483, .int (nI p), .int (nI n), .int (nI i), jv] [] t' F := by
  intro j
  induction j with
  | zero =>
    intro i t' jv hi hR h1
    refine vc_ok none zH_46 62 false _ 46 2 _ _ _ _ ?_
    simp only [v_46_0, v_46_1, v_46_2, h_46_2, v_46_3, v_46_4, v_46_7, v_46_8, v_46_9, v_46_10, v_46_12, h_46_12, v_46_14, v_46_15, v_46_18, v_46_19, v_46_20, v_46_22, v_46_23, v_46_24, v_46_26, v_46_27, v_46_28, v_46_29, v_46_32, v_46_35, v_46_36, v_46_37, v_46_39, v_46_40, v_46_43, v_46_46, v_46_47, v_46_48, v_46_50, v_46_51, v_46_52, v_46_53, v_46_54, v_46_56, v_46_57, v_46_60, v_46_61, v_46_64, v_46_65, v_46_67, v_46_68, v_46_69, v_46_70, v_46_73, v_46_76, v_46_79, v_46_82, v_46_85, vgi_0, vgi_s, vga_0, vga_s, vset_0, vset_s, vtk_0, vtk_s, vrc_0, vsw_0, vsw_s, List.all_cons, List.all_nil, zc1_i, zc1_r, Bool.and_true, Bool.and_self, true_and, and_true, List.length_cons, List.length_nil, Nat.zero_le, Nat.reduceLeDiff, Nat.reduceAdd, Nat.reduceLT]
    simp (disch := omega) only [nI_ltI]
    rw [if_neg (by omega)]
    exact h t' hR (fun x l hx hl => h1 x l (by omega) (by omega) hl)
  | succ j ih =>
    intro i t' jv hi hR h1
    refine vc_ok none zH_46 62 false _ 46 2 _ _ _ _ ?_
    simp only [v_46_0, v_46_1, v_46_2, h_46_2, v_46_3, v_46_4, v_46_7, v_46_8, v_46_9, v_46_10, v_46_12, h_46_12, v_46_14, v_46_15, v_46_18, v_46_19, v_46_20, v_46_22, v_46_23, v_46_24, v_46_26, v_46_27, v_46_28, v_46_29, v_46_32, v_46_35, v_46_36, v_46_37, v_46_39, v_46_40, v_46_43, v_46_46, v_46_47, v_46_48, v_46_50, v_46_51, v_46_52, v_46_53, v_46_54, v_46_56, v_46_57, v_46_60, v_46_61, v_46_64, v_46_65, v_46_67, v_46_68, v_46_69, v_46_70, v_46_73, v_46_76, v_46_79, v_46_82, v_46_85, vgi_0, vgi_s, vga_0, vga_s, vset_0, vset_s, vtk_0, vtk_s, vrc_0, vsw_0, vsw_s, List.all_cons, List.all_nil, zc1_i, zc1_r, Bool.and_true, Bool.and_self, true_and, and_true, List.length_cons, List.length_nil, Nat.zero_le, Nat.reduceLeDiff, Nat.reduceAdd, Nat.reduceLT]
    simp (disch := omega) only [nI_ltI, li1, pk_sub]
    rw [if_pos (by omega)]
    refine l_46b hd hp hs (by omega) (fun t2 jv h2 h3 => ?_) (n - 1 - i) (n - 1) t' (by omega) (by omega) hR h1 (fun l hl hln => ?_)
    · exact ih (i + 1) t2 jv (by omega) h2 (fun x l hx hl hln => h3 x l (by omega) hl hln)
    · have : l = n - 1 := by omega
      rw [this, so_rf]; omega
theorem c_46 {p n : Nat} (hd : 5 ≤ d) (hp : p + n ≤ 183) (hs : ∀ k, k < n → wfS (mS t (p + k))) (h : ∀ t', sM t t' p n → srt (fun k => mS t' (p + k)) n → F none t') : twc d 46 [.ref 483, .int (nI p), .int (nI n)] t F := by
  refine ⟨by omega, ?_⟩
  rw [ze_46]
  refine vc_ok none zH_46 62 false _ 46 0 _ _ _ _ ?_
  simp only [v_46_0, v_46_1, v_46_2, h_46_2, v_46_3, v_46_4, v_46_7, v_46_8, v_46_9, v_46_10, v_46_12, h_46_12, v_46_14, v_46_15, v_46_18, v_46_19, v_46_20, v_46_22, v_46_23, v_46_24, v_46_26, v_46_27, v_46_28, v_46_29, v_46_32, v_46_35, v_46_36, v_46_37, v_46_39, v_46_40, v_46_43, v_46_46, v_46_47, v_46_48, v_46_50, v_46_51, v_46_52, v_46_53, v_46_54, v_46_56, v_46_57, v_46_60, v_46_61, v_46_64, v_46_65, v_46_67, v_46_68, v_46_69, v_46_70, v_46_73, v_46_76, v_46_79, v_46_82, v_46_85, vgi_0, vgi_s, vga_0, vga_s, vset_0, vset_s, vtk_0, vtk_s, vrc_0, vsw_0, vsw_s, List.all_cons, List.all_nil, zc1_i, zc1_r, Bool.and_true, Bool.and_self, true_and, and_true, List.length_cons, List.length_nil, Nat.zero_le, Nat.reduceLeDiff, Nat.reduceAdd, Nat.reduceLT]
  exact l_46a (by omega) hp hs h n 0 t _ (by omega) ⟨mG.rf, List.Perm.refl _⟩ (fun x l hx => by omega)
theorem l_94 {p n s : Nat} (hd : 3 ≤ d) (hp : p + n ≤ 184) (hs : s < 184) (hw : ∀ k, k < n → wfS (mS t (p + k))) (hws : wfS (mS t s)) (h : ∀ i, i ≤ n → (∀ k, k < i → mS t (p + k) ≠ mS t s) → (i < n → mS t (p + i) = mS t s) → F (some (.int (nI i))) t) : ∀ (j i : Nat), i + j = n → (∀ k, k < i → mS t (p + k) ≠ mS t s) → twp none d 94 3 [.ref 483, .int (nI p), .int (nI n), .int (nI s), .int (nI i)] [] t F := by
  intro j
  induction j with
  | zero =>
    intro i hi hne
    refine vc_ok none zH_94 26 false _ 94 3 _ _ _ _ ?_
    simp only [v_94_0, v_94_1, v_94_3, h_94_3, v_94_5, v_94_6, v_94_9, v_94_10, v_94_11, v_94_13, v_94_14, v_94_15, v_94_18, v_94_21, v_94_24, v_94_27, v_94_29, vgi_0, vgi_s, vga_0, vga_s, vset_0, vset_s, vtk_0, vtk_s, vrc_0, vsw_0, vsw_s, List.all_cons, List.all_nil, zc1_i, zc1_r, Bool.and_true, Bool.and_self, true_and, and_true, List.length_cons, List.length_nil, Nat.zero_le, Nat.reduceLeDiff, Nat.reduceAdd, Nat.reduceLT]
    simp (disch := omega) only [nI_ltI]
    rw [if_neg (by omega)]
    exact h i (by omega) hne (fun z => by omega)
  | succ j ih =>
    intro i hi hne
    refine vc_ok none zH_94 26 false _ 94 3 _ _ _ _ ?_
    simp only [v_94_0, v_94_1, v_94_3, h_94_3, v_94_5, v_94_6, v_94_9, v_94_10, v_94_11, v_94_13, v_94_14, v_94_15, v_94_18, v_94_21, v_94_24, v_94_27, v_94_29, vgi_0, vgi_s, vga_0, vga_s, vset_0, vset_s, vtk_0, vtk_s, vrc_0, vsw_0, vsw_s, List.all_cons, List.all_nil, zc1_i, zc1_r, Bool.and_true, Bool.and_self, true_and, and_true, List.length_cons, List.length_nil, Nat.zero_le, Nat.reduceLeDiff, Nat.reduceAdd, Nat.reduceLT, tg_483]
    simp (disch := omega) only [nI_ltI, nI_add]
    rw [if_pos (by omega)]
    refine c_45 (by omega) (by omega) (by omega) (fun r hr => ?_)
    have hz := hr.2.trans (so_zero (hw i (by omega)) hws)
    simp only [v_94_0, v_94_1, v_94_3, h_94_3, v_94_5, v_94_6, v_94_9, v_94_10, v_94_11, v_94_13, v_94_14, v_94_15, v_94_18, v_94_21, v_94_24, v_94_27, v_94_29, vgi_0, vgi_s, vga_0, vga_s, vset_0, vset_s, vtk_0, vtk_s, vrc_0, vsw_0, vsw_s, List.all_cons, List.all_nil, zc1_i, zc1_r, Bool.and_true, Bool.and_self, true_and, and_true, List.length_cons, List.length_nil, Nat.zero_le, Nat.reduceLeDiff, Nat.reduceAdd, Nat.reduceLT, Option.toList_some, List.cons_append, List.nil_append]
    by_cases hr0 : r = 0
    · rw [if_pos hr0]
      exact h i (by omega) hne (fun _ => hz.mp hr0)
    · rw [if_neg hr0, nI_1]
      refine ih (i + 1) (by omega) (fun k hk => ?_)
      by_cases z : k = i
      · rw [z]; exact fun y => hr0 (hz.mpr y)
      · exact hne k (by omega)
theorem c_94 {p n s : Nat} (hd : 4 ≤ d) (hp : p + n ≤ 184) (hs : s < 184) (hw : ∀ k, k < n → wfS (mS t (p + k))) (hws : wfS (mS t s)) (h : ∀ i, i ≤ n → (∀ k, k < i → mS t (p + k) ≠ mS t s) → (i < n → mS t (p + i) = mS t s) → F (some (.int (nI i))) t) : twc d 94 [.ref 483, .int (nI p), .int (nI n), .int (nI s)] t F := by
  refine ⟨by omega, ?_⟩
  rw [ze_94]
  refine vc_ok none zH_94 26 false _ 94 0 _ _ _ _ ?_
  simp only [v_94_0, v_94_1, v_94_3, h_94_3, v_94_5, v_94_6, v_94_9, v_94_10, v_94_11, v_94_13, v_94_14, v_94_15, v_94_18, v_94_21, v_94_24, v_94_27, v_94_29, vgi_0, vgi_s, vga_0, vga_s, vset_0, vset_s, vtk_0, vtk_s, vrc_0, vsw_0, vsw_s, List.all_cons, List.all_nil, zc1_i, zc1_r, Bool.and_true, Bool.and_self, true_and, and_true, List.length_cons, List.length_nil, Nat.zero_le, Nat.reduceLeDiff, Nat.reduceAdd, Nat.reduceLT]
  exact l_94 (by omega) hp hs hw hws h n 0 (by omega) (fun k hk => by omega)
end SRT
