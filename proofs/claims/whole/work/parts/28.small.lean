/-! Small static methods of both sides. -/
def tand (x y : Int32) : Int32 := if x = 0 ∨ y = 0 then 0 else if x = 1 then y else 2
def tor (x y : Int32) : Int32 := if x = 1 ∨ y = 1 then 1 else if x = 0 then y else 2
def tnot (x : Int32) : Int32 := if x = 2 then 2 else 1 - x
def tjoin (x y : Int32) : Int32 := if x = y then x else 2
def mrk (v : Int32) : Int32 := if v = 2 then 1 else 2 * v
theorem mrk_and : ∀ i, i < 3 → ∀ j, j < 3 → (if mrk (nI i) < mrk (nI j) then nI i else nI j) = tand (nI i) (nI j) := by decide
theorem mrk_or : ∀ i, i < 3 → ∀ j, j < 3 → (if mrk (nI j) < mrk (nI i) then nI i else nI j) = tor (nI i) (nI j) := by decide
theorem tand_v : ∀ i, i < 3 → ∀ j, j < 3 → ∃ k, k < 3 ∧ tand (nI i) (nI j) = nI k := by decide
theorem tor_v : ∀ i, i < 3 → ∀ j, j < 3 → ∃ k, k < 3 ∧ tor (nI i) (nI j) = nI k := by decide
theorem tnot_v : ∀ i, i < 3 → ∃ k, k < 3 ∧ tnot (nI i) = nI k := by decide
theorem tjoin_v : ∀ i, i < 3 → ∀ j, j < 3 → ∃ k, k < 3 ∧ tjoin (nI i) (nI j) = nI k := by decide
section SMALL
variable {d : Nat} {t : T} {F : Option Value → T → Prop}
theorem in_cases (x : Int32) {L : Nat} (hL : L < 2 ^ 31) : (∃ k, k < L ∧ x = nI k) ∨ ((x < 0 ∨ nI L ≤ x) ∧ ∀ k, k < L → x ≠ nI k) := by
  rcases pk_ix x hL with h | h | h
  · exact Or.inr ⟨Or.inl h, fun k hk q => by subst q; exact nI_pos (by omega) h⟩
  · exact Or.inr ⟨Or.inr h, fun k hk q => by subst q; exact nI_ge hk hL h⟩
  · exact Or.inl h
theorem c_22 {x : Int32} {L : Nat} (hd : 1 ≤ d) (hL : L < 2 ^ 31) (h1 : ∀ k, k < L → x = nI k → F (some (.int 1)) t) (h0 : (∀ k, k < L → x ≠ nI k) → F (some (.int 0)) t) : twc d 22 [.int x, .int (nI L)] t F := by
  refine ⟨hd, ?_⟩
  rw [ze_22]
  refine vc_ok none zH_22 19 false _ 22 0 _ _ _ _ ?_
  simp only [v_22_0, v_22_1, v_22_4, v_22_5, v_22_6, v_22_9, v_22_10, v_22_13, v_22_14, vgi_0, vgi_s, vga_0, vga_s, vset_0, vset_s, vtk_0, vtk_s, vrc_0, vsw_0, vsw_s, List.all_cons, List.all_nil, zc1_i, zc1_r, Bool.and_true, Bool.and_self, true_and, and_true, List.length_cons, List.length_nil, Nat.zero_le, Nat.reduceLeDiff, Nat.reduceAdd]
  rcases in_cases x hL with ⟨k, hk, rfl⟩ | ⟨hx, hn⟩
  · rw [if_neg (nI_pos (by omega)), if_pos (nI_lt hk hL)]
    exact ⟨Or.inr trivial, h1 k hk rfl⟩
  · by_cases hz : x < 0
    · rw [if_pos hz]; exact ⟨Or.inl trivial, h0 hn⟩
    · rw [if_neg hz, if_neg]
      · exact ⟨Or.inl trivial, h0 hn⟩
      · rcases hx with hx | hx
        · exact absurd hx hz
        · exact Int32.not_lt.mpr hx
theorem c_23 {x y : Int32} (hd : 1 ≤ d) (h : F (some (.int (tjoin x y))) t) : twc d 23 [.int x, .int y] t F := by
  refine ⟨hd, ?_⟩
  rw [ze_23]
  refine vc_ok none zH_23 17 false _ 23 0 _ _ _ _ ?_
  simp only [v_23_0, v_23_1, v_23_2, v_23_5, v_23_6, v_23_9, v_23_10, vgi_0, vgi_s, vga_0, vga_s, vset_0, vset_s, vtk_0, vtk_s, vrc_0, vsw_0, vsw_s, List.all_cons, List.all_nil, zc1_i, zc1_r, Bool.and_true, Bool.and_self, true_and, and_true, List.length_cons, List.length_nil, Nat.zero_le, Nat.reduceLeDiff, Nat.reduceAdd]
  unfold tjoin at h
  split
  · rename_i e; rw [if_pos e] at h; exact h
  · rename_i e; rw [if_neg e] at h; exact h
theorem c_24 {p : Nat} (hd : 1 ≤ d) (hp : p < 100) (h : F (some (.int (nI (if p < 2 then 0 else if p < 6 then 1 else 3)))) t) : twc d 24 [.int (nI p)] t F := by
  refine ⟨hd, ?_⟩
  rw [ze_24]
  refine vc_ok none zH_24 22 false _ 24 0 _ _ _ _ ?_
  simp only [v_24_0, v_24_1, v_24_2, v_24_5, v_24_6, v_24_7, v_24_8, v_24_10, v_24_13, v_24_14, v_24_17, v_24_18, vgi_0, vgi_s, vga_0, vga_s, vset_0, vset_s, vtk_0, vtk_s, vrc_0, vsw_0, vsw_s, List.all_cons, List.all_nil, zc1_i, zc1_r, Bool.and_true, Bool.and_self, true_and, and_true, List.length_cons, List.length_nil, Nat.zero_le, Nat.reduceLeDiff, Nat.reduceAdd]
  simp (disch := omega) only [li2, li6, nI_ltI]
  split
  · rename_i e; rw [if_pos e] at h; exact h
  · rename_i e
    rw [if_neg e] at h
    split
    · rename_i e; rw [if_pos e] at h; exact h
    · rename_i e; rw [if_neg e] at h; exact h
theorem c_129 {x : Int32} (hd : 1 ≤ d) (h : F (some (.int (tnot x))) t) : twc d 129 [.int x] t F := by
  refine ⟨hd, ?_⟩
  rw [ze_129]
  refine vc_ok none zH_129 19 false _ 129 0 _ _ _ _ ?_
  simp only [v_129_0, v_129_1, v_129_2, v_129_5, v_129_6, v_129_9, v_129_10, v_129_11, v_129_12, vgi_0, vgi_s, vga_0, vga_s, vset_0, vset_s, vtk_0, vtk_s, vrc_0, vsw_0, vsw_s, List.all_cons, List.all_nil, zc1_i, zc1_r, Bool.and_true, Bool.and_self, true_and, and_true, List.length_cons, List.length_nil, Nat.zero_le, Nat.reduceLeDiff, Nat.reduceAdd]
  unfold tnot at h
  split
  · rename_i e; rw [if_pos e] at h; exact h
  · rename_i e; rw [if_neg e] at h; exact h
theorem c_130 {x y : Int32} (hd : 1 ≤ d) (h : F (some (.int (tand x y))) t) : twc d 130 [.int x, .int y] t F := by
  refine ⟨hd, ?_⟩
  rw [ze_130]
  refine vc_ok none zH_130 23 false _ 130 0 _ _ _ _ ?_
  simp only [v_130_0, v_130_1, v_130_4, v_130_5, v_130_8, v_130_9, v_130_10, v_130_11, v_130_12, v_130_15, v_130_16, v_130_19, v_130_20, vgi_0, vgi_s, vga_0, vga_s, vset_0, vset_s, vtk_0, vtk_s, vrc_0, vsw_0, vsw_s, List.all_cons, List.all_nil, zc1_i, zc1_r, Bool.and_true, Bool.and_self, true_and, and_true, List.length_cons, List.length_nil, Nat.zero_le, Nat.reduceLeDiff, Nat.reduceAdd]
  unfold tand at h
  by_cases h1 : x = 0
  · rw [if_pos (Or.inl h1)] at h; rw [if_pos h1]; exact h
  · rw [if_neg h1]
    by_cases h2 : y = 0
    · rw [if_pos (Or.inr h2)] at h; rw [if_pos h2]; exact h
    · rw [if_neg (by rintro (q | q); exact h1 q; exact h2 q)] at h
      rw [if_neg h2]
      split
      · rename_i e; rw [if_pos e] at h; exact h
      · rename_i e; rw [if_neg e] at h; exact h
theorem c_131 {x y : Int32} (hd : 1 ≤ d) (h : F (some (.int (tor x y))) t) : twc d 131 [.int x, .int y] t F := by
  refine ⟨hd, ?_⟩
  rw [ze_131]
  refine vc_ok none zH_131 24 false _ 131 0 _ _ _ _ ?_
  simp only [v_131_0, v_131_1, v_131_2, v_131_5, v_131_6, v_131_7, v_131_10, v_131_11, v_131_12, v_131_13, v_131_16, v_131_17, v_131_20, v_131_21, vgi_0, vgi_s, vga_0, vga_s, vset_0, vset_s, vtk_0, vtk_s, vrc_0, vsw_0, vsw_s, List.all_cons, List.all_nil, zc1_i, zc1_r, Bool.and_true, Bool.and_self, true_and, and_true, List.length_cons, List.length_nil, Nat.zero_le, Nat.reduceLeDiff, Nat.reduceAdd]
  unfold tor at h
  by_cases h1 : x = 1
  · rw [if_pos (Or.inl h1)] at h; rw [if_pos h1]; exact h
  · rw [if_neg h1]
    by_cases h2 : y = 1
    · rw [if_pos (Or.inr h2)] at h; rw [if_pos h2]; exact h
    · rw [if_neg (by rintro (q | q); exact h1 q; exact h2 q)] at h
      rw [if_neg h2]
      split
      · rename_i e; rw [if_pos e] at h; exact h
      · rename_i e; rw [if_neg e] at h; exact h
theorem c_33 {x : Int32} (hd : 1 ≤ d) (h : F (some (.int (mrk x))) t) : twc d 33 [.int x] t F := by
  refine ⟨hd, ?_⟩
  rw [ze_33]
  refine vc_ok none zH_33 19 false _ 33 0 _ _ _ _ ?_
  simp only [v_33_0, v_33_1, v_33_2, v_33_5, v_33_6, v_33_9, v_33_10, v_33_11, v_33_12, vgi_0, vgi_s, vga_0, vga_s, vset_0, vset_s, vtk_0, vtk_s, vrc_0, vsw_0, vsw_s, List.all_cons, List.all_nil, zc1_i, zc1_r, Bool.and_true, Bool.and_self, true_and, and_true, List.length_cons, List.length_nil, Nat.zero_le, Nat.reduceLeDiff, Nat.reduceAdd]
  unfold mrk at h
  split
  · rename_i e; rw [if_pos e] at h; exact h
  · rename_i e; rw [if_neg e] at h; exact h
theorem c_34 {i j : Nat} (hd : 2 ≤ d) (hi : i < 3) (hj : j < 3) (h : F (some (.int (tand (nI i) (nI j)))) t) : twc d 34 [.int (nI i), .int (nI j)] t F := by
  refine ⟨by omega, ?_⟩
  rw [ze_34]
  refine vc_ok none zH_34 19 false _ 34 0 _ _ _ _ ?_
  simp only [v_34_0, v_34_1, v_34_4, v_34_5, v_34_8, v_34_11, v_34_12, v_34_15, v_34_16, vgi_0, vgi_s, vga_0, vga_s, vset_0, vset_s, vtk_0, vtk_s, vrc_0, vsw_0, vsw_s, List.all_cons, List.all_nil, zc1_i, zc1_r, Bool.and_true, Bool.and_self, true_and, and_true, List.length_cons, List.length_nil, Nat.zero_le, Nat.reduceLeDiff, Nat.reduceAdd]
  refine c_33 (by omega) ?_
  simp only [v_34_0, v_34_1, v_34_4, v_34_5, v_34_8, v_34_11, v_34_12, v_34_15, v_34_16, vgi_0, vgi_s, vga_0, vga_s, vset_0, vset_s, vtk_0, vtk_s, vrc_0, vsw_0, vsw_s, List.all_cons, List.all_nil, zc1_i, zc1_r, Bool.and_true, Bool.and_self, true_and, and_true, List.length_cons, List.length_nil, Nat.zero_le, Nat.reduceLeDiff, Nat.reduceAdd, Option.toList_some, List.cons_append, List.nil_append]
  refine c_33 (by omega) ?_
  simp only [v_34_0, v_34_1, v_34_4, v_34_5, v_34_8, v_34_11, v_34_12, v_34_15, v_34_16, vgi_0, vgi_s, vga_0, vga_s, vset_0, vset_s, vtk_0, vtk_s, vrc_0, vsw_0, vsw_s, List.all_cons, List.all_nil, zc1_i, zc1_r, Bool.and_true, Bool.and_self, true_and, and_true, List.length_cons, List.length_nil, Nat.zero_le, Nat.reduceLeDiff, Nat.reduceAdd, Option.toList_some, List.cons_append, List.nil_append]
  rw [← mrk_and i hi j hj] at h
  split
  · rename_i e; rw [if_pos e] at h; exact h
  · rename_i e; rw [if_neg e] at h; exact h
theorem c_35 {i j : Nat} (hd : 2 ≤ d) (hi : i < 3) (hj : j < 3) (h : F (some (.int (tor (nI i) (nI j)))) t) : twc d 35 [.int (nI i), .int (nI j)] t F := by
  refine ⟨by omega, ?_⟩
  rw [ze_35]
  refine vc_ok none zH_35 19 false _ 35 0 _ _ _ _ ?_
  simp only [v_35_0, v_35_1, v_35_4, v_35_5, v_35_8, v_35_11, v_35_12, v_35_15, v_35_16, vgi_0, vgi_s, vga_0, vga_s, vset_0, vset_s, vtk_0, vtk_s, vrc_0, vsw_0, vsw_s, List.all_cons, List.all_nil, zc1_i, zc1_r, Bool.and_true, Bool.and_self, true_and, and_true, List.length_cons, List.length_nil, Nat.zero_le, Nat.reduceLeDiff, Nat.reduceAdd]
  refine c_33 (by omega) ?_
  simp only [v_35_0, v_35_1, v_35_4, v_35_5, v_35_8, v_35_11, v_35_12, v_35_15, v_35_16, vgi_0, vgi_s, vga_0, vga_s, vset_0, vset_s, vtk_0, vtk_s, vrc_0, vsw_0, vsw_s, List.all_cons, List.all_nil, zc1_i, zc1_r, Bool.and_true, Bool.and_self, true_and, and_true, List.length_cons, List.length_nil, Nat.zero_le, Nat.reduceLeDiff, Nat.reduceAdd, Option.toList_some, List.cons_append, List.nil_append]
  refine c_33 (by omega) ?_
  simp only [v_35_0, v_35_1, v_35_4, v_35_5, v_35_8, v_35_11, v_35_12, v_35_15, v_35_16, vgi_0, vgi_s, vga_0, vga_s, vset_0, vset_s, vtk_0, vtk_s, vrc_0, vsw_0, vsw_s, List.all_cons, List.all_nil, zc1_i, zc1_r, Bool.and_true, Bool.and_self, true_and, and_true, List.length_cons, List.length_nil, Nat.zero_le, Nat.reduceLeDiff, Nat.reduceAdd, Option.toList_some, List.cons_append, List.nil_append]
  rw [← mrk_or i hi j hj] at h
  split
  · rename_i e; rw [if_pos e] at h; exact h
  · rename_i e; rw [if_neg e] at h; exact h
theorem c_36 {x : Int32} (hd : 1 ≤ d) (h : F (some (.int (tnot x))) t) : twc d 36 [.int x] t F := by
  refine ⟨hd, ?_⟩
  rw [ze_36]
  refine vc_ok none zH_36 19 false _ 36 0 _ _ _ _ ?_
  simp only [v_36_0, v_36_1, v_36_2, v_36_5, v_36_6, v_36_9, v_36_10, v_36_11, v_36_12, vgi_0, vgi_s, vga_0, vga_s, vset_0, vset_s, vtk_0, vtk_s, vrc_0, vsw_0, vsw_s, List.all_cons, List.all_nil, zc1_i, zc1_r, Bool.and_true, Bool.and_self, true_and, and_true, List.length_cons, List.length_nil, Nat.zero_le, Nat.reduceLeDiff, Nat.reduceAdd]
  unfold tnot at h
  split
  · rename_i e; rw [if_pos e] at h; exact h
  · rename_i e; rw [if_neg e] at h; exact h
theorem c_37 {x : Int32} {lo hi : Nat} (hd : 1 ≤ d) (hL : hi < 100000) (hl : lo ≤ hi) (h0 : ∀ k, lo ≤ k → k ≤ hi → x = nI k → F (some (.int 0)) t) (h1 : (∀ k, lo ≤ k → k ≤ hi → x ≠ nI k) → F (some (.int 1)) t) : twc d 37 [.int x, .int (nI lo), .int (nI hi)] t F := by
  refine ⟨hd, ?_⟩
  rw [ze_37]
  refine vc_ok none zH_37 20 false _ 37 0 _ _ _ _ ?_
  simp only [v_37_0, v_37_1, v_37_2, v_37_5, v_37_6, v_37_7, v_37_10, v_37_11, v_37_14, v_37_15, vgi_0, vgi_s, vga_0, vga_s, vset_0, vset_s, vtk_0, vtk_s, vrc_0, vsw_0, vsw_s, List.all_cons, List.all_nil, zc1_i, zc1_r, Bool.and_true, Bool.and_self, true_and, and_true, List.length_cons, List.length_nil, Nat.zero_le, Nat.reduceLeDiff, Nat.reduceAdd]
  rcases in_cases x (L := hi + 1) (by omega) with ⟨k, hk, rfl⟩ | ⟨hx, hn⟩
  · simp (disch := omega) only [nI_ltI]
    by_cases e : k < lo
    · rw [if_pos e]
      exact ⟨Or.inr trivial, h1 (fun j h2 h3 q => by have := (nI_eq (by omega) (by omega)).mp q; omega)⟩
    · rw [if_neg e, if_neg (by omega)]
      exact ⟨Or.inl trivial, h0 k (by omega) (by omega) rfl⟩
  · have hno : ∀ k, lo ≤ k → k ≤ hi → x ≠ nI k := fun k _ h3 => hn k (by omega)
    by_cases e : x < nI lo
    · rw [if_pos e]; exact ⟨Or.inr trivial, h1 hno⟩
    · rw [if_neg e, if_pos]
      · exact ⟨Or.inr trivial, h1 hno⟩
      · rcases hx with hx | hx
        · exfalso
          apply e
          rw [Int32.lt_iff_toInt_lt] at hx ⊢
          rw [nI_toInt (by omega)]
          have h9 : (0 : Int32).toInt = 0 := rfl
          omega
        · rw [Int32.le_iff_toInt_le, nI_toInt (by omega)] at hx
          rw [Int32.lt_iff_toInt_lt, nI_toInt (by omega)]
          omega
theorem c_47 {x : Int32} (hd : 1 ≤ d) (h1 : ∀ k, k < 4 → x = nI k → F (some (.int 1)) t) (h0 : (∀ k, k < 4 → x ≠ nI k) → F (some (.int 0)) t) : twc d 47 [.int x] t F := by
  refine ⟨hd, ?_⟩
  rw [ze_47]
  refine vc_ok none zH_47 19 false _ 47 0 _ _ _ _ ?_
  simp only [v_47_0, v_47_1, v_47_4, v_47_5, v_47_6, v_47_9, v_47_10, v_47_13, v_47_14, vgi_0, vgi_s, vga_0, vga_s, vset_0, vset_s, vtk_0, vtk_s, vrc_0, vsw_0, vsw_s, List.all_cons, List.all_nil, zc1_i, zc1_r, Bool.and_true, Bool.and_self, true_and, and_true, List.length_cons, List.length_nil, Nat.zero_le, Nat.reduceLeDiff, Nat.reduceAdd]
  rcases in_cases x (L := 4) (by omega) with ⟨k, hk, rfl⟩ | ⟨hx, hn⟩
  · rw [if_neg (nI_pos (by omega)), li4, if_pos (nI_lt hk (by omega))]
    exact ⟨Or.inr trivial, h1 k hk rfl⟩
  · by_cases hz : x < 0
    · rw [if_pos hz]; exact ⟨Or.inl trivial, h0 hn⟩
    · rw [if_neg hz, if_neg]
      · exact ⟨Or.inl trivial, h0 hn⟩
      · rcases hx with hx | hx
        · exact absurd hx hz
        · exact Int32.not_lt.mpr hx
theorem c_93 {x : Int32} (hd : 1 ≤ d) (h1 : ∀ k, k < 4 → x = nI k → F (some (.int 1)) t) (h0 : (∀ k, k < 4 → x ≠ nI k) → F (some (.int 0)) t) : twc d 93 [.int x] t F := by
  refine ⟨hd, ?_⟩
  rw [ze_93]
  refine vc_ok none zH_93 19 false _ 93 0 _ _ _ _ ?_
  simp only [v_93_0, v_93_1, v_93_4, v_93_5, v_93_6, v_93_9, v_93_10, v_93_13, v_93_14, vgi_0, vgi_s, vga_0, vga_s, vset_0, vset_s, vtk_0, vtk_s, vrc_0, vsw_0, vsw_s, List.all_cons, List.all_nil, zc1_i, zc1_r, Bool.and_true, Bool.and_self, true_and, and_true, List.length_cons, List.length_nil, Nat.zero_le, Nat.reduceLeDiff, Nat.reduceAdd]
  rcases in_cases x (L := 4) (by omega) with ⟨k, hk, rfl⟩ | ⟨hx, hn⟩
  · rw [if_neg (nI_pos (by omega)), li4, if_pos (nI_lt hk (by omega))]
    exact ⟨Or.inr trivial, h1 k hk rfl⟩
  · by_cases hz : x < 0
    · rw [if_pos hz]; exact ⟨Or.inl trivial, h0 hn⟩
    · rw [if_neg hz, if_neg]
      · exact ⟨Or.inl trivial, h0 hn⟩
      · rcases hx with hx | hx
        · exact absurd hx hz
        · exact Int32.not_lt.mpr hx
theorem c_56 {x : Int32} (hd : 1 ≤ d) (h1 : ∀ k, k < 6 → x = nI k → F (some (.int 1)) t) (h0 : (∀ k, k < 6 → x ≠ nI k) → F (some (.int 0)) t) : twc d 56 [.int x] t F := by
  refine ⟨hd, ?_⟩
  rw [ze_56]
  refine vc_ok none zH_56 19 false _ 56 0 _ _ _ _ ?_
  simp only [v_56_0, v_56_1, v_56_4, v_56_5, v_56_7, v_56_10, v_56_11, v_56_14, v_56_15, vgi_0, vgi_s, vga_0, vga_s, vset_0, vset_s, vtk_0, vtk_s, vrc_0, vsw_0, vsw_s, List.all_cons, List.all_nil, zc1_i, zc1_r, Bool.and_true, Bool.and_self, true_and, and_true, List.length_cons, List.length_nil, Nat.zero_le, Nat.reduceLeDiff, Nat.reduceAdd]
  rcases in_cases x (L := 6) (by omega) with ⟨k, hk, rfl⟩ | ⟨hx, hn⟩
  · rw [if_neg (nI_pos (by omega)), li6, if_pos (nI_lt hk (by omega))]
    exact ⟨Or.inr trivial, h1 k hk rfl⟩
  · by_cases hz : x < 0
    · rw [if_pos hz]; exact ⟨Or.inl trivial, h0 hn⟩
    · rw [if_neg hz, if_neg]
      · exact ⟨Or.inl trivial, h0 hn⟩
      · rcases hx with hx | hx
        · exact absurd hx hz
        · exact Int32.not_lt.mpr hx
theorem c_70 {x y : Int32} (hd : 1 ≤ d) (h : F (some (.int (tjoin x y))) t) : twc d 70 [.int x, .int y] t F := by
  refine ⟨hd, ?_⟩
  rw [ze_70]
  refine vc_ok none zH_70 17 false _ 70 0 _ _ _ _ ?_
  simp only [v_70_0, v_70_1, v_70_2, v_70_5, v_70_6, v_70_9, v_70_10, vgi_0, vgi_s, vga_0, vga_s, vset_0, vset_s, vtk_0, vtk_s, vrc_0, vsw_0, vsw_s, List.all_cons, List.all_nil, zc1_i, zc1_r, Bool.and_true, Bool.and_self, true_and, and_true, List.length_cons, List.length_nil, Nat.zero_le, Nat.reduceLeDiff, Nat.reduceAdd]
  unfold tjoin at h
  split
  · rename_i e; rw [if_pos e] at h; exact h
  · rename_i e; rw [if_neg e] at h; exact h
theorem c_74 {x y : Int32} (hd : 1 ≤ d) (h1 : (x = y ∨ y = 2) → F (some (.int 1)) t) (h0 : ¬ (x = y ∨ y = 2) → F (some (.int 0)) t) : twc d 74 [.int x, .int y] t F := by
  refine ⟨hd, ?_⟩
  rw [ze_74]
  refine vc_ok none zH_74 20 false _ 74 0 _ _ _ _ ?_
  simp only [v_74_0, v_74_1, v_74_2, v_74_5, v_74_6, v_74_7, v_74_10, v_74_11, v_74_14, v_74_15, vgi_0, vgi_s, vga_0, vga_s, vset_0, vset_s, vtk_0, vtk_s, vrc_0, vsw_0, vsw_s, List.all_cons, List.all_nil, zc1_i, zc1_r, Bool.and_true, Bool.and_self, true_and, and_true, List.length_cons, List.length_nil, Nat.zero_le, Nat.reduceLeDiff, Nat.reduceAdd]
  by_cases e : x = y
  · rw [if_pos e]; exact ⟨Or.inr trivial, h1 (Or.inl e)⟩
  · rw [if_neg e]
    by_cases e2 : y = 2
    · rw [if_pos e2]; exact ⟨Or.inr trivial, h1 (Or.inr e2)⟩
    · rw [if_neg e2]; exact ⟨Or.inl trivial, h0 (by rintro (q | q); exact e q; exact e2 q)⟩
end SMALL
