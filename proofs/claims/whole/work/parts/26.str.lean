/-! Structures as rows of 105 numbers (how many individuals, then the cells in their order), and the class Structure. -/
abbrev St : Type := Nat → Int32
def cS (t : T) (a : Nat) : St := fun k => if k = 0 then t.1 a 0 else if k < 105 then t.1 (a + 1) (k - 1) else 0
def mS (t : T) (s : Nat) : St := fun k => if k < 105 then t.1 484 (105 * s + k) else 0
def su (f : St) (k : Nat) (v : Int32) : St := fun j => if j = k then v else f j
def sg (f : St) (p u w : Nat) : Int32 := if p = 8 then (if u = w then (if f (3 + 5 * u) = 1 then 2 else 1) else 0) else f (cel p u w + 1)
def tfl (t : T) (a lo hi : Nat) (v : Int32) : T := (fun a' k' => if a' = a ∧ lo ≤ k' ∧ k' < hi then v else t.1 a' k', t.2)
theorem T_ext {t t' : T} (h1 : ∀ a k, t.1 a k = t'.1 a k) (h2 : ∀ a k, t.2 a k = t'.2 a k) : t = t' := Prod.ext (funext fun a => funext fun k => h1 a k) (funext fun a => funext fun k => h2 a k)
theorem tfl_0 (t : T) (a lo : Nat) (v : Int32) : tfl t a lo lo v = t := by
  apply T_ext
  · intro b k
    show (if b = a ∧ lo ≤ k ∧ k < lo then v else t.1 b k) = _
    rw [if_neg (by omega)]
  · intro b k; rfl
theorem tfl_s (t : T) (a lo i : Nat) (v : Int32) (h : lo ≤ i) : tsi (tfl t a lo i v) a i v = tfl t a lo (i + 1) v := by
  apply T_ext
  · intro b k
    show (if b = a ∧ k = i then v else if b = a ∧ lo ≤ k ∧ k < i then v else t.1 b k) = (if b = a ∧ lo ≤ k ∧ k < i + 1 then v else t.1 b k)
    by_cases h1 : b = a ∧ k = i
    · rw [if_pos h1, if_pos (by omega)]
    · rw [if_neg h1]
      by_cases h2 : b = a ∧ lo ≤ k ∧ k < i
      · rw [if_pos h2, if_pos (by omega)]
      · rw [if_neg h2, if_neg (by omega)]
  · intro b k; rfl
theorem cS_i {t : T} {a : Nat} : cS t a 0 = t.1 a 0 := rfl
theorem cS_c {t : T} {a k : Nat} (h : k < 104) : cS t a (k + 1) = t.1 (a + 1) k := by
  unfold cS
  rw [if_neg (by omega), if_pos (by omega)]
  rfl
theorem c_174 {d n lo hi : Nat} {t : T} {F : Option Value → T → Prop} (hd : 1 ≤ d) (h1 : lo ≤ hi) (h2 : hi ≤ n) (h3 : n < 100000) (h : F none t) : twc d 174 [.int (nI n), .int (nI lo), .int (nI hi)] t F := by
  refine ⟨hd, ?_⟩
  rw [ze_174]
  refine vc_ok none zH_174 47 false _ 174 0 _ _ _ _ ?_
  simp only [v_174_0, v_174_1, v_174_2, v_174_8_int, v_174_8_ref, v_174_12_int, v_174_12_ref, v_174_21, v_174_30, v_174_46, v_174_47, v_174_53_int, v_174_53_ref, v_174_54, v_174_59, v_174_60, v_174_61, v_174_67_int, v_174_67_ref, v_174_68, v_174_73, vgi_0, vgi_s, vga_0, vga_s, vset_0, vset_s, vtk_0, vtk_s, vrc_0, vsw_0, vsw_s, List.all_cons, List.all_nil, zc1_i, zc1_r, Bool.and_true, Bool.and_self, true_and, and_true, List.length_cons, List.length_nil, Nat.zero_le, Nat.reduceLeDiff, Nat.reduceAdd]
  simp (disch := omega) only [li0, nI_ltI]
  rw [if_neg (by omega), if_neg (by omega), if_neg (by omega)]
  exact h
theorem l_172 {d a n : Nat} {t : T} {v : Int32} {F : Option Value → T → Prop} (ha : vtag a = 100) (hn : vlen a = n) (hn2 : n < 100000) (h : F none (tfl t a 0 n v)) : ∀ (j i : Nat), i + j = n → twp none d 172 5 [.ref a, .int v, .int (nI i), .int (nI n)] [] (tfl t a 0 i v) F := by
  intro j
  induction j with
  | zero =>
    intro i hi
    have hi : i = n := by omega
    subst hi
    refine vc_ok none zH_172 25 false _ 172 5 _ _ _ _ ?_
    simp only [v_172_0, v_172_1, v_172_2, v_172_3, v_172_4, v_172_5, h_172_5, v_172_6, v_172_7, v_172_10, v_172_11, v_172_12, v_172_13, v_172_14, v_172_17, v_172_20, vgi_0, vgi_s, vga_0, vga_s, vset_0, vset_s, vtk_0, vtk_s, vrc_0, vsw_0, vsw_s, List.all_cons, List.all_nil, zc1_i, zc1_r, Bool.and_true, Bool.and_self, true_and, and_true, List.length_cons, List.length_nil, Nat.zero_le, Nat.reduceLeDiff, Nat.reduceAdd]
    simp (disch := omega) only [nI_ltI, Nat.lt_irrefl, if_false]
    exact h
  | succ j ih =>
    intro i hi
    refine vc_ok none zH_172 25 false _ 172 5 _ _ _ _ ?_
    simp only [v_172_0, v_172_1, v_172_2, v_172_3, v_172_4, v_172_5, h_172_5, v_172_6, v_172_7, v_172_10, v_172_11, v_172_12, v_172_13, v_172_14, v_172_17, v_172_20, vgi_0, vgi_s, vga_0, vga_s, vset_0, vset_s, vtk_0, vtk_s, vrc_0, vsw_0, vsw_s, List.all_cons, List.all_nil, zc1_i, zc1_r, Bool.and_true, Bool.and_self, true_and, and_true, List.length_cons, List.length_nil, Nat.zero_le, Nat.reduceLeDiff, Nat.reduceAdd]
    simp (disch := omega) only [li1, nI_ltI, nI_add, nI_clamp, vinb_n]
    rw [if_pos (by omega)]
    refine ⟨ha, by omega, ?_⟩
    rw [tfl_s _ _ _ _ _ (Nat.zero_le _)]
    exact ih (i + 1) (by omega)
theorem c_172 {d a n : Nat} {t : T} {v : Int32} {F : Option Value → T → Prop} (hd : 1 ≤ d) (ha : vtag a = 100) (hn : vlen a = n) (hn2 : n < 100000) (h : F none (tfl t a 0 n v)) : twc d 172 [.ref a, .int v] t F := by
  refine ⟨hd, ?_⟩
  rw [ze_172]
  refine vc_ok none zH_172 25 false _ 172 0 _ _ _ _ ?_
  simp only [v_172_0, v_172_1, v_172_2, v_172_3, v_172_4, v_172_5, h_172_5, v_172_6, v_172_7, v_172_10, v_172_11, v_172_12, v_172_13, v_172_14, v_172_17, v_172_20, vgi_0, vgi_s, vga_0, vga_s, vset_0, vset_s, vtk_0, vtk_s, vrc_0, vsw_0, vsw_s, List.all_cons, List.all_nil, zc1_i, zc1_r, Bool.and_true, Bool.and_self, true_and, and_true, List.length_cons, List.length_nil, Nat.zero_le, Nat.reduceLeDiff, Nat.reduceAdd]
  refine ⟨by omega, by omega, ?_⟩
  rw [hn]
  have := l_172 (d := d - 1) ha hn hn2 h n 0 (by omega)
  rw [tfl_0] at this
  exact this
theorem l_173 {d a n lo hi : Nat} {t : T} {v : Int32} {F : Option Value → T → Prop} (ha : vtag a = 100) (hn : vlen a = n) (hn2 : n < 100000) (h2 : hi ≤ n) (h : F none (tfl t a lo hi v)) : ∀ (j i : Nat), lo ≤ i → i + j = hi → twp none d 173 10 [.ref a, .int (nI lo), .int (nI hi), .int v, .int (nI i)] [] (tfl t a lo i v) F := by
  intro j
  induction j with
  | zero =>
    intro i hlo hi9
    have hi8 : i = hi := by omega
    subst hi8
    refine vc_ok none zH_173 27 false _ 173 10 _ _ _ _ ?_
    simp only [v_173_0, v_173_1, v_173_2, v_173_3, v_173_4, v_173_7, v_173_8, v_173_10, h_173_10, v_173_12, v_173_13, v_173_16, v_173_17, v_173_19, v_173_20, v_173_21, v_173_24, v_173_27, vgi_0, vgi_s, vga_0, vga_s, vset_0, vset_s, vtk_0, vtk_s, vrc_0, vsw_0, vsw_s, List.all_cons, List.all_nil, zc1_i, zc1_r, Bool.and_true, Bool.and_self, true_and, and_true, List.length_cons, List.length_nil, Nat.zero_le, Nat.reduceLeDiff, Nat.reduceAdd]
    simp (disch := omega) only [nI_ltI, Nat.lt_irrefl, if_false]
    exact h
  | succ j ih =>
    intro i hlo hi
    refine vc_ok none zH_173 27 false _ 173 10 _ _ _ _ ?_
    simp only [v_173_0, v_173_1, v_173_2, v_173_3, v_173_4, v_173_7, v_173_8, v_173_10, h_173_10, v_173_12, v_173_13, v_173_16, v_173_17, v_173_19, v_173_20, v_173_21, v_173_24, v_173_27, vgi_0, vgi_s, vga_0, vga_s, vset_0, vset_s, vtk_0, vtk_s, vrc_0, vsw_0, vsw_s, List.all_cons, List.all_nil, zc1_i, zc1_r, Bool.and_true, Bool.and_self, true_and, and_true, List.length_cons, List.length_nil, Nat.zero_le, Nat.reduceLeDiff, Nat.reduceAdd]
    simp (disch := omega) only [li1, nI_ltI, nI_add, nI_clamp, vinb_n]
    rw [if_pos (by omega)]
    refine ⟨ha, by omega, ?_⟩
    rw [tfl_s _ _ _ _ _ hlo]
    exact ih (i + 1) (by omega) (by omega)
theorem c_173 {d a n lo hi : Nat} {t : T} {v : Int32} {F : Option Value → T → Prop} (hd : 2 ≤ d) (ha : vtag a = 100) (hn : vlen a = n) (hn2 : n < 100000) (h1 : lo ≤ hi) (h2 : hi ≤ n) (h : F none (tfl t a lo hi v)) : twc d 173 [.ref a, .int (nI lo), .int (nI hi), .int v] t F := by
  refine ⟨by omega, ?_⟩
  rw [ze_173]
  refine vc_ok none zH_173 27 false _ 173 0 _ _ _ _ ?_
  simp only [v_173_0, v_173_1, v_173_2, v_173_3, v_173_4, v_173_7, v_173_8, v_173_10, h_173_10, v_173_12, v_173_13, v_173_16, v_173_17, v_173_19, v_173_20, v_173_21, v_173_24, v_173_27, vgi_0, vgi_s, vga_0, vga_s, vset_0, vset_s, vtk_0, vtk_s, vrc_0, vsw_0, vsw_s, List.all_cons, List.all_nil, zc1_i, zc1_r, Bool.and_true, Bool.and_self, true_and, and_true, List.length_cons, List.length_nil, Nat.zero_le, Nat.reduceLeDiff, Nat.reduceAdd]
  refine ⟨by omega, by omega, ?_⟩
  rw [hn]
  refine c_174 (by omega) h1 h2 hn2 ?_
  simp only [v_173_0, v_173_1, v_173_2, v_173_3, v_173_4, v_173_7, v_173_8, v_173_10, h_173_10, v_173_12, v_173_13, v_173_16, v_173_17, v_173_19, v_173_20, v_173_21, v_173_24, v_173_27, vgi_0, vgi_s, vga_0, vga_s, vset_0, vset_s, vtk_0, vtk_s, vrc_0, vsw_0, vsw_s, List.all_cons, List.all_nil, zc1_i, zc1_r, Bool.and_true, Bool.and_self, true_and, and_true, List.length_cons, List.length_nil, Nat.zero_le, Nat.reduceLeDiff, Nat.reduceAdd, Option.toList_none, List.nil_append]
  have := l_173 (d := d - 1) ha hn hn2 h2 h (hi - lo) lo (by omega) (by omega)
  rw [tfl_0] at this
  exact this
section STR
variable {d a : Nat} {t : T} {F : Option Value → T → Prop}
theorem c_164 {u w : Nat} (hd : 1 ≤ d) (ha : vtag a = 4) (hu : u < 6) (hw : w < 6) (h : F (some (.int (sg (cS t a) 8 u w))) t) : twc d 164 [.ref a, .int (nI u), .int (nI w)] t F := by
  refine ⟨hd, ?_⟩
  rw [ze_164]
  refine vc_ok none zH_164 29 false _ 164 0 _ _ _ _ ?_
  simp only [v_164_0, v_164_1, v_164_2, v_164_5, v_164_6, v_164_7, v_164_8, v_164_11, v_164_12, v_164_13, v_164_14, v_164_15, v_164_16, v_164_17, v_164_18, v_164_21, v_164_22, v_164_25, v_164_26, vgi_0, vgi_s, vga_0, vga_s, vset_0, vset_s, vtk_0, vtk_s, vrc_0, vsw_0, vsw_s, List.all_cons, List.all_nil, zc1_i, zc1_r, Bool.and_true, Bool.and_self, true_and, and_true, List.length_cons, List.length_nil, Nat.zero_le, Nat.reduceLeDiff, Nat.reduceAdd, st_row t ha, ha, st_tag ha, st_len ha]
  simp (disch := omega) only [li2, li5, pk_mul, nI_add, nI_clamp, vinb_n, nI_eq]
  unfold sg at h
  rw [if_pos rfl, show 3 + 5 * u = 2 + 5 * u + 1 by omega, cS_c (by omega)] at h
  by_cases hx : u = w
  · rw [if_pos hx] at h ⊢
    refine ⟨by omega, ?_⟩
    split
    · rename_i h1; rw [if_pos h1] at h; exact h
    · rename_i h1; rw [if_neg h1] at h; exact h
  · rw [if_neg hx] at h ⊢
    exact h
theorem c_162 {p u w : Nat} (hd : 2 ≤ d) (ha : vtag a = 4) (hp : p < 9) (hu : u < 6) (hw : w < 6) (h : F (some (.int (sg (cS t a) p u w))) t) : twc d 162 [.ref a, .int (nI p), .int (nI u), .int (nI w)] t F := by
  refine ⟨by omega, ?_⟩
  rw [ze_162]
  refine vc_ok none zH_162 26 false _ 162 0 _ _ _ _ ?_
  simp only [v_162_0, v_162_1, v_162_3, v_162_6, v_162_7, v_162_8, v_162_9, v_162_12, v_162_15, v_162_16, v_162_19, v_162_20, v_162_21, v_162_22, v_162_25, v_162_26, vgi_0, vgi_s, vga_0, vga_s, vset_0, vset_s, vtk_0, vtk_s, vrc_0, vsw_0, vsw_s, List.all_cons, List.all_nil, zc1_i, zc1_r, Bool.and_true, Bool.and_self, true_and, and_true, List.length_cons, List.length_nil, Nat.zero_le, Nat.reduceLeDiff, Nat.reduceAdd, st_row t ha, ha, st_tag ha, st_len ha]
  simp (disch := omega) only [li8, nI_eq]
  by_cases hx : p = 8
  · rw [if_pos hx]
    subst hx
    refine c_164 (by omega) ha hu hw ?_
    simp only [v_162_0, v_162_1, v_162_3, v_162_6, v_162_7, v_162_8, v_162_9, v_162_12, v_162_15, v_162_16, v_162_19, v_162_20, v_162_21, v_162_22, v_162_25, v_162_26, vgi_0, vgi_s, vga_0, vga_s, vset_0, vset_s, vtk_0, vtk_s, vrc_0, vsw_0, vsw_s, List.all_cons, List.all_nil, zc1_i, zc1_r, Bool.and_true, Bool.and_self, true_and, and_true, List.length_cons, List.length_nil, Nat.zero_le, Nat.reduceLeDiff, Nat.reduceAdd, Option.toList_some, List.cons_append, List.nil_append]
    exact h
  · rw [if_neg hx]
    refine c_161 (by omega) hp (by omega) (by omega) ?_
    simp only [v_162_0, v_162_1, v_162_3, v_162_6, v_162_7, v_162_8, v_162_9, v_162_12, v_162_15, v_162_16, v_162_19, v_162_20, v_162_21, v_162_22, v_162_25, v_162_26, vgi_0, vgi_s, vga_0, vga_s, vset_0, vset_s, vtk_0, vtk_s, vrc_0, vsw_0, vsw_s, List.all_cons, List.all_nil, zc1_i, zc1_r, Bool.and_true, Bool.and_self, true_and, and_true, List.length_cons, List.length_nil, Nat.zero_le, Nat.reduceLeDiff, Nat.reduceAdd, Option.toList_some, List.cons_append, List.nil_append]
    have hc := cel_lt (p := p) (by omega) hu hw
    simp (disch := omega) only [nI_clamp, vinb_n]
    refine ⟨st_tag ha, by rw [st_len ha]; exact hc, ?_⟩
    unfold sg at h
    rw [if_neg hx, cS_c hc] at h
    exact h
theorem c_163 {p u w : Nat} {v : Int32} (hd : 2 ≤ d) (ha : vtag a = 4) (hp : p < 8) (hu : u < 6) (hw : w < 6) (h : F none (tsi t (a + 1) (cel p u w) v)) : twc d 163 [.ref a, .int (nI p), .int (nI u), .int (nI w), .int v] t F := by
  refine ⟨by omega, ?_⟩
  rw [ze_163]
  refine vc_ok none zH_163 19 false _ 163 0 _ _ _ _ ?_
  simp only [v_163_0, v_163_1, v_163_4, v_163_5, v_163_6, v_163_7, v_163_10, v_163_12, v_163_13, vgi_0, vgi_s, vga_0, vga_s, vset_0, vset_s, vtk_0, vtk_s, vrc_0, vsw_0, vsw_s, List.all_cons, List.all_nil, zc1_i, zc1_r, Bool.and_true, Bool.and_self, true_and, and_true, List.length_cons, List.length_nil, Nat.zero_le, Nat.reduceLeDiff, Nat.reduceAdd, st_row t ha, ha]
  refine c_161 (by omega) (by omega) (by omega) (by omega) ?_
  simp only [v_163_0, v_163_1, v_163_4, v_163_5, v_163_6, v_163_7, v_163_10, v_163_12, v_163_13, vgi_0, vgi_s, vga_0, vga_s, vset_0, vset_s, vtk_0, vtk_s, vrc_0, vsw_0, vsw_s, List.all_cons, List.all_nil, zc1_i, zc1_r, Bool.and_true, Bool.and_self, true_and, and_true, List.length_cons, List.length_nil, Nat.zero_le, Nat.reduceLeDiff, Nat.reduceAdd, Option.toList_some, List.cons_append, List.nil_append]
  have hc := cel_lt (p := p) (by omega) hu hw
  simp (disch := omega) only [nI_clamp, vinb_n]
  exact ⟨st_tag ha, by rw [st_len ha]; exact hc, h⟩
theorem c_165 {u : Nat} (hd : 1 ≤ d) (ha : vtag a = 4) (hu : u < 6) (h : F (some (.int (if cS t a (3 + 5 * u) = 1 then 1 else 0))) t) : twc d 165 [.ref a, .int (nI u)] t F := by
  refine ⟨by omega, ?_⟩
  rw [ze_165]
  refine vc_ok none zH_165 24 false _ 165 0 _ _ _ _ ?_
  simp only [v_165_0, v_165_1, v_165_4, v_165_5, v_165_6, v_165_7, v_165_8, v_165_9, v_165_10, v_165_11, v_165_14, v_165_15, v_165_18, v_165_19, vgi_0, vgi_s, vga_0, vga_s, vset_0, vset_s, vtk_0, vtk_s, vrc_0, vsw_0, vsw_s, List.all_cons, List.all_nil, zc1_i, zc1_r, Bool.and_true, Bool.and_self, true_and, and_true, List.length_cons, List.length_nil, Nat.zero_le, Nat.reduceLeDiff, Nat.reduceAdd, st_row t ha, ha, st_tag ha, st_len ha]
  simp (disch := omega) only [li2, li5, pk_mul, nI_add, nI_clamp, vinb_n]
  rw [show 3 + 5 * u = 2 + 5 * u + 1 by omega, cS_c (by omega)] at h
  refine ⟨by omega, ?_⟩
  split
  · rename_i h1; rw [if_pos h1] at h; exact ⟨Or.inr trivial, h⟩
  · rename_i h1; rw [if_neg h1] at h; exact ⟨Or.inl trivial, h⟩
theorem c_166 {u : Nat} {on : Int32} (hd : 1 ≤ d) (ha : vtag a = 4) (hu : u < 6) (h : F none (tsi t (a + 1) (2 + 5 * u) (if on = 0 then 0 else 1))) : twc d 166 [.ref a, .int (nI u), .int on] t F := by
  refine ⟨by omega, ?_⟩
  rw [ze_166]
  refine vc_ok none zH_166 24 false _ 166 0 _ _ _ _ ?_
  simp only [v_166_0, v_166_1, v_166_4, v_166_5, v_166_6, v_166_7, v_166_8, v_166_9, v_166_10, v_166_13, v_166_14, v_166_17, v_166_18, v_166_19, vgi_0, vgi_s, vga_0, vga_s, vset_0, vset_s, vtk_0, vtk_s, vrc_0, vsw_0, vsw_s, List.all_cons, List.all_nil, zc1_i, zc1_r, Bool.and_true, Bool.and_self, true_and, and_true, List.length_cons, List.length_nil, Nat.zero_le, Nat.reduceLeDiff, Nat.reduceAdd, st_row t ha, ha, st_tag ha, st_len ha]
  simp (disch := omega) only [li2, li5, pk_mul, nI_add, nI_clamp, vinb_n]
  split
  · rename_i h1; rw [if_pos h1] at h; exact ⟨by omega, h⟩
  · rename_i h1; rw [if_neg h1] at h; exact ⟨by omega, h⟩
theorem c_167 {n : Int32} (hd : 3 ≤ d) (ha : vtag a = 4) (h : F none (tsi (tfl t (a + 1) 2 104 0) a 0 n)) : twc d 167 [.ref a, .int n] t F := by
  refine ⟨by omega, ?_⟩
  rw [ze_167]
  refine vc_ok none zH_167 20 false _ 167 0 _ _ _ _ ?_
  simp only [v_167_0, v_167_1, v_167_4, v_167_5, v_167_7, v_167_8, v_167_11, v_167_12, v_167_13, v_167_16, vgi_0, vgi_s, vga_0, vga_s, vset_0, vset_s, vtk_0, vtk_s, vrc_0, vsw_0, vsw_s, List.all_cons, List.all_nil, zc1_i, zc1_r, Bool.and_true, Bool.and_self, true_and, and_true, List.length_cons, List.length_nil, Nat.zero_le, Nat.reduceLeDiff, Nat.reduceAdd, st_row t ha, ha, st_tag ha, st_len ha]
  refine c_173 (lo := 2) (hi := 104) (by omega) (st_tag ha) (st_len ha) (by omega) (by omega) (by omega) ?_
  simp only [v_167_0, v_167_1, v_167_4, v_167_5, v_167_7, v_167_8, v_167_11, v_167_12, v_167_13, v_167_16, vgi_0, vgi_s, vga_0, vga_s, vset_0, vset_s, vtk_0, vtk_s, vrc_0, vsw_0, vsw_s, List.all_cons, List.all_nil, zc1_i, zc1_r, Bool.and_true, Bool.and_self, true_and, and_true, List.length_cons, List.length_nil, Nat.zero_le, Nat.reduceLeDiff, Nat.reduceAdd, Option.toList_none, List.nil_append, ha]
  exact h
theorem st_ne {b : Nat} (ha : vtag a = 4) (hb : vtag b = 4) : a ≠ b + 1 := by
  intro q
  have := st_tag hb
  rw [← q, ha] at this
  omega
/-- only cells of A have changed -/
def tO (A : List Nat) (t t' : T) : Prop := t'.2 = t.2 ∧ ∀ b, b ∉ A → ∀ k, t'.1 b k = t.1 b k
theorem tO.rf {A : List Nat} {t : T} : tO A t t := ⟨rfl, fun _ _ _ => rfl⟩
theorem tO.tr {A : List Nat} {t t1 t2 : T} (h1 : tO A t t1) (h2 : tO A t1 t2) : tO A t t2 := ⟨h2.1.trans h1.1, fun b hb k => (h2.2 b hb k).trans (h1.2 b hb k)⟩
theorem tO.mono {A B : List Nat} {t t1 : T} (h1 : tO A t t1) (h : ∀ b, b ∈ A → b ∈ B) : tO B t t1 := ⟨h1.1, fun b hb k => h1.2 b (fun q => hb (h b q)) k⟩
theorem tO.si {A : List Nat} {b k : Nat} {v : Int32} (h : b ∈ A) : tO A t (tsi t b k v) := ⟨rfl, fun c hc j => by
  show (if c = b ∧ j = k then v else t.1 c j) = _
  rw [if_neg]
  rintro ⟨rfl, -⟩
  exact hc h⟩
theorem tO.fl {A : List Nat} {b lo hi : Nat} {v : Int32} (h : b ∈ A) : tO A t (tfl t b lo hi v) := ⟨rfl, fun c hc j => by
  show (if c = b ∧ lo ≤ j ∧ j < hi then v else t.1 c j) = _
  rw [if_neg]
  rintro ⟨rfl, -⟩
  exact hc h⟩
theorem tO.cp {A : List Nat} {b e sp dp n : Nat} (h : e ∈ A) : tO A t (tcp t b sp e dp n) := ⟨rfl, fun c hc j => by
  show (if c = e ∧ dp ≤ j ∧ j < dp + n then t.1 b (sp + (j - dp)) else t.1 c j) = _
  rw [if_neg]
  rintro ⟨rfl, -⟩
  exact hc h⟩
theorem tO.str {A : List Nat} {t' : T} (h : tO A t t') (h1 : a ∉ A) (h2 : a + 1 ∉ A) : cS t' a = cS t a := by
  funext k
  unfold cS
  rw [h.2 a h1 0, h.2 (a + 1) h2 (k - 1)]
theorem c_168 {b : Nat} (hd : 1 ≤ d) (ha : vtag a = 4) (hb : vtag b = 4) (h : ∀ t', tO [a, a + 1] t t' → cS t' a = cS t b → F none t') : twc d 168 [.ref a, .ref b] t F := by
  refine ⟨by omega, ?_⟩
  rw [ze_168]
  refine vc_ok none zH_168 23 false _ 168 0 _ _ _ _ ?_
  simp only [v_168_0, v_168_1, v_168_4, v_168_5, v_168_6, v_168_9, v_168_10, v_168_12, v_168_15, v_168_16, v_168_17, v_168_20, v_168_23, vgi_0, vgi_s, vga_0, vga_s, vset_0, vset_s, vtk_0, vtk_s, vrc_0, vsw_0, vsw_s, List.all_cons, List.all_nil, zc1_i, zc1_r, Bool.and_true, Bool.and_self, true_and, and_true, List.length_cons, List.length_nil, Nat.zero_le, Nat.reduceLeDiff, Nat.reduceAdd, st_row t ha, st_row t hb, ha, hb, st_tag ha, st_tag hb, st_len ha, st_len hb]
  simp (disch := omega) only [li0, li104, nI_clamp, nI_ltI, Nat.not_lt_zero, not_false_eq_true, true_and, Nat.zero_add, Nat.le_refl]
  refine h _ ((tO.cp (by simp)).tr (tO.si (by simp))) ?_
  have h1 := st_ne hb ha
  have h2 := st_ne ha ha
  funext k
  unfold cS
  by_cases hk : k = 0
  · subst hk
    simp [tsi, tcp, h1]
  · by_cases hk2 : k < 105
    · have h3 : k - 1 < 104 := by omega
      simp [tsi, tcp, hk, hk2, h3]
    · simp [hk, hk2]
end STR
