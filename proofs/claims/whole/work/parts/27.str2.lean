/-! The order of structures; individuals added. -/
/-- the first difference decides -/
def lx (f g : St) : Nat → Nat → Int
  | _, 0 => 0
  | i, m + 1 => if f i = g i then lx f g (i + 1) m else if f i < g i then -1 else 1
theorem lx_s (f g : St) (i m : Nat) : lx f g i (m + 1) = if f i = g i then lx f g (i + 1) m else if f i < g i then -1 else 1 := rfl
theorem lx_0 (f g : St) (i : Nat) : lx f g i 0 = 0 := rfl
def so (f g : St) : Int := lx f g 0 105
theorem so_s (f g : St) : so f g = if f 0 = g 0 then lx f g 1 104 else if f 0 < g 0 then -1 else 1 := lx_s f g 0 104
/-- a structure as the class and the reference keep it: at most six individuals, values 0, 1, 2, nothing for those that are not there -/
def wfS (f : St) : Prop := (∃ n, n ≤ 6 ∧ f 0 = nI n ∧ (∀ u, n ≤ u → u < 6 → f (3 + 5 * u) = 0) ∧ (∀ p u, 2 ≤ p → p < 6 → n ≤ u → u < 6 → f (cel p u 0 + 1) = 0) ∧ (∀ p u w, 6 ≤ p → p < 8 → u < 6 → w < 6 → (n ≤ u ∨ n ≤ w) → f (cel p u w + 1) = 0)) ∧ (∀ k, 0 < k → k < 105 → ∃ v, v < 3 ∧ f k = nI v) ∧ (∀ u, u < 6 → f (3 + 5 * u) = 0 ∨ f (3 + 5 * u) = 1) ∧ (∀ k, 105 ≤ k → f k = 0)
def sn (f : St) : Nat := (f 0).toNatClampNeg
theorem wfS.n {f : St} (h : wfS f) : f 0 = nI (sn f) ∧ sn f ≤ 6 := by
  obtain ⟨⟨n, h1, h2, -⟩, -⟩ := h
  have : sn f = n := by unfold sn; rw [h2, nI_clamp (by omega)]
  rw [this]
  exact ⟨h2, h1⟩
/-- each place of a row is a mark, a value of an individual, or of a pair -/
theorem row_cases (k : Nat) (h : k < 104) : k < 2 ∨ (∃ u, u < 6 ∧ k = 2 + 5 * u) ∨ (∃ p u, 2 ≤ p ∧ p < 6 ∧ u < 6 ∧ k = 1 + 5 * u + p) ∨ ∃ p u w, 6 ≤ p ∧ p < 8 ∧ u < 6 ∧ w < 6 ∧ k = 26 + 12 * u + 2 * w + p := by
  by_cases h1 : k < 2
  · exact Or.inl h1
  · by_cases h2 : k < 32
    · right
      by_cases h3 : (k - 2) % 5 = 0
      · exact Or.inl ⟨(k - 2) / 5, by omega, by omega⟩
      · exact Or.inr (Or.inl ⟨(k - 2) % 5 + 1, (k - 2) / 5, by omega, by omega, by omega, by omega⟩)
    · exact Or.inr (Or.inr (Or.inr ⟨6 + k % 2, (k - 32) / 12, ((k - 32) % 12) / 2, by omega, by omega, by omega, by omega, by omega⟩))
/-- what lies behind the last individual's pairs is 0 -/
theorem wfS.tail {f : St} (h : wfS f) {k : Nat} (h1 : 32 + 12 * sn f ≤ k) (h2 : k < 104) : f (k + 1) = 0 := by
  have hn := h.n
  obtain ⟨⟨n, g1, g2, g3, g4, g5⟩, -⟩ := h
  have hsn : sn f = n := by unfold sn; rw [g2, nI_clamp (by omega)]
  rcases row_cases k h2 with h3 | ⟨u, h3, h4⟩ | ⟨p, u, h3, h4, h5, h6⟩ | ⟨p, u, w, h3, h4, h5, h6, h7⟩
  · omega
  · omega
  · omega
  · have := g5 p u w h3 h4 h5 h6 (Or.inl (by omega))
    rw [show cel p u w = k by unfold cel; rw [if_neg (by omega), if_neg (by omega)]; omega] at this
    exact this
theorem lx_eq {f g : St} : ∀ (m i : Nat), (∀ k, i ≤ k → k < i + m → f k = g k) → lx f g i m = 0
  | 0, _, _ => rfl
  | m + 1, i, h => by
    unfold lx
    rw [if_pos (h i (by omega) (by omega))]
    exact lx_eq m (i + 1) (fun k h1 h2 => h k (by omega) (by omega))
theorem lx_zero {f g : St} : ∀ (m i : Nat), lx f g i m = 0 → ∀ k, i ≤ k → k < i + m → f k = g k
  | 0, _, _, k, h1, h2 => by omega
  | m + 1, i, h, k, h1, h2 => by
    unfold lx at h
    split at h
    · rename_i he
      by_cases hk : k = i
      · rw [hk]; exact he
      · exact lx_zero m (i + 1) h k (by omega) (by omega)
    · split at h <;> cases h
theorem lx_cut {f g : St} : ∀ (m m2 i : Nat), (∀ k, i + m ≤ k → k < i + m + m2 → f k = g k) → lx f g i (m + m2) = lx f g i m
  | 0, m2, i, h => by
    rw [Nat.zero_add]
    exact lx_eq m2 i (fun k h1 h2 => h k (by omega) (by omega))
  | m + 1, m2, i, h => by
    rw [show m + 1 + m2 = (m + m2) + 1 by omega]
    unfold lx
    rw [lx_cut m m2 (i + 1) (fun k h1 h2 => h k (by omega) (by omega))]
theorem so_zero {f g : St} (hf : wfS f) (hg : wfS g) : so f g = 0 ↔ f = g := by
  constructor
  · intro h
    funext k
    by_cases hk : k < 105
    · exact lx_zero 105 0 h k (by omega) (by omega)
    · rw [hf.2.2.2 k (by omega), hg.2.2.2 k (by omega)]
  · intro h
    subst h
    exact lx_eq _ _ (fun _ _ _ => rfl)
/-- small numbers: a difference tells the order -/
theorem sub_ord {a b : Nat} (ha : a < 100) (hb : b < 100) : (nI a - nI b < 0 ↔ a < b) ∧ (nI a - nI b = 0 ↔ a = b) := by
  have h : (nI a - nI b).toInt = (a : Int) - b := pk_sub_toInt (by omega) (by omega)
  constructor
  · rw [Int32.lt_iff_toInt_lt, h]
    show (a : Int) - b < (0 : Int32).toInt ↔ _
    rw [show (0 : Int32).toInt = 0 from rfl]
    omega
  · rw [← Int32.toInt_inj, h, show (0 : Int32).toInt = 0 from rfl]
    omega
section ORD
variable {d a b : Nat} {t : T} {F : Option Value → T → Prop}
/-- what compareWith answers: the sign is the order's -/
def sgn (r : Int32) (z : Int) : Prop := (r < 0 ↔ z = -1) ∧ (r = 0 ↔ z = 0)
theorem l_169 (ha : vtag a = 4) (hb : vtag b = 4) (hf : wfS (cS t a)) (hg : wfS (cS t b)) {n : Nat} (hn : n ≤ 6) (h : ∀ r, sgn r (lx (cS t a) (cS t b) 1 (32 + 12 * n)) → F (some (.int r)) t) : ∀ (j i : Nat), i + j = 32 + 12 * n → lx (cS t a) (cS t b) 1 (32 + 12 * n) = lx (cS t a) (cS t b) (i + 1) j → twp none d 169 34 [.ref a, .ref b, .int (nI (32 + 12 * n)), .int (nI i)] [] t F := by
  intro j
  induction j with
  | zero =>
    intro i hi hx
    have hi8 : i = 32 + 12 * n := by omega
    subst hi8
    refine vc_ok none zH_169 56 false _ 169 34 _ _ _ _ ?_
    simp only [v_169_0, v_169_1, v_169_4, v_169_5, v_169_8, v_169_11, v_169_12, v_169_15, v_169_16, v_169_19, v_169_20, v_169_21, v_169_23, v_169_25, v_169_26, v_169_29, v_169_30, v_169_31, v_169_32, v_169_33, v_169_34, h_169_34, v_169_35, v_169_36, v_169_39, v_169_40, v_169_43, v_169_44, v_169_45, v_169_46, v_169_49, v_169_50, v_169_51, v_169_54, v_169_55, v_169_58, v_169_59, v_169_60, v_169_61, v_169_64, v_169_65, v_169_66, v_169_67, v_169_68, v_169_71, v_169_74, v_169_75, vgi_0, vgi_s, vga_0, vga_s, vset_0, vset_s, vtk_0, vtk_s, vrc_0, vsw_0, vsw_s, List.all_cons, List.all_nil, zc1_i, zc1_r, Bool.and_true, Bool.and_self, true_and, and_true, List.length_cons, List.length_nil, Nat.zero_le, Nat.reduceLeDiff, Nat.reduceAdd, st_row t ha, st_row t hb, ha, hb, st_tag ha, st_tag hb, st_len ha, st_len hb]
    simp (disch := omega) only [nI_ltI, Nat.lt_irrefl, if_false]
    refine h 0 ?_
    rw [hx, lx_0]
    exact ⟨by decide, by decide⟩
  | succ j ih =>
    intro i hi hx
    refine vc_ok none zH_169 56 false _ 169 34 _ _ _ _ ?_
    simp only [v_169_0, v_169_1, v_169_4, v_169_5, v_169_8, v_169_11, v_169_12, v_169_15, v_169_16, v_169_19, v_169_20, v_169_21, v_169_23, v_169_25, v_169_26, v_169_29, v_169_30, v_169_31, v_169_32, v_169_33, v_169_34, h_169_34, v_169_35, v_169_36, v_169_39, v_169_40, v_169_43, v_169_44, v_169_45, v_169_46, v_169_49, v_169_50, v_169_51, v_169_54, v_169_55, v_169_58, v_169_59, v_169_60, v_169_61, v_169_64, v_169_65, v_169_66, v_169_67, v_169_68, v_169_71, v_169_74, v_169_75, vgi_0, vgi_s, vga_0, vga_s, vset_0, vset_s, vtk_0, vtk_s, vrc_0, vsw_0, vsw_s, List.all_cons, List.all_nil, zc1_i, zc1_r, Bool.and_true, Bool.and_self, true_and, and_true, List.length_cons, List.length_nil, Nat.zero_le, Nat.reduceLeDiff, Nat.reduceAdd, st_row t ha, st_row t hb, ha, hb, st_tag ha, st_tag hb, st_len ha, st_len hb]
    simp (disch := omega) only [li1, nI_ltI, nI_add, nI_clamp, vinb_n]
    rw [if_pos (by omega)]
    refine ⟨by omega, by omega, ?_⟩
    obtain ⟨v, hv, hfv⟩ := hf.2.1 (i + 1) (by omega) (by omega)
    obtain ⟨w, hw, hgw⟩ := hg.2.1 (i + 1) (by omega) (by omega)
    have e1 := cS_c (t := t) (a := a) (k := i) (by omega)
    have e2 := cS_c (t := t) (a := b) (k := i) (by omega)
    rw [← e1, ← e2]
    have so := sub_ord (a := v) (b := w) (by omega) (by omega)
    rw [lx_s _ _ (i + 1) j] at hx
    split
    · rename_i he
      rw [if_pos he] at hx
      exact ih (i + 1) (by omega) hx
    · rename_i he
      rw [if_neg he] at hx
      refine ⟨by omega, by omega, ?_⟩
      refine h _ ?_
      rw [hx, hfv, hgw]
      rw [hfv, hgw] at he
      have hne : v ≠ w := fun q => he (by rw [q])
      by_cases hlt : v < w
      · rw [if_pos (nI_lt hlt (by omega))]
        exact ⟨⟨fun _ => rfl, fun _ => so.1.mpr hlt⟩, ⟨fun q => absurd (so.2.mp q) hne, fun q => by cases q⟩⟩
      · rw [if_neg (nI_nlt (by omega) (by omega))]
        exact ⟨⟨fun q => absurd (so.1.mp q) hlt, fun q => by cases q⟩, ⟨fun q => absurd (so.2.mp q) hne, fun q => by cases q⟩⟩
theorem c_169 (hd : 1 ≤ d) (ha : vtag a = 4) (hb : vtag b = 4) (hf : wfS (cS t a)) (hg : wfS (cS t b)) (h : ∀ r, sgn r (so (cS t a) (cS t b)) → F (some (.int r)) t) : twc d 169 [.ref a, .ref b] t F := by
  refine ⟨by omega, ?_⟩
  rw [ze_169]
  refine vc_ok none zH_169 56 false _ 169 0 _ _ _ _ ?_
  simp only [v_169_0, v_169_1, v_169_4, v_169_5, v_169_8, v_169_11, v_169_12, v_169_15, v_169_16, v_169_19, v_169_20, v_169_21, v_169_23, v_169_25, v_169_26, v_169_29, v_169_30, v_169_31, v_169_32, v_169_33, v_169_34, h_169_34, v_169_35, v_169_36, v_169_39, v_169_40, v_169_43, v_169_44, v_169_45, v_169_46, v_169_49, v_169_50, v_169_51, v_169_54, v_169_55, v_169_58, v_169_59, v_169_60, v_169_61, v_169_64, v_169_65, v_169_66, v_169_67, v_169_68, v_169_71, v_169_74, v_169_75, vgi_0, vgi_s, vga_0, vga_s, vset_0, vset_s, vtk_0, vtk_s, vrc_0, vsw_0, vsw_s, List.all_cons, List.all_nil, zc1_i, zc1_r, Bool.and_true, Bool.and_self, true_and, and_true, List.length_cons, List.length_nil, Nat.zero_le, Nat.reduceLeDiff, Nat.reduceAdd, st_row t ha, st_row t hb, ha, hb, st_tag ha, st_tag hb, st_len ha, st_len hb]
  have h1 := hf.n
  have h2 := hg.n
  rw [← cS_i, ← cS_i, h1.1, h2.1]
  generalize hn : sn (cS t a) = n at *
  generalize hm : sn (cS t b) = m at *
  simp (disch := omega) only [li32, li12, li0, pk_mul, nI_add, nI_eq]
  have so1 := sub_ord (a := n) (b := m) (by omega) (by omega)
  unfold so at h
  rw [lx_s _ _ 0 104] at h
  rw [h1.1, h2.1] at h
  by_cases he : n = m
  · subst he
    rw [if_pos rfl] at h
    rw [if_pos rfl]
    have hcut : lx (cS t a) (cS t b) 1 104 = lx (cS t a) (cS t b) 1 (32 + 12 * n) := by
      have := lx_cut (f := cS t a) (g := cS t b) (32 + 12 * n) (104 - (32 + 12 * n)) 1 (fun k k1 k2 => by
        have e1 := hf.tail (k := k - 1) (by rw [hn]; omega) (by omega)
        have e2 := hg.tail (k := k - 1) (by rw [hm]; omega) (by omega)
        rw [show k - 1 + 1 = k by omega] at e1 e2
        rw [e1, e2])
      rw [show 32 + 12 * n + (104 - (32 + 12 * n)) = 104 by omega] at this
      exact this
    rw [hcut] at h
    exact l_169 ha hb hf hg (by omega) h (32 + 12 * n) 0 (by omega) rfl
  · have hne : ¬ nI n = nI m := fun q => he ((nI_eq (by omega) (by omega)).mp q)
    rw [if_neg hne] at h
    rw [if_neg he]
    refine h _ ?_
    by_cases hlt : n < m
    · rw [if_pos (nI_lt hlt (by omega))]
      exact ⟨⟨fun _ => rfl, fun _ => so1.1.mpr hlt⟩, ⟨fun q => absurd (so1.2.mp q) he, fun q => by cases q⟩⟩
    · rw [if_neg (nI_nlt (by omega) (by omega))]
      exact ⟨⟨fun q => absurd (so1.1.mp q) hlt, fun q => by cases q⟩, ⟨fun q => absurd (so1.2.mp q) he, fun q => by cases q⟩⟩
end ORD
