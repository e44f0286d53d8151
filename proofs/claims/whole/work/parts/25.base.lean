/-! Small numbers; structures by their addresses. -/
theorem vinb_n {k n : Nat} (h : k < 2 ^ 31) : vinb (nI k) n = (k < n) := by
  unfold vinb
  rw [nI_clamp h]
  exact propext ⟨fun q => q.2, fun q => ⟨nI_pos h, q⟩⟩
theorem li0 : (0 : Int32) = nI 0 := rfl
theorem li1 : (1 : Int32) = nI 1 := rfl
theorem li2 : (2 : Int32) = nI 2 := rfl
theorem li3 : (3 : Int32) = nI 3 := rfl
theorem li4 : (4 : Int32) = nI 4 := rfl
theorem li5 : (5 : Int32) = nI 5 := rfl
theorem li6 : (6 : Int32) = nI 6 := rfl
theorem li7 : (7 : Int32) = nI 7 := rfl
theorem li8 : (8 : Int32) = nI 8 := rfl
theorem li9 : (9 : Int32) = nI 9 := rfl
theorem li12 : (12 : Int32) = nI 12 := rfl
theorem li15 : (15 : Int32) = nI 15 := rfl
theorem li16 : (16 : Int32) = nI 16 := rfl
theorem li27 : (27 : Int32) = nI 27 := rfl
theorem li32 : (32 : Int32) = nI 32 := rfl
theorem li36 : (36 : Int32) = nI 36 := rfl
theorem li40 : (40 : Int32) = nI 40 := rfl
theorem li48 : (48 : Int32) = nI 48 := rfl
theorem li52 : (52 : Int32) = nI 52 := rfl
theorem li81 : (81 : Int32) = nI 81 := rfl
theorem li100 : (100 : Int32) = nI 100 := rfl
theorem li104 : (104 : Int32) = nI 104 := rfl
theorem li105 : (105 : Int32) = nI 105 := rfl
theorem li140 : (140 : Int32) = nI 140 := rfl
theorem li182 : (182 : Int32) = nI 182 := rfl
theorem li183 : (183 : Int32) = nI 183 := rfl
theorem st_dec : ∀ a, a < 517 → vtag a = 4 → tmut a 1 = false ∧ tcr a 1 = a + 1 ∧ vtag (a + 1) = 100 ∧ vlen (a + 1) = 104 := by decide +kernel
theorem st_row {a : Nat} (t : T) (h : vtag a = 4) : tref t a 1 = a + 1 := by
  have := st_dec a (vtag_lt h (by omega)) h
  unfold tref
  rw [this.1, if_neg (by decide), this.2.1]
theorem st_tag {a : Nat} (h : vtag a = 4) : vtag (a + 1) = 100 := (st_dec a (vtag_lt h (by omega)) h).2.2.1
theorem st_len {a : Nat} (h : vtag a = 4) : vlen (a + 1) = 104 := (st_dec a (vtag_lt h (by omega)) h).2.2.2
/-- the place of a value in a structure's row -/
def cel (p u w : Nat) : Nat := if p < 2 then p else if p < 6 then 1 + 5 * u + p else 26 + 12 * u + 2 * w + p
theorem cel_lt {p u w : Nat} (hp : p < 8) (hu : u < 6) (hw : w < 6) : cel p u w < 104 := by
  unfold cel
  split
  · omega
  · split <;> omega
theorem c_161 {d p u w : Nat} {t : T} {F : Option Value → T → Prop} (hd : 1 ≤ d) (hp : p < 9) (hu : u < 1000) (hw : w < 1000) (h : F (some (.int (nI (cel p u w)))) t) : twc d 161 [.int (nI p), .int (nI u), .int (nI w)] t F := by
  refine ⟨hd, ?_⟩
  rw [ze_161]
  refine vc_ok none zH_161 42 false _ 161 0 _ _ _ _ ?_
  simp only [v_161_0, v_161_1, v_161_2, v_161_5, v_161_6, v_161_7, v_161_8, v_161_10, v_161_13, v_161_14, v_161_15, v_161_16, v_161_17, v_161_18, v_161_19, v_161_20, v_161_21, v_161_22, v_161_23, v_161_25, v_161_27, v_161_28, v_161_29, v_161_30, v_161_31, v_161_32, v_161_33, v_161_34, v_161_35, v_161_36, v_161_38, v_161_39, vgi_0, vgi_s, vga_0, vga_s, vset_0, vset_s, vtk_0, vtk_s, vrc_0, vsw_0, vsw_s, List.all_cons, List.all_nil, zc1_i, zc1_r, Bool.and_true, Bool.and_self, true_and, and_true, List.length_cons, List.length_nil, Nat.zero_le, Nat.reduceLeDiff, Nat.reduceAdd]
  simp (disch := omega) only [li2, li5, li6, li12, li32, li1, nI_ltI, pk_mul, nI_add, pk_sub]
  unfold cel at h
  split
  · rename_i h1; rw [if_pos h1] at h; exact h
  · rename_i h1
    rw [if_neg h1] at h
    split
    · rename_i h2; rw [if_pos h2] at h
      rw [show 2 + 5 * u + p - 1 = 1 + 5 * u + p by omega]
      exact h
    · rename_i h2; rw [if_neg h2] at h
      rw [show 32 + 12 * u + 2 * w + p - 6 = 26 + 12 * u + 2 * w + p by omega]
      exact h
