/-! addLike, addCreated; split, created. -/
section ADD
variable {d a : Nat} {t : T} {F : Option Value → T → Prop}
theorem cS_su {t : T} {a k : Nat} {v : Int32} (hk : k < 104) : cS (tsi t (a + 1) k v) a = su (cS t a) (k + 1) v := by
  funext j
  unfold su cS
  by_cases z : j = k + 1
  · rw [if_pos z, if_neg (by omega), if_pos (by omega), z]
    exact tsi_eq
  · rw [if_neg z]
    by_cases z0 : j = 0
    · rw [if_pos z0, if_pos z0, tsi_ne (by omega)]
    · rw [if_neg z0, if_neg z0, tsi_ne (by omega)]
theorem c_163s {p u w : Nat} {v : Int32} (hd : 2 ≤ d) (ha : vtag a = 4) (hp : p < 8) (hu : u < 6) (hw : w < 6) (h : ∀ t', tO [a, a + 1] t t' → cS t' a = su (cS t a) (cel p u w + 1) v → F none t') : twc d 163 [.ref a, .int (nI p), .int (nI u), .int (nI w), .int v] t F :=
  c_163 hd ha hp hu hw (h _ (tO.si (by simp)) (cS_su (cel_lt hp hu hw)))
theorem c_166s {u : Nat} {on : Int32} (hd : 1 ≤ d) (ha : vtag a = 4) (hu : u < 6) (h : ∀ t', tO [a, a + 1] t t' → cS t' a = su (cS t a) (3 + 5 * u) (if on = 0 then 0 else 1) → F none t') : twc d 166 [.ref a, .int (nI u), .int on] t F :=
  c_166 hd ha hu (h _ (tO.si (by simp)) (by rw [cS_su (by omega)]; rw [show 2 + 5 * u + 1 = 3 + 5 * u by omega]))
theorem c_39s {s k : Nat} {v : Int32} {A P : Nat → Prop} (hd : 1 ≤ d) (hs : s < 184) (hk : k < 105) (hv : v.toInt8.toInt32 = v) (hP : P s) (h : ∀ t', mG A P t t' → (∀ x, mS t' x = if x = s then su (mS t s) k v else mS t x) → F none t') : twc d 39 [.ref 483, .int (nI s), .int (nI k), .int v] t F :=
  c_39 hd hs hk hv (h _ (mG.of (mO_si (A := []) (R := [s]) hk (by simp)) (fun b hb => by cases hb) (fun b hb => by rw [List.mem_singleton] at hb; rw [hb]; exact hP)) (fun x => mS_si hk x))
theorem tri_b {x : Int32} (h : tri x) : x.toInt8.toInt32 = x := by
  obtain ⟨v, hv, rfl⟩ := h
  exact n_byte v (by omega)
theorem sg_cel {f : St} {p u w : Nat} (hp : p < 8) : sg f p u w = f (cel p u w + 1) := by
  unfold sg
  rw [if_neg (by omega)]
theorem cS_hi {t : T} {a k : Nat} (h : 105 ≤ k) : cS t a k = 0 := by
  unfold cS
  rw [if_neg (by omega), if_neg (by omega)]
theorem mS_hi {t : T} {a k : Nat} (h : 105 ≤ k) : mS t a k = 0 := by
  unfold mS
  rw [if_neg (by omega)]
/-- one pair of sets of addLike, of split -/
theorem sp_v {f g : St} {n w : Nat} {D : Nat → Prop} (h : spI f n w D g) {p a b : Nat} (hp : 6 ≤ p) (hp2 : p < 8) (ha : a < n) (hb : b < n) (hn : n < 6) : sg g p a b = f (27 + 12 * a + 2 * b + p) := by
  rw [sg2 hp hp2]
  refine spI_rd h (by omega) (by omega) ?_
  rw [spi_pair hp hp2 (by omega), spx_o ha, spx_o hb]
theorem l_170b {f : St} {n w p : Nat} (hd : 3 ≤ d) (ha : vtag a = 4) (hn : n < 6) (hw : w < n) (hp : 6 ≤ p) (hp2 : p < 8) (h : ∀ (t' : T) (jv : Value), tO [a, a + 1] t t' → spI f n w (spD n (p + 1) 0) (cS t' a) → twp none d 170 40 [.ref a, .int (nI w), .int (nI n), .int (nI (p + 1)), jv] [] t' F) : ∀ (j x : Nat) (t' : T), x + j = n → tO [a, a + 1] t t' → spI f n w (spD n p x) (cS t' a) → twp none d 170 49 [.ref a, .int (nI w), .int (nI n), .int (nI p), .int (nI x)] [] t' F := by
  intro j
  induction j with
  | zero =>
    intro x t' hx hO hI
    have hx : x = n := by omega
    subst hx
    refine vc_ok none zH_170 80 false _ 170 49 _ _ _ _ ?_
    simp only [v_170_0, v_170_1, v_170_4, v_170_5, v_170_6_int, v_170_6_ref, v_170_7, v_170_10, v_170_11, v_170_12, v_170_15, v_170_16, v_170_19, v_170_20, v_170_21, v_170_22, v_170_23, v_170_24, v_170_25, v_170_28, v_170_29, v_170_30, v_170_31, v_170_32, v_170_33, v_170_34, v_170_37, v_170_39, v_170_40, h_170_40, v_170_41, v_170_43, v_170_46, v_170_47, v_170_49, h_170_49, v_170_51, v_170_52, v_170_55, v_170_56, v_170_57, v_170_58, v_170_60, v_170_61, v_170_62, v_170_63, v_170_65, v_170_68, v_170_71, v_170_72, v_170_73, v_170_75, v_170_76, v_170_77, v_170_78, v_170_80, v_170_81, v_170_84, v_170_87, v_170_90, v_170_93, v_170_94, v_170_95, v_170_96, v_170_97, v_170_98, v_170_99, v_170_100, v_170_101, v_170_104, v_170_107, v_170_110, v_170_113, vgi_0, vgi_s, vga_0, vga_s, vset_0, vset_s, vtk_0, vtk_s, vrc_0, vsw_0, vsw_s, List.all_cons, List.all_nil, zc1_i, zc1_r, Bool.and_true, Bool.and_self, true_and, and_true, List.length_cons, List.length_nil, Nat.zero_le, Nat.reduceLeDiff, Nat.reduceAdd, Nat.reduceLT, ha]
    simp (disch := omega) only [nI_ltI, Nat.lt_irrefl, if_false]
    refine c_162 (by omega) ha (by omega) (by omega) (by omega) ?_
    simp only [v_170_0, v_170_1, v_170_4, v_170_5, v_170_6_int, v_170_6_ref, v_170_7, v_170_10, v_170_11, v_170_12, v_170_15, v_170_16, v_170_19, v_170_20, v_170_21, v_170_22, v_170_23, v_170_24, v_170_25, v_170_28, v_170_29, v_170_30, v_170_31, v_170_32, v_170_33, v_170_34, v_170_37, v_170_39, v_170_40, h_170_40, v_170_41, v_170_43, v_170_46, v_170_47, v_170_49, h_170_49, v_170_51, v_170_52, v_170_55, v_170_56, v_170_57, v_170_58, v_170_60, v_170_61, v_170_62, v_170_63, v_170_65, v_170_68, v_170_71, v_170_72, v_170_73, v_170_75, v_170_76, v_170_77, v_170_78, v_170_80, v_170_81, v_170_84, v_170_87, v_170_90, v_170_93, v_170_94, v_170_95, v_170_96, v_170_97, v_170_98, v_170_99, v_170_100, v_170_101, v_170_104, v_170_107, v_170_110, v_170_113, vgi_0, vgi_s, vga_0, vga_s, vset_0, vset_s, vtk_0, vtk_s, vrc_0, vsw_0, vsw_s, List.all_cons, List.all_nil, zc1_i, zc1_r, Bool.and_true, Bool.and_self, true_and, and_true, List.length_cons, List.length_nil, Nat.zero_le, Nat.reduceLeDiff, Nat.reduceAdd, Nat.reduceLT, Option.toList_some, List.cons_append, List.nil_append, ha]
    rw [sp_v hI hp hp2 hw hw hn]
    refine c_163s (by omega) ha (by omega) (by omega) (by omega) (fun t2 o2 e2 => ?_)
    simp only [v_170_0, v_170_1, v_170_4, v_170_5, v_170_6_int, v_170_6_ref, v_170_7, v_170_10, v_170_11, v_170_12, v_170_15, v_170_16, v_170_19, v_170_20, v_170_21, v_170_22, v_170_23, v_170_24, v_170_25, v_170_28, v_170_29, v_170_30, v_170_31, v_170_32, v_170_33, v_170_34, v_170_37, v_170_39, v_170_40, h_170_40, v_170_41, v_170_43, v_170_46, v_170_47, v_170_49, h_170_49, v_170_51, v_170_52, v_170_55, v_170_56, v_170_57, v_170_58, v_170_60, v_170_61, v_170_62, v_170_63, v_170_65, v_170_68, v_170_71, v_170_72, v_170_73, v_170_75, v_170_76, v_170_77, v_170_78, v_170_80, v_170_81, v_170_84, v_170_87, v_170_90, v_170_93, v_170_94, v_170_95, v_170_96, v_170_97, v_170_98, v_170_99, v_170_100, v_170_101, v_170_104, v_170_107, v_170_110, v_170_113, vgi_0, vgi_s, vga_0, vga_s, vset_0, vset_s, vtk_0, vtk_s, vrc_0, vsw_0, vsw_s, List.all_cons, List.all_nil, zc1_i, zc1_r, Bool.and_true, Bool.and_self, true_and, and_true, List.length_cons, List.length_nil, Nat.zero_le, Nat.reduceLeDiff, Nat.reduceAdd, Nat.reduceLT, Option.toList_none, List.nil_append]
    rw [nI_1]
    refine h t2 _ (hO.tr o2) ?_
    rw [e2, cel2 hp]
    refine spI_mono (spI_set hI (by omega) (by omega) ?_) spD_n
    rw [spi_pair hp hp2 (by omega), spx_n]
  | succ j ih =>
    intro x t' hx hO hI
    refine vc_ok none zH_170 80 false _ 170 49 _ _ _ _ ?_
    simp only [v_170_0, v_170_1, v_170_4, v_170_5, v_170_6_int, v_170_6_ref, v_170_7, v_170_10, v_170_11, v_170_12, v_170_15, v_170_16, v_170_19, v_170_20, v_170_21, v_170_22, v_170_23, v_170_24, v_170_25, v_170_28, v_170_29, v_170_30, v_170_31, v_170_32, v_170_33, v_170_34, v_170_37, v_170_39, v_170_40, h_170_40, v_170_41, v_170_43, v_170_46, v_170_47, v_170_49, h_170_49, v_170_51, v_170_52, v_170_55, v_170_56, v_170_57, v_170_58, v_170_60, v_170_61, v_170_62, v_170_63, v_170_65, v_170_68, v_170_71, v_170_72, v_170_73, v_170_75, v_170_76, v_170_77, v_170_78, v_170_80, v_170_81, v_170_84, v_170_87, v_170_90, v_170_93, v_170_94, v_170_95, v_170_96, v_170_97, v_170_98, v_170_99, v_170_100, v_170_101, v_170_104, v_170_107, v_170_110, v_170_113, vgi_0, vgi_s, vga_0, vga_s, vset_0, vset_s, vtk_0, vtk_s, vrc_0, vsw_0, vsw_s, List.all_cons, List.all_nil, zc1_i, zc1_r, Bool.and_true, Bool.and_self, true_and, and_true, List.length_cons, List.length_nil, Nat.zero_le, Nat.reduceLeDiff, Nat.reduceAdd, Nat.reduceLT, ha]
    simp (disch := omega) only [nI_ltI]
    rw [if_pos (by omega)]
    refine c_162 (by omega) ha (by omega) (by omega) (by omega) ?_
    simp only [v_170_0, v_170_1, v_170_4, v_170_5, v_170_6_int, v_170_6_ref, v_170_7, v_170_10, v_170_11, v_170_12, v_170_15, v_170_16, v_170_19, v_170_20, v_170_21, v_170_22, v_170_23, v_170_24, v_170_25, v_170_28, v_170_29, v_170_30, v_170_31, v_170_32, v_170_33, v_170_34, v_170_37, v_170_39, v_170_40, h_170_40, v_170_41, v_170_43, v_170_46, v_170_47, v_170_49, h_170_49, v_170_51, v_170_52, v_170_55, v_170_56, v_170_57, v_170_58, v_170_60, v_170_61, v_170_62, v_170_63, v_170_65, v_170_68, v_170_71, v_170_72, v_170_73, v_170_75, v_170_76, v_170_77, v_170_78, v_170_80, v_170_81, v_170_84, v_170_87, v_170_90, v_170_93, v_170_94, v_170_95, v_170_96, v_170_97, v_170_98, v_170_99, v_170_100, v_170_101, v_170_104, v_170_107, v_170_110, v_170_113, vgi_0, vgi_s, vga_0, vga_s, vset_0, vset_s, vtk_0, vtk_s, vrc_0, vsw_0, vsw_s, List.all_cons, List.all_nil, zc1_i, zc1_r, Bool.and_true, Bool.and_self, true_and, and_true, List.length_cons, List.length_nil, Nat.zero_le, Nat.reduceLeDiff, Nat.reduceAdd, Nat.reduceLT, Option.toList_some, List.cons_append, List.nil_append, ha]
    rw [sp_v hI hp hp2 hw (by omega) hn]
    refine c_163s (by omega) ha (by omega) (by omega) (by omega) (fun t2 o2 e2 => ?_)
    have hI2 := spI_set hI (k := 27 + 12 * n + 2 * x + p) (v := f (27 + 12 * w + 2 * x + p)) (by omega) (by omega) (by rw [spi_pair hp hp2 (by omega), spx_n, spx_o (by omega)])
    rw [cel2 hp] at e2
    rw [← e2] at hI2
    simp only [v_170_0, v_170_1, v_170_4, v_170_5, v_170_6_int, v_170_6_ref, v_170_7, v_170_10, v_170_11, v_170_12, v_170_15, v_170_16, v_170_19, v_170_20, v_170_21, v_170_22, v_170_23, v_170_24, v_170_25, v_170_28, v_170_29, v_170_30, v_170_31, v_170_32, v_170_33, v_170_34, v_170_37, v_170_39, v_170_40, h_170_40, v_170_41, v_170_43, v_170_46, v_170_47, v_170_49, h_170_49, v_170_51, v_170_52, v_170_55, v_170_56, v_170_57, v_170_58, v_170_60, v_170_61, v_170_62, v_170_63, v_170_65, v_170_68, v_170_71, v_170_72, v_170_73, v_170_75, v_170_76, v_170_77, v_170_78, v_170_80, v_170_81, v_170_84, v_170_87, v_170_90, v_170_93, v_170_94, v_170_95, v_170_96, v_170_97, v_170_98, v_170_99, v_170_100, v_170_101, v_170_104, v_170_107, v_170_110, v_170_113, vgi_0, vgi_s, vga_0, vga_s, vset_0, vset_s, vtk_0, vtk_s, vrc_0, vsw_0, vsw_s, List.all_cons, List.all_nil, zc1_i, zc1_r, Bool.and_true, Bool.and_self, true_and, and_true, List.length_cons, List.length_nil, Nat.zero_le, Nat.reduceLeDiff, Nat.reduceAdd, Nat.reduceLT, Option.toList_none, List.nil_append, ha]
    refine c_162 (by omega) ha (by omega) (by omega) (by omega) ?_
    simp only [v_170_0, v_170_1, v_170_4, v_170_5, v_170_6_int, v_170_6_ref, v_170_7, v_170_10, v_170_11, v_170_12, v_170_15, v_170_16, v_170_19, v_170_20, v_170_21, v_170_22, v_170_23, v_170_24, v_170_25, v_170_28, v_170_29, v_170_30, v_170_31, v_170_32, v_170_33, v_170_34, v_170_37, v_170_39, v_170_40, h_170_40, v_170_41, v_170_43, v_170_46, v_170_47, v_170_49, h_170_49, v_170_51, v_170_52, v_170_55, v_170_56, v_170_57, v_170_58, v_170_60, v_170_61, v_170_62, v_170_63, v_170_65, v_170_68, v_170_71, v_170_72, v_170_73, v_170_75, v_170_76, v_170_77, v_170_78, v_170_80, v_170_81, v_170_84, v_170_87, v_170_90, v_170_93, v_170_94, v_170_95, v_170_96, v_170_97, v_170_98, v_170_99, v_170_100, v_170_101, v_170_104, v_170_107, v_170_110, v_170_113, vgi_0, vgi_s, vga_0, vga_s, vset_0, vset_s, vtk_0, vtk_s, vrc_0, vsw_0, vsw_s, List.all_cons, List.all_nil, zc1_i, zc1_r, Bool.and_true, Bool.and_self, true_and, and_true, List.length_cons, List.length_nil, Nat.zero_le, Nat.reduceLeDiff, Nat.reduceAdd, Nat.reduceLT, Option.toList_some, List.cons_append, List.nil_append, ha]
    rw [sp_v hI2 hp hp2 (by omega) hw hn]
    refine c_163s (by omega) ha (by omega) (by omega) (by omega) (fun t3 o3 e3 => ?_)
    simp only [v_170_0, v_170_1, v_170_4, v_170_5, v_170_6_int, v_170_6_ref, v_170_7, v_170_10, v_170_11, v_170_12, v_170_15, v_170_16, v_170_19, v_170_20, v_170_21, v_170_22, v_170_23, v_170_24, v_170_25, v_170_28, v_170_29, v_170_30, v_170_31, v_170_32, v_170_33, v_170_34, v_170_37, v_170_39, v_170_40, h_170_40, v_170_41, v_170_43, v_170_46, v_170_47, v_170_49, h_170_49, v_170_51, v_170_52, v_170_55, v_170_56, v_170_57, v_170_58, v_170_60, v_170_61, v_170_62, v_170_63, v_170_65, v_170_68, v_170_71, v_170_72, v_170_73, v_170_75, v_170_76, v_170_77, v_170_78, v_170_80, v_170_81, v_170_84, v_170_87, v_170_90, v_170_93, v_170_94, v_170_95, v_170_96, v_170_97, v_170_98, v_170_99, v_170_100, v_170_101, v_170_104, v_170_107, v_170_110, v_170_113, vgi_0, vgi_s, vga_0, vga_s, vset_0, vset_s, vtk_0, vtk_s, vrc_0, vsw_0, vsw_s, List.all_cons, List.all_nil, zc1_i, zc1_r, Bool.and_true, Bool.and_self, true_and, and_true, List.length_cons, List.length_nil, Nat.zero_le, Nat.reduceLeDiff, Nat.reduceAdd, Nat.reduceLT, Option.toList_none, List.nil_append]
    rw [nI_1]
    refine ih (x + 1) t3 (by omega) ((hO.tr o2).tr o3) ?_
    rw [e3, cel2 hp]
    refine spI_mono (spI_set hI2 (by omega) (by omega) ?_) spD_s
    rw [spi_pair hp hp2 (by omega), spx_n, spx_o (by omega)]
theorem tcp_mark {t : T} {a n w : Nat} (hn : n < 6) (hw : w < n) (k : Nat) : cS (tcp t (a + 1) (2 + 5 * w) (a + 1) (2 + 5 * n) 5) a k = if 3 + 5 * n ≤ k ∧ k < 8 + 5 * n then cS t a (spi n w k) else cS t a k := by
  have hd : ∀ b j, (tcp t (a + 1) (2 + 5 * w) (a + 1) (2 + 5 * n) 5).1 b j = if b = a + 1 ∧ 2 + 5 * n ≤ j ∧ j < 2 + 5 * n + 5 then t.1 (a + 1) (2 + 5 * w + (j - (2 + 5 * n))) else t.1 b j := fun _ _ => rfl
  by_cases z : 3 + 5 * n ≤ k ∧ k < 8 + 5 * n
  · rw [if_pos z]
    have e1 : spi n w k = 2 + 5 * w + (k - (3 + 5 * n)) + 1 := by
      have := spi_mark (n := n) (w := w) (a := n) (j := k - (3 + 5 * n)) hn (by omega)
      rw [show 3 + 5 * n + (k - (3 + 5 * n)) = k by omega, spx_n] at this
      omega
    rw [e1, cS_c (by omega)]
    obtain ⟨j, rfl⟩ : ∃ j, k = j + 1 := ⟨k - 1, by omega⟩
    rw [cS_c (by omega), hd, if_pos ⟨rfl, by omega, by omega⟩, show j - (2 + 5 * n) = j + 1 - (3 + 5 * n) by omega]
  · rw [if_neg z]
    by_cases k0 : k = 0
    · subst k0
      rw [cS_i, cS_i, hd, if_neg (by omega)]
    · by_cases k1 : k < 105
      · obtain ⟨j, rfl⟩ : ∃ j, k = j + 1 := ⟨k - 1, by omega⟩
        rw [cS_c (by omega), cS_c (by omega), hd, if_neg (by omega)]
      · rw [cS_hi (by omega), cS_hi (by omega)]
theorem c_170 {n w : Nat} (hd : 4 ≤ d) (ha : vtag a = 4) (hf : wfS (cS t a)) (hn : cS t a 0 = nI n) (hn6 : n < 6) (hw : w < n) (h : ∀ t', tO [a, a + 1] t t' → cS t' a = spl (cS t a) n w → F none t') : twc d 170 [.ref a, .int (nI w)] t F := by
  have hn' : t.1 a 0 = nI n := hn
  refine ⟨by omega, ?_⟩
  rw [ze_170]
  refine vc_ok none zH_170 80 false _ 170 0 _ _ _ _ ?_
  simp only [v_170_0, v_170_1, v_170_4, v_170_5, v_170_6_int, v_170_6_ref, v_170_7, v_170_10, v_170_11, v_170_12, v_170_15, v_170_16, v_170_19, v_170_20, v_170_21, v_170_22, v_170_23, v_170_24, v_170_25, v_170_28, v_170_29, v_170_30, v_170_31, v_170_32, v_170_33, v_170_34, v_170_37, v_170_39, v_170_40, h_170_40, v_170_41, v_170_43, v_170_46, v_170_47, v_170_49, h_170_49, v_170_51, v_170_52, v_170_55, v_170_56, v_170_57, v_170_58, v_170_60, v_170_61, v_170_62, v_170_63, v_170_65, v_170_68, v_170_71, v_170_72, v_170_73, v_170_75, v_170_76, v_170_77, v_170_78, v_170_80, v_170_81, v_170_84, v_170_87, v_170_90, v_170_93, v_170_94, v_170_95, v_170_96, v_170_97, v_170_98, v_170_99, v_170_100, v_170_101, v_170_104, v_170_107, v_170_110, v_170_113, vgi_0, vgi_s, vga_0, vga_s, vset_0, vset_s, vtk_0, vtk_s, vrc_0, vsw_0, vsw_s, List.all_cons, List.all_nil, zc1_i, zc1_r, Bool.and_true, Bool.and_self, true_and, and_true, List.length_cons, List.length_nil, Nat.zero_le, Nat.reduceLeDiff, Nat.reduceAdd, Nat.reduceLT, ha, st_row _ ha, st_tag ha, st_len ha, hn']
  simp (disch := omega) only [li1, li2, li5, pk_mul, nI_add, nI_clamp, nI_ltI, Nat.not_lt_zero, not_false_eq_true, true_and, li0]
  refine ⟨by omega, by omega, ?_⟩
  have hmut : ∀ (t' : T) (p : Nat) (jv : Value), 6 ≤ p → p ≤ 8 → tO [a, a + 1] t t' → spI (cS t a) n w (spD n p 0) (cS t' a) → twp none (d - 1) 170 40 [.ref a, .int (nI w), .int (nI n), .int (nI p), jv] [] t' F := by
    intro t' p jv h1 h2 hO hI
    have h8 : ∀ (t' : T) (jv : Value), tO [a, a + 1] t t' → spI (cS t a) n w (spD n 8 0) (cS t' a) → twp none (d - 1) 170 40 [.ref a, .int (nI w), .int (nI n), .int (nI 8), jv] [] t' F := by
      intro t' jv hO hI
      refine vc_ok none zH_170 80 false _ 170 40 _ _ _ _ ?_
      simp only [v_170_0, v_170_1, v_170_4, v_170_5, v_170_6_int, v_170_6_ref, v_170_7, v_170_10, v_170_11, v_170_12, v_170_15, v_170_16, v_170_19, v_170_20, v_170_21, v_170_22, v_170_23, v_170_24, v_170_25, v_170_28, v_170_29, v_170_30, v_170_31, v_170_32, v_170_33, v_170_34, v_170_37, v_170_39, v_170_40, h_170_40, v_170_41, v_170_43, v_170_46, v_170_47, v_170_49, h_170_49, v_170_51, v_170_52, v_170_55, v_170_56, v_170_57, v_170_58, v_170_60, v_170_61, v_170_62, v_170_63, v_170_65, v_170_68, v_170_71, v_170_72, v_170_73, v_170_75, v_170_76, v_170_77, v_170_78, v_170_80, v_170_81, v_170_84, v_170_87, v_170_90, v_170_93, v_170_94, v_170_95, v_170_96, v_170_97, v_170_98, v_170_99, v_170_100, v_170_101, v_170_104, v_170_107, v_170_110, v_170_113, vgi_0, vgi_s, vga_0, vga_s, vset_0, vset_s, vtk_0, vtk_s, vrc_0, vsw_0, vsw_s, List.all_cons, List.all_nil, zc1_i, zc1_r, Bool.and_true, Bool.and_self, true_and, and_true, List.length_cons, List.length_nil, Nat.zero_le, Nat.reduceLeDiff, Nat.reduceAdd, Nat.reduceLT]
      rw [if_neg (by decide)]
      exact h t' hO (spI_end hf hn hn6 hw hI)
    have h7 : ∀ (t' : T) (jv : Value), tO [a, a + 1] t t' → spI (cS t a) n w (spD n 7 0) (cS t' a) → twp none (d - 1) 170 40 [.ref a, .int (nI w), .int (nI n), .int (nI 7), jv] [] t' F := by
      intro t' jv hO hI
      refine vc_ok none zH_170 80 false _ 170 40 _ _ _ _ ?_
      simp only [v_170_0, v_170_1, v_170_4, v_170_5, v_170_6_int, v_170_6_ref, v_170_7, v_170_10, v_170_11, v_170_12, v_170_15, v_170_16, v_170_19, v_170_20, v_170_21, v_170_22, v_170_23, v_170_24, v_170_25, v_170_28, v_170_29, v_170_30, v_170_31, v_170_32, v_170_33, v_170_34, v_170_37, v_170_39, v_170_40, h_170_40, v_170_41, v_170_43, v_170_46, v_170_47, v_170_49, h_170_49, v_170_51, v_170_52, v_170_55, v_170_56, v_170_57, v_170_58, v_170_60, v_170_61, v_170_62, v_170_63, v_170_65, v_170_68, v_170_71, v_170_72, v_170_73, v_170_75, v_170_76, v_170_77, v_170_78, v_170_80, v_170_81, v_170_84, v_170_87, v_170_90, v_170_93, v_170_94, v_170_95, v_170_96, v_170_97, v_170_98, v_170_99, v_170_100, v_170_101, v_170_104, v_170_107, v_170_110, v_170_113, vgi_0, vgi_s, vga_0, vga_s, vset_0, vset_s, vtk_0, vtk_s, vrc_0, vsw_0, vsw_s, List.all_cons, List.all_nil, zc1_i, zc1_r, Bool.and_true, Bool.and_self, true_and, and_true, List.length_cons, List.length_nil, Nat.zero_le, Nat.reduceLeDiff, Nat.reduceAdd, Nat.reduceLT]
      rw [if_pos (by decide)]
      exact l_170b (p := 7) (by omega) ha hn6 hw (by omega) (by omega) h8 n 0 t' (by omega) hO hI
    have h6 : ∀ (t' : T) (jv : Value), tO [a, a + 1] t t' → spI (cS t a) n w (spD n 6 0) (cS t' a) → twp none (d - 1) 170 40 [.ref a, .int (nI w), .int (nI n), .int (nI 6), jv] [] t' F := by
      intro t' jv hO hI
      refine vc_ok none zH_170 80 false _ 170 40 _ _ _ _ ?_
      simp only [v_170_0, v_170_1, v_170_4, v_170_5, v_170_6_int, v_170_6_ref, v_170_7, v_170_10, v_170_11, v_170_12, v_170_15, v_170_16, v_170_19, v_170_20, v_170_21, v_170_22, v_170_23, v_170_24, v_170_25, v_170_28, v_170_29, v_170_30, v_170_31, v_170_32, v_170_33, v_170_34, v_170_37, v_170_39, v_170_40, h_170_40, v_170_41, v_170_43, v_170_46, v_170_47, v_170_49, h_170_49, v_170_51, v_170_52, v_170_55, v_170_56, v_170_57, v_170_58, v_170_60, v_170_61, v_170_62, v_170_63, v_170_65, v_170_68, v_170_71, v_170_72, v_170_73, v_170_75, v_170_76, v_170_77, v_170_78, v_170_80, v_170_81, v_170_84, v_170_87, v_170_90, v_170_93, v_170_94, v_170_95, v_170_96, v_170_97, v_170_98, v_170_99, v_170_100, v_170_101, v_170_104, v_170_107, v_170_110, v_170_113, vgi_0, vgi_s, vga_0, vga_s, vset_0, vset_s, vtk_0, vtk_s, vrc_0, vsw_0, vsw_s, List.all_cons, List.all_nil, zc1_i, zc1_r, Bool.and_true, Bool.and_self, true_and, and_true, List.length_cons, List.length_nil, Nat.zero_le, Nat.reduceLeDiff, Nat.reduceAdd, Nat.reduceLT]
      rw [if_pos (by decide)]
      exact l_170b (p := 6) (by omega) ha hn6 hw (by omega) (by omega) h7 n 0 t' (by omega) hO hI
    have : p = 6 ∨ p = 7 ∨ p = 8 := by omega
    rcases this with rfl | rfl | rfl
    · exact h6 t' jv hO hI
    · exact h7 t' jv hO hI
    · exact h8 t' jv hO hI
  refine hmut _ 6 _ (by omega) (by omega) ((tO.si (by simp)).tr (tO.cp (by simp))) ?_
  have hcs : ∀ k, cS (tsi t a 0 (nI (n + 1))) a k = if k = 0 then nI (n + 1) else cS t a k := by
    intro k
    unfold cS
    by_cases z : k = 0
    · rw [if_pos z, if_pos z, tsi_eq]
    · rw [if_neg z, if_neg z, tsi_ne (by omega)]
      rw [if_neg z]
  refine ⟨?_, fun k hk => cS_hi hk, fun k h0 h1 => ?_⟩
  · rw [tcp_mark hn6 hw, if_neg (by omega), hcs, if_pos rfl]
  · have hsl : spl (cS t a) n w k = cS t a (spi n w k) := by unfold spl; rw [if_neg (by omega), if_pos h1]
    rw [tcp_mark hn6 hw, hsl]
    by_cases z : 3 + 5 * n ≤ k ∧ k < 8 + 5 * n
    · have : spi n w k ≠ 0 := by
        have := spi_mark (n := n) (w := w) (a := n) (j := k - (3 + 5 * n)) hn6 (by omega)
        rw [show 3 + 5 * n + (k - (3 + 5 * n)) = k by omega] at this
        omega
      rw [if_pos z, hcs, if_neg this]
      exact ⟨Or.inr rfl, fun _ => rfl⟩
    · rw [if_neg z, hcs, if_neg (by omega)]
      refine ⟨Or.inl rfl, fun y => ?_⟩
      rcases y with y | ⟨p', a', b', y1, y2, y3, y4, y5, y6, y7⟩
      · exact absurd y z
      · omega
theorem l_171 {f : St} {n : Nat} (hd : 3 ≤ d) (ha : vtag a = 4) (hn6 : n < 6) (hf : f 0 = nI n) (hn : cS t a = f) (h : ∀ t', tO [a, a + 1] t t' → cS t' a = crt f n → F none t') : ∀ (j u : Nat) (t' : T), u + j = n → tO [a, a + 1] t t' → (∀ k, cS t' a k = if 7 ≤ k ∧ k < 7 + 5 * u ∧ k % 5 = 2 then 0 else f k) → twp none d 171 2 [.ref a, .int (nI u)] [] t' F := by
  intro j
  induction j with
  | zero =>
    intro u t' hu hO hI
    have hu : u = n := by omega
    subst hu
    have hn' : t'.1 a 0 = nI u := by rw [← cS_i, hI, if_neg (by omega)]; exact hf
    refine vc_ok none zH_171 38 false _ 171 2 _ _ _ _ ?_
    simp only [v_171_0, v_171_1, v_171_2, h_171_2, v_171_3, v_171_4, v_171_7, v_171_10, v_171_11, v_171_12, v_171_13, v_171_14, v_171_15, v_171_18, v_171_21, v_171_24, v_171_25, v_171_26, v_171_27, v_171_30, v_171_31, v_171_32, v_171_35, v_171_36_int, v_171_36_ref, v_171_37, v_171_40, v_171_41, v_171_42, v_171_45, vgi_0, vgi_s, vga_0, vga_s, vset_0, vset_s, vtk_0, vtk_s, vrc_0, vsw_0, vsw_s, List.all_cons, List.all_nil, zc1_i, zc1_r, Bool.and_true, Bool.and_self, true_and, and_true, List.length_cons, List.length_nil, Nat.zero_le, Nat.reduceLeDiff, Nat.reduceAdd, Nat.reduceLT, ha, hn']
    simp (disch := omega) only [nI_ltI, Nat.lt_irrefl, if_false, li5, li0, li1]
    refine c_163s (by omega) ha (by omega) (by omega) (by omega) (fun t2 o2 e2 => ?_)
    have hn2 : t2.1 a 0 = nI u := by rw [← cS_i, e2]; unfold su; rw [if_neg (by omega)]; exact hn'
    simp only [v_171_0, v_171_1, v_171_2, h_171_2, v_171_3, v_171_4, v_171_7, v_171_10, v_171_11, v_171_12, v_171_13, v_171_14, v_171_15, v_171_18, v_171_21, v_171_24, v_171_25, v_171_26, v_171_27, v_171_30, v_171_31, v_171_32, v_171_35, v_171_36_int, v_171_36_ref, v_171_37, v_171_40, v_171_41, v_171_42, v_171_45, vgi_0, vgi_s, vga_0, vga_s, vset_0, vset_s, vtk_0, vtk_s, vrc_0, vsw_0, vsw_s, List.all_cons, List.all_nil, zc1_i, zc1_r, Bool.and_true, Bool.and_self, true_and, and_true, List.length_cons, List.length_nil, Nat.zero_le, Nat.reduceLeDiff, Nat.reduceAdd, Nat.reduceLT, Option.toList_none, List.nil_append, ha, hn2]
    simp only [li1, nI_add]
    refine h _ ((hO.tr o2).tr (tO.si (by simp))) ?_
    funext k
    have hcs : ∀ k, cS (tsi t2 a 0 (nI (u + 1))) a k = if k = 0 then nI (u + 1) else cS t2 a k := by
      intro k
      unfold cS
      by_cases z : k = 0
      · rw [if_pos z, if_pos z, tsi_eq]
      · rw [if_neg z, if_neg z, tsi_ne (by omega)]
        rw [if_neg z]
    rw [hcs]
    show _ = if k = 0 then nI (u + 1) else if k = 7 + 5 * u then 1 else if 7 ≤ k ∧ k < 7 + 5 * u ∧ k % 5 = 2 then 0 else f k
    by_cases z : k = 0
    · rw [if_pos z, if_pos z]
    · rw [if_neg z, if_neg z, e2, cel1 (by omega) (by omega)]
      unfold su
      by_cases z2 : k = 7 + 5 * u
      · rw [if_pos z2, if_pos (by omega)]; rfl
      · rw [if_neg z2, if_neg (by omega), hI]
  | succ j ih =>
    intro u t' hu hO hI
    have hn' : t'.1 a 0 = nI n := by rw [← cS_i, hI, if_neg (by omega)]; exact hf
    refine vc_ok none zH_171 38 false _ 171 2 _ _ _ _ ?_
    simp only [v_171_0, v_171_1, v_171_2, h_171_2, v_171_3, v_171_4, v_171_7, v_171_10, v_171_11, v_171_12, v_171_13, v_171_14, v_171_15, v_171_18, v_171_21, v_171_24, v_171_25, v_171_26, v_171_27, v_171_30, v_171_31, v_171_32, v_171_35, v_171_36_int, v_171_36_ref, v_171_37, v_171_40, v_171_41, v_171_42, v_171_45, vgi_0, vgi_s, vga_0, vga_s, vset_0, vset_s, vtk_0, vtk_s, vrc_0, vsw_0, vsw_s, List.all_cons, List.all_nil, zc1_i, zc1_r, Bool.and_true, Bool.and_self, true_and, and_true, List.length_cons, List.length_nil, Nat.zero_le, Nat.reduceLeDiff, Nat.reduceAdd, Nat.reduceLT, ha, hn']
    simp (disch := omega) only [nI_ltI, li5, li0]
    rw [if_pos (by omega)]
    refine c_163s (by omega) ha (by omega) (by omega) (by omega) (fun t2 o2 e2 => ?_)
    simp only [v_171_0, v_171_1, v_171_2, h_171_2, v_171_3, v_171_4, v_171_7, v_171_10, v_171_11, v_171_12, v_171_13, v_171_14, v_171_15, v_171_18, v_171_21, v_171_24, v_171_25, v_171_26, v_171_27, v_171_30, v_171_31, v_171_32, v_171_35, v_171_36_int, v_171_36_ref, v_171_37, v_171_40, v_171_41, v_171_42, v_171_45, vgi_0, vgi_s, vga_0, vga_s, vset_0, vset_s, vtk_0, vtk_s, vrc_0, vsw_0, vsw_s, List.all_cons, List.all_nil, zc1_i, zc1_r, Bool.and_true, Bool.and_self, true_and, and_true, List.length_cons, List.length_nil, Nat.zero_le, Nat.reduceLeDiff, Nat.reduceAdd, Nat.reduceLT, Option.toList_none, List.nil_append]
    rw [nI_1]
    refine ih (u + 1) t2 (by omega) (hO.tr o2) (fun k => ?_)
    rw [e2, cel1 (by omega) (by omega)]
    unfold su
    by_cases z : k = 2 + 5 * u + 5
    · rw [if_pos z, if_pos (by omega)]; rfl
    · rw [if_neg z, hI]
      by_cases y : 7 ≤ k ∧ k < 7 + 5 * u ∧ k % 5 = 2
      · rw [if_pos y, if_pos (by omega)]
      · rw [if_neg y, if_neg (by omega)]
theorem c_171 {n : Nat} (hd : 4 ≤ d) (ha : vtag a = 4) (hn : cS t a 0 = nI n) (hn6 : n < 6) (h : ∀ t', tO [a, a + 1] t t' → cS t' a = crt (cS t a) n → F none t') : twc d 171 [.ref a] t F := by
  refine ⟨by omega, ?_⟩
  rw [ze_171]
  refine vc_ok none zH_171 38 false _ 171 0 _ _ _ _ ?_
  simp only [v_171_0, v_171_1, v_171_2, h_171_2, v_171_3, v_171_4, v_171_7, v_171_10, v_171_11, v_171_12, v_171_13, v_171_14, v_171_15, v_171_18, v_171_21, v_171_24, v_171_25, v_171_26, v_171_27, v_171_30, v_171_31, v_171_32, v_171_35, v_171_36_int, v_171_36_ref, v_171_37, v_171_40, v_171_41, v_171_42, v_171_45, vgi_0, vgi_s, vga_0, vga_s, vset_0, vset_s, vtk_0, vtk_s, vrc_0, vsw_0, vsw_s, List.all_cons, List.all_nil, zc1_i, zc1_r, Bool.and_true, Bool.and_self, true_and, and_true, List.length_cons, List.length_nil, Nat.zero_le, Nat.reduceLeDiff, Nat.reduceAdd, Nat.reduceLT]
  exact l_171 (by omega) ha hn6 hn rfl h n 0 t (by omega) tO.rf (fun k => by rw [if_neg (by omega)])
end ADD
