/-! A new formula: what the program keeps of it. -/
section FM2
variable {d : Nat} {t t' t0 : T} {F : Option Value → T → Prop} {q : FT} {m : Nat} {a b c e : Int32}
theorem sh1 : ∀ y, y < 6 → (1 : Int32) <<< (nI y &&& 31) = nI (2 ^ y) := by decide +kernel
theorem or1 : ∀ y, y < 64 → ∀ w, w < 64 → nI y ||| nI w = nI (y ||| w) := by decide +kernel
theorem an1 : ∀ y, y < 64 → ∀ x, x < 6 → nI y &&& (nI (2 ^ x) ^^^ -1) = nI (y &&& (63 - 2 ^ x)) ∧ nI y &&& (63 - nI (2 ^ x)) = nI (y &&& (63 - 2 ^ x)) := by decide +kernel
theorem an2 : ∀ y, y < 64 → nI y &&& -49 = nI (y &&& 15) ∧ nI y &&& 15 = nI (y &&& 15) ∧ (y &&& 15) < 64 := by decide +kernel
theorem pw6 : ∀ y, y < 6 → 2 ^ y < 64 := by decide +kernel
theorem c_138 {x k : Nat} (hd : 1 ≤ d) (hx : vtag x = 2) (hk : k < 3) (h0 : t.1 x 0 = nI k) (h1 : t.1 x 1 = a) (h2 : t.1 x 2 = b) (h3 : t.1 x 3 = c) (hm : mkb q m k a b c e) (h : F (some (.int (nI (nU q k (nn a) (nn b) (nn c) (nn e))))) t) : twc d 138 [.ref x] t F := by
  refine ⟨by omega, ?_⟩
  rw [ze_138]
  refine vc_ok none zH_138 46 false _ 138 0 _ _ _ _ ?_
  simp only [v_138_0, v_138_1, v_138_4, v_138_7, v_138_8, v_138_11, v_138_12, v_138_15, v_138_16, v_138_19, v_138_20, v_138_23, v_138_24, v_138_25, v_138_26, v_138_29, v_138_30, v_138_33, v_138_34, v_138_37, v_138_39, v_138_42, v_138_43, v_138_44, v_138_47, v_138_48, v_138_49, v_138_50, v_138_51, v_138_54, v_138_55, v_138_56, v_138_57, v_138_60, v_138_61, v_138_62, vgi_0, vgi_s, vga_0, vga_s, vset_0, vset_s, vtk_0, vtk_s, vrc_0, vsw_0, vsw_s, List.all_cons, List.all_nil, zc1_i, zc1_r, Bool.and_true, Bool.and_self, true_and, and_true, List.length_cons, List.length_nil, Nat.zero_le, Nat.reduceLeDiff, Nat.reduceAdd, Nat.reduceLT, hx, h0, h1, h2, h3]
  have : k = 0 ∨ k = 1 ∨ k = 2 := by omega
  rcases this with rfl | rfl | rfl
  · rw [if_pos (by decide)]
    exact h
  · obtain ⟨y, hy, rfl, g1, g2⟩ := mkb_1.mp hm
    rw [if_neg (by decide), if_pos (by decide)]
    have nx : nn (nI y) = y := nn_nI (by omega)
    simp (disch := omega) only [li2, li6, nI_ltI]
    have hU : nU q 1 (nn (nI y)) (nn b) (nn c) (nn e) = if y < 2 then 0 else if y < 6 then 2 ^ nn b else 2 ^ nn b ||| 2 ^ nn c := by rw [nx]; rfl
    rw [hU] at h
    by_cases y2 : y < 2
    · rw [if_pos y2]
      rw [if_pos y2] at h
      exact h
    · rw [if_neg y2, if_pos (by decide)]
      rw [if_neg y2] at h
      obtain ⟨z, hz, rfl⟩ := g1 (by omega)
      rw [nn_nI (by omega)] at h
      by_cases y6 : y < 6
      · rw [if_pos y6, sh1 z hz]
        rw [if_pos y6] at h
        exact h
      · rw [if_neg y6]
        rw [if_neg y6] at h
        obtain ⟨w, hw, rfl⟩ := g2 (by omega)
        rw [nn_nI (by omega)] at h
        rw [sh1 z hz, sh1 w hw, or1 _ (pw6 z hz) _ (pw6 w hw)]
        exact h
  · obtain ⟨⟨z, hz, rfl⟩, w, hw, rfl⟩ := mkb_2.mp hm
    rw [if_neg (by decide), if_neg (by decide), if_neg (by decide), sh1 z hz, sh1 w hw, or1 _ (pw6 z hz) _ (pw6 w hw)]
    have hU : nU q 2 (nn a) (nn (nI z)) (nn (nI w)) (nn e) = 2 ^ z ||| 2 ^ w := by
      show 2 ^ nn (nI z) ||| 2 ^ nn (nI w) = _
      rw [nn_nI (by omega), nn_nI (by omega)]
    rw [hU] at h
    exact h
/-- the last three of a formula's numbers are written -/
def w567 (t t' : T) (x D U C : Nat) : Prop := t'.2 = t.2 ∧ (∀ b k, b ≠ x ∨ k < 5 → t'.1 b k = t.1 b k) ∧ t'.1 x 5 = nI D ∧ t'.1 x 6 = nI U ∧ t'.1 x 7 = nI C
theorem c_139 {k : Nat} (hd : 2 ≤ d) (hfo : foI t0 q m) (hm40 : m < 40) (hk3 : 3 ≤ k) (hk9 : k < 9) (hs : ∀ b j, b ≠ 4 + m → t.1 b j = t0.1 b j) (h0 : t.1 (4 + m) 0 = nI k) (h1 : t.1 (4 + m) 1 = a) (h2 : t.1 (4 + m) 2 = b) (h3 : t.1 (4 + m) 3 = c) (h4 : t.1 (4 + m) 4 = e) (hm : mkb q m k a b c e) (h : ∀ t', w567 t t' (4 + m) (nD q k (nn c) (nn e)) (nU q k (nn a) (nn b) (nn c) (nn e)) (nC q k (nn c) (nn e)) → F none t') : twc d 139 [.ref 2, .ref (4 + m)] t F := by
  have fm := fo_tag m hm40
  have part : ∀ y, y < m → t.1 (4 + y) 5 = nI (dp q y) ∧ t.1 (4 + y) 6 = nI (fr q y) ∧ t.1 (4 + y) 7 = nI (cl q y) ∧ vtag (4 + y) = 2 ∧ dp q y ≤ 4 ∧ fr q y < 64 ∧ cl q y < 2 := fun y hy => by
    obtain ⟨a1, a2, a3, a4, a5, a6⟩ := hfo.dp hy
    obtain ⟨b1, b2, b3⟩ := hfo.fr hy
    exact ⟨by rw [hs _ _ (by omega)]; exact a1, by rw [hs _ _ (by omega)]; exact b1, by rw [hs _ _ (by omega)]; exact a4, fo_tag y (by omega), a3, b3, a6⟩
  have hc : ∃ y, y < m ∧ c = nI y ∧ dp q y < 4 := by
    have : k = 3 ∨ (k = 4 ∨ k = 5) ∨ (k = 6 ∨ k = 7) ∨ k = 8 := by omega
    rcases this with rfl | z | z | rfl
    · exact mkb_3.mp hm
    · exact ((mkb_4 z).mp hm).1
    · exact ((mkb_6 z).mp hm).2
    · obtain ⟨-, -, y, hy, ey, hl, -⟩ := mkb_8.mp hm
      exact ⟨y, hy, ey, hl⟩
  obtain ⟨y, hy, rfl, hdy⟩ := hc
  have ny : nn (nI y) = y := nn_nI (by omega)
  rw [ny] at h
  obtain ⟨p5, p6, p7, pt, pd4, pf, pc2⟩ := part y hy
  have x5 : ∀ v, (tsi t (4 + m) 5 v).1 (4 + y) 6 = nI (fr q y) := fun v => by rw [tsi_ne (by omega)]; exact p6
  have x6 : ∀ v w, (tsi (tsi t (4 + m) 5 v) (4 + m) 6 w).1 (4 + y) 7 = nI (cl q y) := fun v w => by rw [tsi_ne (by omega), tsi_ne (by omega)]; exact p7
  have clb : nI (cl q y) = 0 ∨ nI (cl q y) = 1 := by
    have : cl q y = 0 ∨ cl q y = 1 := by omega
    rcases this with z | z <;> rw [z]
    · exact Or.inl rfl
    · exact Or.inr rfl
  refine ⟨by omega, ?_⟩
  rw [ze_139]
  refine vc_ok none zH_139 116 false _ 139 0 _ _ _ _ ?_
  simp only [v_139_0, v_139_1, v_139_4, v_139_5, v_139_8, v_139_9, v_139_10, v_139_11, v_139_12, v_139_15, v_139_16, v_139_17, v_139_20, v_139_21, v_139_22, v_139_25, v_139_28, v_139_29, v_139_30, v_139_33, v_139_36, v_139_37, v_139_40, v_139_41, v_139_44, v_139_45, v_139_48, v_139_49, v_139_52, v_139_53, v_139_56, v_139_57, v_139_60, v_139_61, v_139_62, v_139_63, v_139_64, v_139_67, v_139_68, v_139_71, v_139_72, v_139_73, v_139_76, v_139_79, v_139_80, v_139_81, v_139_84, v_139_85, v_139_88, v_139_89, v_139_92, v_139_93, v_139_94, v_139_97, v_139_100, v_139_101, v_139_104, v_139_107, v_139_108, v_139_111, v_139_112, v_139_115, v_139_118, v_139_119, v_139_122, v_139_124, v_139_127, v_139_128, v_139_131, v_139_133, v_139_136, v_139_137, v_139_138, v_139_141, v_139_142, v_139_143, v_139_146, v_139_147, v_139_148, v_139_149, v_139_150, v_139_153, v_139_156, v_139_157, v_139_160, v_139_162, v_139_165, v_139_166, v_139_167, v_139_170, v_139_172, v_139_173, v_139_174, v_139_175, v_139_178, v_139_179, v_139_180, v_139_181, v_139_182, v_139_185, v_139_186, v_139_187, v_139_190, v_139_191, v_139_192, v_139_195, h_139_195, vgi_0, vgi_s, vga_0, vga_s, vset_0, vset_s, vtk_0, vtk_s, vrc_0, vsw_0, vsw_s, List.all_cons, List.all_nil, zc1_i, zc1_r, Bool.and_true, Bool.and_self, true_and, and_true, List.length_cons, List.length_nil, Nat.zero_le, Nat.reduceLeDiff, Nat.reduceAdd, Nat.reduceLT, tg_2, tf_2_0, tg_3, ln_3, fm, h3]
  simp (disch := omega) only [nI_clamp, vinb_n, tf_3, pt, p5, x5, x6]
  refine ⟨by omega, trivial, trivial, trivial, clb, ?_⟩
  have K : ∀ T3, T3 = tsi (tsi (tsi t (4 + m) 5 (nI (dp q y) + 1)) (4 + m) 6 (nI (fr q y))) (4 + m) 7 (nI (cl q y)) → T3.2 = t.2 ∧ (∀ b j, b ≠ 4 + m ∨ j < 5 → T3.1 b j = t.1 b j) ∧ T3.1 (4 + m) 5 = nI (1 + dp q y) ∧ T3.1 (4 + m) 6 = nI (fr q y) ∧ T3.1 (4 + m) 7 = nI (cl q y) := by
    rintro T3 rfl
    refine ⟨rfl, fun b j hb => ?_, ?_, ?_, ?_⟩
    · rw [tsi_ne (by omega), tsi_ne (by omega), tsi_ne (by omega)]
    · rw [tsi_ne (by omega), tsi_ne (by omega), tsi_eq, nI_1, Nat.add_comm]
    · rw [tsi_ne (by omega), tsi_eq]
    · rw [tsi_eq]
  obtain ⟨T3, hT⟩ : ∃ T3, T3 = tsi (tsi (tsi t (4 + m) 5 (nI (dp q y) + 1)) (4 + m) 6 (nI (fr q y))) (4 + m) 7 (nI (cl q y)) := ⟨_, rfl⟩
  obtain ⟨r2, ro, r5, r6, r7⟩ := K T3 hT
  rw [← hT]
  have q0 : T3.1 (4 + m) 0 = nI k := by rw [ro _ _ (by omega)]; exact h0
  have q1 : T3.1 (4 + m) 1 = a := by rw [ro _ _ (by omega)]; exact h1
  have q2 : T3.1 (4 + m) 2 = b := by rw [ro _ _ (by omega)]; exact h2
  have q4 : T3.1 (4 + m) 4 = e := by rw [ro _ _ (by omega)]; exact h4
  have y6 : T3.1 (4 + y) 6 = nI (fr q y) := by rw [ro _ _ (by omega)]; exact p6
  have y7 : T3.1 (4 + y) 7 = nI (cl q y) := by rw [ro _ _ (by omega)]; exact p7
  have fin : ∀ (T' : T) (j3 : Value), w567 t T' (4 + m) (nD q k y (nn e)) (nU q k (nn a) (nn b) y (nn e)) (nC q k y (nn e)) → twp none (d - 1) 139 195 [.ref 2, .ref (4 + m), .ref (4 + y), j3] [] T' F := by
    intro T' j3 hw
    refine vc_ok none zH_139 116 false _ 139 195 _ _ _ _ ?_
    simp only [v_139_0, v_139_1, v_139_4, v_139_5, v_139_8, v_139_9, v_139_10, v_139_11, v_139_12, v_139_15, v_139_16, v_139_17, v_139_20, v_139_21, v_139_22, v_139_25, v_139_28, v_139_29, v_139_30, v_139_33, v_139_36, v_139_37, v_139_40, v_139_41, v_139_44, v_139_45, v_139_48, v_139_49, v_139_52, v_139_53, v_139_56, v_139_57, v_139_60, v_139_61, v_139_62, v_139_63, v_139_64, v_139_67, v_139_68, v_139_71, v_139_72, v_139_73, v_139_76, v_139_79, v_139_80, v_139_81, v_139_84, v_139_85, v_139_88, v_139_89, v_139_92, v_139_93, v_139_94, v_139_97, v_139_100, v_139_101, v_139_104, v_139_107, v_139_108, v_139_111, v_139_112, v_139_115, v_139_118, v_139_119, v_139_122, v_139_124, v_139_127, v_139_128, v_139_131, v_139_133, v_139_136, v_139_137, v_139_138, v_139_141, v_139_142, v_139_143, v_139_146, v_139_147, v_139_148, v_139_149, v_139_150, v_139_153, v_139_156, v_139_157, v_139_160, v_139_162, v_139_165, v_139_166, v_139_167, v_139_170, v_139_172, v_139_173, v_139_174, v_139_175, v_139_178, v_139_179, v_139_180, v_139_181, v_139_182, v_139_185, v_139_186, v_139_187, v_139_190, v_139_191, v_139_192, v_139_195, h_139_195, vgi_0, vgi_s, vga_0, vga_s, vset_0, vset_s, vtk_0, vtk_s, vrc_0, vsw_0, vsw_s, List.all_cons, List.all_nil, zc1_i, zc1_r, Bool.and_true, Bool.and_self, true_and, and_true, List.length_cons, List.length_nil, Nat.zero_le, Nat.reduceLeDiff, Nat.reduceAdd, Nat.reduceLT]
    exact h T' hw
  simp (disch := omega) only [q0, q1, q2, q4, y6, y7, r5]
  have : k = 3 ∨ (k = 4 ∨ k = 5) ∨ (k = 6 ∨ k = 7) ∨ k = 8 := by omega
  have ifk : ∀ (n : Nat) (n' : Int32) (P Q : Prop), n < 100 → n' = nI n → (if nI k = n' then P else Q) = (if k = n then P else Q) := fun n n' P Q hn en => by
    rw [en]
    simp (disch := omega) only [nI_eq]
  rw [ifk 4 4 _ _ (by omega) rfl, ifk 5 5 _ _ (by omega) rfl, ifk 6 6 _ _ (by omega) rfl, ifk 7 7 _ _ (by omega) rfl, ifk 8 8 _ _ (by omega) rfl]
  rcases this with rfl | (rfl | rfl) | (rfl | rfl) | rfl
  · rw [if_neg (by decide), if_neg (by decide), if_neg (by decide), if_neg (by decide), if_neg (by decide)]
    exact fin T3 _ ⟨r2, ro, r5, r6, r7⟩
  · obtain ⟨-, z, hz, rfl, hdz⟩ := (mkb_4 (by omega)).mp hm
    have nz : nn (nI z) = z := nn_nI (by omega)
    obtain ⟨z5, z6, z7, zt, zd4, zf, zc2⟩ := part z hz
    have w5 : T3.1 (4 + z) 5 = nI (dp q z) := by rw [ro _ _ (by omega)]; exact z5
    have w6 : ∀ v, (tsi T3 (4 + m) 5 v).1 (4 + z) 6 = nI (fr q z) := fun v => by rw [tsi_ne (by omega), ro _ _ (by omega)]; exact z6
    have v6 : ∀ v, (tsi T3 (4 + m) 5 v).1 (4 + y) 6 = nI (fr q y) := fun v => by rw [tsi_ne (by omega)]; exact y6
    have w7 : ∀ v w, (tsi (tsi T3 (4 + m) 5 v) (4 + m) 6 w).1 (4 + z) 7 = nI (cl q z) := fun v w => by rw [tsi_ne (by omega), tsi_ne (by omega), ro _ _ (by omega)]; exact z7
    have v7 : ∀ v w, (tsi (tsi T3 (4 + m) 5 v) (4 + m) 6 w).1 (4 + y) 7 = nI (cl q y) := fun v w => by rw [tsi_ne (by omega), tsi_ne (by omega)]; exact y7
    rw [nz] at fin
    rw [if_pos rfl]
    simp (disch := omega) only [nI_clamp, vinb_n, zt, w5, w6, v6, w7, v7, nI_1, or1 _ pf _ zf]
    refine ⟨by omega, trivial, trivial, trivial, trivial, ?_⟩
    have eM : (if nI (1 + dp q y) < nI (dp q z + 1) then nI (dp q z + 1) else nI (1 + dp q y)) = nI (nD q 4 y z) := by
      simp (disch := omega) only [nI_ltI]
      show _ = nI (1 + max (dp q y) (dp q z))
      by_cases g : 1 + dp q y < dp q z + 1
      · rw [if_pos g, show 1 + max (dp q y) (dp q z) = dp q z + 1 by omega]
      · rw [if_neg g, show 1 + max (dp q y) (dp q z) = 1 + dp q y by omega]
    rw [eM]
    have out : ∀ C : Nat, C = nC q 4 y z → w567 t (tsi (tsi (tsi T3 (4 + m) 5 (nI (nD q 4 y z))) (4 + m) 6 (nI (fr q y ||| fr q z))) (4 + m) 7 (nI C)) (4 + m) (nD q 4 y z) (nU q 4 (nn a) (nn b) y z) (nC q 4 y z) := by
      rintro C rfl
      refine ⟨r2, fun b j hb => ?_, ?_, ?_, ?_⟩
      · rw [tsi_ne (by omega), tsi_ne (by omega), tsi_ne (by omega)]; exact ro b j hb
      · rw [tsi_ne (by omega), tsi_ne (by omega), tsi_eq]
      · rw [tsi_ne (by omega), tsi_eq]; rfl
      · rw [tsi_eq]
    have eC : nC q 4 y z = if cl q y = 1 ∨ cl q z = 1 then 1 else 0 := rfl
    simp (disch := omega) only [li0, nI_eq]
    by_cases g1 : cl q y = 0
    · rw [if_pos g1]
      by_cases g2 : cl q z = 0
      · rw [if_pos g2]
        exact ⟨trivial, Or.inl trivial, fin _ _ (out 0 (by rw [eC, if_neg (by omega)]))⟩
      · rw [if_neg g2]
        exact ⟨trivial, Or.inr trivial, fin _ _ (out 1 (by rw [eC, if_pos (by omega)]))⟩
    · rw [if_neg g1]
      exact ⟨Or.inr trivial, fin _ _ (out 1 (by rw [eC, if_pos (by omega)]))⟩
  · obtain ⟨-, z, hz, rfl, hdz⟩ := (mkb_4 (by omega)).mp hm
    have nz : nn (nI z) = z := nn_nI (by omega)
    obtain ⟨z5, z6, z7, zt, zd4, zf, zc2⟩ := part z hz
    have w5 : T3.1 (4 + z) 5 = nI (dp q z) := by rw [ro _ _ (by omega)]; exact z5
    have w6 : ∀ v, (tsi T3 (4 + m) 5 v).1 (4 + z) 6 = nI (fr q z) := fun v => by rw [tsi_ne (by omega), ro _ _ (by omega)]; exact z6
    have v6 : ∀ v, (tsi T3 (4 + m) 5 v).1 (4 + y) 6 = nI (fr q y) := fun v => by rw [tsi_ne (by omega)]; exact y6
    have w7 : ∀ v w, (tsi (tsi T3 (4 + m) 5 v) (4 + m) 6 w).1 (4 + z) 7 = nI (cl q z) := fun v w => by rw [tsi_ne (by omega), tsi_ne (by omega), ro _ _ (by omega)]; exact z7
    have v7 : ∀ v w, (tsi (tsi T3 (4 + m) 5 v) (4 + m) 6 w).1 (4 + y) 7 = nI (cl q y) := fun v w => by rw [tsi_ne (by omega), tsi_ne (by omega)]; exact y7
    rw [nz] at fin
    rw [if_neg (by decide), if_pos rfl]
    simp (disch := omega) only [nI_clamp, vinb_n, zt, w5, w6, v6, w7, v7, nI_1, or1 _ pf _ zf]
    refine ⟨by omega, trivial, trivial, trivial, trivial, ?_⟩
    have eM : (if nI (1 + dp q y) < nI (dp q z + 1) then nI (dp q z + 1) else nI (1 + dp q y)) = nI (nD q 5 y z) := by
      simp (disch := omega) only [nI_ltI]
      show _ = nI (1 + max (dp q y) (dp q z))
      by_cases g : 1 + dp q y < dp q z + 1
      · rw [if_pos g, show 1 + max (dp q y) (dp q z) = dp q z + 1 by omega]
      · rw [if_neg g, show 1 + max (dp q y) (dp q z) = 1 + dp q y by omega]
    rw [eM]
    have out : ∀ C : Nat, C = nC q 5 y z → w567 t (tsi (tsi (tsi T3 (4 + m) 5 (nI (nD q 5 y z))) (4 + m) 6 (nI (fr q y ||| fr q z))) (4 + m) 7 (nI C)) (4 + m) (nD q 5 y z) (nU q 5 (nn a) (nn b) y z) (nC q 5 y z) := by
      rintro C rfl
      refine ⟨r2, fun b j hb => ?_, ?_, ?_, ?_⟩
      · rw [tsi_ne (by omega), tsi_ne (by omega), tsi_ne (by omega)]; exact ro b j hb
      · rw [tsi_ne (by omega), tsi_ne (by omega), tsi_eq]
      · rw [tsi_ne (by omega), tsi_eq]; rfl
      · rw [tsi_eq]
    have eC : nC q 5 y z = if cl q y = 1 ∨ cl q z = 1 then 1 else 0 := rfl
    simp (disch := omega) only [li0, nI_eq]
    by_cases g1 : cl q y = 0
    · rw [if_pos g1]
      by_cases g2 : cl q z = 0
      · rw [if_pos g2]
        exact ⟨trivial, Or.inl trivial, fin _ _ (out 0 (by rw [eC, if_neg (by omega)]))⟩
      · rw [if_neg g2]
        exact ⟨trivial, Or.inr trivial, fin _ _ (out 1 (by rw [eC, if_pos (by omega)]))⟩
    · rw [if_neg g1]
      exact ⟨Or.inr trivial, fin _ _ (out 1 (by rw [eC, if_pos (by omega)]))⟩
  · obtain ⟨⟨x, hx, rfl⟩, -⟩ := (mkb_6 (by omega)).mp hm
    have nx : nn (nI x) = x := nn_nI (by omega)
    rw [nx] at fin
    rw [if_neg (by decide), if_neg (by decide), if_pos rfl]
    refine ⟨trivial, fin _ _ ⟨r2, fun b j hb => ?_, ?_, ?_, ?_⟩⟩
    · rw [tsi_ne (by omega)]; exact ro b j hb
    · rw [tsi_ne (by omega)]; exact r5
    · rw [tsi_eq, sh1 x hx, (an1 _ pf x hx).1]; rfl
    · rw [tsi_ne (by omega)]; exact r7
  · obtain ⟨⟨x, hx, rfl⟩, -⟩ := (mkb_6 (by omega)).mp hm
    have nx : nn (nI x) = x := nn_nI (by omega)
    rw [nx] at fin
    rw [if_neg (by decide), if_neg (by decide), if_neg (by decide), if_pos rfl]
    refine ⟨trivial, fin _ _ ⟨r2, fun b j hb => ?_, ?_, ?_, ?_⟩⟩
    · rw [tsi_ne (by omega)]; exact ro b j hb
    · rw [tsi_ne (by omega)]; exact r5
    · rw [tsi_eq, sh1 x hx, (an1 _ pf x hx).1]; rfl
    · rw [tsi_ne (by omega)]; exact r7
  · obtain ⟨⟨x, hx, rfl⟩, ⟨w, hw, rfl⟩, -⟩ := mkb_8.mp hm
    have nx : nn (nI x) = x := nn_nI (by omega)
    have nw : nn (nI w) = w := nn_nI (by omega)
    rw [nx, nw] at fin
    rw [if_neg (by decide), if_neg (by decide), if_neg (by decide), if_neg (by decide), if_pos rfl]
    refine ⟨trivial, Or.inr trivial, fin _ _ ⟨r2, fun b j hb => ?_, ?_, ?_, ?_⟩⟩
    · rw [tsi_ne (by omega), tsi_ne (by omega)]; exact ro b j hb
    · rw [tsi_ne (by omega), tsi_ne (by omega)]; exact r5
    · rw [tsi_ne (by omega), tsi_eq, (an2 _ pf).1, sh1 x hx, sh1 w hw, or1 _ (an2 _ pf).2.2 _ (pw6 x hx), or1 _ (bt6 _ (an2 _ pf).2.2 _ (pw6 x hx)) _ (pw6 w hw)]; rfl
    · rw [tsi_eq]; rfl
/-- the program keeps 0 for what a predicate does not need -/
def cb (k : Nat) (a b : Int32) : Int32 := if k = 1 ∧ a < 2 then 0 else b
def cc (k : Nat) (a c : Int32) : Int32 := if k = 1 ∧ a < 6 then 0 else c
theorem mkb_c {k : Nat} (h : mkb q m k a b c e) : mkb q m k a (cb k a b) (cc k a c) e ∧ nU q k (nn a) (nn (cb k a b)) (nn (cc k a c)) (nn e) = nU q k (nn a) (nn b) (nn c) (nn e) ∧ nD q k (nn (cc k a c)) (nn e) = nD q k (nn c) (nn e) ∧ nC q k (nn (cc k a c)) (nn e) = nC q k (nn c) (nn e) := by
  by_cases k1 : k = 1
  · subst k1
    obtain ⟨x, hx, rfl, g1, g2⟩ := mkb_1.mp h
    have l2 : (nI x < 2) = (x < 2) := by rw [li2, nI_ltI (by omega) (by omega)]
    have l6 : (nI x < 6) = (x < 6) := by rw [li6, nI_ltI (by omega) (by omega)]
    have hD : ∀ c : Nat, nD q 1 c (nn e) = 0 := fun c => by unfold nD; rw [if_pos (by omega)]
    have hC : ∀ c : Nat, nC q 1 c (nn e) = 0 := fun c => by unfold nC; rw [if_neg (by omega), if_neg (by omega), if_neg (by omega)]
    have eb : 2 ≤ x → cb 1 (nI x) b = b := fun hx => by unfold cb; rw [if_neg (by rw [l2]; omega)]
    have ec : 6 ≤ x → cc 1 (nI x) c = c := fun hx => by unfold cc; rw [if_neg (by rw [l6]; omega)]
    refine ⟨mkb_1.mpr ⟨x, hx, rfl, fun z => by rw [eb z]; exact g1 z, fun z => by rw [ec z]; exact g2 z⟩, ?_, by rw [hD, hD], by rw [hC, hC]⟩
    have nx : nn (nI x) = x := nn_nI (by omega)
    have hU : ∀ b c : Nat, nU q 1 (nn (nI x)) b c (nn e) = if x < 2 then 0 else if x < 6 then 2 ^ b else 2 ^ b ||| 2 ^ c := fun b c => by rw [nx]; unfold nU; rw [if_neg (by omega), if_pos rfl]
    rw [hU, hU]
    by_cases x2 : x < 2
    · rw [if_pos x2, if_pos x2]
    · rw [if_neg x2, if_neg x2, eb (by omega)]
      by_cases x6 : x < 6
      · rw [if_pos x6, if_pos x6]
      · rw [if_neg x6, if_neg x6, ec (by omega)]
  · have eb : cb k a b = b := by unfold cb; rw [if_neg (fun z => k1 z.1)]
    have ec : cc k a c = c := by unfold cc; rw [if_neg (fun z => k1 z.1)]
    rw [eb, ec]; exact ⟨h, rfl, rfl, rfl⟩
theorem c_137 {k : Nat} (hd : 4 ≤ d) (hfo : foI t q m) (hm40 : m < 40) (hk9 : k < 9) (hm : mkb q m k a b c e) (h : ∀ t', t'.2 = t.2 → (∀ x j, x ≠ 4 + m → ¬ (x = 2 ∧ j = 1) → t'.1 x j = t.1 x j) → t'.1 2 1 = nI (m + 1) → (∀ j, j < 8 → t'.1 (4 + m) j = nro q k a (cb k a b) (cc k a c) e j) → F (some (.int (nI m))) t') : twc d 137 [.ref 2, .int (nI k), .int a, .int b, .int c, .int e] t F := by
  have fm := fo_tag m hm40
  have h21 := hfo.2.2.1
  have fresh := hfo.2.2.2.2.1 m (Nat.le_refl _) hm40
  obtain ⟨hmc, eU, eD, eC⟩ := mkb_c hm
  have fin : ∀ (t6 : T) (ml : List Value), w567 (tsi (tsi (tsi (tsi (tsi t (4 + m) 0 (nI k)) (4 + m) 1 a) (4 + m) 2 (cb k a b)) (4 + m) 3 (cc k a c)) (4 + m) 4 e) t6 (4 + m) (nD q k (nn (cc k a c)) (nn e)) (nU q k (nn a) (nn (cb k a b)) (nn (cc k a c)) (nn e)) (nC q k (nn (cc k a c)) (nn e)) → twp none (d - 1) 137 96 [.ref 2, .int (nI k), .int a, .int b, .int c, .int e, .ref (4 + m)] [] t6 F := by
    intro t6 ml hw
    obtain ⟨r2, ro, r5, r6, r7⟩ := hw
    have e21 : t6.1 2 1 = nI m := by
      rw [ro _ _ (by omega), tsi_ne (by omega), tsi_ne (by omega), tsi_ne (by omega), tsi_ne (by omega), tsi_ne (by omega)]; exact h21
    refine vc_ok none zH_137 69 false _ 137 96 _ _ _ _ ?_
    simp only [v_137_0, v_137_1, v_137_4, v_137_5, v_137_8, v_137_9, v_137_11, v_137_13, v_137_14, v_137_17, v_137_19, v_137_20, v_137_23, v_137_25, v_137_26, v_137_27, v_137_30, v_137_31, v_137_32, v_137_35, v_137_36, v_137_39, v_137_40, h_137_40, v_137_43, v_137_45, v_137_46, v_137_47, v_137_50, v_137_51, v_137_53, v_137_56, v_137_57, v_137_60, v_137_62, h_137_62, v_137_65, v_137_67, v_137_69, v_137_72, v_137_73, v_137_74, v_137_77, v_137_79, v_137_81, v_137_84, v_137_87, v_137_90, v_137_91, v_137_93, v_137_96, h_137_96, v_137_97_int, v_137_97_ref, v_137_98, v_137_101, v_137_102, v_137_103, v_137_106, v_137_107, v_137_110, v_137_111, v_137_112, vgi_0, vgi_s, vga_0, vga_s, vset_0, vset_s, vtk_0, vtk_s, vrc_0, vsw_0, vsw_s, List.all_cons, List.all_nil, zc1_i, zc1_r, Bool.and_true, Bool.and_self, true_and, and_true, List.length_cons, List.length_nil, Nat.zero_le, Nat.reduceLeDiff, Nat.reduceAdd, Nat.reduceLT, tg_2, e21]
    simp only [tsi_eq, nI_1, nI_mp]
    refine h _ r2 (fun x j h1 h2 => ?_) tsi_eq (fun j hj => ?_)
    · rw [tsi_ne (by omega), ro _ _ (by omega), tsi_ne (by omega), tsi_ne (by omega), tsi_ne (by omega), tsi_ne (by omega), tsi_ne (by omega)]
    · rw [tsi_ne (by omega)]
      have : j = 0 ∨ j = 1 ∨ j = 2 ∨ j = 3 ∨ j = 4 ∨ j = 5 ∨ j = 6 ∨ j = 7 := by omega
      rcases this with rfl | rfl | rfl | rfl | rfl | rfl | rfl | rfl
      · rw [ro _ _ (by omega), tsi_ne (by omega), tsi_ne (by omega), tsi_ne (by omega), tsi_ne (by omega), tsi_eq]; rfl
      · rw [ro _ _ (by omega), tsi_ne (by omega), tsi_ne (by omega), tsi_ne (by omega), tsi_eq]; rfl
      · rw [ro _ _ (by omega), tsi_ne (by omega), tsi_ne (by omega), tsi_eq]; rfl
      · rw [ro _ _ (by omega), tsi_ne (by omega), tsi_eq]; rfl
      · rw [ro _ _ (by omega), tsi_eq]; rfl
      · exact r5
      · exact r6
      · exact r7
  have at62 : twp none (d - 1) 137 62 [.ref 2, .int (nI k), .int a, .int b, .int c, .int e, .ref (4 + m)] [.int (cc k a c), .ref (4 + m)] (tsi (tsi (tsi t (4 + m) 0 (nI k)) (4 + m) 1 a) (4 + m) 2 (cb k a b)) F := by
    refine vc_ok none zH_137 69 false _ 137 62 _ _ _ _ ?_
    simp only [v_137_0, v_137_1, v_137_4, v_137_5, v_137_8, v_137_9, v_137_11, v_137_13, v_137_14, v_137_17, v_137_19, v_137_20, v_137_23, v_137_25, v_137_26, v_137_27, v_137_30, v_137_31, v_137_32, v_137_35, v_137_36, v_137_39, v_137_40, h_137_40, v_137_43, v_137_45, v_137_46, v_137_47, v_137_50, v_137_51, v_137_53, v_137_56, v_137_57, v_137_60, v_137_62, h_137_62, v_137_65, v_137_67, v_137_69, v_137_72, v_137_73, v_137_74, v_137_77, v_137_79, v_137_81, v_137_84, v_137_87, v_137_90, v_137_91, v_137_93, v_137_96, h_137_96, v_137_97_int, v_137_97_ref, v_137_98, v_137_101, v_137_102, v_137_103, v_137_106, v_137_107, v_137_110, v_137_111, v_137_112, vgi_0, vgi_s, vga_0, vga_s, vset_0, vset_s, vtk_0, vtk_s, vrc_0, vsw_0, vsw_s, List.all_cons, List.all_nil, zc1_i, zc1_r, Bool.and_true, Bool.and_self, true_and, and_true, List.length_cons, List.length_nil, Nat.zero_le, Nat.reduceLeDiff, Nat.reduceAdd, Nat.reduceLT, fm, tg_2]
    simp (disch := omega) only [li2, nI_ltI]
    have f0 : (tsi (tsi (tsi (tsi (tsi t (4 + m) 0 (nI k)) (4 + m) 1 a) (4 + m) 2 (cb k a b)) (4 + m) 3 (cc k a c)) (4 + m) 4 e).1 (4 + m) 0 = nI k := by rw [tsi_ne (by omega), tsi_ne (by omega), tsi_ne (by omega), tsi_ne (by omega), tsi_eq]
    have f1 : (tsi (tsi (tsi (tsi (tsi t (4 + m) 0 (nI k)) (4 + m) 1 a) (4 + m) 2 (cb k a b)) (4 + m) 3 (cc k a c)) (4 + m) 4 e).1 (4 + m) 1 = a := by rw [tsi_ne (by omega), tsi_ne (by omega), tsi_ne (by omega), tsi_eq]
    have f2 : (tsi (tsi (tsi (tsi (tsi t (4 + m) 0 (nI k)) (4 + m) 1 a) (4 + m) 2 (cb k a b)) (4 + m) 3 (cc k a c)) (4 + m) 4 e).1 (4 + m) 2 = cb k a b := by rw [tsi_ne (by omega), tsi_ne (by omega), tsi_eq]
    have f3 : (tsi (tsi (tsi (tsi (tsi t (4 + m) 0 (nI k)) (4 + m) 1 a) (4 + m) 2 (cb k a b)) (4 + m) 3 (cc k a c)) (4 + m) 4 e).1 (4 + m) 3 = cc k a c := by rw [tsi_ne (by omega), tsi_eq]
    have f4 : (tsi (tsi (tsi (tsi (tsi t (4 + m) 0 (nI k)) (4 + m) 1 a) (4 + m) 2 (cb k a b)) (4 + m) 3 (cc k a c)) (4 + m) 4 e).1 (4 + m) 4 = e := by rw [tsi_eq]
    have fo5 : ∀ x j, x ≠ 4 + m ∨ 5 ≤ j → (tsi (tsi (tsi (tsi (tsi t (4 + m) 0 (nI k)) (4 + m) 1 a) (4 + m) 2 (cb k a b)) (4 + m) 3 (cc k a c)) (4 + m) 4 e).1 x j = t.1 x j := fun x j hx => by rw [tsi_ne (by omega), tsi_ne (by omega), tsi_ne (by omega), tsi_ne (by omega), tsi_ne (by omega)]
    by_cases k2 : 2 < k
    · rw [if_pos k2]
      refine c_139 (t0 := t) (by omega) hfo hm40 (by omega) hk9 (fun x j hx => fo5 x j (Or.inl hx)) f0 f1 f2 f3 f4 hmc (fun t6 hw => ?_)
      simp only [v_137_0, v_137_1, v_137_4, v_137_5, v_137_8, v_137_9, v_137_11, v_137_13, v_137_14, v_137_17, v_137_19, v_137_20, v_137_23, v_137_25, v_137_26, v_137_27, v_137_30, v_137_31, v_137_32, v_137_35, v_137_36, v_137_39, v_137_40, h_137_40, v_137_43, v_137_45, v_137_46, v_137_47, v_137_50, v_137_51, v_137_53, v_137_56, v_137_57, v_137_60, v_137_62, h_137_62, v_137_65, v_137_67, v_137_69, v_137_72, v_137_73, v_137_74, v_137_77, v_137_79, v_137_81, v_137_84, v_137_87, v_137_90, v_137_91, v_137_93, v_137_96, h_137_96, v_137_97_int, v_137_97_ref, v_137_98, v_137_101, v_137_102, v_137_103, v_137_106, v_137_107, v_137_110, v_137_111, v_137_112, vgi_0, vgi_s, vga_0, vga_s, vset_0, vset_s, vtk_0, vtk_s, vrc_0, vsw_0, vsw_s, List.all_cons, List.all_nil, zc1_i, zc1_r, Bool.and_true, Bool.and_self, true_and, and_true, List.length_cons, List.length_nil, Nat.zero_le, Nat.reduceLeDiff, Nat.reduceAdd, Nat.reduceLT, Option.toList_none, List.nil_append]
      exact fin t6 [] hw
    · rw [if_neg k2]
      refine c_138 (e := e) (by omega) fm (by omega) f0 f1 f2 f3 hmc ?_
      simp only [v_137_0, v_137_1, v_137_4, v_137_5, v_137_8, v_137_9, v_137_11, v_137_13, v_137_14, v_137_17, v_137_19, v_137_20, v_137_23, v_137_25, v_137_26, v_137_27, v_137_30, v_137_31, v_137_32, v_137_35, v_137_36, v_137_39, v_137_40, h_137_40, v_137_43, v_137_45, v_137_46, v_137_47, v_137_50, v_137_51, v_137_53, v_137_56, v_137_57, v_137_60, v_137_62, h_137_62, v_137_65, v_137_67, v_137_69, v_137_72, v_137_73, v_137_74, v_137_77, v_137_79, v_137_81, v_137_84, v_137_87, v_137_90, v_137_91, v_137_93, v_137_96, h_137_96, v_137_97_int, v_137_97_ref, v_137_98, v_137_101, v_137_102, v_137_103, v_137_106, v_137_107, v_137_110, v_137_111, v_137_112, vgi_0, vgi_s, vga_0, vga_s, vset_0, vset_s, vtk_0, vtk_s, vrc_0, vsw_0, vsw_s, List.all_cons, List.all_nil, zc1_i, zc1_r, Bool.and_true, Bool.and_self, true_and, and_true, List.length_cons, List.length_nil, Nat.zero_le, Nat.reduceLeDiff, Nat.reduceAdd, Nat.reduceLT, Option.toList_some, List.cons_append, List.nil_append, fm]
      refine fin _ [] ⟨rfl, fun x j hx => tsi_ne (by omega), ?_, tsi_eq, ?_⟩
      · rw [tsi_ne (by omega), fo5 _ _ (by omega), fresh.1]
        unfold nD; rw [if_pos (by omega)]; rfl
      · rw [tsi_ne (by omega), fo5 _ _ (by omega), fresh.2]
        unfold nC; rw [if_neg (by omega), if_neg (by omega), if_neg (by omega)]; rfl
  have at40 : twp none (d - 1) 137 40 [.ref 2, .int (nI k), .int a, .int b, .int c, .int e, .ref (4 + m)] [.int (cb k a b), .ref (4 + m)] (tsi (tsi t (4 + m) 0 (nI k)) (4 + m) 1 a) F := by
    refine vc_ok none zH_137 69 false _ 137 40 _ _ _ _ ?_
    simp only [v_137_0, v_137_1, v_137_4, v_137_5, v_137_8, v_137_9, v_137_11, v_137_13, v_137_14, v_137_17, v_137_19, v_137_20, v_137_23, v_137_25, v_137_26, v_137_27, v_137_30, v_137_31, v_137_32, v_137_35, v_137_36, v_137_39, v_137_40, h_137_40, v_137_43, v_137_45, v_137_46, v_137_47, v_137_50, v_137_51, v_137_53, v_137_56, v_137_57, v_137_60, v_137_62, h_137_62, v_137_65, v_137_67, v_137_69, v_137_72, v_137_73, v_137_74, v_137_77, v_137_79, v_137_81, v_137_84, v_137_87, v_137_90, v_137_91, v_137_93, v_137_96, h_137_96, v_137_97_int, v_137_97_ref, v_137_98, v_137_101, v_137_102, v_137_103, v_137_106, v_137_107, v_137_110, v_137_111, v_137_112, vgi_0, vgi_s, vga_0, vga_s, vset_0, vset_s, vtk_0, vtk_s, vrc_0, vsw_0, vsw_s, List.all_cons, List.all_nil, zc1_i, zc1_r, Bool.and_true, Bool.and_self, true_and, and_true, List.length_cons, List.length_nil, Nat.zero_le, Nat.reduceLeDiff, Nat.reduceAdd, Nat.reduceLT, fm]
    simp (disch := omega) only [li1, nI_eq]
    unfold cc at at62
    by_cases k1 : k = 1
    · rw [if_pos k1]
      by_cases a6 : a < 6
      · rw [if_pos a6]
        rw [if_pos ⟨k1, a6⟩] at at62
        exact at62
      · rw [if_neg a6]
        rw [if_neg (fun z => a6 z.2)] at at62
        exact at62
    · rw [if_neg k1]
      rw [if_neg (fun z => k1 z.1)] at at62
      exact at62
  refine ⟨by omega, ?_⟩
  rw [ze_137]
  refine vc_ok none zH_137 69 false _ 137 0 _ _ _ _ ?_
  simp only [v_137_0, v_137_1, v_137_4, v_137_5, v_137_8, v_137_9, v_137_11, v_137_13, v_137_14, v_137_17, v_137_19, v_137_20, v_137_23, v_137_25, v_137_26, v_137_27, v_137_30, v_137_31, v_137_32, v_137_35, v_137_36, v_137_39, v_137_40, h_137_40, v_137_43, v_137_45, v_137_46, v_137_47, v_137_50, v_137_51, v_137_53, v_137_56, v_137_57, v_137_60, v_137_62, h_137_62, v_137_65, v_137_67, v_137_69, v_137_72, v_137_73, v_137_74, v_137_77, v_137_79, v_137_81, v_137_84, v_137_87, v_137_90, v_137_91, v_137_93, v_137_96, h_137_96, v_137_97_int, v_137_97_ref, v_137_98, v_137_101, v_137_102, v_137_103, v_137_106, v_137_107, v_137_110, v_137_111, v_137_112, vgi_0, vgi_s, vga_0, vga_s, vset_0, vset_s, vtk_0, vtk_s, vrc_0, vsw_0, vsw_s, List.all_cons, List.all_nil, zc1_i, zc1_r, Bool.and_true, Bool.and_self, true_and, and_true, List.length_cons, List.length_nil, Nat.zero_le, Nat.reduceLeDiff, Nat.reduceAdd, Nat.reduceLT, tg_2, tf_2_0, tg_3, ln_3, h21]
  simp (disch := omega) only [nI_clamp, vinb_n, tf_3, fm, li1, nI_eq]
  refine ⟨by omega, trivial, trivial, ?_⟩
  unfold cb at at40
  by_cases k1 : k = 1
  · rw [if_pos k1]
    by_cases a2 : a < 2
    · rw [if_pos a2]
      rw [if_pos ⟨k1, a2⟩] at at40
      exact at40
    · rw [if_neg a2]
      rw [if_neg (fun z => a2 z.2)] at at40
      exact at40
  · rw [if_neg k1]
    rw [if_neg (fun z => k1 z.1)] at at40
    exact at40
end FM2
