/-! formula: both sides. -/
section FM5
variable {t t' : T} {q q' : FT} {m : Nat} {a b c e : Int32}
theorem nU_congr {k : Nat} (hk : k < 9) (x y z w : Nat) (h1 : 3 ≤ k → fr q' z = fr q z) (h2 : k = 4 ∨ k = 5 → fr q' w = fr q w) : nU q' k x y z w = nU q k x y z w := by
  have : k = 0 ∨ k = 1 ∨ k = 2 ∨ k = 3 ∨ k = 4 ∨ k = 5 ∨ k = 6 ∨ k = 7 ∨ k = 8 := by omega
  rcases this with rfl | rfl | rfl | rfl | rfl | rfl | rfl | rfl | rfl
  · rfl
  · rfl
  · rfl
  · show fr q' z = fr q z
    exact h1 (by omega)
  · show fr q' z ||| fr q' w = fr q z ||| fr q w
    rw [h1 (by omega), h2 (by omega)]
  · show fr q' z ||| fr q' w = fr q z ||| fr q w
    rw [h1 (by omega), h2 (by omega)]
  · show fr q' z &&& (63 - 2 ^ x) = fr q z &&& (63 - 2 ^ x)
    rw [h1 (by omega)]
  · show fr q' z &&& (63 - 2 ^ x) = fr q z &&& (63 - 2 ^ x)
    rw [h1 (by omega)]
  · show (fr q' z &&& 15) ||| 2 ^ x ||| 2 ^ y = (fr q z &&& 15) ||| 2 ^ x ||| 2 ^ y
    rw [h1 (by omega)]
theorem nD_congr {k : Nat} (z w : Nat) (h1 : 3 ≤ k → dp q' z = dp q z) (h2 : k = 4 ∨ k = 5 → dp q' w = dp q w) : nD q' k z w = nD q k z w := by
  unfold nD
  by_cases k3 : k < 3
  · rw [if_pos k3, if_pos k3]
  · rw [if_neg k3, if_neg k3]
    by_cases k4 : k = 4 ∨ k = 5
    · rw [if_pos k4, if_pos k4, h1 (by omega), h2 k4]
    · rw [if_neg k4, if_neg k4, h1 (by omega)]
theorem nC_congr {k : Nat} (z w : Nat) (h1 : 3 ≤ k → cl q' z = cl q z) (h2 : k = 4 ∨ k = 5 → cl q' w = cl q w) : nC q' k z w = nC q k z w := by
  unfold nC
  by_cases k8 : k = 8
  · rw [if_pos k8, if_pos k8]
  · rw [if_neg k8, if_neg k8]
    by_cases k4 : k = 4 ∨ k = 5
    · rw [if_pos k4, if_pos k4, h1 (by omega), h2 k4]
    · rw [if_neg k4, if_neg k4]
      by_cases k3 : 3 ≤ k
      · rw [if_pos k3, if_pos k3, h1 k3]
      · rw [if_neg k3, if_neg k3]
theorem mkb_part {k : Nat} (hk : k < 9) (hb : mkb q m k a b c e) : (3 ≤ k → ∃ y, y < m ∧ c = nI y) ∧ (k = 4 ∨ k = 5 → ∃ y, y < m ∧ e = nI y) := by
  refine ⟨fun h3 => ?_, fun h => ?_⟩
  · have : k = 3 ∨ (k = 4 ∨ k = 5) ∨ (k = 6 ∨ k = 7) ∨ k = 8 := by omega
    rcases this with rfl | z | z | rfl
    · obtain ⟨y, hy, ey, -⟩ := mkb_3.mp hb; exact ⟨y, hy, ey⟩
    · obtain ⟨⟨y, hy, ey, -⟩, -⟩ := (mkb_4 z).mp hb; exact ⟨y, hy, ey⟩
    · obtain ⟨-, y, hy, ey, -⟩ := (mkb_6 z).mp hb; exact ⟨y, hy, ey⟩
    · obtain ⟨-, -, y, hy, ey, -⟩ := mkb_8.mp hb; exact ⟨y, hy, ey⟩
  · obtain ⟨-, y, hy, ey, -⟩ := (mkb_4 h).mp hb; exact ⟨y, hy, ey⟩
theorem mkb_congr {k : Nat} (hk : k < 9) (h : ∀ i, i < m → dp q' i = dp q i ∧ cl q' i = cl q i) (hb : mkb q m k a b c e) : mkb q' m k a b c e := by
  have : k = 0 ∨ k = 1 ∨ k = 2 ∨ k = 3 ∨ (k = 4 ∨ k = 5) ∨ (k = 6 ∨ k = 7) ∨ k = 8 := by omega
  rcases this with rfl | rfl | rfl | rfl | z | z | rfl
  · exact mkb_0.mpr (mkb_0.mp hb)
  · exact mkb_1.mpr (mkb_1.mp hb)
  · exact mkb_2.mpr (mkb_2.mp hb)
  · obtain ⟨y, hy, ey, hl⟩ := mkb_3.mp hb
    exact mkb_3.mpr ⟨y, hy, ey, by rw [(h y hy).1]; exact hl⟩
  · obtain ⟨⟨y, hy, ey, hl⟩, w, hw, ew, hl2⟩ := (mkb_4 z).mp hb
    exact (mkb_4 z).mpr ⟨⟨y, hy, ey, by rw [(h y hy).1]; exact hl⟩, w, hw, ew, by rw [(h w hw).1]; exact hl2⟩
  · obtain ⟨ga, y, hy, ey, hl⟩ := (mkb_6 z).mp hb
    exact (mkb_6 z).mpr ⟨ga, y, hy, ey, by rw [(h y hy).1]; exact hl⟩
  · obtain ⟨ga, gb, y, hy, ey, hl, hc⟩ := mkb_8.mp hb
    exact mkb_8.mpr ⟨ga, gb, y, hy, ey, by rw [(h y hy).1]; exact hl, by rw [(h y hy).2]; exact hc⟩
theorem nro_congr {k : Nat} (hm : m ≤ 40) (hk : k < 9) (h : ∀ i, i < m → dp q' i = dp q i ∧ fr q' i = fr q i ∧ cl q' i = cl q i) (hb : mkb q m k a b c e) : nro q' k a b c e = nro q k a b c e := by
  obtain ⟨p1, p2⟩ := mkb_part hk hb
  have g1 : 3 ≤ k → dp q' (nn c) = dp q (nn c) ∧ fr q' (nn c) = fr q (nn c) ∧ cl q' (nn c) = cl q (nn c) := fun h3 => by
    obtain ⟨y, hy, rfl⟩ := p1 h3
    rw [nn_nI (by omega)]; exact h y hy
  have g2 : k = 4 ∨ k = 5 → dp q' (nn e) = dp q (nn e) ∧ fr q' (nn e) = fr q (nn e) ∧ cl q' (nn e) = cl q (nn e) := fun h3 => by
    obtain ⟨y, hy, rfl⟩ := p2 h3
    rw [nn_nI (by omega)]; exact h y hy
  unfold nro
  rw [nD_congr (q' := q') (q := q) (nn c) (nn e) (fun h => (g1 h).1) (fun h => (g2 h).1), nU_congr (q' := q') (q := q) hk (nn a) (nn b) (nn c) (nn e) (fun h => (g1 h).2.1) (fun h => (g2 h).2.1), nC_congr (q' := q') (q := q) (nn c) (nn e) (fun h => (g1 h).2.2) (fun h => (g2 h).2.2)]
theorem op_formula (kv av bv cv ev : Int32) : OP 6 60 [.int kv, .int av, .int bv, .int cv, .int ev] := by
  intro d t hd hI
  obtain ⟨q, m, ru, rc, ec, Es, h1, h2, h3, h4, h5, h6, h7, h8, h9⟩ := id hI
  have hm := h2.le
  have h21 := h2.2.2.1
  refine ⟨by omega, ?_⟩
  rw [ze_6]
  refine vc_ok none zH_6 37 false _ 6 0 _ _ _ _ ?_
  simp only [v_6_0, v_6_1, v_6_4, v_6_5, v_6_6, v_6_7, v_6_9, v_6_11, v_6_14, v_6_17, v_6_18, v_6_19, v_6_20, v_6_23, v_6_26, v_6_28, v_6_31, v_6_33, v_6_34, v_6_35, v_6_38, v_6_39, v_6_40, v_6_41, v_6_43, v_6_45, v_6_48, vgi_0, vgi_s, vga_0, vga_s, vset_0, vset_s, vtk_0, vtk_s, vrc_0, vsw_0, vsw_s, List.all_cons, List.all_nil, zc1_i, zc1_r, Bool.and_true, Bool.and_self, true_and, and_true, List.length_cons, List.length_nil, Nat.zero_le, Nat.reduceLeDiff, Nat.reduceAdd, Nat.reduceLT, tg_0, tf_0_1, tg_2]
  refine c_135 (by omega) h2 (fun k hk ek hb => ?_) (fun hno => ?_)
  · simp only [v_6_0, v_6_1, v_6_4, v_6_5, v_6_6, v_6_7, v_6_9, v_6_11, v_6_14, v_6_17, v_6_18, v_6_19, v_6_20, v_6_23, v_6_26, v_6_28, v_6_31, v_6_33, v_6_34, v_6_35, v_6_38, v_6_39, v_6_40, v_6_41, v_6_43, v_6_45, v_6_48, vgi_0, vgi_s, vga_0, vga_s, vset_0, vset_s, vtk_0, vtk_s, vrc_0, vsw_0, vsw_s, List.all_cons, List.all_nil, zc1_i, zc1_r, Bool.and_true, Bool.and_self, true_and, and_true, List.length_cons, List.length_nil, Nat.zero_le, Nat.reduceLeDiff, Nat.reduceAdd, Nat.reduceLT, Option.toList_some, List.cons_append, List.nil_append, tg_0, tf_0_1, tg_2, h21]
    rw [if_neg (by decide)]
    have uk : ∀ k', k' < 9 → kv = nI k' → k' = k := fun k' hk' e2 => nI_inj (by omega) (by omega) (e2.symm.trans ek)
    by_cases m40 : m = 40
    · rw [if_pos (by rw [m40]; rfl)]
      exact c_60 (by omega) h2 (fun hno => absurd hb (hno k hk ek)) (fun _ _ _ _ _ => ⟨_, rfl, rfl, hI⟩) (fun _ _ _ _ h => absurd h (by omega))
    · rw [if_neg (by rw [li40, nI_eq (by omega) (by omega)]; exact m40), ek]
      have mlt : m < 40 := by omega
      refine c_137 (by omega) h2 mlt hk hb (fun t1 r1 o1 e1 f1 => ?_)
      simp only [v_6_0, v_6_1, v_6_4, v_6_5, v_6_6, v_6_7, v_6_9, v_6_11, v_6_14, v_6_17, v_6_18, v_6_19, v_6_20, v_6_23, v_6_26, v_6_28, v_6_31, v_6_33, v_6_34, v_6_35, v_6_38, v_6_39, v_6_40, v_6_41, v_6_43, v_6_45, v_6_48, vgi_0, vgi_s, vga_0, vga_s, vset_0, vset_s, vtk_0, vtk_s, vrc_0, vsw_0, vsw_s, List.all_cons, List.all_nil, zc1_i, zc1_r, Bool.and_true, Bool.and_self, true_and, and_true, List.length_cons, List.length_nil, Nat.zero_le, Nat.reduceLeDiff, Nat.reduceAdd, Nat.reduceLT, Option.toList_some, List.cons_append, List.nil_append]
      have h2m : foI t1 q m := by
        obtain ⟨⟨c1, c1b, c1c, c1d⟩, c2, c3, c4, c5, c6⟩ := h2
        sorry
      sorry
  · simp only [v_6_0, v_6_1, v_6_4, v_6_5, v_6_6, v_6_7, v_6_9, v_6_11, v_6_14, v_6_17, v_6_18, v_6_19, v_6_20, v_6_23, v_6_26, v_6_28, v_6_31, v_6_33, v_6_34, v_6_35, v_6_38, v_6_39, v_6_40, v_6_41, v_6_43, v_6_45, v_6_48, vgi_0, vgi_s, vga_0, vga_s, vset_0, vset_s, vtk_0, vtk_s, vrc_0, vsw_0, vsw_s, List.all_cons, List.all_nil, zc1_i, zc1_r, Bool.and_true, Bool.and_self, true_and, and_true, List.length_cons, List.length_nil, Nat.zero_le, Nat.reduceLeDiff, Nat.reduceAdd, Nat.reduceLT, Option.toList_some, List.cons_append, List.nil_append]
    rw [if_pos trivial]
    exact c_60 (by omega) h2 (fun _ => ⟨_, rfl, rfl, hI⟩) (fun k hk ek hb => absurd hb (hno k hk ek)) (fun k hk ek hb => absurd hb (hno k hk ek))
end FM5
