/-! recorded, pile, show. -/
section OP11
variable {d : Nat} {t t' : T} {F : Option Value → T → Prop}
theorem c_26 {b : Nat} {L : List St} {iv sv : Int32} (hd : 2 ≤ d) (hb : b ∈ bags) (hw : bwf t b) (hL : bL t b L) (hl : L.length ≤ bN b) (k0 : (∀ i s, i < L.length → s < 4 → iv = nI i → sv ≠ nI s) → F (some (.int 0)) t) (k1 : ∀ i s, i < L.length → s < 4 → iv = nI i → sv = nI s → ∀ t', tO [243 + 2 * s, 243 + 2 * s + 1] t t' → cS t' (243 + 2 * s) = L.getD i z0 → F (some (.int 1)) t') : twc d 26 [.ref 0, .ref b, .int iv, .int sv] t F := by
  have hbd := bag_all b hb
  have tb : vtag b = 8 := hbd.2.2.2.2.2.1
  have h40 := bN_le hb
  refine ⟨by omega, ?_⟩
  rw [ze_26]
  refine vc_ok none zH_26 32 false _ 26 0 _ _ _ _ ?_
  simp only [v_26_0, v_26_1, v_26_2, v_26_5, v_26_8, v_26_11, v_26_12, v_26_13, v_26_16, v_26_19, v_26_20, v_26_21, v_26_22, v_26_25, v_26_26, v_26_27, v_26_28, v_26_31, v_26_32, v_26_33, v_26_36, v_26_37, vgi_0, vgi_s, vga_0, vga_s, vset_0, vset_s, vtk_0, vtk_s, vrc_0, vsw_0, vsw_s, List.all_cons, List.all_nil, zc1_i, zc1_r, Bool.and_true, Bool.and_self, true_and, and_true, List.length_cons, List.length_nil, Nat.zero_le, Nat.reduceLeDiff, Nat.reduceAdd, Nat.reduceLT, tb, hL.1]
  refine c_22 (by omega) (by omega) (fun i hi ei => ?_) (fun hno => ?_)
  · simp only [v_26_0, v_26_1, v_26_2, v_26_5, v_26_8, v_26_11, v_26_12, v_26_13, v_26_16, v_26_19, v_26_20, v_26_21, v_26_22, v_26_25, v_26_26, v_26_27, v_26_28, v_26_31, v_26_32, v_26_33, v_26_36, v_26_37, vgi_0, vgi_s, vga_0, vga_s, vset_0, vset_s, vtk_0, vtk_s, vrc_0, vsw_0, vsw_s, List.all_cons, List.all_nil, zc1_i, zc1_r, Bool.and_true, Bool.and_self, true_and, and_true, List.length_cons, List.length_nil, Nat.zero_le, Nat.reduceLeDiff, Nat.reduceAdd, Nat.reduceLT, Option.toList_some, List.cons_append, List.nil_append]
    rw [if_neg (by decide)]
    refine c_22 (L := 4) (by omega) (by omega) (fun s hs es => ?_) (fun hno => ?_)
    · subst ei
      subst es
      have st := sl_dec s hs
      obtain ⟨i1, i2, i3⟩ := hw.1 i (by omega)
      have hbi : t.2 (b + 1) i = br t b i := rfl
      simp only [v_26_0, v_26_1, v_26_2, v_26_5, v_26_8, v_26_11, v_26_12, v_26_13, v_26_16, v_26_19, v_26_20, v_26_21, v_26_22, v_26_25, v_26_26, v_26_27, v_26_28, v_26_31, v_26_32, v_26_33, v_26_36, v_26_37, vgi_0, vgi_s, vga_0, vga_s, vset_0, vset_s, vtk_0, vtk_s, vrc_0, vsw_0, vsw_s, List.all_cons, List.all_nil, zc1_i, zc1_r, Bool.and_true, Bool.and_self, true_and, and_true, List.length_cons, List.length_nil, Nat.zero_le, Nat.reduceLeDiff, Nat.reduceAdd, Nat.reduceLT, Option.toList_some, List.cons_append, List.nil_append, tg_0, tf_0_0, tg_1, ln_1, tb, bag_arr _ hb]
      rw [if_neg (by decide)]
      simp (disch := omega) only [nI_clamp, vinb_n, tf_1, st, hbd.2.2.1, bag_ref _ hb, hbi, i3]
      refine ⟨hs, by omega, by omega, by show i < bN b; omega, ?_⟩
      refine ⟨trivial, c_168 (by omega) st i3 (fun t1 o1 e1 => ?_)⟩
      simp only [v_26_0, v_26_1, v_26_2, v_26_5, v_26_8, v_26_11, v_26_12, v_26_13, v_26_16, v_26_19, v_26_20, v_26_21, v_26_22, v_26_25, v_26_26, v_26_27, v_26_28, v_26_31, v_26_32, v_26_33, v_26_36, v_26_37, vgi_0, vgi_s, vga_0, vga_s, vset_0, vset_s, vtk_0, vtk_s, vrc_0, vsw_0, vsw_s, List.all_cons, List.all_nil, zc1_i, zc1_r, Bool.and_true, Bool.and_self, true_and, and_true, List.length_cons, List.length_nil, Nat.zero_le, Nat.reduceLeDiff, Nat.reduceAdd, Nat.reduceLT, Option.toList_none, List.nil_append]
      refine ⟨Or.inr trivial, k1 i s hi hs rfl rfl t1 o1 ?_⟩
      rw [e1, ← hL.2 i hi]; rfl
    · simp only [v_26_0, v_26_1, v_26_2, v_26_5, v_26_8, v_26_11, v_26_12, v_26_13, v_26_16, v_26_19, v_26_20, v_26_21, v_26_22, v_26_25, v_26_26, v_26_27, v_26_28, v_26_31, v_26_32, v_26_33, v_26_36, v_26_37, vgi_0, vgi_s, vga_0, vga_s, vset_0, vset_s, vtk_0, vtk_s, vrc_0, vsw_0, vsw_s, List.all_cons, List.all_nil, zc1_i, zc1_r, Bool.and_true, Bool.and_self, true_and, and_true, List.length_cons, List.length_nil, Nat.zero_le, Nat.reduceLeDiff, Nat.reduceAdd, Nat.reduceLT, Option.toList_some, List.cons_append, List.nil_append]
      rw [if_pos trivial]
      exact ⟨Or.inl trivial, k0 (fun i s _ hs _ es => hno s hs es)⟩
  · simp only [v_26_0, v_26_1, v_26_2, v_26_5, v_26_8, v_26_11, v_26_12, v_26_13, v_26_16, v_26_19, v_26_20, v_26_21, v_26_22, v_26_25, v_26_26, v_26_27, v_26_28, v_26_31, v_26_32, v_26_33, v_26_36, v_26_37, vgi_0, vgi_s, vga_0, vga_s, vset_0, vset_s, vtk_0, vtk_s, vrc_0, vsw_0, vsw_s, List.all_cons, List.all_nil, zc1_i, zc1_r, Bool.and_true, Bool.and_self, true_and, and_true, List.length_cons, List.length_nil, Nat.zero_le, Nat.reduceLeDiff, Nat.reduceAdd, Nat.reduceLT, Option.toList_some, List.cons_append, List.nil_append]
    rw [if_pos trivial]
    exact ⟨Or.inl trivial, k0 (fun i s hi _ ei => absurd ei (hno i hi))⟩
theorem op_recorded (pv : Int32) : OP 19 101 [.int pv] := by
  intro d t hd hI
  obtain ⟨q, m, ru, rc, ec, Es, h1, h2, h3, h4, h5, h6, h7, h8, h9⟩ := id hI
  refine ⟨by omega, ?_⟩
  rw [ze_19]
  refine vc_ok none zH_19 22 false _ 19 0 _ _ _ _ ?_
  simp only [v_19_0, v_19_1, v_19_2, v_19_5, v_19_8, v_19_9, v_19_12, v_19_13, v_19_14, v_19_17, v_19_20, v_19_21, vgi_0, vgi_s, vga_0, vga_s, vset_0, vset_s, vtk_0, vtk_s, vrc_0, vsw_0, vsw_s, List.all_cons, List.all_nil, zc1_i, zc1_r, Bool.and_true, Bool.and_self, true_and, and_true, List.length_cons, List.length_nil, Nat.zero_le, Nat.reduceLeDiff, Nat.reduceAdd, Nat.reduceLT]
  refine c_22 (L := 4) (by omega) (by omega) (fun p hp ep => ?_) (fun hno => ?_)
  · subst ep
    obtain ⟨R, a1, a2, a3, a4⟩ := h8 p hp
    have tb : vtag (301 + 52 * p) = 8 := (bag_all _ (bag_r p hp).1).2.2.2.2.2.1
    have hc := a2.1.1
    simp only [v_19_0, v_19_1, v_19_2, v_19_5, v_19_8, v_19_9, v_19_12, v_19_13, v_19_14, v_19_17, v_19_20, v_19_21, vgi_0, vgi_s, vga_0, vga_s, vset_0, vset_s, vtk_0, vtk_s, vrc_0, vsw_0, vsw_s, List.all_cons, List.all_nil, zc1_i, zc1_r, Bool.and_true, Bool.and_self, true_and, and_true, List.length_cons, List.length_nil, Nat.zero_le, Nat.reduceLeDiff, Nat.reduceAdd, Nat.reduceLT, Option.toList_some, List.cons_append, List.nil_append, tg_0, tf_0_9, tg_157, ln_157]
    rw [if_neg (by decide)]
    simp (disch := omega) only [nI_clamp, vinb_n, tf_157, tb, hc]
    refine ⟨hp, trivial, by omega, ?_⟩
    rw [ze_101]
    refine vc_ok none zH_101 20 false _ 101 0 _ _ _ _ ?_
    simp only [v_101_0, v_101_1, v_101_4, v_101_7, v_101_8, v_101_11, v_101_12, v_101_13, v_101_16, v_101_17, vgi_0, vgi_s, vga_0, vga_s, vset_0, vset_s, vtk_0, vtk_s, vrc_0, vsw_0, vsw_s, List.all_cons, List.all_nil, zc1_i, zc1_r, Bool.and_true, Bool.and_self, true_and, and_true, List.length_cons, List.length_nil, Nat.zero_le, Nat.reduceLeDiff, Nat.reduceAdd, Nat.reduceLT]
    refine c_93 (by omega) (fun p' _ _ => ?_) (fun hno => absurd rfl (hno p hp))
    simp only [v_101_0, v_101_1, v_101_4, v_101_7, v_101_8, v_101_11, v_101_12, v_101_13, v_101_16, v_101_17, vgi_0, vgi_s, vga_0, vga_s, vset_0, vset_s, vtk_0, vtk_s, vrc_0, vsw_0, vsw_s, List.all_cons, List.all_nil, zc1_i, zc1_r, Bool.and_true, Bool.and_self, true_and, and_true, List.length_cons, List.length_nil, Nat.zero_le, Nat.reduceLeDiff, Nat.reduceAdd, Nat.reduceLT, Option.toList_some, List.cons_append, List.nil_append, tg_483, tf_483_23, tg_503, ln_503]
    rw [if_neg (by decide)]
    simp (disch := omega) only [nI_clamp, vinb_n, a3]
    exact ⟨hp, _, rfl, rfl, hI⟩
  · simp only [v_19_0, v_19_1, v_19_2, v_19_5, v_19_8, v_19_9, v_19_12, v_19_13, v_19_14, v_19_17, v_19_20, v_19_21, vgi_0, vgi_s, vga_0, vga_s, vset_0, vset_s, vtk_0, vtk_s, vrc_0, vsw_0, vsw_s, List.all_cons, List.all_nil, zc1_i, zc1_r, Bool.and_true, Bool.and_self, true_and, and_true, List.length_cons, List.length_nil, Nat.zero_le, Nat.reduceLeDiff, Nat.reduceAdd, Nat.reduceLT, Option.toList_some, List.cons_append, List.nil_append]
    rw [if_pos trivial]
    refine ⟨by omega, ?_⟩
    rw [ze_101]
    refine vc_ok none zH_101 20 false _ 101 0 _ _ _ _ ?_
    simp only [v_101_0, v_101_1, v_101_4, v_101_7, v_101_8, v_101_11, v_101_12, v_101_13, v_101_16, v_101_17, vgi_0, vgi_s, vga_0, vga_s, vset_0, vset_s, vtk_0, vtk_s, vrc_0, vsw_0, vsw_s, List.all_cons, List.all_nil, zc1_i, zc1_r, Bool.and_true, Bool.and_self, true_and, and_true, List.length_cons, List.length_nil, Nat.zero_le, Nat.reduceLeDiff, Nat.reduceAdd, Nat.reduceLT]
    refine c_93 (by omega) (fun p hp ep => absurd ep (hno p hp)) (fun _ => ?_)
    simp only [v_101_0, v_101_1, v_101_4, v_101_7, v_101_8, v_101_11, v_101_12, v_101_13, v_101_16, v_101_17, vgi_0, vgi_s, vga_0, vga_s, vset_0, vset_s, vtk_0, vtk_s, vrc_0, vsw_0, vsw_s, List.all_cons, List.all_nil, zc1_i, zc1_r, Bool.and_true, Bool.and_self, true_and, and_true, List.length_cons, List.length_nil, Nat.zero_le, Nat.reduceLeDiff, Nat.reduceAdd, Nat.reduceLT, Option.toList_some, List.cons_append, List.nil_append]
    rw [if_pos trivial]
    exact ⟨_, rfl, rfl, hI⟩
theorem op_pile (iv sv : Int32) : OP 16 92 [.int iv, .int sv] := by
  intro d t hd hI
  obtain ⟨q, m, ru, rc, ec, Es, h1, h2, h3, h4, h5, h6, h7, h8, h9⟩ := id hI
  obtain ⟨P, a1, a2, a3, a4⟩ := h7
  have hb : t.2 0 12 ∈ bags ∧ bN (t.2 0 12) = 40 := by
    rcases h6 with ⟨e, -⟩ | ⟨e, -⟩ <;> rw [e]
    · exact ⟨bag_w.2.1, bag_w.2.2.2⟩
    · exact ⟨bag_w.1, bag_w.2.2.1⟩
  refine ⟨by omega, ?_⟩
  rw [ze_16]
  refine vc_ok none zH_16 17 false _ 16 0 _ _ _ _ ?_
  simp only [v_16_0, v_16_1, v_16_2, v_16_5, v_16_6, v_16_7, v_16_10, vgi_0, vgi_s, vga_0, vga_s, vset_0, vset_s, vtk_0, vtk_s, vrc_0, vsw_0, vsw_s, List.all_cons, List.all_nil, zc1_i, zc1_r, Bool.and_true, Bool.and_self, true_and, and_true, List.length_cons, List.length_nil, Nat.zero_le, Nat.reduceLeDiff, Nat.reduceAdd, Nat.reduceLT, tg_0, tf_0_12]
  refine c_26 (by omega) hb.1 (h5 _ hb.1) a2.1 (by rw [hb.2]; exact a1) (fun hno => ?_) (fun i s hi hs ei es t1 o1 e1 => ?_)
  · simp only [v_16_0, v_16_1, v_16_2, v_16_5, v_16_6, v_16_7, v_16_10, vgi_0, vgi_s, vga_0, vga_s, vset_0, vset_s, vtk_0, vtk_s, vrc_0, vsw_0, vsw_s, List.all_cons, List.all_nil, zc1_i, zc1_r, Bool.and_true, Bool.and_self, true_and, and_true, List.length_cons, List.length_nil, Nat.zero_le, Nat.reduceLeDiff, Nat.reduceAdd, Nat.reduceLT, Option.toList_some, List.cons_append, List.nil_append]
    refine ⟨Or.inl trivial, by omega, ?_⟩
    rw [ze_92]
    refine vc_ok none zH_92 29 false _ 92 0 _ _ _ _ ?_
    simp only [v_92_0, v_92_1, v_92_4, v_92_5, v_92_6, v_92_9, v_92_12, v_92_13, v_92_16, v_92_19, v_92_20, v_92_21, v_92_22, v_92_24, v_92_25, v_92_26, v_92_27, v_92_30, v_92_31, vgi_0, vgi_s, vga_0, vga_s, vset_0, vset_s, vtk_0, vtk_s, vrc_0, vsw_0, vsw_s, List.all_cons, List.all_nil, zc1_i, zc1_r, Bool.and_true, Bool.and_self, true_and, and_true, List.length_cons, List.length_nil, Nat.zero_le, Nat.reduceLeDiff, Nat.reduceAdd, Nat.reduceLT, tg_483, a3]
    rcases in_cases iv (show P.length < 2 ^ 31 by omega) with ⟨i, hi, rfl⟩ | ⟨ho, hn⟩
    · rw [if_neg (by rw [li0, nI_ltI (by omega) (by omega)]; omega), if_pos (nI_lt hi (by omega))]
      refine c_47 (by omega) (fun s hs es => absurd es (hno i s hi hs rfl)) (fun _ => ?_)
      simp only [v_92_0, v_92_1, v_92_4, v_92_5, v_92_6, v_92_9, v_92_12, v_92_13, v_92_16, v_92_19, v_92_20, v_92_21, v_92_22, v_92_24, v_92_25, v_92_26, v_92_27, v_92_30, v_92_31, vgi_0, vgi_s, vga_0, vga_s, vset_0, vset_s, vtk_0, vtk_s, vrc_0, vsw_0, vsw_s, List.all_cons, List.all_nil, zc1_i, zc1_r, Bool.and_true, Bool.and_self, true_and, and_true, List.length_cons, List.length_nil, Nat.zero_le, Nat.reduceLeDiff, Nat.reduceAdd, Nat.reduceLT, Option.toList_some, List.cons_append, List.nil_append]
      rw [if_pos trivial]
      exact ⟨Or.inl trivial, _, rfl, rfl, hI⟩
    · by_cases z : iv < 0
      · rw [if_pos z]
        exact ⟨Or.inl trivial, _, rfl, rfl, hI⟩
      · rw [if_neg z]
        have z2 : ¬ iv < nI P.length := by
          rcases ho with ho | ho
          · exact absurd ho z
          · exact Int32.not_lt.mpr ho
        rw [if_neg z2]
        exact ⟨Or.inl trivial, _, rfl, rfl, hI⟩
  · subst ei
    subst es
    have I1 : INVx t1 s := INVx.cs hI hs (Or.inl rfl) o1
    have m1 : ∀ r, mS t1 r = mS t r := fun r => o1.ms (by simp; omega) r
    have a3' : t1.1 483 22 = nI P.length := by rw [o1.2 _ (by simp; omega)]; exact a3
    have hw := a2.2 _ (gd_mem hi)
    simp only [v_16_0, v_16_1, v_16_2, v_16_5, v_16_6, v_16_7, v_16_10, vgi_0, vgi_s, vga_0, vga_s, vset_0, vset_s, vtk_0, vtk_s, vrc_0, vsw_0, vsw_s, List.all_cons, List.all_nil, zc1_i, zc1_r, Bool.and_true, Bool.and_self, true_and, and_true, List.length_cons, List.length_nil, Nat.zero_le, Nat.reduceLeDiff, Nat.reduceAdd, Nat.reduceLT, Option.toList_some, List.cons_append, List.nil_append]
    refine ⟨Or.inr trivial, by omega, ?_⟩
    rw [ze_92]
    refine vc_ok none zH_92 29 false _ 92 0 _ _ _ _ ?_
    simp only [v_92_0, v_92_1, v_92_4, v_92_5, v_92_6, v_92_9, v_92_12, v_92_13, v_92_16, v_92_19, v_92_20, v_92_21, v_92_22, v_92_24, v_92_25, v_92_26, v_92_27, v_92_30, v_92_31, vgi_0, vgi_s, vga_0, vga_s, vset_0, vset_s, vtk_0, vtk_s, vrc_0, vsw_0, vsw_s, List.all_cons, List.all_nil, zc1_i, zc1_r, Bool.and_true, Bool.and_self, true_and, and_true, List.length_cons, List.length_nil, Nat.zero_le, Nat.reduceLeDiff, Nat.reduceAdd, Nat.reduceLT, tg_483, a3']
    rw [if_neg (by rw [li0, nI_ltI (by omega) (by omega)]; omega), if_pos (nI_lt hi (by omega))]
    refine c_47 (by omega) (fun s' _ _ => ?_) (fun hno => absurd rfl (hno s hs))
    simp only [v_92_0, v_92_1, v_92_4, v_92_5, v_92_6, v_92_9, v_92_12, v_92_13, v_92_16, v_92_19, v_92_20, v_92_21, v_92_22, v_92_24, v_92_25, v_92_26, v_92_27, v_92_30, v_92_31, vgi_0, vgi_s, vga_0, vga_s, vset_0, vset_s, vtk_0, vtk_s, vrc_0, vsw_0, vsw_s, List.all_cons, List.all_nil, zc1_i, zc1_r, Bool.and_true, Bool.and_self, true_and, and_true, List.length_cons, List.length_nil, Nat.zero_le, Nat.reduceLeDiff, Nat.reduceAdd, Nat.reduceLT, Option.toList_some, List.cons_append, List.nil_append, tg_483]
    rw [if_neg (by decide)]
    simp (disch := omega) only [li100, nI_add]
    refine c_44g (A := noA) (P := only s) (by omega) (by omega) (by omega) (by rw [m1, a4 i hi]; exact hw.b) rfl (fun t2 o2 e2 => ?_)
    have e2 := e2 s
    rw [if_pos rfl, m1, a4 i hi] at e2
    simp only [v_92_0, v_92_1, v_92_4, v_92_5, v_92_6, v_92_9, v_92_12, v_92_13, v_92_16, v_92_19, v_92_20, v_92_21, v_92_22, v_92_24, v_92_25, v_92_26, v_92_27, v_92_30, v_92_31, vgi_0, vgi_s, vga_0, vga_s, vset_0, vset_s, vtk_0, vtk_s, vrc_0, vsw_0, vsw_s, List.all_cons, List.all_nil, zc1_i, zc1_r, Bool.and_true, Bool.and_self, true_and, and_true, List.length_cons, List.length_nil, Nat.zero_le, Nat.reduceLeDiff, Nat.reduceAdd, Nat.reduceLT, Option.toList_none, List.nil_append]
    exact ⟨Or.inr trivial, _, rfl, rfl, I1.ms0 hs o2 (fun r hr => Or.inl hr) (by rw [e1, e2]) (by rw [e2]; exact hw)⟩
theorem op_show (pv iv sv : Int32) : OP 20 102 [.int pv, .int iv, .int sv] := by
  intro d t hd hI
  obtain ⟨q, m, ru, rc, ec, Es, h1, h2, h3, h4, h5, h6, h7, h8, h9⟩ := id hI
  refine ⟨by omega, ?_⟩
  rw [ze_20]
  refine vc_ok none zH_20 27 false _ 20 0 _ _ _ _ ?_
  simp only [v_20_0, v_20_1, v_20_2, v_20_5, v_20_8, v_20_9, v_20_10, v_20_13, v_20_14, v_20_15, v_20_16, v_20_17, v_20_20, v_20_23, v_20_24, v_20_27, v_20_28, vgi_0, vgi_s, vga_0, vga_s, vset_0, vset_s, vtk_0, vtk_s, vrc_0, vsw_0, vsw_s, List.all_cons, List.all_nil, zc1_i, zc1_r, Bool.and_true, Bool.and_self, true_and, and_true, List.length_cons, List.length_nil, Nat.zero_le, Nat.reduceLeDiff, Nat.reduceAdd, Nat.reduceLT]
  refine c_22 (L := 4) (by omega) (by omega) (fun p hp ep => ?_) (fun hno => ?_)
  · subst ep
    obtain ⟨R, a1, a2, a3, a4⟩ := h8 p hp
    have hb := bag_r p hp
    have tb : vtag (301 + 52 * p) = 8 := (bag_all _ hb.1).2.2.2.2.2.1
    simp only [v_20_0, v_20_1, v_20_2, v_20_5, v_20_8, v_20_9, v_20_10, v_20_13, v_20_14, v_20_15, v_20_16, v_20_17, v_20_20, v_20_23, v_20_24, v_20_27, v_20_28, vgi_0, vgi_s, vga_0, vga_s, vset_0, vset_s, vtk_0, vtk_s, vrc_0, vsw_0, vsw_s, List.all_cons, List.all_nil, zc1_i, zc1_r, Bool.and_true, Bool.and_self, true_and, and_true, List.length_cons, List.length_nil, Nat.zero_le, Nat.reduceLeDiff, Nat.reduceAdd, Nat.reduceLT, Option.toList_some, List.cons_append, List.nil_append, tg_0, tf_0_9, tg_157, ln_157]
    rw [if_neg (by decide)]
    simp (disch := omega) only [nI_clamp, vinb_n, tf_157]
    refine ⟨hp, ?_⟩
    refine c_26 (by omega) hb.1 (h5 _ hb.1) a2.1 (by rw [hb.2.2.1]; exact a1) (fun hno => ?_) (fun i s hi hs ei es t1 o1 e1 => ?_)
    · simp only [v_20_0, v_20_1, v_20_2, v_20_5, v_20_8, v_20_9, v_20_10, v_20_13, v_20_14, v_20_15, v_20_16, v_20_17, v_20_20, v_20_23, v_20_24, v_20_27, v_20_28, vgi_0, vgi_s, vga_0, vga_s, vset_0, vset_s, vtk_0, vtk_s, vrc_0, vsw_0, vsw_s, List.all_cons, List.all_nil, zc1_i, zc1_r, Bool.and_true, Bool.and_self, true_and, and_true, List.length_cons, List.length_nil, Nat.zero_le, Nat.reduceLeDiff, Nat.reduceAdd, Nat.reduceLT, Option.toList_some, List.cons_append, List.nil_append]
      rw [if_pos trivial]
      refine ⟨Or.inl trivial, by omega, ?_⟩
      rw [ze_102]
      refine vc_ok none zH_102 38 false _ 102 0 _ _ _ _ ?_
      simp only [v_102_0, v_102_1, v_102_4, v_102_7, v_102_8, v_102_11, v_102_12, v_102_13, v_102_16, v_102_17, v_102_18, v_102_21, v_102_22, v_102_25, v_102_28, v_102_29, v_102_30, v_102_31, v_102_32, v_102_34, v_102_35, v_102_36, v_102_37, v_102_38, v_102_39, v_102_40, v_102_43, v_102_44, vgi_0, vgi_s, vga_0, vga_s, vset_0, vset_s, vtk_0, vtk_s, vrc_0, vsw_0, vsw_s, List.all_cons, List.all_nil, zc1_i, zc1_r, Bool.and_true, Bool.and_self, true_and, and_true, List.length_cons, List.length_nil, Nat.zero_le, Nat.reduceLeDiff, Nat.reduceAdd, Nat.reduceLT]
      refine c_93 (by omega) (fun p' _ _ => ?_) (fun hn => absurd rfl (hn p hp))
      simp only [v_102_0, v_102_1, v_102_4, v_102_7, v_102_8, v_102_11, v_102_12, v_102_13, v_102_16, v_102_17, v_102_18, v_102_21, v_102_22, v_102_25, v_102_28, v_102_29, v_102_30, v_102_31, v_102_32, v_102_34, v_102_35, v_102_36, v_102_37, v_102_38, v_102_39, v_102_40, v_102_43, v_102_44, vgi_0, vgi_s, vga_0, vga_s, vset_0, vset_s, vtk_0, vtk_s, vrc_0, vsw_0, vsw_s, List.all_cons, List.all_nil, zc1_i, zc1_r, Bool.and_true, Bool.and_self, true_and, and_true, List.length_cons, List.length_nil, Nat.zero_le, Nat.reduceLeDiff, Nat.reduceAdd, Nat.reduceLT, Option.toList_some, List.cons_append, List.nil_append, tg_483, tf_483_23, tg_503, ln_503]
      rw [if_neg (by decide)]
      simp (disch := omega) only [nI_clamp, vinb_n, a3]
      rcases in_cases iv (show R.length < 2 ^ 31 by omega) with ⟨i, hi, rfl⟩ | ⟨ho, hn⟩
      · rw [if_neg (by rw [li0, nI_ltI (by omega) (by omega)]; omega)]
        refine ⟨hp, ?_⟩
        rw [if_pos (nI_lt hi (by omega))]
        refine c_47 (by omega) (fun s hs es => absurd es (hno i s hi hs rfl)) (fun _ => ?_)
        simp only [v_102_0, v_102_1, v_102_4, v_102_7, v_102_8, v_102_11, v_102_12, v_102_13, v_102_16, v_102_17, v_102_18, v_102_21, v_102_22, v_102_25, v_102_28, v_102_29, v_102_30, v_102_31, v_102_32, v_102_34, v_102_35, v_102_36, v_102_37, v_102_38, v_102_39, v_102_40, v_102_43, v_102_44, vgi_0, vgi_s, vga_0, vga_s, vset_0, vset_s, vtk_0, vtk_s, vrc_0, vsw_0, vsw_s, List.all_cons, List.all_nil, zc1_i, zc1_r, Bool.and_true, Bool.and_self, true_and, and_true, List.length_cons, List.length_nil, Nat.zero_le, Nat.reduceLeDiff, Nat.reduceAdd, Nat.reduceLT, Option.toList_some, List.cons_append, List.nil_append]
        rw [if_pos trivial]
        exact ⟨Or.inl trivial, _, rfl, rfl, hI⟩
      · by_cases z : iv < 0
        · rw [if_pos z]
          exact ⟨Or.inl trivial, _, rfl, rfl, hI⟩
        · rw [if_neg z]
          have z2 : ¬ iv < nI R.length := by
            rcases ho with ho | ho
            · exact absurd ho z
            · exact Int32.not_lt.mpr ho
          refine ⟨hp, ?_⟩
          rw [if_neg z2]
          exact ⟨Or.inl trivial, _, rfl, rfl, hI⟩
    · subst ei
      subst es
      have I1 : INVx t1 s := INVx.cs hI hs (Or.inl rfl) o1
      have m1 : ∀ r, mS t1 r = mS t r := fun r => o1.ms (by simp; omega) r
      have a3' : t1.1 503 p = nI R.length := by rw [o1.2 _ (by simp; omega)]; exact a3
      have hw := a2.2 _ (gd_mem hi)
      simp only [v_20_0, v_20_1, v_20_2, v_20_5, v_20_8, v_20_9, v_20_10, v_20_13, v_20_14, v_20_15, v_20_16, v_20_17, v_20_20, v_20_23, v_20_24, v_20_27, v_20_28, vgi_0, vgi_s, vga_0, vga_s, vset_0, vset_s, vtk_0, vtk_s, vrc_0, vsw_0, vsw_s, List.all_cons, List.all_nil, zc1_i, zc1_r, Bool.and_true, Bool.and_self, true_and, and_true, List.length_cons, List.length_nil, Nat.zero_le, Nat.reduceLeDiff, Nat.reduceAdd, Nat.reduceLT, Option.toList_some, List.cons_append, List.nil_append]
      rw [if_neg (by decide)]
      refine ⟨Or.inr trivial, by omega, ?_⟩
      rw [ze_102]
      refine vc_ok none zH_102 38 false _ 102 0 _ _ _ _ ?_
      simp only [v_102_0, v_102_1, v_102_4, v_102_7, v_102_8, v_102_11, v_102_12, v_102_13, v_102_16, v_102_17, v_102_18, v_102_21, v_102_22, v_102_25, v_102_28, v_102_29, v_102_30, v_102_31, v_102_32, v_102_34, v_102_35, v_102_36, v_102_37, v_102_38, v_102_39, v_102_40, v_102_43, v_102_44, vgi_0, vgi_s, vga_0, vga_s, vset_0, vset_s, vtk_0, vtk_s, vrc_0, vsw_0, vsw_s, List.all_cons, List.all_nil, zc1_i, zc1_r, Bool.and_true, Bool.and_self, true_and, and_true, List.length_cons, List.length_nil, Nat.zero_le, Nat.reduceLeDiff, Nat.reduceAdd, Nat.reduceLT]
      refine c_93 (by omega) (fun p' _ _ => ?_) (fun hn => absurd rfl (hn p hp))
      simp only [v_102_0, v_102_1, v_102_4, v_102_7, v_102_8, v_102_11, v_102_12, v_102_13, v_102_16, v_102_17, v_102_18, v_102_21, v_102_22, v_102_25, v_102_28, v_102_29, v_102_30, v_102_31, v_102_32, v_102_34, v_102_35, v_102_36, v_102_37, v_102_38, v_102_39, v_102_40, v_102_43, v_102_44, vgi_0, vgi_s, vga_0, vga_s, vset_0, vset_s, vtk_0, vtk_s, vrc_0, vsw_0, vsw_s, List.all_cons, List.all_nil, zc1_i, zc1_r, Bool.and_true, Bool.and_self, true_and, and_true, List.length_cons, List.length_nil, Nat.zero_le, Nat.reduceLeDiff, Nat.reduceAdd, Nat.reduceLT, Option.toList_some, List.cons_append, List.nil_append, tg_483, tf_483_23, tg_503, ln_503]
      rw [if_neg (by decide)]
      simp (disch := omega) only [nI_clamp, vinb_n, a3']
      rw [if_neg (by rw [li0, nI_ltI (by omega) (by omega)]; omega)]
      refine ⟨hp, ?_⟩
      rw [if_pos (nI_lt hi (by omega))]
      refine c_47 (by omega) (fun s' _ _ => ?_) (fun hno => absurd rfl (hno s hs))
      simp only [v_102_0, v_102_1, v_102_4, v_102_7, v_102_8, v_102_11, v_102_12, v_102_13, v_102_16, v_102_17, v_102_18, v_102_21, v_102_22, v_102_25, v_102_28, v_102_29, v_102_30, v_102_31, v_102_32, v_102_34, v_102_35, v_102_36, v_102_37, v_102_38, v_102_39, v_102_40, v_102_43, v_102_44, vgi_0, vgi_s, vga_0, vga_s, vset_0, vset_s, vtk_0, vtk_s, vrc_0, vsw_0, vsw_s, List.all_cons, List.all_nil, zc1_i, zc1_r, Bool.and_true, Bool.and_self, true_and, and_true, List.length_cons, List.length_nil, Nat.zero_le, Nat.reduceLeDiff, Nat.reduceAdd, Nat.reduceLT, Option.toList_some, List.cons_append, List.nil_append, tg_483]
      rw [if_neg (by decide)]
      simp (disch := omega) only [li4, li12, pk_mul, nI_add]
      refine c_44g (A := noA) (P := only s) (by omega) (by omega) (by omega) (by rw [m1, a4 i hi]; exact hw.b) rfl (fun t2 o2 e2 => ?_)
      have e2 := e2 s
      rw [if_pos rfl, m1, a4 i hi] at e2
      simp only [v_102_0, v_102_1, v_102_4, v_102_7, v_102_8, v_102_11, v_102_12, v_102_13, v_102_16, v_102_17, v_102_18, v_102_21, v_102_22, v_102_25, v_102_28, v_102_29, v_102_30, v_102_31, v_102_32, v_102_34, v_102_35, v_102_36, v_102_37, v_102_38, v_102_39, v_102_40, v_102_43, v_102_44, vgi_0, vgi_s, vga_0, vga_s, vset_0, vset_s, vtk_0, vtk_s, vrc_0, vsw_0, vsw_s, List.all_cons, List.all_nil, zc1_i, zc1_r, Bool.and_true, Bool.and_self, true_and, and_true, List.length_cons, List.length_nil, Nat.zero_le, Nat.reduceLeDiff, Nat.reduceAdd, Nat.reduceLT, Option.toList_none, List.nil_append]
      exact ⟨Or.inr trivial, _, rfl, rfl, I1.ms0 hs o2 (fun r hr => Or.inl hr) (by rw [e1, e2]) (by rw [e2]; exact hw)⟩
  · simp only [v_20_0, v_20_1, v_20_2, v_20_5, v_20_8, v_20_9, v_20_10, v_20_13, v_20_14, v_20_15, v_20_16, v_20_17, v_20_20, v_20_23, v_20_24, v_20_27, v_20_28, vgi_0, vgi_s, vga_0, vga_s, vset_0, vset_s, vtk_0, vtk_s, vrc_0, vsw_0, vsw_s, List.all_cons, List.all_nil, zc1_i, zc1_r, Bool.and_true, Bool.and_self, true_and, and_true, List.length_cons, List.length_nil, Nat.zero_le, Nat.reduceLeDiff, Nat.reduceAdd, Nat.reduceLT, Option.toList_some, List.cons_append, List.nil_append]
    rw [if_pos trivial]
    refine ⟨Or.inl trivial, by omega, ?_⟩
    rw [ze_102]
    refine vc_ok none zH_102 38 false _ 102 0 _ _ _ _ ?_
    simp only [v_102_0, v_102_1, v_102_4, v_102_7, v_102_8, v_102_11, v_102_12, v_102_13, v_102_16, v_102_17, v_102_18, v_102_21, v_102_22, v_102_25, v_102_28, v_102_29, v_102_30, v_102_31, v_102_32, v_102_34, v_102_35, v_102_36, v_102_37, v_102_38, v_102_39, v_102_40, v_102_43, v_102_44, vgi_0, vgi_s, vga_0, vga_s, vset_0, vset_s, vtk_0, vtk_s, vrc_0, vsw_0, vsw_s, List.all_cons, List.all_nil, zc1_i, zc1_r, Bool.and_true, Bool.and_self, true_and, and_true, List.length_cons, List.length_nil, Nat.zero_le, Nat.reduceLeDiff, Nat.reduceAdd, Nat.reduceLT]
    refine c_93 (by omega) (fun p hp ep => absurd ep (hno p hp)) (fun _ => ?_)
    simp only [v_102_0, v_102_1, v_102_4, v_102_7, v_102_8, v_102_11, v_102_12, v_102_13, v_102_16, v_102_17, v_102_18, v_102_21, v_102_22, v_102_25, v_102_28, v_102_29, v_102_30, v_102_31, v_102_32, v_102_34, v_102_35, v_102_36, v_102_37, v_102_38, v_102_39, v_102_40, v_102_43, v_102_44, vgi_0, vgi_s, vga_0, vga_s, vset_0, vset_s, vtk_0, vtk_s, vrc_0, vsw_0, vsw_s, List.all_cons, List.all_nil, zc1_i, zc1_r, Bool.and_true, Bool.and_self, true_and, and_true, List.length_cons, List.length_nil, Nat.zero_le, Nat.reduceLeDiff, Nat.reduceAdd, Nat.reduceLT, Option.toList_some, List.cons_append, List.nil_append]
    rw [if_pos trivial]
    exact ⟨Or.inl trivial, _, rfl, rfl, hI⟩
end OP11
