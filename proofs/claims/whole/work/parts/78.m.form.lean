/-! formula: both sides. -/
section FM5
variable {t t' : T} {q q' : FT} {m : Nat} {a b c e : Int32}
theorem nU_congr {k : Nat} (hk : k < 9) (x y z w : Nat) (h1 : 3 ≤ k → fr q' z = fr q z) (h2 : k = 4 ∨ k = 5 → fr q' w = fr q w) : nU q' k x y z w = nU q k x y z w := by
  unfold nU
  by_cases k0 : k = 0
  · rw [if_pos k0, if_pos k0]
  rw [if_neg k0, if_neg k0]
  by_cases k1 : k = 1
  · rw [if_pos k1, if_pos k1]
  rw [if_neg k1, if_neg k1]
  by_cases k2 : k = 2
  · rw [if_pos k2, if_pos k2]
  rw [if_neg k2, if_neg k2, h1 (by omega)]
  by_cases k3 : k = 3
  · rw [if_pos k3, if_pos k3]
  rw [if_neg k3, if_neg k3]
  by_cases k4 : k = 4 ∨ k = 5
  · rw [if_pos k4, if_pos k4, h2 k4]
  rw [if_neg k4, if_neg k4]
theorem nD_congr {k : Nat} (z w : Nat) (h1 : 3 ≤ k → dp q' z = dp q z) (h2 : k = 4 ∨ k = 5 → dp q' w = dp q w) : nD q' k z w = nD q k z w := by
  unfold nD
  by_cases k3 : k < 3
  · rw [if_pos k3, if_pos k3]
  · rw [if_neg k3, if_neg k3]
    by_cases k4 : k = 4 ∨ k = 5
    · rw [if_pos k4, if_pos k4, h1 (by omega), h2 k4]
    · rw [if_neg k4, if_neg k4, h1 (by omega)]
theorem nC_congr {k : Nat} (z w : Nat) (h1 : 3 ≤ k → cl q' z = cl q z) (h2 : k = 4 ∨ k = 5 → cl q' w = cl q w) : nC q' k z w = nC q k z w := by
  unfold nC
  by_cases k8 : k = 8
  · rw [if_pos k8, if_pos k8]
  · rw [if_neg k8, if_neg k8]
    by_cases k4 : k = 4 ∨ k = 5
    · rw [if_pos k4, if_pos k4, h1 (by omega), h2 k4]
    · rw [if_neg k4, if_neg k4]
      by_cases k3 : 3 ≤ k
      · rw [if_pos k3, if_pos k3, h1 k3]
      · rw [if_neg k3, if_neg k3]
theorem mkb_part {k : Nat} (hk : k < 9) (hb : mkb q m k a b c e) : (3 ≤ k → ∃ y, y < m ∧ c = nI y) ∧ (k = 4 ∨ k = 5 → ∃ y, y < m ∧ e = nI y) := by
  refine ⟨fun h3 => ?_, fun h => ?_⟩
  · have : k = 3 ∨ (k = 4 ∨ k = 5) ∨ (k = 6 ∨ k = 7) ∨ k = 8 := by omega
    rcases this with rfl | z | z | rfl
    · obtain ⟨y, hy, ey, -⟩ := mkb_3.mp hb; exact ⟨y, hy, ey⟩
    · obtain ⟨⟨y, hy, ey, -⟩, -⟩ := (mkb_4 z).mp hb; exact ⟨y, hy, ey⟩
    · obtain ⟨-, y, hy, ey, -⟩ := (mkb_6 z).mp hb; exact ⟨y, hy, ey⟩
    · obtain ⟨-, -, y, hy, ey, -⟩ := mkb_8.mp hb; exact ⟨y, hy, ey⟩
  · obtain ⟨-, y, hy, ey, -⟩ := (mkb_4 h).mp hb; exact ⟨y, hy, ey⟩
theorem mkb_congr {k : Nat} (hk : k < 9) (h : ∀ i, i < m → dp q' i = dp q i ∧ cl q' i = cl q i) (hb : mkb q m k a b c e) : mkb q' m k a b c e := by
  have : k = 0 ∨ k = 1 ∨ k = 2 ∨ k = 3 ∨ (k = 4 ∨ k = 5) ∨ (k = 6 ∨ k = 7) ∨ k = 8 := by omega
  rcases this with rfl | rfl | rfl | rfl | z | z | rfl
  · exact mkb_0.mpr (mkb_0.mp hb)
  · exact mkb_1.mpr (mkb_1.mp hb)
  · exact mkb_2.mpr (mkb_2.mp hb)
  · obtain ⟨y, hy, ey, hl⟩ := mkb_3.mp hb
    exact mkb_3.mpr ⟨y, hy, ey, by rw [(h y hy).1]; exact hl⟩
  · obtain ⟨⟨y, hy, ey, hl⟩, w, hw, ew, hl2⟩ := (mkb_4 z).mp hb
    exact (mkb_4 z).mpr ⟨⟨y, hy, ey, by rw [(h y hy).1]; exact hl⟩, w, hw, ew, by rw [(h w hw).1]; exact hl2⟩
  · obtain ⟨ga, y, hy, ey, hl⟩ := (mkb_6 z).mp hb
    exact (mkb_6 z).mpr ⟨ga, y, hy, ey, by rw [(h y hy).1]; exact hl⟩
  · obtain ⟨ga, gb, y, hy, ey, hl, hc⟩ := mkb_8.mp hb
    exact mkb_8.mpr ⟨ga, gb, y, hy, ey, by rw [(h y hy).1]; exact hl, by rw [(h y hy).2]; exact hc⟩
theorem nro_congr {k : Nat} (hm : m ≤ 40) (hk : k < 9) (h : ∀ i, i < m → dp q' i = dp q i ∧ fr q' i = fr q i ∧ cl q' i = cl q i) (hb : mkb q m k a b c e) : nro q' k a b c e = nro q k a b c e := by
  obtain ⟨p1, p2⟩ := mkb_part hk hb
  have g1 : 3 ≤ k → dp q' (nn c) = dp q (nn c) ∧ fr q' (nn c) = fr q (nn c) ∧ cl q' (nn c) = cl q (nn c) := fun h3 => by
    obtain ⟨y, hy, rfl⟩ := p1 h3
    rw [nn_nI (by omega)]; exact h y hy
  have g2 : k = 4 ∨ k = 5 → dp q' (nn e) = dp q (nn e) ∧ fr q' (nn e) = fr q (nn e) ∧ cl q' (nn e) = cl q (nn e) := fun h3 => by
    obtain ⟨y, hy, rfl⟩ := p2 h3
    rw [nn_nI (by omega)]; exact h y hy
  unfold nro
  rw [nD_congr (q' := q') (q := q) (nn c) (nn e) (fun h => (g1 h).1) (fun h => (g2 h).1), nU_congr (q' := q') (q := q) hk (nn a) (nn b) (nn c) (nn e) (fun h => (g1 h).2.1) (fun h => (g2 h).2.1), nC_congr (q' := q') (q := q) (nn c) (nn e) (fun h => (g1 h).2.2) (fun h => (g2 h).2.2)]
theorem nr0 {k : Nat} : nro q k a b c e 0 = nI k := by unfold nro; rw [if_pos rfl]
theorem nr1 {k : Nat} : nro q k a b c e 1 = a := by unfold nro; rw [if_neg (by omega), if_pos rfl]
theorem nr2 {k : Nat} : nro q k a b c e 2 = b := by unfold nro; rw [if_neg (by omega), if_neg (by omega), if_pos rfl]
theorem nr3 {k : Nat} : nro q k a b c e 3 = c := by unfold nro; rw [if_neg (by omega), if_neg (by omega), if_neg (by omega), if_pos rfl]
theorem nr4 {k : Nat} : nro q k a b c e 4 = e := by unfold nro; rw [if_neg (by omega), if_neg (by omega), if_neg (by omega), if_neg (by omega), if_pos rfl]
theorem nr5 {k : Nat} : nro q k a b c e 5 = nI (nD q k (nn c) (nn e)) := by unfold nro; rw [if_neg (by omega), if_neg (by omega), if_neg (by omega), if_neg (by omega), if_neg (by omega), if_pos rfl]
theorem nr6 {k : Nat} : nro q k a b c e 6 = nI (nU q k (nn a) (nn b) (nn c) (nn e)) := by unfold nro; rw [if_neg (by omega), if_neg (by omega), if_neg (by omega), if_neg (by omega), if_neg (by omega), if_neg (by omega), if_pos rfl]
theorem nr7 {k : Nat} : nro q k a b c e 7 = nI (nC q k (nn c) (nn e)) := by unfold nro; rw [if_neg (by omega), if_neg (by omega), if_neg (by omega), if_neg (by omega), if_neg (by omega), if_neg (by omega), if_neg (by omega)]
theorem tgr_row {p p' : FT} {i : Nat} (h : tgr q' q i) (h1 : p' i = q' i) (h2 : p i = q i) : tgr p' p i := by
  unfold tgr kd va vb pc pd fr at h ⊢
  rw [h1, h2]; exact h
theorem tgr_new {k : Nat} {p p' : FT} (hk : k < 9) (hb : mkb q m k a b c e) (h1 : p' m = nro q k a b c e) (h2 : p m = nro q k a (cb k a b) (cc k a c) e) : tgr p' p m := by
  obtain ⟨-, eU, -, -⟩ := mkb_c hb
  have k0 : kd p' m = k := by unfold kd; rw [h1, nr0]; exact nn_nI (by omega)
  have k0' : kd p m = k := by unfold kd; rw [h2, nr0]; exact nn_nI (by omega)
  have cbk : k ≠ 1 → cb k a b = b := fun h => by unfold cb; rw [if_neg (fun z => h z.1)]
  have cck : k ≠ 1 → cc k a c = c := fun h => by unfold cc; rw [if_neg (fun z => h z.1)]
  have ea : va p' m = va p m := by unfold va; rw [h1, h2, nr1, nr1]
  have eb : cb k a b = b → vb p' m = vb p m := fun h => by unfold vb; rw [h1, h2, nr2, nr2, h]
  have ec : cc k a c = c → pc p' m = pc p m := fun h => by unfold pc; rw [h1, h2, nr3, nr3, h]
  have ed : pd p' m = pd p m := by unfold pd; rw [h1, h2, nr4, nr4]
  refine ⟨k0.trans k0'.symm, fun z => ?_, fun z => ?_, fun z => ?_, fun z => ?_, fun z => ed, fun z => ea, fun z => ⟨ea, ?_⟩, ?_⟩
  · rw [h1, h2, nr1, nr1]
  · rw [k0] at z
    subst z
    obtain ⟨x, hx, rfl, -⟩ := mkb_1.mp hb
    have l2 : (nI x < 2) = (x < 2) := by rw [li2, nI_ltI (by omega) (by omega)]
    have l6 : (nI x < 6) = (x < 6) := by rw [li6, nI_ltI (by omega) (by omega)]
    have vx : va p' m = x := by unfold va; rw [h1, nr1]; exact nn_nI (by omega)
    refine ⟨ea, fun g => eb ?_, fun g => ec ?_⟩
    · rw [vx] at g; unfold cb; rw [if_neg (by rw [l2]; omega)]
    · rw [vx] at g; unfold cc; rw [if_neg (by rw [l6]; omega)]
  · rw [k0] at z
    exact ⟨eb (cbk (by omega)), ec (cck (by omega))⟩
  · rw [k0] at z
    exact ec (cck (by omega))
  · rw [k0] at z
    exact eb (cbk (by omega))
  · unfold fr
    rw [h1, h2, nr6, nr6, eU]
theorem op_formula (kv av bv cv ev : Int32) : OP 6 60 [.int kv, .int av, .int bv, .int cv, .int ev] := by
  intro d t hd hI
  obtain ⟨q, m, ru, rc, ec, Es, h1, h2, h3, h4, h5, h6, h7, h8, h9⟩ := id hI
  have hm := h2.le
  have h21 := h2.2.2.1
  refine ⟨by omega, ?_⟩
  rw [ze_6]
  refine vc_ok none zH_6 37 false _ 6 0 _ _ _ _ ?_
  simp only [v_6_0, v_6_1, v_6_4, v_6_5, v_6_6, v_6_7, v_6_9, v_6_11, v_6_14, v_6_17, v_6_18, v_6_19, v_6_20, v_6_23, v_6_26, v_6_28, v_6_31, v_6_33, v_6_34, v_6_35, v_6_38, v_6_39, v_6_40, v_6_41, v_6_43, v_6_45, v_6_48, vgi_0, vgi_s, vga_0, vga_s, vset_0, vset_s, vtk_0, vtk_s, vrc_0, vsw_0, vsw_s, List.all_cons, List.all_nil, zc1_i, zc1_r, Bool.and_true, Bool.and_self, true_and, and_true, List.length_cons, List.length_nil, Nat.zero_le, Nat.reduceLeDiff, Nat.reduceAdd, Nat.reduceLT, tg_0, tf_0_1, tg_2]
  refine c_135 (by omega) h2 (fun k hk ek hb => ?_) (fun hno => ?_)
  · simp only [v_6_0, v_6_1, v_6_4, v_6_5, v_6_6, v_6_7, v_6_9, v_6_11, v_6_14, v_6_17, v_6_18, v_6_19, v_6_20, v_6_23, v_6_26, v_6_28, v_6_31, v_6_33, v_6_34, v_6_35, v_6_38, v_6_39, v_6_40, v_6_41, v_6_43, v_6_45, v_6_48, vgi_0, vgi_s, vga_0, vga_s, vset_0, vset_s, vtk_0, vtk_s, vrc_0, vsw_0, vsw_s, List.all_cons, List.all_nil, zc1_i, zc1_r, Bool.and_true, Bool.and_self, true_and, and_true, List.length_cons, List.length_nil, Nat.zero_le, Nat.reduceLeDiff, Nat.reduceAdd, Nat.reduceLT, Option.toList_some, List.cons_append, List.nil_append, tg_0, tf_0_1, tg_2, h21]
    rw [if_neg (by decide)]
    have uk : ∀ k', k' < 9 → kv = nI k' → k' = k := fun k' hk' e2 => nI_inj (by omega) (by omega) (e2.symm.trans ek)
    by_cases m40 : m = 40
    · rw [if_pos (by rw [m40]; rfl)]
      exact c_60 (by omega) h2.toM (fun hno => absurd hb (hno k hk ek)) (fun _ _ _ _ _ => ⟨_, rfl, rfl, hI⟩) (fun _ _ _ _ h => absurd h (by omega))
    · rw [if_neg (by rw [li40, nI_eq (by omega) (by omega)]; exact m40), ek]
      have mlt : m < 40 := by omega
      refine c_137 (by omega) h2 mlt hk hb (fun t1 r1 o1 e1 f1 => ?_)
      simp only [v_6_0, v_6_1, v_6_4, v_6_5, v_6_6, v_6_7, v_6_9, v_6_11, v_6_14, v_6_17, v_6_18, v_6_19, v_6_20, v_6_23, v_6_26, v_6_28, v_6_31, v_6_33, v_6_34, v_6_35, v_6_38, v_6_39, v_6_40, v_6_41, v_6_43, v_6_45, v_6_48, vgi_0, vgi_s, vga_0, vga_s, vset_0, vset_s, vtk_0, vtk_s, vrc_0, vsw_0, vsw_s, List.all_cons, List.all_nil, zc1_i, zc1_r, Bool.and_true, Bool.and_self, true_and, and_true, List.length_cons, List.length_nil, Nat.zero_le, Nat.reduceLeDiff, Nat.reduceAdd, Nat.reduceLT, Option.toList_some, List.cons_append, List.nil_append]
      obtain ⟨⟨c1, c1b, c1c, c1d⟩, ⟨⟨q', a1, a2, a3, a4⟩, a5⟩, c3, c4, c5, c6⟩ := id h2
      have h2m : foM t1 q m := by
        have z := h2.toM
        refine ⟨z.1, by rw [o1 _ _ (by omega) (by omega)]; exact z.2.1, fun i hi => ?_⟩
        rw [o1 _ _ (by omega) (by omega), o1 _ _ (by omega) (by omega), o1 _ _ (by omega) (by omega)]; exact z.2.2 i hi
      refine c_60 (by omega) h2m (fun hno => absurd hb (hno k hk rfl)) (fun _ _ _ _ h => absurd h m40) (fun k' hk' ek' hb' _ t2 r2 o2 e2 f2 => ?_)
      have ek2 : k' = k := (nI_inj (by omega) (by omega) ek').symm
      subst ek2
      refine ⟨_, rfl, rfl, ?_⟩
      have oo : ∀ x j, x ≠ 4 + m → ¬ (x = 2 ∧ j = 1) → ¬ (485 ≤ x ∧ x ≤ 492 ∧ j = m) → ¬ (x = 483 ∧ j = 1) → t2.1 x j = t.1 x j := fun x j p1 p2 p3 p4 => by rw [o2 x j p3 p4]; exact o1 x j p1 p2
      have fc : ∀ j, j < 8 → t2.1 (4 + m) j = nro q k' av (cb k' av bv) (cc k' av cv) ev j := fun j hj => by rw [o2 _ _ (by omega) (by omega)]; exact f1 j hj
      obtain ⟨hbc, eU, eD, eC⟩ := mkb_c hb
      have sm : ∀ i, i < m → dp q' i = dp q i ∧ fr q' i = fr q i ∧ cl q' i = cl q i := fun i hi => by
        have w := a2 i hi
        have g5 := a3 i 5 hi (by omega)
        have g7 := a3 i 7 hi (by omega)
        have x5 := (c6 i hi).1
        have x7 := (c6 i hi).2
        have d4 := w.2.2.2.1
        have l2 := w.2.2.2.2.2.2.2.1
        have D4 := (c1b i hi).2.2.2.1
        have L2 := (c1b i hi).2.2.2.2.2.2.2.1
        refine ⟨nI_inj (by omega) (by omega) ?_, (a4 i hi).2.2.2.2.2.2.2.2, nI_inj (by omega) (by omega) ?_⟩
        · rw [← w.2.2.1, ← g5]; exact x5
        · rw [← w.2.2.2.2.2.2.1, ← g7]; exact x7
      have nc := nro_congr (q' := q') hm hk sm hb
      have hb2 : mkb q' m k' av bv cv ev := mkb_congr hk (fun i hi => ⟨(sm i hi).1, (sm i hi).2.2⟩) hb
      have W1 := nro_wf c1b mlt hbc
      have W2 := nro_wf a2 mlt hb2
      rw [nc] at W2
      have lo : ∀ (q : FT) (r : Nat → Int32) (i : Nat), i < m → ∀ j, j ≤ i → qad q m r j = q j := fun q r i hi j hj => qad_o (by omega)
      have F1 : ∀ i, i < m + 1 → fwf (qad q m (nro q k' av (cb k' av bv) (cc k' av cv) ev)) i := fun i hi => by
        by_cases z : i = m
        · subst z; exact W1.2
        · exact fwf_congr (lo q _ i (by omega)) (c1b i (by omega))
      have F2 : ∀ i, i < m + 1 → fwf (qad q' m (nro q k' av bv cv ev)) i := fun i hi => by
        by_cases z : i = m
        · subst z; exact W2.2
        · exact fwf_congr (lo q' _ i (by omega)) (a2 i (by omega))
      have frq : ∀ i, i < m → fr (qad q m (nro q k' av (cb k' av bv) (cc k' av cv) ev)) i = fr q i := fun i hi => by unfold fr; rw [qad_o (by omega)]
      have cfo : foI t2 (qad q m (nro q k' av (cb k' av bv) (cc k' av cv) ev)) (m + 1) := by
        have N1 : qad q m (nro q k' av (cb k' av bv) (cc k' av cv) ev) m = nro q k' av (cb k' av bv) (cc k' av cv) ev := qad_m
        have N2 : qad q' m (nro q k' av bv cv ev) m = nro q k' av bv cv ev := qad_m
        refine ⟨⟨by omega, F1, fun i hi hk1 => ?_, fun i j hi hj => ?_⟩, ⟨⟨qad q' m (nro q k' av bv cv ev), by omega, F2, fun i j hi hj => ?_, fun i hi => ?_⟩, F1⟩, by rw [o2 _ _ (by omega) (by omega)]; exact e1, e2, fun i hi hi2 => ?_, fun i hi => ?_⟩
        · by_cases z : i = m
          · subst z
            have k0 : kd (qad q i (nro q k' av (cb k' av bv) (cc k' av cv) ev)) i = k' := nro_kd hk
            rw [k0] at hk1
            subst hk1
            obtain ⟨x, hx, rfl, -⟩ := mkb_1.mp hb
            have l2 : (nI x < 2) = (x < 2) := by rw [li2, nI_ltI (by omega) (by omega)]
            have l6 : (nI x < 6) = (x < 6) := by rw [li6, nI_ltI (by omega) (by omega)]
            have vx : va (qad q i (nro q 1 (nI x) (cb 1 (nI x) bv) (cc 1 (nI x) cv) ev)) i = x := by unfold va; rw [N1, nr1]; exact nn_nI (by omega)
            rw [vx, N1]
            refine ⟨fun g => ?_, fun g => ?_⟩
            · rw [nr2]
              unfold cb; rw [if_pos ⟨rfl, by rw [l2]; exact g⟩]
            · rw [nr3]
              unfold cc; rw [if_pos ⟨rfl, by rw [l6]; exact g⟩]
          · have er : qad q m (nro q k' av (cb k' av bv) (cc k' av cv) ev) i = q i := qad_o z
            have := c1c i (by omega)
            unfold kd at hk1
            unfold va
            rw [er] at hk1 ⊢
            exact this hk1
        · by_cases z : i = m
          · subst z; rw [N1]; exact fc j hj
          · rw [qad_o z, oo _ _ (by omega) (by omega) (by omega) (by omega)]; exact c1d i j (by omega) hj
        · by_cases z : i = m
          · subst z; rw [N2]; exact f2 j hj
          · rw [qad_o z, oo _ _ (by omega) (by omega) (by omega) (by omega)]; exact a3 i j (by omega) hj
        · by_cases z : i = m
          · subst z; exact tgr_new hk hb N2 N1
          · exact tgr_row (a4 i (by omega)) (qad_o z) (qad_o z)
        · rw [oo _ _ (by omega) (by omega) (by omega) (by omega), oo _ _ (by omega) (by omega) (by omega) (by omega)]; exact c5 i (by omega) hi2
        · by_cases z : i = m
          · subst z
            have w := F1 i hi
            refine ⟨?_, ?_⟩
            · rw [← w.2.2.1, N1]
              have := f2 5 (by omega)
              rw [show (490 : Nat) = 485 + 5 from rfl, this, nr5, nr5, eD]
            · rw [← w.2.2.2.2.2.2.1, N1]
              have := f2 7 (by omega)
              rw [show (492 : Nat) = 485 + 7 from rfl, this, nr7, nr7, eC]
          · have er : qad q m (nro q k' av (cb k' av bv) (cc k' av cv) ev) i = q i := qad_o z
            unfold dp cl
            rw [er, oo _ _ (by omega) (by omega) (by omega) (by omega), oo _ _ (by omega) (by omega) (by omega) (by omega)]; exact c6 i (by omega)
      refine hI.upd (q' := qad q m (nro q k' av (cb k' av bv) (cc k' av cv) ev)) (m' := m + 1) (ru' := ru) (rc' := rc) (ec' := ec) (Es' := Es) (fun b k p1 p2 p3 => oo b k (by omega) (by omega) (by omega) (by omega)) (r2.trans r1) cfo ⟨⟨h3.1.1, fun r hr => ?_⟩, ?_, ?_⟩ ⟨h4.1, ?_, ?_, fun e he => ?_, fun e he he8 => ?_⟩
      · obtain ⟨g1, g2, g3⟩ := h3.1.2 r hr
        rw [frq _ g1]; exact ⟨by omega, g2, g3⟩
      · exact h3.2.1.k h3.1.1 (fun b k p1 p2 => oo b k (by omega) (by omega) (by omega) (by omega))
      · exact h3.2.2.k (fun b k p1 p2 => oo b k (by omega) (by omega) (by omega) (by omega)) (oo _ _ (by omega) (by omega) (by omega) (by omega))
      · rw [oo _ _ (by omega) (by omega) (by omega) (by omega)]; exact h4.2.1
      · rw [oo _ _ (by omega) (by omega) (by omega) (by omega)]; exact h4.2.2.1
      · obtain ⟨w1, w2, w3⟩ := h4.2.2.2.1 e he
        have e8 := h4.1
        obtain ⟨v1, v2, v3, v4, v5, v6, v7, v8, v9, v10⟩ := w1
        refine ⟨⟨v1, v2, v3, v4, v5, v6, by omega, by rw [frq _ v7]; exact v8, v9, fun j hj => ?_⟩, w2.k (by omega) (fun b k p1 p2 => oo b k (by omega) (by omega) (by omega) (by omega)), w3.k (fun b k p1 p2 => oo b k (by omega) (by omega) (by omega) (by omega))⟩
        obtain ⟨x1, x2, x3⟩ := v10 j hj
        exact ⟨x1, by omega, by rw [frq _ x2]; exact x3⟩
      · rw [oo _ _ (by omega) (by omega) (by omega) (by omega), oo _ _ (by omega) (by omega) (by omega) (by omega)]; exact h4.2.2.2.2 e he he8
  · simp only [v_6_0, v_6_1, v_6_4, v_6_5, v_6_6, v_6_7, v_6_9, v_6_11, v_6_14, v_6_17, v_6_18, v_6_19, v_6_20, v_6_23, v_6_26, v_6_28, v_6_31, v_6_33, v_6_34, v_6_35, v_6_38, v_6_39, v_6_40, v_6_41, v_6_43, v_6_45, v_6_48, vgi_0, vgi_s, vga_0, vga_s, vset_0, vset_s, vtk_0, vtk_s, vrc_0, vsw_0, vsw_s, List.all_cons, List.all_nil, zc1_i, zc1_r, Bool.and_true, Bool.and_self, true_and, and_true, List.length_cons, List.length_nil, Nat.zero_le, Nat.reduceLeDiff, Nat.reduceAdd, Nat.reduceLT, Option.toList_some, List.cons_append, List.nil_append]
    rw [if_pos trivial]
    exact c_60 (by omega) h2.toM (fun _ => ⟨_, rfl, rfl, hI⟩) (fun k hk ek hb => absurd hb (hno k hk ek)) (fun k hk ek hb => absurd hb (hno k hk ek))
end FM5
