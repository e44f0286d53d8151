/-! free, value, rule. -/
section OP7
variable {d : Nat} {t t' : T} {F : Option Value → T → Prop} {q : FT} {m : Nat}
theorem INV.upd {q' : FT} {m' rc' ec' : Nat} {ru' Es' : Nat → Nat → Nat} (h : INV t) (i : ∀ b k, ¬ ((2 ≤ b ∧ b < 44) ∨ (49 ≤ b ∧ b < 57) ∨ (251 ≤ b ∧ b < 275) ∨ (485 ≤ b ∧ b ≤ 502)) → ¬ (b = 483 ∧ (k = 1 ∨ k = 10 ∨ k = 14)) → ¬ (b = 0 ∧ k = 13) → t'.1 b k = t.1 b k) (r2 : t'.2 = t.2) (f' : foI t' q' m') (g' : ruI t' q' m' ru' rc') (e' : edI t' q' m' ec' Es') : INV t' := by
  obtain ⟨q, m, ru, rc, ec, Es, h1, h2, h3, h4, h5, h6, h7, h8, h9⟩ := h
  have mr : ∀ r, mS t' r = mS t r := fun r => by
    funext k
    unfold mS
    rw [i 484 _ (by omega) (by omega) (by omega)]
  refine ⟨q', m', ru', rc', ec', Es', h1.k (fun b k a c => i b k (by omega) (by omega) (by omega)) (fun s _ => mr s), f', g', e', fun b hb => ((h5 b hb).k (t' := t') (fun k => by rw [r2])).1, ?_, ?_, ?_, ?_⟩
  · unfold wkI; rw [r2]; exact h6
  · have hpw : t.2 0 12 = 61 ∨ t.2 0 12 = 161 := by rcases h6 with z | z; exact Or.inr z.1; exact Or.inl z.1
    have b61 := bag_w.2.2.1
    have b161 := bag_w.2.2.2
    refine h7.k h5 h6 (by rw [r2]) (fun x k hx => i x k ?_ ?_ ?_) (fun k => by rw [r2]) (i _ _ (by omega) (by omega) (by omega)) (fun s _ _ => mr s)
    all_goals (unfold bgF at hx; rcases hpw with e | e <;> rw [e] at hx <;> omega)
  · exact h8.k h5 (fun p hp => ⟨fun x k a c => i x k (by omega) (by omega) (by omega), fun k => by rw [r2]⟩) (fun k => i 503 k (by omega) (by omega) (by omega)) (fun s _ _ => mr s)
  · exact h9.k h5 (fun p hp => ⟨fun x k a c => i x k (by omega) (by omega) (by omega), fun k => by rw [r2]⟩) (fun k => i 504 k (by omega) (by omega) (by omega)) (fun s _ _ => mr s)
theorem foI.fr {i : Nat} (h : foI t q m) (hi : i < m) : t.1 (4 + i) 6 = nI (fr q i) ∧ t.1 491 i = nI (fr q i) ∧ fr q i < 64 := by
  have hw := h.1.2.1 i hi
  refine ⟨by rw [h.1.2.2.2 i 6 hi (by omega)]; exact hw.2.2.2.2.1, ?_, hw.2.2.2.2.2.1⟩
  obtain ⟨⟨q', a1, a2, a3, a4⟩, -⟩ := h.2.1
  rw [show (491 : Nat) = 485 + 6 from rfl, a3 i 6 hi (by omega), (a2 i hi).2.2.2.2.1, (a4 i hi).2.2.2.2.2.2.2.2]
theorem foI.le (h : foI t q m) : m ≤ 40 := h.1.1
theorem c_55 {fv : Int32} (hd : 1 ≤ d) (h : foI t q m) (k1 : ∀ i, i < m → fv = nI i → F (some (.int 1)) t) (k0 : (∀ i, i < m → fv ≠ nI i) → F (some (.int 0)) t) : twc d 55 [.ref 483, .int fv] t F := by
  have h1 := h.2.2.2.1
  have hm := h.le
  refine ⟨by omega, ?_⟩
  rw [ze_55]
  refine vc_ok none zH_55 20 false _ 55 0 _ _ _ _ ?_
  simp only [v_55_0, v_55_1, v_55_4, v_55_5, v_55_6, v_55_9, v_55_12, v_55_13, v_55_16, v_55_17, vgi_0, vgi_s, vga_0, vga_s, vset_0, vset_s, vtk_0, vtk_s, vrc_0, vsw_0, vsw_s, List.all_cons, List.all_nil, zc1_i, zc1_r, Bool.and_true, Bool.and_self, true_and, and_true, List.length_cons, List.length_nil, Nat.zero_le, Nat.reduceLeDiff, Nat.reduceAdd, Nat.reduceLT, tg_483, h1]
  rcases in_cases fv (show m < 2 ^ 31 by omega) with ⟨i, hi, rfl⟩ | ⟨ho, hno⟩
  · rw [if_neg (by rw [li0, nI_ltI (by omega) (by omega)]; omega), if_pos (nI_lt hi (by omega))]
    exact ⟨Or.inr trivial, k1 i hi rfl⟩
  · by_cases z : fv < 0
    · rw [if_pos z]
      exact ⟨Or.inl trivial, k0 hno⟩
    · rw [if_neg z]
      have z2 : ¬ fv < nI m := by
        rcases ho with ho | ho
        · exact absurd ho z
        · exact Int32.not_lt.mpr ho
      rw [if_neg z2]
      exact ⟨Or.inl trivial, k0 hno⟩
theorem msk : ∀ x, x < 64 → ∀ k, k < 4 → k ≠ 2 → (nI x &&& (nI k ^^^ -1) = 0 ↔ x ≤ k) := by decide +kernel
theorem c_134 {fv : Int32} {k : Nat} (hd : 2 ≤ d) (h : foI t q m) (hk : k < 4) (hk2 : k ≠ 2) (k1 : ∀ i, i < m → fv = nI i → fr q i ≤ k → F (some (.int 1)) t) (k0 : (∀ i, i < m → fv = nI i → ¬ fr q i ≤ k) → F (some (.int 0)) t) : twc d 134 [.ref 2, .int fv, .int (nI k)] t F := by
  have h1 := h.2.2.1
  have hm := h.le
  refine ⟨by omega, ?_⟩
  rw [ze_134]
  refine vc_ok none zH_134 29 false _ 134 0 _ _ _ _ ?_
  simp only [v_134_0, v_134_1, v_134_2, v_134_5, v_134_8, v_134_11, v_134_12, v_134_15, v_134_16, v_134_17, v_134_20, v_134_21, v_134_22, v_134_23, v_134_24, v_134_27, v_134_28, v_134_31, v_134_32, vgi_0, vgi_s, vga_0, vga_s, vset_0, vset_s, vtk_0, vtk_s, vrc_0, vsw_0, vsw_s, List.all_cons, List.all_nil, zc1_i, zc1_r, Bool.and_true, Bool.and_self, true_and, and_true, List.length_cons, List.length_nil, Nat.zero_le, Nat.reduceLeDiff, Nat.reduceAdd, Nat.reduceLT, tg_2, h1]
  refine c_22 (by omega) (by omega) (fun i hi ei => ?_) (fun hno => ?_)
  · subst ei
    obtain ⟨f1, f2, f3⟩ := h.fr hi
    have fo := fo_tag i (by omega)
    simp only [v_134_0, v_134_1, v_134_2, v_134_5, v_134_8, v_134_11, v_134_12, v_134_15, v_134_16, v_134_17, v_134_20, v_134_21, v_134_22, v_134_23, v_134_24, v_134_27, v_134_28, v_134_31, v_134_32, vgi_0, vgi_s, vga_0, vga_s, vset_0, vset_s, vtk_0, vtk_s, vrc_0, vsw_0, vsw_s, List.all_cons, List.all_nil, zc1_i, zc1_r, Bool.and_true, Bool.and_self, true_and, and_true, List.length_cons, List.length_nil, Nat.zero_le, Nat.reduceLeDiff, Nat.reduceAdd, Nat.reduceLT, Option.toList_some, List.cons_append, List.nil_append, tg_2, tf_2_0, tg_3, ln_3]
    rw [if_neg (by decide)]
    simp (disch := omega) only [nI_clamp, vinb_n, tf_3, fo, f1]
    refine ⟨by omega, trivial, ?_⟩
    by_cases z : nI (fr q i) &&& (nI k ^^^ -1) = 0
    · rw [if_pos z]
      exact ⟨Or.inr trivial, k1 i hi rfl ((msk _ f3 k hk hk2).mp z)⟩
    · rw [if_neg z]
      refine ⟨Or.inl trivial, k0 (fun j hj ej hle => ?_)⟩
      have : i = j := nI_inj (by omega) (by omega) ej
      subst this
      exact z ((msk _ f3 k hk hk2).mpr hle)
  · simp only [v_134_0, v_134_1, v_134_2, v_134_5, v_134_8, v_134_11, v_134_12, v_134_15, v_134_16, v_134_17, v_134_20, v_134_21, v_134_22, v_134_23, v_134_24, v_134_27, v_134_28, v_134_31, v_134_32, vgi_0, vgi_s, vga_0, vga_s, vset_0, vset_s, vtk_0, vtk_s, vrc_0, vsw_0, vsw_s, List.all_cons, List.all_nil, zc1_i, zc1_r, Bool.and_true, Bool.and_self, true_and, and_true, List.length_cons, List.length_nil, Nat.zero_le, Nat.reduceLeDiff, Nat.reduceAdd, Nat.reduceLT, Option.toList_some, List.cons_append, List.nil_append]
    rw [if_pos trivial]
    exact ⟨Or.inl trivial, k0 (fun i hi ei => absurd ei (hno i hi))⟩
theorem op_free (fv : Int32) : OP 7 61 [.int fv] := by
  intro d t hd hI
  obtain ⟨q, m, ru, rc, ec, Es, h1, h2, h3, h4, h5, h6, h7, h8, h9⟩ := id hI
  have hm := h2.le
  have h21 := h2.2.2.1
  refine ⟨by omega, ?_⟩
  rw [ze_7]
  refine vc_ok none zH_7 25 false _ 7 0 _ _ _ _ ?_
  simp only [v_7_0, v_7_1, v_7_2, v_7_5, v_7_8, v_7_11, v_7_14, v_7_15, v_7_18, v_7_21, v_7_22, v_7_23, v_7_26, v_7_29, v_7_30, vgi_0, vgi_s, vga_0, vga_s, vset_0, vset_s, vtk_0, vtk_s, vrc_0, vsw_0, vsw_s, List.all_cons, List.all_nil, zc1_i, zc1_r, Bool.and_true, Bool.and_self, true_and, and_true, List.length_cons, List.length_nil, Nat.zero_le, Nat.reduceLeDiff, Nat.reduceAdd, Nat.reduceLT, tg_0, tf_0_1, tg_2, h21]
  refine c_22 (by omega) (by omega) (fun i hi ei => ?_) (fun hno => ?_)
  · subst ei
    obtain ⟨f1, f2, f3⟩ := h2.fr hi
    have fo := fo_tag i (by omega)
    simp only [v_7_0, v_7_1, v_7_2, v_7_5, v_7_8, v_7_11, v_7_14, v_7_15, v_7_18, v_7_21, v_7_22, v_7_23, v_7_26, v_7_29, v_7_30, vgi_0, vgi_s, vga_0, vga_s, vset_0, vset_s, vtk_0, vtk_s, vrc_0, vsw_0, vsw_s, List.all_cons, List.all_nil, zc1_i, zc1_r, Bool.and_true, Bool.and_self, true_and, and_true, List.length_cons, List.length_nil, Nat.zero_le, Nat.reduceLeDiff, Nat.reduceAdd, Nat.reduceLT, Option.toList_some, List.cons_append, List.nil_append, tg_0, tf_0_1, tg_2, tf_2_0, tg_3, ln_3]
    rw [if_neg (by decide)]
    simp (disch := omega) only [nI_clamp, vinb_n, tf_3, fo, f1]
    refine ⟨by omega, trivial, by omega, ?_⟩
    rw [ze_61]
    refine vc_ok none zH_61 21 false _ 61 0 _ _ _ _ ?_
    simp only [v_61_0, v_61_1, v_61_2, v_61_5, v_61_8, v_61_9, v_61_12, v_61_13, v_61_14, v_61_17, v_61_18, vgi_0, vgi_s, vga_0, vga_s, vset_0, vset_s, vtk_0, vtk_s, vrc_0, vsw_0, vsw_s, List.all_cons, List.all_nil, zc1_i, zc1_r, Bool.and_true, Bool.and_self, true_and, and_true, List.length_cons, List.length_nil, Nat.zero_le, Nat.reduceLeDiff, Nat.reduceAdd, Nat.reduceLT, tg_483]
    refine c_55 (by omega) h2 (fun j hj ej => ?_) (fun hno => absurd rfl (hno i hi))
    simp only [v_61_0, v_61_1, v_61_2, v_61_5, v_61_8, v_61_9, v_61_12, v_61_13, v_61_14, v_61_17, v_61_18, vgi_0, vgi_s, vga_0, vga_s, vset_0, vset_s, vtk_0, vtk_s, vrc_0, vsw_0, vsw_s, List.all_cons, List.all_nil, zc1_i, zc1_r, Bool.and_true, Bool.and_self, true_and, and_true, List.length_cons, List.length_nil, Nat.zero_le, Nat.reduceLeDiff, Nat.reduceAdd, Nat.reduceLT, Option.toList_some, List.cons_append, List.nil_append, tg_483, tf_483_8, tg_491, ln_491]
    rw [if_neg (by decide)]
    simp (disch := omega) only [nI_clamp, vinb_n, f2]
    exact ⟨by omega, _, rfl, rfl, hI⟩
  · simp only [v_7_0, v_7_1, v_7_2, v_7_5, v_7_8, v_7_11, v_7_14, v_7_15, v_7_18, v_7_21, v_7_22, v_7_23, v_7_26, v_7_29, v_7_30, vgi_0, vgi_s, vga_0, vga_s, vset_0, vset_s, vtk_0, vtk_s, vrc_0, vsw_0, vsw_s, List.all_cons, List.all_nil, zc1_i, zc1_r, Bool.and_true, Bool.and_self, true_and, and_true, List.length_cons, List.length_nil, Nat.zero_le, Nat.reduceLeDiff, Nat.reduceAdd, Nat.reduceLT, Option.toList_some, List.cons_append, List.nil_append]
    rw [if_pos trivial]
    refine ⟨by omega, ?_⟩
    rw [ze_61]
    refine vc_ok none zH_61 21 false _ 61 0 _ _ _ _ ?_
    simp only [v_61_0, v_61_1, v_61_2, v_61_5, v_61_8, v_61_9, v_61_12, v_61_13, v_61_14, v_61_17, v_61_18, vgi_0, vgi_s, vga_0, vga_s, vset_0, vset_s, vtk_0, vtk_s, vrc_0, vsw_0, vsw_s, List.all_cons, List.all_nil, zc1_i, zc1_r, Bool.and_true, Bool.and_self, true_and, and_true, List.length_cons, List.length_nil, Nat.zero_le, Nat.reduceLeDiff, Nat.reduceAdd, Nat.reduceLT, tg_483]
    refine c_55 (by omega) h2 (fun j hj ej => absurd ej (hno j hj)) (fun _ => ?_)
    simp only [v_61_0, v_61_1, v_61_2, v_61_5, v_61_8, v_61_9, v_61_12, v_61_13, v_61_14, v_61_17, v_61_18, vgi_0, vgi_s, vga_0, vga_s, vset_0, vset_s, vtk_0, vtk_s, vrc_0, vsw_0, vsw_s, List.all_cons, List.all_nil, zc1_i, zc1_r, Bool.and_true, Bool.and_self, true_and, and_true, List.length_cons, List.length_nil, Nat.zero_le, Nat.reduceLeDiff, Nat.reduceAdd, Nat.reduceLT, Option.toList_some, List.cons_append, List.nil_append]
    rw [if_pos trivial]
    exact ⟨_, rfl, rfl, hI⟩
theorem c_155 {rc f p c : Nat} (hd : 1 ≤ d) (hr : rc < 6) (h : t.1 49 3 = nI rc) (k : F (some (.int (nI (rc + 1)))) (tsi (tsi (tsi (tsi t (51 + rc) 0 (nI f)) (51 + rc) 1 (nI p)) (51 + rc) 2 (nI c)) 49 3 (nI (rc + 1)))) : twc d 155 [.ref 49, .int (nI f), .int (nI p), .int (nI c)] t F := by
  have tr := rl_tag rc hr
  refine ⟨by omega, ?_⟩
  rw [ze_155]
  refine vc_ok none zH_155 40 false _ 155 0 _ _ _ _ ?_
  simp only [v_155_0, v_155_1, v_155_4, v_155_5, v_155_8, v_155_9, v_155_10, v_155_13, v_155_14, v_155_17, v_155_18, v_155_21, v_155_22, v_155_23, v_155_26, v_155_27, v_155_30, v_155_31, v_155_34, v_155_35, v_155_36, v_155_39, v_155_40_int, v_155_40_ref, v_155_41, v_155_44, v_155_45, v_155_46, v_155_49, v_155_50, v_155_53, vgi_0, vgi_s, vga_0, vga_s, vset_0, vset_s, vtk_0, vtk_s, vrc_0, vsw_0, vsw_s, List.all_cons, List.all_nil, zc1_i, zc1_r, Bool.and_true, Bool.and_self, true_and, and_true, List.length_cons, List.length_nil, Nat.zero_le, Nat.reduceLeDiff, Nat.reduceAdd, Nat.reduceLT, tg_49, tf_49_2, tg_50, ln_50, h]
  simp (disch := omega) only [nI_clamp, vinb_n, tf_50, tr]
  refine ⟨by omega, trivial, ?_⟩
  have e1 : (tsi t (51 + rc) 0 (nI f)).1 49 3 = nI rc := by rw [tsi_ne (by omega)]; exact h
  have e2 : (tsi (tsi t (51 + rc) 0 (nI f)) (51 + rc) 1 (nI p)).1 49 3 = nI rc := by rw [tsi_ne (by omega)]; exact e1
  have e3 : (tsi (tsi (tsi t (51 + rc) 0 (nI f)) (51 + rc) 1 (nI p)) (51 + rc) 2 (nI c)).1 49 3 = nI rc := by rw [tsi_ne (by omega)]; exact e2
  simp (disch := omega) only [e1, e2, e3, nI_clamp, vinb_n, tf_50, tr, tsi_eq, nI_1]
  exact ⟨by omega, trivial, by omega, trivial, k⟩
def ruad (ru : Nat → Nat → Nat) (rc f p c : Nat) : Nat → Nat → Nat := fun r k => if r = rc then (if k = 0 then f else if k = 1 then p else c) else ru r k
theorem ruad_0 {ru : Nat → Nat → Nat} {rc f p c : Nat} : ruad ru rc f p c rc 0 = f := by unfold ruad; rw [if_pos rfl, if_pos rfl]
theorem ruad_1 {ru : Nat → Nat → Nat} {rc f p c : Nat} : ruad ru rc f p c rc 1 = p := by unfold ruad; rw [if_pos rfl, if_neg (by omega), if_pos rfl]
theorem ruad_2 {ru : Nat → Nat → Nat} {rc f p c : Nat} : ruad ru rc f p c rc 2 = c := by unfold ruad; rw [if_pos rfl, if_neg (by omega), if_neg (by omega)]
theorem ruad_o {ru : Nat → Nat → Nat} {rc f p c r k : Nat} (h : r ≠ rc) : ruad ru rc f p c r k = ru r k := by unfold ruad; rw [if_neg h]
theorem op_rule (fv pv cv : Int32) : OP 11 84 [.int fv, .int pv, .int cv] := by
  intro d t hd hI
  obtain ⟨q, m, ru, rc, ec, Es, h1, h2, h3, h4, h5, h6, h7, h8, h9⟩ := id hI
  have hm := h2.le
  have rc6 := h3.1.1
  have h49 := h3.2.1.1
  have h4810 := h3.2.2.1
  have bad : (∀ i p c, i < m → 2 ≤ p → p ≤ 8 → c ≤ 1 → fv = nI i → fr q i ≤ 3 → pv = nI p → cv ≠ nI c) → twc d 84 [.ref 483, .int fv, .int pv, .int cv] t (fun r' t2 => ∃ v, some (Value.int (-1)) = some (Value.int v) ∧ r' = some (Value.int v) ∧ INV t2) := by
    intro hno
    refine ⟨by omega, ?_⟩
    rw [ze_84]
    refine vc_ok none zH_84 65 false _ 84 0 _ _ _ _ ?_
    simp only [v_84_0, v_84_1, v_84_2, v_84_5, v_84_8, v_84_9, v_84_12, v_84_13, v_84_14, v_84_15, v_84_18, v_84_19, v_84_20, v_84_22, v_84_25, v_84_28, v_84_29, v_84_30, v_84_31, v_84_34, v_84_37, v_84_38, v_84_39, v_84_40, v_84_43, v_84_45, v_84_48, v_84_50, v_84_51, v_84_52, v_84_55, v_84_56, v_84_59, v_84_60, v_84_61, v_84_62, v_84_65, v_84_66, v_84_69, v_84_70, v_84_71, v_84_72, v_84_75, v_84_76, v_84_79, v_84_80, v_84_81, v_84_82_int, v_84_82_ref, v_84_83, v_84_86, v_84_87, v_84_88, v_84_91, v_84_92, v_84_95, vgi_0, vgi_s, vga_0, vga_s, vset_0, vset_s, vtk_0, vtk_s, vrc_0, vsw_0, vsw_s, List.all_cons, List.all_nil, zc1_i, zc1_r, Bool.and_true, Bool.and_self, true_and, and_true, List.length_cons, List.length_nil, Nat.zero_le, Nat.reduceLeDiff, Nat.reduceAdd, Nat.reduceLT, tg_483]
    refine c_55 (by omega) h2 (fun i hi ei => ?_) (fun _ => ?_)
    · subst ei
      obtain ⟨f1, f2, f3⟩ := h2.fr hi
      simp only [v_84_0, v_84_1, v_84_2, v_84_5, v_84_8, v_84_9, v_84_12, v_84_13, v_84_14, v_84_15, v_84_18, v_84_19, v_84_20, v_84_22, v_84_25, v_84_28, v_84_29, v_84_30, v_84_31, v_84_34, v_84_37, v_84_38, v_84_39, v_84_40, v_84_43, v_84_45, v_84_48, v_84_50, v_84_51, v_84_52, v_84_55, v_84_56, v_84_59, v_84_60, v_84_61, v_84_62, v_84_65, v_84_66, v_84_69, v_84_70, v_84_71, v_84_72, v_84_75, v_84_76, v_84_79, v_84_80, v_84_81, v_84_82_int, v_84_82_ref, v_84_83, v_84_86, v_84_87, v_84_88, v_84_91, v_84_92, v_84_95, vgi_0, vgi_s, vga_0, vga_s, vset_0, vset_s, vtk_0, vtk_s, vrc_0, vsw_0, vsw_s, List.all_cons, List.all_nil, zc1_i, zc1_r, Bool.and_true, Bool.and_self, true_and, and_true, List.length_cons, List.length_nil, Nat.zero_le, Nat.reduceLeDiff, Nat.reduceAdd, Nat.reduceLT, Option.toList_some, List.cons_append, List.nil_append, tg_483, tf_483_8, tg_491, ln_491]
      rw [if_neg (by decide)]
      simp (disch := omega) only [nI_clamp, vinb_n, f2, li3, nI_ltI]
      refine ⟨by omega, ?_⟩
      by_cases z : 3 < fr q i
      · rw [if_pos z]
        exact ⟨_, rfl, rfl, hI⟩
      · rw [if_neg z]
        refine c_37 (lo := 2) (hi := 8) (by omega) (by omega) (by omega) (fun p hp1 hp2 ep => ?_) (fun _ => ?_)
        · simp only [v_84_0, v_84_1, v_84_2, v_84_5, v_84_8, v_84_9, v_84_12, v_84_13, v_84_14, v_84_15, v_84_18, v_84_19, v_84_20, v_84_22, v_84_25, v_84_28, v_84_29, v_84_30, v_84_31, v_84_34, v_84_37, v_84_38, v_84_39, v_84_40, v_84_43, v_84_45, v_84_48, v_84_50, v_84_51, v_84_52, v_84_55, v_84_56, v_84_59, v_84_60, v_84_61, v_84_62, v_84_65, v_84_66, v_84_69, v_84_70, v_84_71, v_84_72, v_84_75, v_84_76, v_84_79, v_84_80, v_84_81, v_84_82_int, v_84_82_ref, v_84_83, v_84_86, v_84_87, v_84_88, v_84_91, v_84_92, v_84_95, vgi_0, vgi_s, vga_0, vga_s, vset_0, vset_s, vtk_0, vtk_s, vrc_0, vsw_0, vsw_s, List.all_cons, List.all_nil, zc1_i, zc1_r, Bool.and_true, Bool.and_self, true_and, and_true, List.length_cons, List.length_nil, Nat.zero_le, Nat.reduceLeDiff, Nat.reduceAdd, Nat.reduceLT, Option.toList_some, List.cons_append, List.nil_append]
          rw [if_pos trivial]
          refine c_37 (lo := 0) (hi := 1) (by omega) (by omega) (by omega) (fun c hc1 hc2 ec => absurd ec (hno i p c hi hp1 hp2 hc2 rfl (by omega) ep)) (fun _ => ?_)
          simp only [v_84_0, v_84_1, v_84_2, v_84_5, v_84_8, v_84_9, v_84_12, v_84_13, v_84_14, v_84_15, v_84_18, v_84_19, v_84_20, v_84_22, v_84_25, v_84_28, v_84_29, v_84_30, v_84_31, v_84_34, v_84_37, v_84_38, v_84_39, v_84_40, v_84_43, v_84_45, v_84_48, v_84_50, v_84_51, v_84_52, v_84_55, v_84_56, v_84_59, v_84_60, v_84_61, v_84_62, v_84_65, v_84_66, v_84_69, v_84_70, v_84_71, v_84_72, v_84_75, v_84_76, v_84_79, v_84_80, v_84_81, v_84_82_int, v_84_82_ref, v_84_83, v_84_86, v_84_87, v_84_88, v_84_91, v_84_92, v_84_95, vgi_0, vgi_s, vga_0, vga_s, vset_0, vset_s, vtk_0, vtk_s, vrc_0, vsw_0, vsw_s, List.all_cons, List.all_nil, zc1_i, zc1_r, Bool.and_true, Bool.and_self, true_and, and_true, List.length_cons, List.length_nil, Nat.zero_le, Nat.reduceLeDiff, Nat.reduceAdd, Nat.reduceLT, Option.toList_some, List.cons_append, List.nil_append]
          rw [if_neg (by decide)]
          exact ⟨_, rfl, rfl, hI⟩
        · simp only [v_84_0, v_84_1, v_84_2, v_84_5, v_84_8, v_84_9, v_84_12, v_84_13, v_84_14, v_84_15, v_84_18, v_84_19, v_84_20, v_84_22, v_84_25, v_84_28, v_84_29, v_84_30, v_84_31, v_84_34, v_84_37, v_84_38, v_84_39, v_84_40, v_84_43, v_84_45, v_84_48, v_84_50, v_84_51, v_84_52, v_84_55, v_84_56, v_84_59, v_84_60, v_84_61, v_84_62, v_84_65, v_84_66, v_84_69, v_84_70, v_84_71, v_84_72, v_84_75, v_84_76, v_84_79, v_84_80, v_84_81, v_84_82_int, v_84_82_ref, v_84_83, v_84_86, v_84_87, v_84_88, v_84_91, v_84_92, v_84_95, vgi_0, vgi_s, vga_0, vga_s, vset_0, vset_s, vtk_0, vtk_s, vrc_0, vsw_0, vsw_s, List.all_cons, List.all_nil, zc1_i, zc1_r, Bool.and_true, Bool.and_self, true_and, and_true, List.length_cons, List.length_nil, Nat.zero_le, Nat.reduceLeDiff, Nat.reduceAdd, Nat.reduceLT, Option.toList_some, List.cons_append, List.nil_append]
          rw [if_neg (by decide)]
          exact ⟨_, rfl, rfl, hI⟩
    · simp only [v_84_0, v_84_1, v_84_2, v_84_5, v_84_8, v_84_9, v_84_12, v_84_13, v_84_14, v_84_15, v_84_18, v_84_19, v_84_20, v_84_22, v_84_25, v_84_28, v_84_29, v_84_30, v_84_31, v_84_34, v_84_37, v_84_38, v_84_39, v_84_40, v_84_43, v_84_45, v_84_48, v_84_50, v_84_51, v_84_52, v_84_55, v_84_56, v_84_59, v_84_60, v_84_61, v_84_62, v_84_65, v_84_66, v_84_69, v_84_70, v_84_71, v_84_72, v_84_75, v_84_76, v_84_79, v_84_80, v_84_81, v_84_82_int, v_84_82_ref, v_84_83, v_84_86, v_84_87, v_84_88, v_84_91, v_84_92, v_84_95, vgi_0, vgi_s, vga_0, vga_s, vset_0, vset_s, vtk_0, vtk_s, vrc_0, vsw_0, vsw_s, List.all_cons, List.all_nil, zc1_i, zc1_r, Bool.and_true, Bool.and_self, true_and, and_true, List.length_cons, List.length_nil, Nat.zero_le, Nat.reduceLeDiff, Nat.reduceAdd, Nat.reduceLT, Option.toList_some, List.cons_append, List.nil_append]
      rw [if_pos trivial]
      exact ⟨_, rfl, rfl, hI⟩
  have good : ∀ i p c, i < m → 2 ≤ p → p ≤ 8 → c ≤ 1 → fr q i ≤ 3 → fv = nI i → pv = nI p → cv = nI c → twc (d - 1) 134 [.ref 2, .int fv, .int (nI 3)] t (fun r t1 => r = some (.int 1) ∧ t1 = t) := fun i p c hi hp1 hp2 hc hf e1 e2 e3 => c_134 (by omega) h2 (by omega) (by omega) (fun j hj ej hl => ⟨rfl, rfl⟩) (fun hno => absurd hf (hno i hi e1))
  have mod : ∀ i p c (t1 : T), i < m → 2 ≤ p → p ≤ 8 → c ≤ 1 → fr q i ≤ 3 → fv = nI i → pv = nI p → cv = nI c → foI t1 q m → t1.1 483 10 = nI rc → ∀ G : Option Value → T → Prop, (rc = 6 → G (some (.int (-2))) t1) → (rc < 6 → G (some (.int (nI (rc + 1)))) (tsi (tsi (tsi (tsi t1 493 rc (nI i)) 494 rc (nI p)) 495 rc (nI c)) 483 10 (nI (rc + 1)))) → twc d 84 [.ref 483, .int fv, .int pv, .int cv] t1 G := by
    rintro i p c t1 hi hp1 hp2 hc hf rfl rfl rfl hfo h10 G k0 k1
    obtain ⟨f1, f2, f3⟩ := hfo.fr hi
    refine ⟨by omega, ?_⟩
    rw [ze_84]
    refine vc_ok none zH_84 65 false _ 84 0 _ _ _ _ ?_
    simp only [v_84_0, v_84_1, v_84_2, v_84_5, v_84_8, v_84_9, v_84_12, v_84_13, v_84_14, v_84_15, v_84_18, v_84_19, v_84_20, v_84_22, v_84_25, v_84_28, v_84_29, v_84_30, v_84_31, v_84_34, v_84_37, v_84_38, v_84_39, v_84_40, v_84_43, v_84_45, v_84_48, v_84_50, v_84_51, v_84_52, v_84_55, v_84_56, v_84_59, v_84_60, v_84_61, v_84_62, v_84_65, v_84_66, v_84_69, v_84_70, v_84_71, v_84_72, v_84_75, v_84_76, v_84_79, v_84_80, v_84_81, v_84_82_int, v_84_82_ref, v_84_83, v_84_86, v_84_87, v_84_88, v_84_91, v_84_92, v_84_95, vgi_0, vgi_s, vga_0, vga_s, vset_0, vset_s, vtk_0, vtk_s, vrc_0, vsw_0, vsw_s, List.all_cons, List.all_nil, zc1_i, zc1_r, Bool.and_true, Bool.and_self, true_and, and_true, List.length_cons, List.length_nil, Nat.zero_le, Nat.reduceLeDiff, Nat.reduceAdd, Nat.reduceLT, tg_483]
    refine c_55 (by omega) hfo (fun j hj ej => ?_) (fun hno => absurd rfl (hno i hi))
    simp only [v_84_0, v_84_1, v_84_2, v_84_5, v_84_8, v_84_9, v_84_12, v_84_13, v_84_14, v_84_15, v_84_18, v_84_19, v_84_20, v_84_22, v_84_25, v_84_28, v_84_29, v_84_30, v_84_31, v_84_34, v_84_37, v_84_38, v_84_39, v_84_40, v_84_43, v_84_45, v_84_48, v_84_50, v_84_51, v_84_52, v_84_55, v_84_56, v_84_59, v_84_60, v_84_61, v_84_62, v_84_65, v_84_66, v_84_69, v_84_70, v_84_71, v_84_72, v_84_75, v_84_76, v_84_79, v_84_80, v_84_81, v_84_82_int, v_84_82_ref, v_84_83, v_84_86, v_84_87, v_84_88, v_84_91, v_84_92, v_84_95, vgi_0, vgi_s, vga_0, vga_s, vset_0, vset_s, vtk_0, vtk_s, vrc_0, vsw_0, vsw_s, List.all_cons, List.all_nil, zc1_i, zc1_r, Bool.and_true, Bool.and_self, true_and, and_true, List.length_cons, List.length_nil, Nat.zero_le, Nat.reduceLeDiff, Nat.reduceAdd, Nat.reduceLT, Option.toList_some, List.cons_append, List.nil_append, tg_483, tf_483_8, tg_491, ln_491]
    rw [if_neg (by decide)]
    simp (disch := omega) only [nI_clamp, vinb_n, f2, li3, nI_ltI]
    refine ⟨by omega, ?_⟩
    rw [if_neg (by omega)]
    refine c_37 (lo := 2) (hi := 8) (by omega) (by omega) (by omega) (fun p' _ _ _ => ?_) (fun hno => absurd rfl (hno p hp1 hp2))
    simp only [v_84_0, v_84_1, v_84_2, v_84_5, v_84_8, v_84_9, v_84_12, v_84_13, v_84_14, v_84_15, v_84_18, v_84_19, v_84_20, v_84_22, v_84_25, v_84_28, v_84_29, v_84_30, v_84_31, v_84_34, v_84_37, v_84_38, v_84_39, v_84_40, v_84_43, v_84_45, v_84_48, v_84_50, v_84_51, v_84_52, v_84_55, v_84_56, v_84_59, v_84_60, v_84_61, v_84_62, v_84_65, v_84_66, v_84_69, v_84_70, v_84_71, v_84_72, v_84_75, v_84_76, v_84_79, v_84_80, v_84_81, v_84_82_int, v_84_82_ref, v_84_83, v_84_86, v_84_87, v_84_88, v_84_91, v_84_92, v_84_95, vgi_0, vgi_s, vga_0, vga_s, vset_0, vset_s, vtk_0, vtk_s, vrc_0, vsw_0, vsw_s, List.all_cons, List.all_nil, zc1_i, zc1_r, Bool.and_true, Bool.and_self, true_and, and_true, List.length_cons, List.length_nil, Nat.zero_le, Nat.reduceLeDiff, Nat.reduceAdd, Nat.reduceLT, Option.toList_some, List.cons_append, List.nil_append]
    rw [if_pos trivial]
    refine c_37 (lo := 0) (hi := 1) (by omega) (by omega) (by omega) (fun c' _ _ _ => ?_) (fun hno => absurd rfl (hno c (by omega) hc))
    simp only [v_84_0, v_84_1, v_84_2, v_84_5, v_84_8, v_84_9, v_84_12, v_84_13, v_84_14, v_84_15, v_84_18, v_84_19, v_84_20, v_84_22, v_84_25, v_84_28, v_84_29, v_84_30, v_84_31, v_84_34, v_84_37, v_84_38, v_84_39, v_84_40, v_84_43, v_84_45, v_84_48, v_84_50, v_84_51, v_84_52, v_84_55, v_84_56, v_84_59, v_84_60, v_84_61, v_84_62, v_84_65, v_84_66, v_84_69, v_84_70, v_84_71, v_84_72, v_84_75, v_84_76, v_84_79, v_84_80, v_84_81, v_84_82_int, v_84_82_ref, v_84_83, v_84_86, v_84_87, v_84_88, v_84_91, v_84_92, v_84_95, vgi_0, vgi_s, vga_0, vga_s, vset_0, vset_s, vtk_0, vtk_s, vrc_0, vsw_0, vsw_s, List.all_cons, List.all_nil, zc1_i, zc1_r, Bool.and_true, Bool.and_self, true_and, and_true, List.length_cons, List.length_nil, Nat.zero_le, Nat.reduceLeDiff, Nat.reduceAdd, Nat.reduceLT, Option.toList_some, List.cons_append, List.nil_append, tg_483, h10, tf_483_11, tg_493, ln_493, tf_483_12, tg_494, ln_494, tf_483_13, tg_495, ln_495]
    rw [if_pos trivial]
    simp (disch := omega) only [li6, nI_eq]
    by_cases r6 : rc = 6
    · rw [if_pos r6]
      exact k0 r6
    · rw [if_neg r6]
      have e1 : (tsi t1 493 rc (nI i)).1 483 10 = nI rc := by rw [tsi_ne (by omega)]; exact h10
      have e2 : (tsi (tsi t1 493 rc (nI i)) 494 rc (nI p)).1 483 10 = nI rc := by rw [tsi_ne (by omega)]; exact e1
      have e3 : (tsi (tsi (tsi t1 493 rc (nI i)) 494 rc (nI p)) 495 rc (nI c)).1 483 10 = nI rc := by rw [tsi_ne (by omega)]; exact e2
      simp (disch := omega) only [nI_clamp, vinb_n, e1, e2, e3, tsi_eq, nI_1]
      exact ⟨by omega, by omega, by omega, k1 (by omega)⟩
  have main : (∃ p, 2 ≤ p ∧ p ≤ 8 ∧ pv = nI p) → (cv = 0 ∨ cv = 1) → twc (d - 1) 134 [.ref 2, .int fv, .int (nI 3)] t (fun r t1 => (r = some (.int 0) ∧ twc d 84 [.ref 483, .int fv, .int pv, .int cv] t1 (fun r' t2 => ∃ v, some (Value.int (-1)) = some (Value.int v) ∧ r' = some (Value.int v) ∧ INV t2)) ∨ (r = some (.int 1) ∧ t1 = t ∧ ∃ i p c, i < m ∧ 2 ≤ p ∧ p ≤ 8 ∧ c ≤ 1 ∧ fr q i ≤ 3 ∧ fv = nI i ∧ pv = nI p ∧ cv = nI c)) := by
    rintro ⟨p, hp1, hp2, ep⟩ hcv
    refine c_134 (by omega) h2 (by omega) (by omega) (fun i hi ei hl => Or.inr ⟨rfl, rfl, ?_⟩) (fun hno => Or.inl ⟨rfl, bad (fun i p c hi _ _ _ ei hl _ => absurd hl (hno i hi ei))⟩)
    rcases hcv with rfl | rfl
    · exact ⟨i, p, 0, hi, hp1, hp2, by omega, hl, ei, ep, rfl⟩
    · exact ⟨i, p, 1, hi, hp1, hp2, by omega, hl, ei, ep, rfl⟩
  have told : (∃ p, 2 ≤ p ∧ p ≤ 8 ∧ pv = nI p) ∨ pv < 2 ∨ 8 < pv := by
    rcases in_cases pv (show 9 < 2 ^ 31 by omega) with ⟨p, hp, rfl⟩ | ⟨ho, -⟩
    · by_cases z : p < 2
      · exact Or.inr (Or.inl (by rw [li2, nI_ltI (by omega) (by omega)]; exact z))
      · exact Or.inl ⟨p, by omega, by omega, rfl⟩
    · rcases ho with ho | ho
      · exact Or.inr (Or.inl (Int32.lt_trans ho (by decide)))
      · exact Or.inr (Or.inr (Int32.lt_of_lt_of_le (by decide) ho))
  refine ⟨by omega, ?_⟩
  rw [ze_11]
  refine vc_ok none zH_11 49 false _ 11 0 _ _ _ _ ?_
  simp only [v_11_0, v_11_1, v_11_2, v_11_5, v_11_6, v_11_8, v_11_11, v_11_12, v_11_15, v_11_16, v_11_17, v_11_20, v_11_21, v_11_24, v_11_25, v_11_27, v_11_29, v_11_32, v_11_33, v_11_36, v_11_37, v_11_38, v_11_41, v_11_44, v_11_45, v_11_46, v_11_47, v_11_50, v_11_53, v_11_55, v_11_58, v_11_60, v_11_63, v_11_64, v_11_67, v_11_68, v_11_69, v_11_70, v_11_73, vgi_0, vgi_s, vga_0, vga_s, vset_0, vset_s, vtk_0, vtk_s, vrc_0, vsw_0, vsw_s, List.all_cons, List.all_nil, zc1_i, zc1_r, Bool.and_true, Bool.and_self, true_and, and_true, List.length_cons, List.length_nil, Nat.zero_le, Nat.reduceLeDiff, Nat.reduceAdd, Nat.reduceLT, tg_0, tf_0_1, tg_2]
  have nb : ¬ (∃ p, 2 ≤ p ∧ p ≤ 8 ∧ pv = nI p) ∨ ¬ (cv = 0 ∨ cv = 1) → twc d 84 [.ref 483, .int fv, .int pv, .int cv] t (fun r' t2 => ∃ v, some (Value.int (-1)) = some (Value.int v) ∧ r' = some (Value.int v) ∧ INV t2) := fun z => bad (fun i p c hi hp1 hp2 hc ei hl ep ec => by
    rcases z with z | z
    · exact z ⟨p, hp1, hp2, ep⟩
    · have : c = 0 ∨ c = 1 := by omega
      rcases this with rfl | rfl
      · exact z (Or.inl ec)
      · exact z (Or.inr ec))
  have last : ∀ i p c, i < m → 2 ≤ p → p ≤ 8 → c ≤ 1 → fr q i ≤ 3 → fv = nI i → pv = nI p → cv = nI c → (rc = 6 → twc d 84 [.ref 483, .int fv, .int pv, .int cv] t (fun r' t2 => ∃ v, some (Value.int (-2)) = some (Value.int v) ∧ r' = some (Value.int v) ∧ INV t2)) ∧ (rc ≠ 6 → twc (d - 1) 155 [.ref 49, .int fv, .int pv, .int cv] t (fun r t1 => r = some (.int (nI (rc + 1))) ∧ twc d 84 [.ref 483, .int fv, .int pv, .int cv] t1 (fun r' t2 => ∃ v, some (Value.int (nI (rc + 1))) = some (Value.int v) ∧ r' = some (Value.int v) ∧ INV t2))) := by
    rintro i p c hi hp1 hp2 hc hl rfl rfl rfl
    constructor
    · intro r6
      exact mod i p c t hi hp1 hp2 hc hl rfl rfl rfl h2 h4810 _ (fun _ => ⟨_, rfl, rfl, hI⟩) (fun h => absurd h (by omega))
    · intro r6
      have rlt : rc < 6 := by omega
      refine c_155 (by omega) rlt h49 ⟨rfl, ?_⟩
      have i1 : ∀ b k, b ≠ 51 + rc → ¬ (b = 49 ∧ k = 3) → (tsi (tsi (tsi (tsi t (51 + rc) 0 (nI i)) (51 + rc) 1 (nI p)) (51 + rc) 2 (nI c)) 49 3 (nI (rc + 1))).1 b k = t.1 b k := fun b k a1 a2 => by
        rw [tsi_ne (by omega), tsi_ne (by omega), tsi_ne (by omega), tsi_ne (by omega)]
      have f1 : foI (tsi (tsi (tsi (tsi t (51 + rc) 0 (nI i)) (51 + rc) 1 (nI p)) (51 + rc) 2 (nI c)) 49 3 (nI (rc + 1))) q m := h2.k (fun b k a => i1 b k (by omega) (by omega)) (i1 _ _ (by omega) (by omega))
      refine mod i p c _ hi hp1 hp2 hc hl rfl rfl rfl f1 (by rw [i1 _ _ (by omega) (by omega)]; exact h4810) _ (fun h => absurd h r6) (fun _ => ⟨_, rfl, rfl, ?_⟩)
      have i2 : ∀ b k, b ≠ 51 + rc → ¬ (b = 49 ∧ k = 3) → ¬ (493 ≤ b ∧ b ≤ 495 ∧ k = rc) → ¬ (b = 483 ∧ k = 10) → (tsi (tsi (tsi (tsi (tsi (tsi (tsi (tsi t (51 + rc) 0 (nI i)) (51 + rc) 1 (nI p)) (51 + rc) 2 (nI c)) 49 3 (nI (rc + 1))) 493 rc (nI i)) 494 rc (nI p)) 495 rc (nI c)) 483 10 (nI (rc + 1))).1 b k = t.1 b k := fun b k a1 a2 a3 a4 => by
        rw [tsi_ne (by omega), tsi_ne (by omega), tsi_ne (by omega), tsi_ne (by omega)]; exact i1 b k a1 a2
      refine hI.upd (q' := q) (m' := m) (ru' := ruad ru rc i p c) (rc' := rc + 1) (ec' := ec) (Es' := Es) (fun b k a1 a2 a3 => i2 b k (by omega) (by omega) (by omega) (by omega)) rfl (h2.k (fun b k a => i2 b k (by omega) (by omega) (by omega) (by omega)) (i2 _ _ (by omega) (by omega) (by omega) (by omega))) ⟨⟨by omega, fun r hr => ?_⟩, ⟨?_, fun r hr => ?_⟩, ⟨?_, fun r hr => ?_⟩⟩ (h4.k (fun b k a => i2 b k (by omega) (by omega) (by omega) (by omega)) (i2 _ _ (by omega) (by omega) (by omega) (by omega)) (i2 _ _ (by omega) (by omega) (by omega) (by omega)))
      · by_cases z : r = rc
        · subst z; rw [ruad_0, ruad_1, ruad_2]; exact ⟨hi, hl, hp1, hp2, by omega⟩
        · rw [ruad_o z, ruad_o z, ruad_o z]; exact h3.1.2 r (by omega)
      · rw [tsi_ne (by omega), tsi_ne (by omega), tsi_ne (by omega), tsi_ne (by omega), tsi_eq]
      · by_cases z : r = rc
        · subst z
          rw [ruad_0, ruad_1, ruad_2]
          refine ⟨?_, ?_, ?_⟩
          · rw [tsi_ne (by omega), tsi_ne (by omega), tsi_ne (by omega), tsi_ne (by omega), tsi_ne (by omega), tsi_ne (by omega), tsi_ne (by omega), tsi_eq]
          · rw [tsi_ne (by omega), tsi_ne (by omega), tsi_ne (by omega), tsi_ne (by omega), tsi_ne (by omega), tsi_ne (by omega), tsi_eq]
          · rw [tsi_ne (by omega), tsi_ne (by omega), tsi_ne (by omega), tsi_ne (by omega), tsi_ne (by omega), tsi_eq]
        · rw [ruad_o z, ruad_o z, ruad_o z, i2 _ _ (by omega) (by omega) (by omega) (by omega), i2 _ _ (by omega) (by omega) (by omega) (by omega), i2 _ _ (by omega) (by omega) (by omega) (by omega)]
          exact h3.2.1.2 r (by omega)
      · rw [tsi_eq]
      · by_cases z : r = rc
        · subst z
          rw [ruad_0, ruad_1, ruad_2]
          refine ⟨?_, ?_, ?_⟩
          · rw [tsi_ne (by omega), tsi_ne (by omega), tsi_ne (by omega), tsi_eq]
          · rw [tsi_ne (by omega), tsi_ne (by omega), tsi_eq]
          · rw [tsi_ne (by omega), tsi_eq]
        · rw [ruad_o z, ruad_o z, ruad_o z, i2 _ _ (by omega) (by omega) (by omega) (by omega), i2 _ _ (by omega) (by omega) (by omega) (by omega), i2 _ _ (by omega) (by omega) (by omega) (by omega)]
          exact h3.2.2.2 r (by omega)
  rcases told with hp | hp | hp
  · have g1 : ¬ pv < 2 ∧ ¬ 8 < pv := by
      obtain ⟨p, hp1, hp2, rfl⟩ := hp
      rw [li2, li8, nI_ltI (by omega) (by omega), nI_ltI (by omega) (by omega)]
      omega
    rw [if_neg g1.1, if_neg g1.2]
    by_cases c0 : cv = 0
    · rw [if_pos c0, if_neg (by decide)]
      refine twc.mono (main hp (Or.inl c0)) (fun r t1 hr => ?_)
      rcases hr with ⟨rfl, hk⟩ | ⟨rfl, rfl, i, p, c, hi, hp1, hp2, hc, hl, e1, e2, e3⟩
      · simp only [v_11_0, v_11_1, v_11_2, v_11_5, v_11_6, v_11_8, v_11_11, v_11_12, v_11_15, v_11_16, v_11_17, v_11_20, v_11_21, v_11_24, v_11_25, v_11_27, v_11_29, v_11_32, v_11_33, v_11_36, v_11_37, v_11_38, v_11_41, v_11_44, v_11_45, v_11_46, v_11_47, v_11_50, v_11_53, v_11_55, v_11_58, v_11_60, v_11_63, v_11_64, v_11_67, v_11_68, v_11_69, v_11_70, v_11_73, vgi_0, vgi_s, vga_0, vga_s, vset_0, vset_s, vtk_0, vtk_s, vrc_0, vsw_0, vsw_s, List.all_cons, List.all_nil, zc1_i, zc1_r, Bool.and_true, Bool.and_self, true_and, and_true, List.length_cons, List.length_nil, Nat.zero_le, Nat.reduceLeDiff, Nat.reduceAdd, Nat.reduceLT, Option.toList_some, List.cons_append, List.nil_append]
        rw [if_pos trivial]
        exact hk
      · simp only [v_11_0, v_11_1, v_11_2, v_11_5, v_11_6, v_11_8, v_11_11, v_11_12, v_11_15, v_11_16, v_11_17, v_11_20, v_11_21, v_11_24, v_11_25, v_11_27, v_11_29, v_11_32, v_11_33, v_11_36, v_11_37, v_11_38, v_11_41, v_11_44, v_11_45, v_11_46, v_11_47, v_11_50, v_11_53, v_11_55, v_11_58, v_11_60, v_11_63, v_11_64, v_11_67, v_11_68, v_11_69, v_11_70, v_11_73, vgi_0, vgi_s, vga_0, vga_s, vset_0, vset_s, vtk_0, vtk_s, vrc_0, vsw_0, vsw_s, List.all_cons, List.all_nil, zc1_i, zc1_r, Bool.and_true, Bool.and_self, true_and, and_true, List.length_cons, List.length_nil, Nat.zero_le, Nat.reduceLeDiff, Nat.reduceAdd, Nat.reduceLT, Option.toList_some, List.cons_append, List.nil_append, tg_0, tf_0_3, tg_49, h49]
        rw [if_neg (by decide)]
        have la := last i p c hi hp1 hp2 hc hl e1 e2 e3
        simp (disch := omega) only [li6, nI_eq]
        by_cases r6 : rc = 6
        · rw [if_pos r6]
          exact la.1 r6
        · rw [if_neg r6]
          refine twc.mono (la.2 r6) (fun r t1 hr => ?_)
          obtain ⟨rfl, hr⟩ := hr
          simp only [v_11_0, v_11_1, v_11_2, v_11_5, v_11_6, v_11_8, v_11_11, v_11_12, v_11_15, v_11_16, v_11_17, v_11_20, v_11_21, v_11_24, v_11_25, v_11_27, v_11_29, v_11_32, v_11_33, v_11_36, v_11_37, v_11_38, v_11_41, v_11_44, v_11_45, v_11_46, v_11_47, v_11_50, v_11_53, v_11_55, v_11_58, v_11_60, v_11_63, v_11_64, v_11_67, v_11_68, v_11_69, v_11_70, v_11_73, vgi_0, vgi_s, vga_0, vga_s, vset_0, vset_s, vtk_0, vtk_s, vrc_0, vsw_0, vsw_s, List.all_cons, List.all_nil, zc1_i, zc1_r, Bool.and_true, Bool.and_self, true_and, and_true, List.length_cons, List.length_nil, Nat.zero_le, Nat.reduceLeDiff, Nat.reduceAdd, Nat.reduceLT, Option.toList_some, List.cons_append, List.nil_append]
          exact hr
    · rw [if_neg c0]
      by_cases c1 : cv = 1
      · rw [if_pos c1, if_neg (by decide)]
        refine twc.mono (main hp (Or.inr c1)) (fun r t1 hr => ?_)
        rcases hr with ⟨rfl, hk⟩ | ⟨rfl, rfl, i, p, c, hi, hp1, hp2, hc, hl, e1, e2, e3⟩
        · simp only [v_11_0, v_11_1, v_11_2, v_11_5, v_11_6, v_11_8, v_11_11, v_11_12, v_11_15, v_11_16, v_11_17, v_11_20, v_11_21, v_11_24, v_11_25, v_11_27, v_11_29, v_11_32, v_11_33, v_11_36, v_11_37, v_11_38, v_11_41, v_11_44, v_11_45, v_11_46, v_11_47, v_11_50, v_11_53, v_11_55, v_11_58, v_11_60, v_11_63, v_11_64, v_11_67, v_11_68, v_11_69, v_11_70, v_11_73, vgi_0, vgi_s, vga_0, vga_s, vset_0, vset_s, vtk_0, vtk_s, vrc_0, vsw_0, vsw_s, List.all_cons, List.all_nil, zc1_i, zc1_r, Bool.and_true, Bool.and_self, true_and, and_true, List.length_cons, List.length_nil, Nat.zero_le, Nat.reduceLeDiff, Nat.reduceAdd, Nat.reduceLT, Option.toList_some, List.cons_append, List.nil_append]
          rw [if_pos trivial]
          exact hk
        · simp only [v_11_0, v_11_1, v_11_2, v_11_5, v_11_6, v_11_8, v_11_11, v_11_12, v_11_15, v_11_16, v_11_17, v_11_20, v_11_21, v_11_24, v_11_25, v_11_27, v_11_29, v_11_32, v_11_33, v_11_36, v_11_37, v_11_38, v_11_41, v_11_44, v_11_45, v_11_46, v_11_47, v_11_50, v_11_53, v_11_55, v_11_58, v_11_60, v_11_63, v_11_64, v_11_67, v_11_68, v_11_69, v_11_70, v_11_73, vgi_0, vgi_s, vga_0, vga_s, vset_0, vset_s, vtk_0, vtk_s, vrc_0, vsw_0, vsw_s, List.all_cons, List.all_nil, zc1_i, zc1_r, Bool.and_true, Bool.and_self, true_and, and_true, List.length_cons, List.length_nil, Nat.zero_le, Nat.reduceLeDiff, Nat.reduceAdd, Nat.reduceLT, Option.toList_some, List.cons_append, List.nil_append, tg_0, tf_0_3, tg_49, h49]
          rw [if_neg (by decide)]
          have la := last i p c hi hp1 hp2 hc hl e1 e2 e3
          simp (disch := omega) only [li6, nI_eq]
          by_cases r6 : rc = 6
          · rw [if_pos r6]
            exact la.1 r6
          · rw [if_neg r6]
            refine twc.mono (la.2 r6) (fun r t1 hr => ?_)
            obtain ⟨rfl, hr⟩ := hr
            simp only [v_11_0, v_11_1, v_11_2, v_11_5, v_11_6, v_11_8, v_11_11, v_11_12, v_11_15, v_11_16, v_11_17, v_11_20, v_11_21, v_11_24, v_11_25, v_11_27, v_11_29, v_11_32, v_11_33, v_11_36, v_11_37, v_11_38, v_11_41, v_11_44, v_11_45, v_11_46, v_11_47, v_11_50, v_11_53, v_11_55, v_11_58, v_11_60, v_11_63, v_11_64, v_11_67, v_11_68, v_11_69, v_11_70, v_11_73, vgi_0, vgi_s, vga_0, vga_s, vset_0, vset_s, vtk_0, vtk_s, vrc_0, vsw_0, vsw_s, List.all_cons, List.all_nil, zc1_i, zc1_r, Bool.and_true, Bool.and_self, true_and, and_true, List.length_cons, List.length_nil, Nat.zero_le, Nat.reduceLeDiff, Nat.reduceAdd, Nat.reduceLT, Option.toList_some, List.cons_append, List.nil_append]
            exact hr
      · rw [if_neg c1, if_pos trivial]
        exact nb (Or.inr (fun z => z.elim c0 c1))
  · rw [if_pos hp, if_pos trivial]
    refine nb (Or.inl (fun ⟨p, hp1, hp2, e⟩ => ?_))
    rw [e, li2, nI_ltI (by omega) (by omega)] at hp
    omega
  · by_cases g : pv < 2
    · rw [if_pos g, if_pos trivial]
      refine nb (Or.inl (fun ⟨p, hp1, hp2, e⟩ => ?_))
      rw [e, li2, nI_ltI (by omega) (by omega)] at g
      omega
    · rw [if_neg g, if_pos hp, if_pos trivial]
      refine nb (Or.inl (fun ⟨p, hp1, hp2, e⟩ => ?_))
      rw [e, li8, nI_ltI (by omega) (by omega)] at hp
      omega
end OP7
