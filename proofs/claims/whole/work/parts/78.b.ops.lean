/-! summary, universe, blur, coerce. -/
section OP4
variable {t t' : T}
theorem INV.bw (h : INV t) : bwf t (t.2 58 3) ∧ ((t.2 58 3 = 61 ∧ bN (t.2 58 3) = 40 ∧ t.2 58 3 ∈ bags) ∨ (t.2 58 3 = 161 ∧ bN (t.2 58 3) = 40 ∧ t.2 58 3 ∈ bags)) := by
  obtain ⟨q, m, ru, rc, ec, Es, h1, h2, h3, h4, h5, h6, -⟩ := h
  rcases h6 with ⟨-, e⟩ | ⟨-, e⟩
  · rw [e]; exact ⟨h5 _ bag_w.1, Or.inl ⟨rfl, bag_w.2.2.1, bag_w.1⟩⟩
  · rw [e]; exact ⟨h5 _ bag_w.2.1, Or.inr ⟨rfl, bag_w.2.2.2, bag_w.2.1⟩⟩
theorem INV.csO {s : Nat} {A : List Nat} (h : INV t) (hs : s < 4) (hO : tO A t t') (hA : ∀ b, b ∈ A → scC t b ∨ b = 243 + 2 * s ∨ b = 243 + 2 * s + 1) : INVx t' s := by
  have o1 : tF (fun b => b ∈ A ∧ b ≠ 243 + 2 * s ∧ b ≠ 243 + 2 * s + 1) t (fun b k => if b = 243 + 2 * s ∨ b = 243 + 2 * s + 1 then t.1 b k else t'.1 b k, t'.2) := fun b hb => ⟨fun k => by
    show (if b = 243 + 2 * s ∨ b = 243 + 2 * s + 1 then t.1 b k else t'.1 b k) = t.1 b k
    by_cases z : b = 243 + 2 * s ∨ b = 243 + 2 * s + 1
    · rw [if_pos z]
    · rw [if_neg z]; exact hO.2 b (fun y => hb ⟨y, by omega, by omega⟩) k, fun k => by show t'.2 b k = t.2 b k; rw [hO.1]⟩
  have o2 : tO [243 + 2 * s, 243 + 2 * s + 1] (fun b k => if b = 243 + 2 * s ∨ b = 243 + 2 * s + 1 then t.1 b k else t'.1 b k, t'.2) t' := ⟨rfl, fun b hb k => by
    simp at hb
    show t'.1 b k = if b = 243 + 2 * s ∨ b = 243 + 2 * s + 1 then t.1 b k else t'.1 b k
    rw [if_neg (by omega)]⟩
  refine INVx.cs (INVx.c h o1 (fun b hb => ?_) ?_) hs (Or.inl rfl) o2
  · rcases hA b hb.1 with z | z
    · exact z
    · omega
  · exact (h.bw.1.q (t' := (fun b k => if b = 243 + 2 * s ∨ b = 243 + 2 * s + 1 then t.1 b k else t'.1 b k, t'.2)) hO.1).1
theorem mk_su_wf {f : St} {n u : Nat} {v : Int32} (hf : wfS f) (hn : f 0 = nI n) (hn6 : n ≤ 6) (hu : u < n) (hv : v = 0 ∨ v = 1) : wfS (su f (3 + 5 * u) v) := by
  obtain ⟨⟨n', hn', e0, z1, z2, z3⟩, h2, h3, h4⟩ := hf
  have en : n' = n := nI_inj (by omega) (by omega) (e0.symm.trans hn)
  subst en
  have ne : ∀ k, k ≠ 3 + 5 * u → su f (3 + 5 * u) v k = f k := fun k hk => by unfold su; rw [if_neg hk]
  refine ⟨⟨n', hn', by rw [ne 0 (by omega)]; exact e0, fun x hx hx6 => ?_, fun p' x h1 h2 hx hx6 => ?_, fun p' x y h1 h2 hx hy hxy => ?_⟩, fun k k0 k1 => ?_, fun x hx => ?_, fun k hk => ?_⟩
  · rw [ne _ (by omega)]; exact z1 x hx hx6
  · rw [ne _ (by rw [cel1 h1 h2]; omega)]; exact z2 p' x h1 h2 hx hx6
  · rw [ne _ (by rw [cel2 h1]; omega)]; exact z3 p' x y h1 h2 hx hy hxy
  · by_cases e : k = 3 + 5 * u
    · unfold su; rw [if_pos e]
      rcases hv with rfl | rfl
      · exact ⟨0, by omega, rfl⟩
      · exact ⟨1, by omega, rfl⟩
    · rw [ne k e]; exact h2 k k0 k1
  · by_cases e : 3 + 5 * x = 3 + 5 * u
    · unfold su; rw [if_pos e]; exact hv
    · rw [ne _ e]; exact h3 x hx
  · rw [ne _ (by omega)]; exact h4 k hk
theorem op_summary (sv uv on : Int32) : OP 2 50 [.int sv, .int uv, .int on] := by
  intro d t hd hI
  have bad : (∀ s u, s < 4 → u < sn (mS t s) → sv = nI s → uv ≠ nI u) → twc d 50 [.ref 483, .int sv, .int uv, .int on] t (fun r' t2 => ∃ v, some (Value.int 0) = some (Value.int v) ∧ r' = some (Value.int v) ∧ INV t2) := by
    intro hno
    refine ⟨by omega, ?_⟩
    rw [ze_50]
    refine vc_ok none zH_50 35 false _ 50 0 _ _ _ _ ?_
    simp only [v_50_0, v_50_1, v_50_4, v_50_7, v_50_8, v_50_9, v_50_10, v_50_13, v_50_16, v_50_17, v_50_18, v_50_19, v_50_20, v_50_21, v_50_22, v_50_23, v_50_24, v_50_25, v_50_26, v_50_29, v_50_30, v_50_33, v_50_34, v_50_37, v_50_38, vgi_0, vgi_s, vga_0, vga_s, vset_0, vset_s, vtk_0, vtk_s, vrc_0, vsw_0, vsw_s, List.all_cons, List.all_nil, zc1_i, zc1_r, Bool.and_true, Bool.and_self, true_and, and_true, List.length_cons, List.length_nil, Nat.zero_le, Nat.reduceLeDiff, Nat.reduceAdd, Nat.reduceLT]
    refine c_47 (by omega) (fun s hs es => ?_) (fun _ => ?_)
    · subst es
      obtain ⟨-, -, h3, h4⟩ := hI.sl hs
      simp only [v_50_0, v_50_1, v_50_4, v_50_7, v_50_8, v_50_9, v_50_10, v_50_13, v_50_16, v_50_17, v_50_18, v_50_19, v_50_20, v_50_21, v_50_22, v_50_23, v_50_24, v_50_25, v_50_26, v_50_29, v_50_30, v_50_33, v_50_34, v_50_37, v_50_38, vgi_0, vgi_s, vga_0, vga_s, vset_0, vset_s, vtk_0, vtk_s, vrc_0, vsw_0, vsw_s, List.all_cons, List.all_nil, zc1_i, zc1_r, Bool.and_true, Bool.and_self, true_and, and_true, List.length_cons, List.length_nil, Nat.zero_le, Nat.reduceLeDiff, Nat.reduceAdd, Nat.reduceLT, Option.toList_some, List.cons_append, List.nil_append, tg_483]
      rw [if_neg (by decide)]
      refine c_48 (by omega) (by omega) h3 (by omega) (fun u hu eu => absurd eu (hno s u hs hu rfl)) (fun _ => ?_)
      simp only [v_50_0, v_50_1, v_50_4, v_50_7, v_50_8, v_50_9, v_50_10, v_50_13, v_50_16, v_50_17, v_50_18, v_50_19, v_50_20, v_50_21, v_50_22, v_50_23, v_50_24, v_50_25, v_50_26, v_50_29, v_50_30, v_50_33, v_50_34, v_50_37, v_50_38, vgi_0, vgi_s, vga_0, vga_s, vset_0, vset_s, vtk_0, vtk_s, vrc_0, vsw_0, vsw_s, List.all_cons, List.all_nil, zc1_i, zc1_r, Bool.and_true, Bool.and_self, true_and, and_true, List.length_cons, List.length_nil, Nat.zero_le, Nat.reduceLeDiff, Nat.reduceAdd, Nat.reduceLT, Option.toList_some, List.cons_append, List.nil_append]
      rw [if_pos trivial]
      exact ⟨Or.inl trivial, _, rfl, rfl, hI⟩
    · simp only [v_50_0, v_50_1, v_50_4, v_50_7, v_50_8, v_50_9, v_50_10, v_50_13, v_50_16, v_50_17, v_50_18, v_50_19, v_50_20, v_50_21, v_50_22, v_50_23, v_50_24, v_50_25, v_50_26, v_50_29, v_50_30, v_50_33, v_50_34, v_50_37, v_50_38, vgi_0, vgi_s, vga_0, vga_s, vset_0, vset_s, vtk_0, vtk_s, vrc_0, vsw_0, vsw_s, List.all_cons, List.all_nil, zc1_i, zc1_r, Bool.and_true, Bool.and_self, true_and, and_true, List.length_cons, List.length_nil, Nat.zero_le, Nat.reduceLeDiff, Nat.reduceAdd, Nat.reduceLT, Option.toList_some, List.cons_append, List.nil_append]
      rw [if_pos trivial]
      exact ⟨Or.inl trivial, _, rfl, rfl, hI⟩
  refine ⟨by omega, ?_⟩
  rw [ze_2]
  refine vc_ok none zH_2 33 false _ 2 0 _ _ _ _ ?_
  simp only [v_2_0, v_2_1, v_2_2, v_2_5, v_2_8, v_2_9, v_2_10, v_2_13, v_2_14, v_2_15, v_2_18, v_2_21, v_2_24, v_2_25, v_2_26, v_2_27, v_2_30, v_2_31, v_2_32, v_2_33, v_2_34, v_2_37, v_2_38, vgi_0, vgi_s, vga_0, vga_s, vset_0, vset_s, vtk_0, vtk_s, vrc_0, vsw_0, vsw_s, List.all_cons, List.all_nil, zc1_i, zc1_r, Bool.and_true, Bool.and_self, true_and, and_true, List.length_cons, List.length_nil, Nat.zero_le, Nat.reduceLeDiff, Nat.reduceAdd, Nat.reduceLT]
  refine c_22 (L := 4) (by omega) (by omega) (fun s hs es => ?_) (fun hno => ?_)
  · subst es
    obtain ⟨h1, h2, h3, h4⟩ := hI.sl hs
    have st := sl_dec s hs
    have h30 : t.1 (243 + 2 * s) 0 = nI (sn (mS t s)) := by rw [← cS_i, h1]; exact h3
    simp only [v_2_0, v_2_1, v_2_2, v_2_5, v_2_8, v_2_9, v_2_10, v_2_13, v_2_14, v_2_15, v_2_18, v_2_21, v_2_24, v_2_25, v_2_26, v_2_27, v_2_30, v_2_31, v_2_32, v_2_33, v_2_34, v_2_37, v_2_38, vgi_0, vgi_s, vga_0, vga_s, vset_0, vset_s, vtk_0, vtk_s, vrc_0, vsw_0, vsw_s, List.all_cons, List.all_nil, zc1_i, zc1_r, Bool.and_true, Bool.and_self, true_and, and_true, List.length_cons, List.length_nil, Nat.zero_le, Nat.reduceLeDiff, Nat.reduceAdd, Nat.reduceLT, Option.toList_some, List.cons_append, List.nil_append, tg_0, tf_0_0, tg_1, ln_1]
    rw [if_neg (by decide)]
    simp (disch := omega) only [nI_clamp, vinb_n, tf_1, st, h30]
    refine ⟨hs, trivial, ?_⟩
    refine c_22 (by omega) (by omega) (fun u hu eu => ?_) (fun hno => ?_)
    · subst eu
      simp only [v_2_0, v_2_1, v_2_2, v_2_5, v_2_8, v_2_9, v_2_10, v_2_13, v_2_14, v_2_15, v_2_18, v_2_21, v_2_24, v_2_25, v_2_26, v_2_27, v_2_30, v_2_31, v_2_32, v_2_33, v_2_34, v_2_37, v_2_38, vgi_0, vgi_s, vga_0, vga_s, vset_0, vset_s, vtk_0, vtk_s, vrc_0, vsw_0, vsw_s, List.all_cons, List.all_nil, zc1_i, zc1_r, Bool.and_true, Bool.and_self, true_and, and_true, List.length_cons, List.length_nil, Nat.zero_le, Nat.reduceLeDiff, Nat.reduceAdd, Nat.reduceLT, Option.toList_some, List.cons_append, List.nil_append, tg_0, tf_0_0, tg_1, ln_1]
      rw [if_neg (by decide)]
      simp (disch := omega) only [nI_clamp, vinb_n, tf_1, st]
      refine ⟨hs, trivial, ?_⟩
      refine c_166s (by omega) st (by omega) (fun t1 o1 e1 => ?_)
      have I1 : INVx t1 s := INVx.cs hI hs (Or.inl rfl) o1
      have m1 : ∀ r, mS t1 r = mS t r := fun r => o1.ms (by simp; omega) r
      simp only [v_2_0, v_2_1, v_2_2, v_2_5, v_2_8, v_2_9, v_2_10, v_2_13, v_2_14, v_2_15, v_2_18, v_2_21, v_2_24, v_2_25, v_2_26, v_2_27, v_2_30, v_2_31, v_2_32, v_2_33, v_2_34, v_2_37, v_2_38, vgi_0, vgi_s, vga_0, vga_s, vset_0, vset_s, vtk_0, vtk_s, vrc_0, vsw_0, vsw_s, List.all_cons, List.all_nil, zc1_i, zc1_r, Bool.and_true, Bool.and_self, true_and, and_true, List.length_cons, List.length_nil, Nat.zero_le, Nat.reduceLeDiff, Nat.reduceAdd, Nat.reduceLT, Option.toList_none, List.nil_append]
      refine ⟨Or.inr trivial, by omega, ?_⟩
      rw [ze_50]
      refine vc_ok none zH_50 35 false _ 50 0 _ _ _ _ ?_
      simp only [v_50_0, v_50_1, v_50_4, v_50_7, v_50_8, v_50_9, v_50_10, v_50_13, v_50_16, v_50_17, v_50_18, v_50_19, v_50_20, v_50_21, v_50_22, v_50_23, v_50_24, v_50_25, v_50_26, v_50_29, v_50_30, v_50_33, v_50_34, v_50_37, v_50_38, vgi_0, vgi_s, vga_0, vga_s, vset_0, vset_s, vtk_0, vtk_s, vrc_0, vsw_0, vsw_s, List.all_cons, List.all_nil, zc1_i, zc1_r, Bool.and_true, Bool.and_self, true_and, and_true, List.length_cons, List.length_nil, Nat.zero_le, Nat.reduceLeDiff, Nat.reduceAdd, Nat.reduceLT]
      refine c_47 (by omega) (fun s' hs' es' => ?_) (fun hno => absurd rfl (hno s hs))
      simp only [v_50_0, v_50_1, v_50_4, v_50_7, v_50_8, v_50_9, v_50_10, v_50_13, v_50_16, v_50_17, v_50_18, v_50_19, v_50_20, v_50_21, v_50_22, v_50_23, v_50_24, v_50_25, v_50_26, v_50_29, v_50_30, v_50_33, v_50_34, v_50_37, v_50_38, vgi_0, vgi_s, vga_0, vga_s, vset_0, vset_s, vtk_0, vtk_s, vrc_0, vsw_0, vsw_s, List.all_cons, List.all_nil, zc1_i, zc1_r, Bool.and_true, Bool.and_self, true_and, and_true, List.length_cons, List.length_nil, Nat.zero_le, Nat.reduceLeDiff, Nat.reduceAdd, Nat.reduceLT, Option.toList_some, List.cons_append, List.nil_append, tg_483]
      rw [if_neg (by decide)]
      refine c_48 (n := sn (mS t s)) (by omega) (by omega) (by rw [m1]; exact h3) (by omega) (fun u' hu' eu' => ?_) (fun hno => absurd rfl (hno u hu))
      simp only [v_50_0, v_50_1, v_50_4, v_50_7, v_50_8, v_50_9, v_50_10, v_50_13, v_50_16, v_50_17, v_50_18, v_50_19, v_50_20, v_50_21, v_50_22, v_50_23, v_50_24, v_50_25, v_50_26, v_50_29, v_50_30, v_50_33, v_50_34, v_50_37, v_50_38, vgi_0, vgi_s, vga_0, vga_s, vset_0, vset_s, vtk_0, vtk_s, vrc_0, vsw_0, vsw_s, List.all_cons, List.all_nil, zc1_i, zc1_r, Bool.and_true, Bool.and_self, true_and, and_true, List.length_cons, List.length_nil, Nat.zero_le, Nat.reduceLeDiff, Nat.reduceAdd, Nat.reduceLT, Option.toList_some, List.cons_append, List.nil_append, tg_483]
      rw [if_neg (by decide)]
      simp (disch := omega) only [li5, li3, pk_mul, nI_add]
      have fin : ∀ v : Int32, v = (if on = 0 then 0 else 1) → ∀ t2, mG noA (only s) t1 t2 → mS t2 s = su (mS t1 s) (3 + 5 * u) v → INV t2 := fun v hv t2 o2 e2 => by
        have hv2 : v = 0 ∨ v = 1 := by
          rw [hv]
          by_cases z : on = 0
          · rw [if_pos z]; exact Or.inl rfl
          · rw [if_neg z]; exact Or.inr rfl
        refine I1.ms0 hs o2 (fun r hr => Or.inl hr) (by rw [e1, e2, h1, m1, hv]) ?_
        rw [e2, m1]
        exact mk_su_wf h2 h3 h4 hu hv2
      by_cases z : on = 0
      · rw [if_pos z]
        rw [if_pos z] at fin
        refine c_39s (A := noA) (P := only s) (v := 0) (by omega) (by omega) (by omega) (by decide) rfl (fun t2 o2 e2 => ?_)
        have e2 := e2 s
        rw [if_pos rfl] at e2
        simp only [v_50_0, v_50_1, v_50_4, v_50_7, v_50_8, v_50_9, v_50_10, v_50_13, v_50_16, v_50_17, v_50_18, v_50_19, v_50_20, v_50_21, v_50_22, v_50_23, v_50_24, v_50_25, v_50_26, v_50_29, v_50_30, v_50_33, v_50_34, v_50_37, v_50_38, vgi_0, vgi_s, vga_0, vga_s, vset_0, vset_s, vtk_0, vtk_s, vrc_0, vsw_0, vsw_s, List.all_cons, List.all_nil, zc1_i, zc1_r, Bool.and_true, Bool.and_self, true_and, and_true, List.length_cons, List.length_nil, Nat.zero_le, Nat.reduceLeDiff, Nat.reduceAdd, Nat.reduceLT, Option.toList_none, List.nil_append]
        exact ⟨Or.inr trivial, _, rfl, rfl, fin 0 rfl t2 o2 e2⟩
      · rw [if_neg z]
        rw [if_neg z] at fin
        refine c_39s (A := noA) (P := only s) (v := 1) (by omega) (by omega) (by omega) (by decide) rfl (fun t2 o2 e2 => ?_)
        have e2 := e2 s
        rw [if_pos rfl] at e2
        simp only [v_50_0, v_50_1, v_50_4, v_50_7, v_50_8, v_50_9, v_50_10, v_50_13, v_50_16, v_50_17, v_50_18, v_50_19, v_50_20, v_50_21, v_50_22, v_50_23, v_50_24, v_50_25, v_50_26, v_50_29, v_50_30, v_50_33, v_50_34, v_50_37, v_50_38, vgi_0, vgi_s, vga_0, vga_s, vset_0, vset_s, vtk_0, vtk_s, vrc_0, vsw_0, vsw_s, List.all_cons, List.all_nil, zc1_i, zc1_r, Bool.and_true, Bool.and_self, true_and, and_true, List.length_cons, List.length_nil, Nat.zero_le, Nat.reduceLeDiff, Nat.reduceAdd, Nat.reduceLT, Option.toList_none, List.nil_append]
        exact ⟨Or.inr trivial, _, rfl, rfl, fin 1 rfl t2 o2 e2⟩
    · simp only [v_2_0, v_2_1, v_2_2, v_2_5, v_2_8, v_2_9, v_2_10, v_2_13, v_2_14, v_2_15, v_2_18, v_2_21, v_2_24, v_2_25, v_2_26, v_2_27, v_2_30, v_2_31, v_2_32, v_2_33, v_2_34, v_2_37, v_2_38, vgi_0, vgi_s, vga_0, vga_s, vset_0, vset_s, vtk_0, vtk_s, vrc_0, vsw_0, vsw_s, List.all_cons, List.all_nil, zc1_i, zc1_r, Bool.and_true, Bool.and_self, true_and, and_true, List.length_cons, List.length_nil, Nat.zero_le, Nat.reduceLeDiff, Nat.reduceAdd, Nat.reduceLT, Option.toList_some, List.cons_append, List.nil_append]
      rw [if_pos trivial]
      refine ⟨Or.inl trivial, bad (fun s' u hs' hu es eu => ?_)⟩
      have : s = s' := nI_inj (by omega) (by omega) es
      subst this
      exact hno u hu eu
  · simp only [v_2_0, v_2_1, v_2_2, v_2_5, v_2_8, v_2_9, v_2_10, v_2_13, v_2_14, v_2_15, v_2_18, v_2_21, v_2_24, v_2_25, v_2_26, v_2_27, v_2_30, v_2_31, v_2_32, v_2_33, v_2_34, v_2_37, v_2_38, vgi_0, vgi_s, vga_0, vga_s, vset_0, vset_s, vtk_0, vtk_s, vrc_0, vsw_0, vsw_s, List.all_cons, List.all_nil, zc1_i, zc1_r, Bool.and_true, Bool.and_self, true_and, and_true, List.length_cons, List.length_nil, Nat.zero_le, Nat.reduceLeDiff, Nat.reduceAdd, Nat.reduceLT, Option.toList_some, List.cons_append, List.nil_append]
    rw [if_pos trivial]
    exact ⟨Or.inl trivial, bad (fun s u hs hu es => absurd es (hno s hs))⟩
def uni (f : St) (n : Nat) : St := fun k => if k = 0 then nI n else if k < 3 then f k else 0
theorem uni_wf {f : St} {n : Nat} (hf : wfS f) (hn : n ≤ 6) : wfS (uni f n) := by
  have z : ∀ k, 3 ≤ k → uni f n k = 0 := fun k hk => by unfold uni; rw [if_neg (by omega), if_neg (by omega)]
  refine ⟨⟨n, hn, rfl, fun x hx hx6 => z _ (by omega), fun p x h1 h2 _ _ => z _ (by rw [cel1 h1 h2]; omega), fun p x y h1 _ _ _ _ => z _ (by rw [cel2 h1]; omega)⟩, fun k k0 k1 => ?_, fun x _ => Or.inl (z _ (by omega)), fun k hk => z k (by omega)⟩
  by_cases k3 : k < 3
  · unfold uni; rw [if_neg (by omega), if_pos k3]; exact hf.2.1 k k0 k1
  · rw [z k (by omega)]; exact ⟨0, by omega, rfl⟩
theorem l_49 {d s n : Nat} {t : T} {f : St} {F : Option Value → T → Prop} (hd : 2 ≤ d) (hs : s < 184) (hn : n ≤ 6) (h : ∀ t', mG noA (only s) t t' → mS t' s = uni f n → F (some (.int 1)) t') : ∀ (j i : Nat) (t' : T), i + j = 105 → 3 ≤ i → mG noA (only s) t t' → (∀ k, mS t' s k = if 3 ≤ k ∧ k < i then 0 else f k) → twp none d 49 21 [.ref 483, .int (nI s), .int (nI n), .int (nI i)] [] t' F := by
  intro j
  induction j with
  | zero =>
    intro i t' hi hi3 hO hI
    have hi : i = 105 := by omega
    subst hi
    refine vc_ok none zH_49 39 false _ 49 21 _ _ _ _ ?_
    simp only [v_49_0, v_49_1, v_49_4, v_49_7, v_49_8, v_49_9, v_49_11, v_49_14, v_49_17, v_49_18, v_49_19, v_49_20, v_49_21, h_49_21, v_49_22, v_49_24, v_49_27, v_49_28, v_49_29, v_49_30, v_49_31, v_49_34, v_49_37, v_49_40, v_49_41, v_49_42, v_49_43, v_49_44, v_49_47, v_49_48, vgi_0, vgi_s, vga_0, vga_s, vset_0, vset_s, vtk_0, vtk_s, vrc_0, vsw_0, vsw_s, List.all_cons, List.all_nil, zc1_i, zc1_r, Bool.and_true, Bool.and_self, true_and, and_true, List.length_cons, List.length_nil, Nat.zero_le, Nat.reduceLeDiff, Nat.reduceAdd, Nat.reduceLT, tg_483]
    rw [if_neg (by decide), li0]
    refine c_39s (A := noA) (P := only s) (by omega) hs (by omega) (n_byte _ (by omega)) rfl (fun t2 o2 e2 => ?_)
    have e2 := e2 s
    rw [if_pos rfl] at e2
    simp only [v_49_0, v_49_1, v_49_4, v_49_7, v_49_8, v_49_9, v_49_11, v_49_14, v_49_17, v_49_18, v_49_19, v_49_20, v_49_21, h_49_21, v_49_22, v_49_24, v_49_27, v_49_28, v_49_29, v_49_30, v_49_31, v_49_34, v_49_37, v_49_40, v_49_41, v_49_42, v_49_43, v_49_44, v_49_47, v_49_48, vgi_0, vgi_s, vga_0, vga_s, vset_0, vset_s, vtk_0, vtk_s, vrc_0, vsw_0, vsw_s, List.all_cons, List.all_nil, zc1_i, zc1_r, Bool.and_true, Bool.and_self, true_and, and_true, List.length_cons, List.length_nil, Nat.zero_le, Nat.reduceLeDiff, Nat.reduceAdd, Nat.reduceLT, Option.toList_none, List.nil_append]
    refine ⟨Or.inr trivial, h t2 (hO.tr o2) ?_⟩
    funext k
    by_cases k1 : k < 105
    · rw [e2]
      unfold su uni
      by_cases k0 : k = 0
      · rw [if_pos k0, if_pos k0]
      · rw [if_neg k0, if_neg k0, hI]
        by_cases k3 : k < 3
        · rw [if_pos k3, if_neg (by omega)]
        · rw [if_neg k3, if_pos (by omega)]
    · rw [mS_hi (by omega)]; unfold uni; rw [if_neg (by omega), if_neg (by omega)]
  | succ j ih =>
    intro i t' hi hi3 hO hI
    refine vc_ok none zH_49 39 false _ 49 21 _ _ _ _ ?_
    simp only [v_49_0, v_49_1, v_49_4, v_49_7, v_49_8, v_49_9, v_49_11, v_49_14, v_49_17, v_49_18, v_49_19, v_49_20, v_49_21, h_49_21, v_49_22, v_49_24, v_49_27, v_49_28, v_49_29, v_49_30, v_49_31, v_49_34, v_49_37, v_49_40, v_49_41, v_49_42, v_49_43, v_49_44, v_49_47, v_49_48, vgi_0, vgi_s, vga_0, vga_s, vset_0, vset_s, vtk_0, vtk_s, vrc_0, vsw_0, vsw_s, List.all_cons, List.all_nil, zc1_i, zc1_r, Bool.and_true, Bool.and_self, true_and, and_true, List.length_cons, List.length_nil, Nat.zero_le, Nat.reduceLeDiff, Nat.reduceAdd, Nat.reduceLT, tg_483]
    rw [li105, if_pos (nI_lt (by omega) (by omega))]
    refine c_39s (A := noA) (P := only s) (by omega) hs (by omega) (n_byte 0 (by omega)) rfl (fun t2 o2 e2 => ?_)
    have e2 := e2 s
    rw [if_pos rfl] at e2
    simp only [v_49_0, v_49_1, v_49_4, v_49_7, v_49_8, v_49_9, v_49_11, v_49_14, v_49_17, v_49_18, v_49_19, v_49_20, v_49_21, h_49_21, v_49_22, v_49_24, v_49_27, v_49_28, v_49_29, v_49_30, v_49_31, v_49_34, v_49_37, v_49_40, v_49_41, v_49_42, v_49_43, v_49_44, v_49_47, v_49_48, vgi_0, vgi_s, vga_0, vga_s, vset_0, vset_s, vtk_0, vtk_s, vrc_0, vsw_0, vsw_s, List.all_cons, List.all_nil, zc1_i, zc1_r, Bool.and_true, Bool.and_self, true_and, and_true, List.length_cons, List.length_nil, Nat.zero_le, Nat.reduceLeDiff, Nat.reduceAdd, Nat.reduceLT, Option.toList_none, List.nil_append]
    rw [nI_1]
    refine ih (i + 1) t2 (by omega) (by omega) (hO.tr o2) (fun k => ?_)
    rw [e2]
    unfold su
    by_cases z : k = i
    · rw [if_pos z, if_pos (by omega)]
    · rw [if_neg z, hI]
      by_cases y : 3 ≤ k ∧ k < i
      · rw [if_pos y, if_pos (by omega)]
      · rw [if_neg y, if_neg (by omega)]
theorem op_universe (sv nv : Int32) : OP 1 49 [.int sv, .int nv] := by
  intro d t hd hI
  have bad : (∀ s n, s < 4 → n < 7 → sv = nI s → nv ≠ nI n) → twc d 49 [.ref 483, .int sv, .int nv] t (fun r' t2 => ∃ v, some (Value.int 0) = some (Value.int v) ∧ r' = some (Value.int v) ∧ INV t2) := by
    intro hno
    refine ⟨by omega, ?_⟩
    rw [ze_49]
    refine vc_ok none zH_49 39 false _ 49 0 _ _ _ _ ?_
    simp only [v_49_0, v_49_1, v_49_4, v_49_7, v_49_8, v_49_9, v_49_11, v_49_14, v_49_17, v_49_18, v_49_19, v_49_20, v_49_21, h_49_21, v_49_22, v_49_24, v_49_27, v_49_28, v_49_29, v_49_30, v_49_31, v_49_34, v_49_37, v_49_40, v_49_41, v_49_42, v_49_43, v_49_44, v_49_47, v_49_48, vgi_0, vgi_s, vga_0, vga_s, vset_0, vset_s, vtk_0, vtk_s, vrc_0, vsw_0, vsw_s, List.all_cons, List.all_nil, zc1_i, zc1_r, Bool.and_true, Bool.and_self, true_and, and_true, List.length_cons, List.length_nil, Nat.zero_le, Nat.reduceLeDiff, Nat.reduceAdd, Nat.reduceLT]
    refine c_47 (by omega) (fun s hs es => ?_) (fun _ => ?_)
    · simp only [v_49_0, v_49_1, v_49_4, v_49_7, v_49_8, v_49_9, v_49_11, v_49_14, v_49_17, v_49_18, v_49_19, v_49_20, v_49_21, h_49_21, v_49_22, v_49_24, v_49_27, v_49_28, v_49_29, v_49_30, v_49_31, v_49_34, v_49_37, v_49_40, v_49_41, v_49_42, v_49_43, v_49_44, v_49_47, v_49_48, vgi_0, vgi_s, vga_0, vga_s, vset_0, vset_s, vtk_0, vtk_s, vrc_0, vsw_0, vsw_s, List.all_cons, List.all_nil, zc1_i, zc1_r, Bool.and_true, Bool.and_self, true_and, and_true, List.length_cons, List.length_nil, Nat.zero_le, Nat.reduceLeDiff, Nat.reduceAdd, Nat.reduceLT, Option.toList_some, List.cons_append, List.nil_append]
      rw [if_neg (by decide)]
      refine c_37 (lo := 0) (hi := 6) (by omega) (by omega) (by omega) (fun n h1 h2 en => absurd en (hno s n hs (by omega) es)) (fun _ => ?_)
      simp only [v_49_0, v_49_1, v_49_4, v_49_7, v_49_8, v_49_9, v_49_11, v_49_14, v_49_17, v_49_18, v_49_19, v_49_20, v_49_21, h_49_21, v_49_22, v_49_24, v_49_27, v_49_28, v_49_29, v_49_30, v_49_31, v_49_34, v_49_37, v_49_40, v_49_41, v_49_42, v_49_43, v_49_44, v_49_47, v_49_48, vgi_0, vgi_s, vga_0, vga_s, vset_0, vset_s, vtk_0, vtk_s, vrc_0, vsw_0, vsw_s, List.all_cons, List.all_nil, zc1_i, zc1_r, Bool.and_true, Bool.and_self, true_and, and_true, List.length_cons, List.length_nil, Nat.zero_le, Nat.reduceLeDiff, Nat.reduceAdd, Nat.reduceLT, Option.toList_some, List.cons_append, List.nil_append]
      rw [if_neg (by decide)]
      exact ⟨Or.inl trivial, _, rfl, rfl, hI⟩
    · simp only [v_49_0, v_49_1, v_49_4, v_49_7, v_49_8, v_49_9, v_49_11, v_49_14, v_49_17, v_49_18, v_49_19, v_49_20, v_49_21, h_49_21, v_49_22, v_49_24, v_49_27, v_49_28, v_49_29, v_49_30, v_49_31, v_49_34, v_49_37, v_49_40, v_49_41, v_49_42, v_49_43, v_49_44, v_49_47, v_49_48, vgi_0, vgi_s, vga_0, vga_s, vset_0, vset_s, vtk_0, vtk_s, vrc_0, vsw_0, vsw_s, List.all_cons, List.all_nil, zc1_i, zc1_r, Bool.and_true, Bool.and_self, true_and, and_true, List.length_cons, List.length_nil, Nat.zero_le, Nat.reduceLeDiff, Nat.reduceAdd, Nat.reduceLT, Option.toList_some, List.cons_append, List.nil_append]
      rw [if_pos trivial]
      exact ⟨Or.inl trivial, _, rfl, rfl, hI⟩
  refine ⟨by omega, ?_⟩
  rw [ze_1]
  refine vc_ok none zH_1 28 false _ 1 0 _ _ _ _ ?_
  simp only [v_1_0, v_1_1, v_1_2, v_1_5, v_1_8, v_1_9, v_1_11, v_1_14, v_1_17, v_1_18, v_1_19, v_1_20, v_1_23, v_1_24, v_1_25, v_1_26, v_1_29, v_1_30, vgi_0, vgi_s, vga_0, vga_s, vset_0, vset_s, vtk_0, vtk_s, vrc_0, vsw_0, vsw_s, List.all_cons, List.all_nil, zc1_i, zc1_r, Bool.and_true, Bool.and_self, true_and, and_true, List.length_cons, List.length_nil, Nat.zero_le, Nat.reduceLeDiff, Nat.reduceAdd, Nat.reduceLT]
  refine c_22 (L := 4) (by omega) (by omega) (fun s hs es => ?_) (fun hno => ?_)
  · simp only [v_1_0, v_1_1, v_1_2, v_1_5, v_1_8, v_1_9, v_1_11, v_1_14, v_1_17, v_1_18, v_1_19, v_1_20, v_1_23, v_1_24, v_1_25, v_1_26, v_1_29, v_1_30, vgi_0, vgi_s, vga_0, vga_s, vset_0, vset_s, vtk_0, vtk_s, vrc_0, vsw_0, vsw_s, List.all_cons, List.all_nil, zc1_i, zc1_r, Bool.and_true, Bool.and_self, true_and, and_true, List.length_cons, List.length_nil, Nat.zero_le, Nat.reduceLeDiff, Nat.reduceAdd, Nat.reduceLT, Option.toList_some, List.cons_append, List.nil_append]
    rw [if_neg (by decide)]
    refine c_22 (L := 7) (by omega) (by omega) (fun n hn en => ?_) (fun hno => ?_)
    · subst es
      subst en
      obtain ⟨h1, h2, h3, h4⟩ := hI.sl hs
      have st := sl_dec s hs
      simp only [v_1_0, v_1_1, v_1_2, v_1_5, v_1_8, v_1_9, v_1_11, v_1_14, v_1_17, v_1_18, v_1_19, v_1_20, v_1_23, v_1_24, v_1_25, v_1_26, v_1_29, v_1_30, vgi_0, vgi_s, vga_0, vga_s, vset_0, vset_s, vtk_0, vtk_s, vrc_0, vsw_0, vsw_s, List.all_cons, List.all_nil, zc1_i, zc1_r, Bool.and_true, Bool.and_self, true_and, and_true, List.length_cons, List.length_nil, Nat.zero_le, Nat.reduceLeDiff, Nat.reduceAdd, Nat.reduceLT, Option.toList_some, List.cons_append, List.nil_append, tg_0, tf_0_0, tg_1, ln_1]
      rw [if_neg (by decide)]
      simp (disch := omega) only [nI_clamp, vinb_n, tf_1, st]
      refine ⟨hs, trivial, ?_⟩
      refine c_167 (by omega) st ?_
      have o1 : tO [243 + 2 * s, 243 + 2 * s + 1] t (tsi (tfl t (243 + 2 * s + 1) 2 104 0) (243 + 2 * s) 0 (nI n)) := (tO.fl (by simp)).tr (tO.si (by simp))
      have e1 : cS (tsi (tfl t (243 + 2 * s + 1) 2 104 0) (243 + 2 * s) 0 (nI n)) (243 + 2 * s) = uni (mS t s) n := by
        rw [← h1]
        funext k
        unfold uni
        by_cases k0 : k = 0
        · rw [if_pos k0, k0, cS_i, tsi_eq]
        · rw [if_neg k0]
          by_cases k1 : k < 105
          · obtain ⟨j, rfl⟩ : ∃ j, k = j + 1 := ⟨k - 1, by omega⟩
            rw [cS_c (by omega), tsi_ne (by omega)]
            by_cases k3 : j + 1 < 3
            · rw [if_pos k3, cS_c (by omega)]
              exact if_neg (by omega)
            · rw [if_neg k3]
              exact if_pos ⟨rfl, by omega, by omega⟩
          · rw [cS_hi (by omega), if_neg (by omega)]
      have I1 : INVx _ s := INVx.cs hI hs (Or.inl rfl) o1
      have m1 : ∀ r, mS (tsi (tfl t (243 + 2 * s + 1) 2 104 0) (243 + 2 * s) 0 (nI n)) r = mS t r := fun r => o1.ms (by simp; omega) r
      simp only [v_1_0, v_1_1, v_1_2, v_1_5, v_1_8, v_1_9, v_1_11, v_1_14, v_1_17, v_1_18, v_1_19, v_1_20, v_1_23, v_1_24, v_1_25, v_1_26, v_1_29, v_1_30, vgi_0, vgi_s, vga_0, vga_s, vset_0, vset_s, vtk_0, vtk_s, vrc_0, vsw_0, vsw_s, List.all_cons, List.all_nil, zc1_i, zc1_r, Bool.and_true, Bool.and_self, true_and, and_true, List.length_cons, List.length_nil, Nat.zero_le, Nat.reduceLeDiff, Nat.reduceAdd, Nat.reduceLT, Option.toList_none, List.nil_append]
      refine ⟨Or.inr trivial, by omega, ?_⟩
      rw [ze_49]
      refine vc_ok none zH_49 39 false _ 49 0 _ _ _ _ ?_
      simp only [v_49_0, v_49_1, v_49_4, v_49_7, v_49_8, v_49_9, v_49_11, v_49_14, v_49_17, v_49_18, v_49_19, v_49_20, v_49_21, h_49_21, v_49_22, v_49_24, v_49_27, v_49_28, v_49_29, v_49_30, v_49_31, v_49_34, v_49_37, v_49_40, v_49_41, v_49_42, v_49_43, v_49_44, v_49_47, v_49_48, vgi_0, vgi_s, vga_0, vga_s, vset_0, vset_s, vtk_0, vtk_s, vrc_0, vsw_0, vsw_s, List.all_cons, List.all_nil, zc1_i, zc1_r, Bool.and_true, Bool.and_self, true_and, and_true, List.length_cons, List.length_nil, Nat.zero_le, Nat.reduceLeDiff, Nat.reduceAdd, Nat.reduceLT]
      refine c_47 (by omega) (fun s' hs' es' => ?_) (fun hno => absurd rfl (hno s hs))
      simp only [v_49_0, v_49_1, v_49_4, v_49_7, v_49_8, v_49_9, v_49_11, v_49_14, v_49_17, v_49_18, v_49_19, v_49_20, v_49_21, h_49_21, v_49_22, v_49_24, v_49_27, v_49_28, v_49_29, v_49_30, v_49_31, v_49_34, v_49_37, v_49_40, v_49_41, v_49_42, v_49_43, v_49_44, v_49_47, v_49_48, vgi_0, vgi_s, vga_0, vga_s, vset_0, vset_s, vtk_0, vtk_s, vrc_0, vsw_0, vsw_s, List.all_cons, List.all_nil, zc1_i, zc1_r, Bool.and_true, Bool.and_self, true_and, and_true, List.length_cons, List.length_nil, Nat.zero_le, Nat.reduceLeDiff, Nat.reduceAdd, Nat.reduceLT, Option.toList_some, List.cons_append, List.nil_append]
      rw [if_neg (by decide)]
      refine c_37 (lo := 0) (hi := 6) (by omega) (by omega) (by omega) (fun n' _ _ en => ?_) (fun hno => absurd rfl (hno n (by omega) (by omega)))
      simp only [v_49_0, v_49_1, v_49_4, v_49_7, v_49_8, v_49_9, v_49_11, v_49_14, v_49_17, v_49_18, v_49_19, v_49_20, v_49_21, h_49_21, v_49_22, v_49_24, v_49_27, v_49_28, v_49_29, v_49_30, v_49_31, v_49_34, v_49_37, v_49_40, v_49_41, v_49_42, v_49_43, v_49_44, v_49_47, v_49_48, vgi_0, vgi_s, vga_0, vga_s, vset_0, vset_s, vtk_0, vtk_s, vrc_0, vsw_0, vsw_s, List.all_cons, List.all_nil, zc1_i, zc1_r, Bool.and_true, Bool.and_self, true_and, and_true, List.length_cons, List.length_nil, Nat.zero_le, Nat.reduceLeDiff, Nat.reduceAdd, Nat.reduceLT, Option.toList_some, List.cons_append, List.nil_append]
      rw [if_pos trivial]
      refine l_49 (f := mS t s) (by omega) (by omega) (by omega) (fun t2 o2 e2 => ⟨_, rfl, rfl, I1.ms0 hs o2 (fun r hr => Or.inl hr) (by rw [e1, e2]) (by rw [e2]; exact uni_wf h2 (by omega))⟩) 102 3 _ (by omega) (by omega) mG.rf (fun k => ?_)
      rw [m1, if_neg (by omega)]
    · simp only [v_1_0, v_1_1, v_1_2, v_1_5, v_1_8, v_1_9, v_1_11, v_1_14, v_1_17, v_1_18, v_1_19, v_1_20, v_1_23, v_1_24, v_1_25, v_1_26, v_1_29, v_1_30, vgi_0, vgi_s, vga_0, vga_s, vset_0, vset_s, vtk_0, vtk_s, vrc_0, vsw_0, vsw_s, List.all_cons, List.all_nil, zc1_i, zc1_r, Bool.and_true, Bool.and_self, true_and, and_true, List.length_cons, List.length_nil, Nat.zero_le, Nat.reduceLeDiff, Nat.reduceAdd, Nat.reduceLT, Option.toList_some, List.cons_append, List.nil_append]
      rw [if_pos trivial]
      exact ⟨Or.inl trivial, bad (fun s' n hs' hn es' => hno n hn)⟩
  · simp only [v_1_0, v_1_1, v_1_2, v_1_5, v_1_8, v_1_9, v_1_11, v_1_14, v_1_17, v_1_18, v_1_19, v_1_20, v_1_23, v_1_24, v_1_25, v_1_26, v_1_29, v_1_30, vgi_0, vgi_s, vga_0, vga_s, vset_0, vset_s, vtk_0, vtk_s, vrc_0, vsw_0, vsw_s, List.all_cons, List.all_nil, zc1_i, zc1_r, Bool.and_true, Bool.and_self, true_and, and_true, List.length_cons, List.length_nil, Nat.zero_le, Nat.reduceLeDiff, Nat.reduceAdd, Nat.reduceLT, Option.toList_some, List.cons_append, List.nil_append]
    rw [if_pos trivial]
    exact ⟨Or.inl trivial, bad (fun s n hs hn es => absurd es (hno s hs))⟩
theorem op_blur (sv : Int32) : OP 9 73 [.int sv] := by
  intro d t hd hI
  refine ⟨by omega, ?_⟩
  rw [ze_9]
  refine vc_ok none zH_9 29 false _ 9 0 _ _ _ _ ?_
  simp only [v_9_0, v_9_1, v_9_2, v_9_5, v_9_8, v_9_9, v_9_10, v_9_11, v_9_14, v_9_15, v_9_18, v_9_19, v_9_20, v_9_23, v_9_24, v_9_27, v_9_28, v_9_29, v_9_32, vgi_0, vgi_s, vga_0, vga_s, vset_0, vset_s, vtk_0, vtk_s, vrc_0, vsw_0, vsw_s, List.all_cons, List.all_nil, zc1_i, zc1_r, Bool.and_true, Bool.and_self, true_and, and_true, List.length_cons, List.length_nil, Nat.zero_le, Nat.reduceLeDiff, Nat.reduceAdd, Nat.reduceLT]
  refine c_22 (L := 4) (by omega) (by omega) (fun s hs es => ?_) (fun hno => ?_)
  · subst es
    obtain ⟨h1, h2, h3, h4⟩ := hI.sl hs
    have st := sl_dec s hs
    simp only [v_9_0, v_9_1, v_9_2, v_9_5, v_9_8, v_9_9, v_9_10, v_9_11, v_9_14, v_9_15, v_9_18, v_9_19, v_9_20, v_9_23, v_9_24, v_9_27, v_9_28, v_9_29, v_9_32, vgi_0, vgi_s, vga_0, vga_s, vset_0, vset_s, vtk_0, vtk_s, vrc_0, vsw_0, vsw_s, List.all_cons, List.all_nil, zc1_i, zc1_r, Bool.and_true, Bool.and_self, true_and, and_true, List.length_cons, List.length_nil, Nat.zero_le, Nat.reduceLeDiff, Nat.reduceAdd, Nat.reduceLT, Option.toList_some, List.cons_append, List.nil_append, tg_0, tf_0_0, tg_1, ln_1, tf_0_6, tg_143]
    rw [if_neg (by decide)]
    simp (disch := omega) only [nI_clamp, vinb_n, tf_1, st]
    refine ⟨hs, ?_⟩
    refine c_141 (n := sn (mS t s)) (by omega) st (by omega) (by rw [h1]; exact h2) (by rw [h1]; exact h3) h4 (fun t1 o1 b1 => ?_)
    rw [h1] at b1
    have I1 : INVx t1 s := hI.csO hs o1 (fun b hb => by simp [mgB] at hb; unfold scC; omega)
    have m1 : ∀ r, mS t1 r = mS t r := fun r => o1.ms (by simp [mgB]; omega) r
    have hc0 : t1.1 (243 + 2 * s) 0 = nI (GR (mS t s) (sn (mS t s))) := by rw [← cS_i]; exact b1.b0
    simp only [v_9_0, v_9_1, v_9_2, v_9_5, v_9_8, v_9_9, v_9_10, v_9_11, v_9_14, v_9_15, v_9_18, v_9_19, v_9_20, v_9_23, v_9_24, v_9_27, v_9_28, v_9_29, v_9_32, vgi_0, vgi_s, vga_0, vga_s, vset_0, vset_s, vtk_0, vtk_s, vrc_0, vsw_0, vsw_s, List.all_cons, List.all_nil, zc1_i, zc1_r, Bool.and_true, Bool.and_self, true_and, and_true, List.length_cons, List.length_nil, Nat.zero_le, Nat.reduceLeDiff, Nat.reduceAdd, Nat.reduceLT, Option.toList_none, List.nil_append, tg_0, tf_0_0, tg_1, ln_1]
    simp (disch := omega) only [nI_clamp, vinb_n, tf_1, st, hc0]
    refine ⟨hs, by omega, ?_⟩
    rw [ze_73]
    refine vc_ok none zH_73 22 false _ 73 0 _ _ _ _ ?_
    simp only [v_73_0, v_73_1, v_73_4, v_73_7, v_73_8, v_73_9, v_73_10, v_73_11, v_73_14, v_73_15, v_73_16, v_73_19, vgi_0, vgi_s, vga_0, vga_s, vset_0, vset_s, vtk_0, vtk_s, vrc_0, vsw_0, vsw_s, List.all_cons, List.all_nil, zc1_i, zc1_r, Bool.and_true, Bool.and_self, true_and, and_true, List.length_cons, List.length_nil, Nat.zero_le, Nat.reduceLeDiff, Nat.reduceAdd, Nat.reduceLT]
    refine c_47 (by omega) (fun s' hs' es' => ?_) (fun hno => absurd rfl (hno s hs))
    simp only [v_73_0, v_73_1, v_73_4, v_73_7, v_73_8, v_73_9, v_73_10, v_73_11, v_73_14, v_73_15, v_73_16, v_73_19, vgi_0, vgi_s, vga_0, vga_s, vset_0, vset_s, vtk_0, vtk_s, vrc_0, vsw_0, vsw_s, List.all_cons, List.all_nil, zc1_i, zc1_r, Bool.and_true, Bool.and_self, true_and, and_true, List.length_cons, List.length_nil, Nat.zero_le, Nat.reduceLeDiff, Nat.reduceAdd, Nat.reduceLT, Option.toList_some, List.cons_append, List.nil_append, tg_483]
    rw [if_neg (by decide)]
    refine c_71 (n := sn (mS t s)) (by omega) (by omega) (by omega) (by rw [m1]; exact h2) (by rw [m1]; exact h3) h4 (fun t2 o2 b2 => ?_)
    rw [m1] at b2
    simp only [v_73_0, v_73_1, v_73_4, v_73_7, v_73_8, v_73_9, v_73_10, v_73_11, v_73_14, v_73_15, v_73_16, v_73_19, vgi_0, vgi_s, vga_0, vga_s, vset_0, vset_s, vtk_0, vtk_s, vrc_0, vsw_0, vsw_s, List.all_cons, List.all_nil, zc1_i, zc1_r, Bool.and_true, Bool.and_self, true_and, and_true, List.length_cons, List.length_nil, Nat.zero_le, Nat.reduceLeDiff, Nat.reduceAdd, Nat.reduceLT, Option.toList_none, List.nil_append, tg_483]
    refine c_40 (by omega) (by omega) ?_
    simp only [v_73_0, v_73_1, v_73_4, v_73_7, v_73_8, v_73_9, v_73_10, v_73_11, v_73_14, v_73_15, v_73_16, v_73_19, vgi_0, vgi_s, vga_0, vga_s, vset_0, vset_s, vtk_0, vtk_s, vrc_0, vsw_0, vsw_s, List.all_cons, List.all_nil, zc1_i, zc1_r, Bool.and_true, Bool.and_self, true_and, and_true, List.length_cons, List.length_nil, Nat.zero_le, Nat.reduceLeDiff, Nat.reduceAdd, Nat.reduceLT, Option.toList_some, List.cons_append, List.nil_append]
    have e : cS t1 (243 + 2 * s) = mS t2 s := b1.uniq b2
    exact ⟨_, rfl, by rw [b2.b0], I1.ms hs (mW.of (B := mbA) (R := mbR s) o2 (fun z => by unfold mbA at z; omega) (fun b z => z) (fun b z => z)) (fun b z => by unfold mbA at z; omega) (fun r z => by unfold mbR at z; omega) e (b2.wf h2 h4)⟩
  · simp only [v_9_0, v_9_1, v_9_2, v_9_5, v_9_8, v_9_9, v_9_10, v_9_11, v_9_14, v_9_15, v_9_18, v_9_19, v_9_20, v_9_23, v_9_24, v_9_27, v_9_28, v_9_29, v_9_32, vgi_0, vgi_s, vga_0, vga_s, vset_0, vset_s, vtk_0, vtk_s, vrc_0, vsw_0, vsw_s, List.all_cons, List.all_nil, zc1_i, zc1_r, Bool.and_true, Bool.and_self, true_and, and_true, List.length_cons, List.length_nil, Nat.zero_le, Nat.reduceLeDiff, Nat.reduceAdd, Nat.reduceLT, Option.toList_some, List.cons_append, List.nil_append]
    rw [if_pos trivial]
    refine ⟨by omega, ?_⟩
    rw [ze_73]
    refine vc_ok none zH_73 22 false _ 73 0 _ _ _ _ ?_
    simp only [v_73_0, v_73_1, v_73_4, v_73_7, v_73_8, v_73_9, v_73_10, v_73_11, v_73_14, v_73_15, v_73_16, v_73_19, vgi_0, vgi_s, vga_0, vga_s, vset_0, vset_s, vtk_0, vtk_s, vrc_0, vsw_0, vsw_s, List.all_cons, List.all_nil, zc1_i, zc1_r, Bool.and_true, Bool.and_self, true_and, and_true, List.length_cons, List.length_nil, Nat.zero_le, Nat.reduceLeDiff, Nat.reduceAdd, Nat.reduceLT]
    refine c_47 (by omega) (fun s hs es => absurd es (hno s hs)) (fun _ => ?_)
    simp only [v_73_0, v_73_1, v_73_4, v_73_7, v_73_8, v_73_9, v_73_10, v_73_11, v_73_14, v_73_15, v_73_16, v_73_19, vgi_0, vgi_s, vga_0, vga_s, vset_0, vset_s, vtk_0, vtk_s, vrc_0, vsw_0, vsw_s, List.all_cons, List.all_nil, zc1_i, zc1_r, Bool.and_true, Bool.and_self, true_and, and_true, List.length_cons, List.length_nil, Nat.zero_le, Nat.reduceLeDiff, Nat.reduceAdd, Nat.reduceLT, Option.toList_some, List.cons_append, List.nil_append]
    rw [if_pos trivial]
    exact ⟨_, rfl, rfl, hI⟩
end OP4
