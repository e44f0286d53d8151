/-! coerce, embeds. -/
section OP5
variable {t t' : T}
theorem op_coerce (sv : Int32) : OP 12 85 [.int sv] := by
  intro d t hd hI
  refine ⟨by omega, ?_⟩
  rw [ze_12]
  refine vc_ok none zH_12 40 false _ 12 0 _ _ _ _ ?_
  simp only [v_12_0, v_12_1, v_12_2, v_12_5, v_12_8, v_12_9, v_12_10, v_12_11, v_12_14, v_12_15, v_12_18, v_12_19, v_12_20, v_12_23, v_12_24, v_12_27, v_12_28, v_12_31, v_12_34, v_12_37, v_12_38, v_12_39, v_12_40, v_12_43, v_12_44, v_12_45, v_12_46, v_12_49, v_12_52, v_12_53, vgi_0, vgi_s, vga_0, vga_s, vset_0, vset_s, vtk_0, vtk_s, vrc_0, vsw_0, vsw_s, List.all_cons, List.all_nil, zc1_i, zc1_r, Bool.and_true, Bool.and_self, true_and, and_true, List.length_cons, List.length_nil, Nat.zero_le, Nat.reduceLeDiff, Nat.reduceAdd, Nat.reduceLT]
  refine c_22 (L := 4) (by omega) (by omega) (fun s hs es => ?_) (fun hno => ?_)
  · subst es
    obtain ⟨h1, h2, h3, h4⟩ := hI.sl hs
    have st := sl_dec s hs
    simp only [v_12_0, v_12_1, v_12_2, v_12_5, v_12_8, v_12_9, v_12_10, v_12_11, v_12_14, v_12_15, v_12_18, v_12_19, v_12_20, v_12_23, v_12_24, v_12_27, v_12_28, v_12_31, v_12_34, v_12_37, v_12_38, v_12_39, v_12_40, v_12_43, v_12_44, v_12_45, v_12_46, v_12_49, v_12_52, v_12_53, vgi_0, vgi_s, vga_0, vga_s, vset_0, vset_s, vtk_0, vtk_s, vrc_0, vsw_0, vsw_s, List.all_cons, List.all_nil, zc1_i, zc1_r, Bool.and_true, Bool.and_self, true_and, and_true, List.length_cons, List.length_nil, Nat.zero_le, Nat.reduceLeDiff, Nat.reduceAdd, Nat.reduceLT, Option.toList_some, List.cons_append, List.nil_append, tg_0, tf_0_0, tg_1, ln_1, tf_0_11, tg_159]
    rw [if_neg (by decide)]
    simp (disch := omega) only [nI_clamp, vinb_n, tf_1, st]
    refine ⟨hs, ?_⟩
    refine c_168 (by omega) tg_159 st (fun t1 o1 e1 => ?_)
    have wk := hI.bw
    have wk2 : t.2 58 3 = 61 ∨ t.2 58 3 = 161 := wk.2.elim (fun z => Or.inl z.1) (fun z => Or.inr z.1)
    have I1 : INV t1 := INVx.c hI (tF.of o1 (fun b hb => hb)) (fun b hb => by simp at hb; unfold scC; omega) (wk.1.q o1.1).1
    have e1 : cS t1 159 = mS t s := e1.trans h1
    obtain ⟨q, m, ru, rc, ec, Es, -, f1, g1, -⟩ := id I1
    simp only [v_12_0, v_12_1, v_12_2, v_12_5, v_12_8, v_12_9, v_12_10, v_12_11, v_12_14, v_12_15, v_12_18, v_12_19, v_12_20, v_12_23, v_12_24, v_12_27, v_12_28, v_12_31, v_12_34, v_12_37, v_12_38, v_12_39, v_12_40, v_12_43, v_12_44, v_12_45, v_12_46, v_12_49, v_12_52, v_12_53, vgi_0, vgi_s, vga_0, vga_s, vset_0, vset_s, vtk_0, vtk_s, vrc_0, vsw_0, vsw_s, List.all_cons, List.all_nil, zc1_i, zc1_r, Bool.and_true, Bool.and_self, true_and, and_true, List.length_cons, List.length_nil, Nat.zero_le, Nat.reduceLeDiff, Nat.reduceAdd, Nat.reduceLT, Option.toList_none, List.nil_append, tg_0, tf_0_3, tg_49, tf_0_11, tg_159]
    have key : ∀ t2, tF (shF 159) t1 t2 → INV t2 := fun t2 o2 => by
      refine INVx.c I1 o2 (fun b hb => by unfold shF at hb; unfold scC; omega) ?_
      have wk1 := I1.bw
      have wk12 : t1.2 58 3 = 61 ∨ t1.2 58 3 = 161 := wk1.2.elim (fun z => Or.inl z.1) (fun z => Or.inr z.1)
      exact (wk1.1.k (t' := t2) (fun k => (o2 _ (by unfold shF; omega)).2 k)).1
    have m1 : ∀ t2, tF (shF 159) t1 t2 → ∀ r, mS t2 r = mS t r := fun t2 o2 r => by
      have : mS t1 r = mS t r := o1.ms (by simp) r
      rw [← this]
      funext k
      unfold mS
      rw [(o2 484 (by unfold shF; omega)).1]
    have mod : ∀ (t2 : T) (r : Option St), tF (shF 159) t1 t2 → CO q (sn (mS t s)) ru rc (mS t s) r → ∀ (G : Option Value → T → Prop) (t3 : T), INVx t3 s ∨ (INV t3) → (∀ r, mS t3 r = mS t r) → foI t3 q m → ruI t3 q m ru rc → (∀ t4, r = none → mW mEb (fun x => x = 183) t3 t4 → G (some (.int 0)) t4) → (∀ t4 g, r = some g → mW mEb (fun x => x = 183 ∨ x = s) t3 t4 → mS t4 s = g → G (some (.int 1)) t4) → twc d 85 [.ref 483, .int (nI s)] t3 G := by
      intro t2 r o2 hco G t3 hI3 m3 f3 g3 k0 k1
      refine ⟨by omega, ?_⟩
      rw [ze_85]
      refine vc_ok none zH_85 31 false _ 85 0 _ _ _ _ ?_
      simp only [v_85_0, v_85_1, v_85_4, v_85_7, v_85_8, v_85_9, v_85_10, v_85_11, v_85_14, v_85_17, v_85_18, v_85_21, v_85_24, v_85_27, v_85_28, v_85_29, v_85_30, v_85_33, v_85_34, v_85_37, v_85_38, vgi_0, vgi_s, vga_0, vga_s, vset_0, vset_s, vtk_0, vtk_s, vrc_0, vsw_0, vsw_s, List.all_cons, List.all_nil, zc1_i, zc1_r, Bool.and_true, Bool.and_self, true_and, and_true, List.length_cons, List.length_nil, Nat.zero_le, Nat.reduceLeDiff, Nat.reduceAdd, Nat.reduceLT]
      refine c_47 (by omega) (fun s' hs' es' => ?_) (fun hno => absurd rfl (hno s hs))
      simp only [v_85_0, v_85_1, v_85_4, v_85_7, v_85_8, v_85_9, v_85_10, v_85_11, v_85_14, v_85_17, v_85_18, v_85_21, v_85_24, v_85_27, v_85_28, v_85_29, v_85_30, v_85_33, v_85_34, v_85_37, v_85_38, vgi_0, vgi_s, vga_0, vga_s, vset_0, vset_s, vtk_0, vtk_s, vrc_0, vsw_0, vsw_s, List.all_cons, List.all_nil, zc1_i, zc1_r, Bool.and_true, Bool.and_self, true_and, and_true, List.length_cons, List.length_nil, Nat.zero_le, Nat.reduceLeDiff, Nat.reduceAdd, Nat.reduceLT, Option.toList_some, List.cons_append, List.nil_append, tg_483]
      rw [if_neg (by decide)]
      refine c_44g (r := 183) (A := noA) (P := fun x => x = 183) (by omega) (by omega) (by omega) (by rw [m3]; exact h2.b) rfl (fun t4 o4 e4 => ?_)
      have es := e4 183
      rw [if_pos rfl, m3] at es
      have O4 : mW mEb (fun x => x = 183) t3 t4 := mW.of o4 (fun z => z) (fun b z => z.elim) (fun b z => z)
      have f4 : mvq t4 q m 183 (mS t s) (sn (mS t s)) := by
        refine mfq.v ?_ (by omega) es h2 h3 h4
        exact f3.2.1.k (fun b k a c => O4.1.2.1 b (by omega) (fun z => by rcases z with z | z; have := z.1; omega; omega) k)
      have g4 : mrl t4 ru rc := g3.2.2.k (fun b k a c => O4.1.2.1 b (by omega) (fun z => by rcases z with z | z; have := z.1; omega; omega) k) (O4.2 10 (by omega))
      simp only [v_85_0, v_85_1, v_85_4, v_85_7, v_85_8, v_85_9, v_85_10, v_85_11, v_85_14, v_85_17, v_85_18, v_85_21, v_85_24, v_85_27, v_85_28, v_85_29, v_85_30, v_85_33, v_85_34, v_85_37, v_85_38, vgi_0, vgi_s, vga_0, vga_s, vset_0, vset_s, vtk_0, vtk_s, vrc_0, vsw_0, vsw_s, List.all_cons, List.all_nil, zc1_i, zc1_r, Bool.and_true, Bool.and_self, true_and, and_true, List.length_cons, List.length_nil, Nat.zero_le, Nat.reduceLeDiff, Nat.reduceAdd, Nat.reduceLT, Option.toList_none, List.nil_append, tg_483]
      refine c_83 (s := 183) (by omega) g3.1 g4 f4 (fun t5 o5 c5 => ?_) (fun t5 o5 c5 => ?_)
      · have O5 : mW mEb (fun x => x = 183) t3 t5 := O4.tr (mW.of o5 (fun z => by have := z.1; omega) (fun b z => z) (fun b z => z))
        simp only [v_85_0, v_85_1, v_85_4, v_85_7, v_85_8, v_85_9, v_85_10, v_85_11, v_85_14, v_85_17, v_85_18, v_85_21, v_85_24, v_85_27, v_85_28, v_85_29, v_85_30, v_85_33, v_85_34, v_85_37, v_85_38, vgi_0, vgi_s, vga_0, vga_s, vset_0, vset_s, vtk_0, vtk_s, vrc_0, vsw_0, vsw_s, List.all_cons, List.all_nil, zc1_i, zc1_r, Bool.and_true, Bool.and_self, true_and, and_true, List.length_cons, List.length_nil, Nat.zero_le, Nat.reduceLeDiff, Nat.reduceAdd, Nat.reduceLT, Option.toList_some, List.cons_append, List.nil_append]
        rw [if_pos trivial]
        exact ⟨Or.inl trivial, k0 t5 (CO_uniq f1.1.2.1 g1.1 h2 h3 h4 hco c5) O5⟩
      · have O5 : mW mEb (fun x => x = 183) t3 t5 := O4.tr (mW.of o5 (fun z => by have := z.1; omega) (fun b z => z) (fun b z => z))
        obtain ⟨⟨k5, s5⟩, -⟩ := id c5
        have w5 := (stk.ok g1.1 h2 h3 h4 k5 _ s5).1
        simp only [v_85_0, v_85_1, v_85_4, v_85_7, v_85_8, v_85_9, v_85_10, v_85_11, v_85_14, v_85_17, v_85_18, v_85_21, v_85_24, v_85_27, v_85_28, v_85_29, v_85_30, v_85_33, v_85_34, v_85_37, v_85_38, vgi_0, vgi_s, vga_0, vga_s, vset_0, vset_s, vtk_0, vtk_s, vrc_0, vsw_0, vsw_s, List.all_cons, List.all_nil, zc1_i, zc1_r, Bool.and_true, Bool.and_self, true_and, and_true, List.length_cons, List.length_nil, Nat.zero_le, Nat.reduceLeDiff, Nat.reduceAdd, Nat.reduceLT, Option.toList_some, List.cons_append, List.nil_append, tg_483]
        rw [if_neg (by decide)]
        refine c_44g (s := 183) (A := noA) (P := fun x => x = s) (by omega) (by omega) (by omega) w5.b rfl (fun t6 o6 e6 => ?_)
        have e6 := e6 s
        rw [if_pos rfl] at e6
        simp only [v_85_0, v_85_1, v_85_4, v_85_7, v_85_8, v_85_9, v_85_10, v_85_11, v_85_14, v_85_17, v_85_18, v_85_21, v_85_24, v_85_27, v_85_28, v_85_29, v_85_30, v_85_33, v_85_34, v_85_37, v_85_38, vgi_0, vgi_s, vga_0, vga_s, vset_0, vset_s, vtk_0, vtk_s, vrc_0, vsw_0, vsw_s, List.all_cons, List.all_nil, zc1_i, zc1_r, Bool.and_true, Bool.and_self, true_and, and_true, List.length_cons, List.length_nil, Nat.zero_le, Nat.reduceLeDiff, Nat.reduceAdd, Nat.reduceLT, Option.toList_none, List.nil_append]
        exact ⟨Or.inr trivial, k1 t6 _ (CO_uniq f1.1.2.1 g1.1 h2 h3 h4 hco c5) ((O5.mono (fun b z => z) (fun x z => Or.inl z)).tr (mW.of o6 (fun z => z) (fun b z => z.elim) (fun b z => Or.inr z))) e6⟩
    refine c_156 (a := 159) (n := sn (mS t s)) (f0 := mS t s) (by omega) g1.1 e1 h2 h3 h4 tg_159 f1.1 g1.2.1 (fun t2 o2 c2 => ?_) (fun t2 o2 c2 => ?_)
    · have I2 := key t2 o2
      simp only [v_12_0, v_12_1, v_12_2, v_12_5, v_12_8, v_12_9, v_12_10, v_12_11, v_12_14, v_12_15, v_12_18, v_12_19, v_12_20, v_12_23, v_12_24, v_12_27, v_12_28, v_12_31, v_12_34, v_12_37, v_12_38, v_12_39, v_12_40, v_12_43, v_12_44, v_12_45, v_12_46, v_12_49, v_12_52, v_12_53, vgi_0, vgi_s, vga_0, vga_s, vset_0, vset_s, vtk_0, vtk_s, vrc_0, vsw_0, vsw_s, List.all_cons, List.all_nil, zc1_i, zc1_r, Bool.and_true, Bool.and_self, true_and, and_true, List.length_cons, List.length_nil, Nat.zero_le, Nat.reduceLeDiff, Nat.reduceAdd, Nat.reduceLT, Option.toList_some, List.cons_append, List.nil_append]
      rw [if_pos trivial]
      refine ⟨Or.inl trivial, mod t2 none o2 c2 _ t2 (Or.inr I2) (m1 t2 o2) ?_ ?_ (fun t4 _ o4 => ⟨_, rfl, rfl, INVx.r I2 o4 (fun b z => by have := z.1; omega) (fun s z => by omega)⟩) (fun t4 g z => by cases z)⟩
      · exact f1.k (fun b k a => (o2 b (by unfold shF; omega)).1 k) ((o2 483 (by unfold shF; omega)).1 1)
      · exact g1.k (fun b k a => (o2 b (by unfold shF; omega)).1 k) ((o2 483 (by unfold shF; omega)).1 10)
    · have I2 := key t2 o2
      obtain ⟨⟨k5, s5⟩, -⟩ := id c2
      have w5 := (stk.ok g1.1 h2 h3 h4 k5 _ s5).1
      simp only [v_12_0, v_12_1, v_12_2, v_12_5, v_12_8, v_12_9, v_12_10, v_12_11, v_12_14, v_12_15, v_12_18, v_12_19, v_12_20, v_12_23, v_12_24, v_12_27, v_12_28, v_12_31, v_12_34, v_12_37, v_12_38, v_12_39, v_12_40, v_12_43, v_12_44, v_12_45, v_12_46, v_12_49, v_12_52, v_12_53, vgi_0, vgi_s, vga_0, vga_s, vset_0, vset_s, vtk_0, vtk_s, vrc_0, vsw_0, vsw_s, List.all_cons, List.all_nil, zc1_i, zc1_r, Bool.and_true, Bool.and_self, true_and, and_true, List.length_cons, List.length_nil, Nat.zero_le, Nat.reduceLeDiff, Nat.reduceAdd, Nat.reduceLT, Option.toList_some, List.cons_append, List.nil_append, tg_0, tf_0_0, tg_1, ln_1, tf_0_11, tg_159]
      rw [if_neg (by decide)]
      simp (disch := omega) only [nI_clamp, vinb_n, tf_1, st]
      refine ⟨hs, trivial, ?_⟩
      refine c_168 (by omega) st tg_159 (fun t3 o3 e3 => ?_)
      have I3 : INVx t3 s := INVx.cs I2 hs (Or.inl rfl) o3
      have i3 : ∀ b k, b < 243 ∨ 251 ≤ b → t3.1 b k = t2.1 b k := fun b k hb => o3.2 b (by simp; omega) k
      simp only [v_12_0, v_12_1, v_12_2, v_12_5, v_12_8, v_12_9, v_12_10, v_12_11, v_12_14, v_12_15, v_12_18, v_12_19, v_12_20, v_12_23, v_12_24, v_12_27, v_12_28, v_12_31, v_12_34, v_12_37, v_12_38, v_12_39, v_12_40, v_12_43, v_12_44, v_12_45, v_12_46, v_12_49, v_12_52, v_12_53, vgi_0, vgi_s, vga_0, vga_s, vset_0, vset_s, vtk_0, vtk_s, vrc_0, vsw_0, vsw_s, List.all_cons, List.all_nil, zc1_i, zc1_r, Bool.and_true, Bool.and_self, true_and, and_true, List.length_cons, List.length_nil, Nat.zero_le, Nat.reduceLeDiff, Nat.reduceAdd, Nat.reduceLT, Option.toList_none, List.nil_append]
      refine ⟨Or.inr trivial, mod t2 _ o2 c2 _ t3 (Or.inl I3) (fun r => (o3.ms (by simp; omega) r).trans (m1 t2 o2 r)) ?_ ?_ (fun t4 z => by cases z) (fun t4 g z o4 e4 => ?_)⟩
      · exact (f1.k (t' := t2) (fun b k a => (o2 b (by unfold shF; omega)).1 k) ((o2 483 (by unfold shF; omega)).1 1)).k (fun b k a => i3 b k (by omega)) (i3 _ _ (by omega))
      · exact (g1.k (t' := t2) (fun b k a => (o2 b (by unfold shF; omega)).1 k) ((o2 483 (by unfold shF; omega)).1 10)).k (fun b k a => i3 b k (by omega)) (i3 _ _ (by omega))
      · cases z
        exact ⟨_, rfl, rfl, I3.ms hs o4 (fun b z => by have := z.1; omega) (fun r z => by omega) (by rw [e3, e4]) (by rw [e4]; exact w5)⟩
  · simp only [v_12_0, v_12_1, v_12_2, v_12_5, v_12_8, v_12_9, v_12_10, v_12_11, v_12_14, v_12_15, v_12_18, v_12_19, v_12_20, v_12_23, v_12_24, v_12_27, v_12_28, v_12_31, v_12_34, v_12_37, v_12_38, v_12_39, v_12_40, v_12_43, v_12_44, v_12_45, v_12_46, v_12_49, v_12_52, v_12_53, vgi_0, vgi_s, vga_0, vga_s, vset_0, vset_s, vtk_0, vtk_s, vrc_0, vsw_0, vsw_s, List.all_cons, List.all_nil, zc1_i, zc1_r, Bool.and_true, Bool.and_self, true_and, and_true, List.length_cons, List.length_nil, Nat.zero_le, Nat.reduceLeDiff, Nat.reduceAdd, Nat.reduceLT, Option.toList_some, List.cons_append, List.nil_append]
    rw [if_pos trivial]
    refine ⟨Or.inl trivial, by omega, ?_⟩
    rw [ze_85]
    refine vc_ok none zH_85 31 false _ 85 0 _ _ _ _ ?_
    simp only [v_85_0, v_85_1, v_85_4, v_85_7, v_85_8, v_85_9, v_85_10, v_85_11, v_85_14, v_85_17, v_85_18, v_85_21, v_85_24, v_85_27, v_85_28, v_85_29, v_85_30, v_85_33, v_85_34, v_85_37, v_85_38, vgi_0, vgi_s, vga_0, vga_s, vset_0, vset_s, vtk_0, vtk_s, vrc_0, vsw_0, vsw_s, List.all_cons, List.all_nil, zc1_i, zc1_r, Bool.and_true, Bool.and_self, true_and, and_true, List.length_cons, List.length_nil, Nat.zero_le, Nat.reduceLeDiff, Nat.reduceAdd, Nat.reduceLT]
    refine c_47 (by omega) (fun s hs es => absurd es (hno s hs)) (fun _ => ?_)
    simp only [v_85_0, v_85_1, v_85_4, v_85_7, v_85_8, v_85_9, v_85_10, v_85_11, v_85_14, v_85_17, v_85_18, v_85_21, v_85_24, v_85_27, v_85_28, v_85_29, v_85_30, v_85_33, v_85_34, v_85_37, v_85_38, vgi_0, vgi_s, vga_0, vga_s, vset_0, vset_s, vtk_0, vtk_s, vrc_0, vsw_0, vsw_s, List.all_cons, List.all_nil, zc1_i, zc1_r, Bool.and_true, Bool.and_self, true_and, and_true, List.length_cons, List.length_nil, Nat.zero_le, Nat.reduceLeDiff, Nat.reduceAdd, Nat.reduceLT, Option.toList_some, List.cons_append, List.nil_append]
    rw [if_pos trivial]
    exact ⟨Or.inl trivial, _, rfl, rfl, hI⟩
end OP5
