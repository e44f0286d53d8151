/-! start: both sides. -/
section OP16
variable {d : Nat} {t t' : T} {F : Option Value → T → Prop}
/-- what the program has behind start: lists in its bags -/
theorem c_17 {s p n : Nat} {f : St} {S : Nat → List St} (hd : 8 ≤ d) (hI : INV t) (hs : s < 4) (hp : p < 4) (hf : mS t s = f) (hw : wfS f) (hn : f 0 = nI n) (hn6 : n ≤ 6) (hS : ∀ p, p < 4 → (S p).length ≤ 12 ∧ ((S p).Nodup ∧ (S p).Pairwise (fun a b => so a b ≤ 0)) ∧ liI t (275 + 52 * p) (S p)) (kF : ∀ g, BLU f n g → g ∉ S p → (S p).length = 12 → ∀ t', INV t' → (∀ x k, 483 ≤ x → t'.1 x k = t.1 x k) → F (some (.int (-2))) t') (k1 : ∀ g L, BLU f n g → L.Pairwise (fun a b => so a b ≤ 0) → ((g ∈ S p ∧ L.Perm (S p)) ∨ (g ∉ S p ∧ (S p).length < 12 ∧ L.Perm (S p ++ [g]))) → ∀ t', INVs t' → (∀ x k, 483 ≤ x → t'.1 x k = t.1 x k) → (∀ p', p' < 4 → bL t' (275 + 52 * p') (Lad S p L p') ∧ bL t' (301 + 52 * p') (Lad S p L p')) → F (some (.int (nI L.length))) t') : twc d 17 [.ref 0, .int (nI p), .int (nI s)] t F := by
  obtain ⟨g1, -⟩ := hI.sl hs
  rw [hf] at g1
  have st := sl_dec s hs
  obtain ⟨q, m, ru, rc, ec, Es, h1, h2, h3, h4, h5, h6, h7, h8, h9⟩ := id hI
  have br4 := bag_r p hp
  have hbd := bag_all _ br4.2.1
  have tb : vtag (275 + 52 * p) = 8 := hbd.2.2.2.2.2.1
  obtain ⟨s1, ⟨s2, s2b⟩, s3⟩ := hS p hp
  refine ⟨by omega, ?_⟩
  rw [ze_17]
  refine vc_ok none zH_17 55 false _ 17 0 _ _ _ _ ?_
  simp only [v_17_0, v_17_1, v_17_2, v_17_5, v_17_8, v_17_9, v_17_10, v_17_13, v_17_16, v_17_17, v_17_18, v_17_19, v_17_22, v_17_23, v_17_26, v_17_27, v_17_28, v_17_31, v_17_32, v_17_35, v_17_36, v_17_39, v_17_42, v_17_43, v_17_46, v_17_47, v_17_48, v_17_49, v_17_52, v_17_55, v_17_58, v_17_60, v_17_61, v_17_62, v_17_65, v_17_66, v_17_67, v_17_70, v_17_71, v_17_74, v_17_75, v_17_78, v_17_79, v_17_80, v_17_83, vgi_0, vgi_s, vga_0, vga_s, vset_0, vset_s, vtk_0, vtk_s, vrc_0, vsw_0, vsw_s, List.all_cons, List.all_nil, zc1_i, zc1_r, Bool.and_true, Bool.and_self, true_and, and_true, List.length_cons, List.length_nil, Nat.zero_le, Nat.reduceLeDiff, Nat.reduceAdd, Nat.reduceLT]
  refine c_22 (L := 4) (by omega) (by omega) (fun p' _ _ => ?_) (fun hno => absurd rfl (hno p hp))
  simp only [v_17_0, v_17_1, v_17_2, v_17_5, v_17_8, v_17_9, v_17_10, v_17_13, v_17_16, v_17_17, v_17_18, v_17_19, v_17_22, v_17_23, v_17_26, v_17_27, v_17_28, v_17_31, v_17_32, v_17_35, v_17_36, v_17_39, v_17_42, v_17_43, v_17_46, v_17_47, v_17_48, v_17_49, v_17_52, v_17_55, v_17_58, v_17_60, v_17_61, v_17_62, v_17_65, v_17_66, v_17_67, v_17_70, v_17_71, v_17_74, v_17_75, v_17_78, v_17_79, v_17_80, v_17_83, vgi_0, vgi_s, vga_0, vga_s, vset_0, vset_s, vtk_0, vtk_s, vrc_0, vsw_0, vsw_s, List.all_cons, List.all_nil, zc1_i, zc1_r, Bool.and_true, Bool.and_self, true_and, and_true, List.length_cons, List.length_nil, Nat.zero_le, Nat.reduceLeDiff, Nat.reduceAdd, Nat.reduceLT, Option.toList_some, List.cons_append, List.nil_append]
  rw [if_neg (by decide)]
  refine c_22 (L := 4) (by omega) (by omega) (fun s' _ _ => ?_) (fun hno => absurd rfl (hno s hs))
  simp only [v_17_0, v_17_1, v_17_2, v_17_5, v_17_8, v_17_9, v_17_10, v_17_13, v_17_16, v_17_17, v_17_18, v_17_19, v_17_22, v_17_23, v_17_26, v_17_27, v_17_28, v_17_31, v_17_32, v_17_35, v_17_36, v_17_39, v_17_42, v_17_43, v_17_46, v_17_47, v_17_48, v_17_49, v_17_52, v_17_55, v_17_58, v_17_60, v_17_61, v_17_62, v_17_65, v_17_66, v_17_67, v_17_70, v_17_71, v_17_74, v_17_75, v_17_78, v_17_79, v_17_80, v_17_83, vgi_0, vgi_s, vga_0, vga_s, vset_0, vset_s, vtk_0, vtk_s, vrc_0, vsw_0, vsw_s, List.all_cons, List.all_nil, zc1_i, zc1_r, Bool.and_true, Bool.and_self, true_and, and_true, List.length_cons, List.length_nil, Nat.zero_le, Nat.reduceLeDiff, Nat.reduceAdd, Nat.reduceLT, Option.toList_some, List.cons_append, List.nil_append, tg_0, tf_0_11, tg_159, tf_0_0, tg_1, ln_1]
  rw [if_neg (by decide)]
  simp (disch := omega) only [nI_clamp, vinb_n, tf_1]
  refine ⟨hs, ?_⟩
  refine c_168 (by omega) tg_159 st (fun t1 o1 e1 => ?_)
  rw [g1] at e1
  simp only [v_17_0, v_17_1, v_17_2, v_17_5, v_17_8, v_17_9, v_17_10, v_17_13, v_17_16, v_17_17, v_17_18, v_17_19, v_17_22, v_17_23, v_17_26, v_17_27, v_17_28, v_17_31, v_17_32, v_17_35, v_17_36, v_17_39, v_17_42, v_17_43, v_17_46, v_17_47, v_17_48, v_17_49, v_17_52, v_17_55, v_17_58, v_17_60, v_17_61, v_17_62, v_17_65, v_17_66, v_17_67, v_17_70, v_17_71, v_17_74, v_17_75, v_17_78, v_17_79, v_17_80, v_17_83, vgi_0, vgi_s, vga_0, vga_s, vset_0, vset_s, vtk_0, vtk_s, vrc_0, vsw_0, vsw_s, List.all_cons, List.all_nil, zc1_i, zc1_r, Bool.and_true, Bool.and_self, true_and, and_true, List.length_cons, List.length_nil, Nat.zero_le, Nat.reduceLeDiff, Nat.reduceAdd, Nat.reduceLT, Option.toList_none, List.nil_append, tg_0, tf_0_6, tg_143, tf_0_11, tg_159]
  refine c_141 (n := n) (by omega) tg_159 (by omega) (by rw [e1]; exact hw) (by rw [e1]; exact hn) hn6 (fun t2 o2 b2 => ?_)
  rw [e1] at b2
  have hwg := b2.wf hw hn6
  have oA : tO [144, 145, 146, 147, 148, 159, 160] t t2 := (o1.mono (by intro x hx; simp at hx ⊢; omega)).tr (o2.mono (by intro x hx; simp [mgB] at hx ⊢; omega))
  have I2 : INV t2 := INVx.c hI (tF.of oA (fun x hx => hx)) (fun x hx => by simp at hx; unfold scC; omega) (hI.bw.1.q oA.1).1
  have w2 : ∀ b, b ∈ bags → bwf t2 b := fun b hb => ((h5 b hb).q oA.1).1
  have l2 : ∀ p', p' < 4 → bL t2 (275 + 52 * p') (S p') := fun p' hp' => bL_k (hS p' hp').2.2.1 (h5 _ (bag_r p' hp').2.1) (by have := (hS p' hp').1; have := (bag_r p' hp').2.2.2; omega) (fun x k a c => oA.2 x (by simp; omega) k) (fun k => by rw [oA.1])
  simp only [v_17_0, v_17_1, v_17_2, v_17_5, v_17_8, v_17_9, v_17_10, v_17_13, v_17_16, v_17_17, v_17_18, v_17_19, v_17_22, v_17_23, v_17_26, v_17_27, v_17_28, v_17_31, v_17_32, v_17_35, v_17_36, v_17_39, v_17_42, v_17_43, v_17_46, v_17_47, v_17_48, v_17_49, v_17_52, v_17_55, v_17_58, v_17_60, v_17_61, v_17_62, v_17_65, v_17_66, v_17_67, v_17_70, v_17_71, v_17_74, v_17_75, v_17_78, v_17_79, v_17_80, v_17_83, vgi_0, vgi_s, vga_0, vga_s, vset_0, vset_s, vtk_0, vtk_s, vrc_0, vsw_0, vsw_s, List.all_cons, List.all_nil, zc1_i, zc1_r, Bool.and_true, Bool.and_self, true_and, and_true, List.length_cons, List.length_nil, Nat.zero_le, Nat.reduceLeDiff, Nat.reduceAdd, Nat.reduceLT, Option.toList_none, List.nil_append, tg_0, tf_0_8, tg_156, ln_156, tf_0_11, tg_159]
  simp (disch := omega) only [nI_clamp, vinb_n, tf_156, tb]
  refine ⟨hp, trivial, ?_⟩
  have gdS : ∀ k, k < (S p).length → bg t2 (275 + 52 * p) k = (S p).getD k z0 := (l2 p hp).2
  have rest : ∀ (t3 : T) (L3 : List St), t3.2 = t2.2 → (∀ x k, ¬ (275 + 52 * p ≤ x ∧ x < 301 + 52 * p) → t3.1 x k = t2.1 x k) → bL t3 (275 + 52 * p) L3 → L3.length ≤ 12 → (∀ x, x ∈ L3 → wfS x) → ((cS t2 159 ∈ S p ∧ L3 = S p) ∨ (cS t2 159 ∉ S p ∧ (S p).length < 12 ∧ L3 = S p ++ [cS t2 159])) → twc (d - 1) 109 [.ref (275 + 52 * p)] t3 (fun r t4 => r = none ∧ twc (d - 1) 27 [.ref 0] t4 (fun r t5 => r = none ∧ t5.1 (275 + 52 * p) 1 = nI L3.length ∧ F (some (.int (nI L3.length))) t5)) := by
    intro t3 L3 r3 i3 l3 c3 w3 hL3
    have bw3 : ∀ b, b ∈ bags → bwf t3 b := fun b hb => ((w2 b hb).q r3).1
    refine c_109 (c := L3.length) (by omega) br4.2.1 (bw3 _ br4.2.1) l3.1 (by omega) (fun k hk => by rw [l3.2 k hk]; exact w3 _ (gd_mem hk)) (fun t4 hs4 srt4 => ⟨rfl, ?_⟩)
    obtain ⟨u1, u2, u3, u4⟩ := hs4
    have perm : (lst (bg t4 (275 + 52 * p)) L3.length).Perm L3 := by
      have := u4
      rw [lst_gd l3.2] at this
      exact this
    have bg4 : bgI t4 := fun b hb => by
      by_cases z : b = 275 + 52 * p
      · rw [z]; exact u3
      · have := bag_dis b hb _ br4.2.1 z
        exact ((bw3 b hb).k (t' := t4) (fun k => u2 _ _ (by omega))).1
    have l4 : ∀ p', p' < 4 → (Lad S p (lst (bg t4 (275 + 52 * p)) L3.length) p').length ≤ 12 ∧ bL t4 (275 + 52 * p') (Lad S p (lst (bg t4 (275 + 52 * p)) L3.length) p') := fun p' hp' => by
      by_cases z : p' = p
      · subst z
        rw [Lad_e, lst_len]
        refine ⟨c3, by rw [lst_len, u1]; exact l3.1, fun k hk => ?_⟩
        rw [lst_len] at hk
        rw [lst_get _ k hk]
      · rw [Lad_o z]
        refine ⟨(hS p' hp').1, bL_k (l2 p' hp') (w2 _ (bag_r p' hp').2.1) (by have := (hS p' hp').1; have := (bag_r p' hp').2.2.2; omega) (fun x k a c => ?_) (fun k => ?_)⟩
        · have := (bag_r p' hp').2.2.2
          rw [u1]; exact i3 x k (by omega)
        · rw [u2 _ _ (by omega), r3]
    refine c_27 (S := Lad S p (lst (bg t4 (275 + 52 * p)) L3.length)) (by omega) bg4 l4 (fun t5 o5 l5 => ?_)
    have i5 : ∀ x k, ¬ (275 ≤ x ∧ x < 483) → t5.1 x k = t2.1 x k := fun x k hx => by
      rw [o5.2 x (fun ⟨p', a1, a2, a3⟩ => by omega), u1]; exact i3 x k (by omega)
    have c5 : t5.1 (275 + 52 * p) 1 = nI L3.length := by
      rw [o5.2 _ (fun ⟨p', a1, a2, a3⟩ => by omega), u1]; exact l3.1
    have bg5 : bgI t5 := fun b hb => ((bg4 b hb).q o5.1).1
    have key := k1 (cS t2 159) (lst (bg t4 (275 + 52 * p)) L3.length) b2 (lst_srt _ srt4) (by
      rcases hL3 with ⟨x1, x2⟩ | ⟨x1, x2, x3⟩
      · exact Or.inl ⟨x1, by rw [← x2]; exact perm⟩
      · exact Or.inr ⟨x1, x2, by rw [← x3]; exact perm⟩) t5 (I2.s.c (fun x k a c => i5 x k (by omega)) (fun x k a => by
        rw [o5.1, u2 _ _ (by omega), r3]) bg5) (fun x k hx => by
        rw [i5 x k (by omega), oA.2 x (by simp; omega)]) (fun p' hp' => ⟨?_, l5 p' hp'⟩)
    · rw [lst_len] at key
      exact ⟨rfl, c5, key⟩
    · obtain ⟨x1, x2⟩ := l4 p' hp'
      exact bL_k x2 (bg4 _ (bag_r p' hp').2.1) (by have := (bag_r p' hp').2.2.2; omega) (fun x k a c => o5.2 x (fun ⟨p'', a1, a2, a3⟩ => by have := (bag_r p' hp').2.2.2; omega) k) (fun k => by rw [o5.1])
  refine c_107 (c := (S p).length) (by omega) br4.2.1 (w2 _ br4.2.1) (l2 p hp).1 (by omega) tg_159 (fun k hk => by rw [gdS k hk]; exact s3.2 _ (gd_mem hk)) hwg (fun k hk ek => ?_) (fun hne => ?_)
  · have hm : cS t2 159 ∈ S p := by
      rw [gdS k hk] at ek
      rw [← ek]; exact gd_mem hk
    simp only [v_17_0, v_17_1, v_17_2, v_17_5, v_17_8, v_17_9, v_17_10, v_17_13, v_17_16, v_17_17, v_17_18, v_17_19, v_17_22, v_17_23, v_17_26, v_17_27, v_17_28, v_17_31, v_17_32, v_17_35, v_17_36, v_17_39, v_17_42, v_17_43, v_17_46, v_17_47, v_17_48, v_17_49, v_17_52, v_17_55, v_17_58, v_17_60, v_17_61, v_17_62, v_17_65, v_17_66, v_17_67, v_17_70, v_17_71, v_17_74, v_17_75, v_17_78, v_17_79, v_17_80, v_17_83, vgi_0, vgi_s, vga_0, vga_s, vset_0, vset_s, vtk_0, vtk_s, vrc_0, vsw_0, vsw_s, List.all_cons, List.all_nil, zc1_i, zc1_r, Bool.and_true, Bool.and_self, true_and, and_true, List.length_cons, List.length_nil, Nat.zero_le, Nat.reduceLeDiff, Nat.reduceAdd, Nat.reduceLT, Option.toList_some, List.cons_append, List.nil_append, tg_0, tf_0_8, tg_156, ln_156]
    rw [if_neg (by decide)]
    simp (disch := omega) only [nI_clamp, vinb_n, tf_156, tb]
    refine ⟨hp, trivial, ?_⟩
    refine twc.mono (rest t2 (S p) rfl (fun _ _ _ => rfl) (l2 p hp) s1 s3.2 (Or.inl ⟨hm, rfl⟩)) (fun r t4 hr => ?_)
    obtain ⟨rfl, hr⟩ := hr
    simp only [v_17_0, v_17_1, v_17_2, v_17_5, v_17_8, v_17_9, v_17_10, v_17_13, v_17_16, v_17_17, v_17_18, v_17_19, v_17_22, v_17_23, v_17_26, v_17_27, v_17_28, v_17_31, v_17_32, v_17_35, v_17_36, v_17_39, v_17_42, v_17_43, v_17_46, v_17_47, v_17_48, v_17_49, v_17_52, v_17_55, v_17_58, v_17_60, v_17_61, v_17_62, v_17_65, v_17_66, v_17_67, v_17_70, v_17_71, v_17_74, v_17_75, v_17_78, v_17_79, v_17_80, v_17_83, vgi_0, vgi_s, vga_0, vga_s, vset_0, vset_s, vtk_0, vtk_s, vrc_0, vsw_0, vsw_s, List.all_cons, List.all_nil, zc1_i, zc1_r, Bool.and_true, Bool.and_self, true_and, and_true, List.length_cons, List.length_nil, Nat.zero_le, Nat.reduceLeDiff, Nat.reduceAdd, Nat.reduceLT, Option.toList_none, List.nil_append, tg_0]
    refine twc.mono hr (fun r t5 hr5 => ?_)
    obtain ⟨rfl, c5, hF⟩ := hr5
    simp only [v_17_0, v_17_1, v_17_2, v_17_5, v_17_8, v_17_9, v_17_10, v_17_13, v_17_16, v_17_17, v_17_18, v_17_19, v_17_22, v_17_23, v_17_26, v_17_27, v_17_28, v_17_31, v_17_32, v_17_35, v_17_36, v_17_39, v_17_42, v_17_43, v_17_46, v_17_47, v_17_48, v_17_49, v_17_52, v_17_55, v_17_58, v_17_60, v_17_61, v_17_62, v_17_65, v_17_66, v_17_67, v_17_70, v_17_71, v_17_74, v_17_75, v_17_78, v_17_79, v_17_80, v_17_83, vgi_0, vgi_s, vga_0, vga_s, vset_0, vset_s, vtk_0, vtk_s, vrc_0, vsw_0, vsw_s, List.all_cons, List.all_nil, zc1_i, zc1_r, Bool.and_true, Bool.and_self, true_and, and_true, List.length_cons, List.length_nil, Nat.zero_le, Nat.reduceLeDiff, Nat.reduceAdd, Nat.reduceLT, Option.toList_none, List.nil_append, tg_0, tf_0_8, tg_156, ln_156]
    simp (disch := omega) only [nI_clamp, vinb_n, tf_156, tb, c5]
    exact ⟨hp, hF⟩
  · have nm : cS t2 159 ∉ S p := fun hm => by
      rw [← lst_gd gdS] at hm
      obtain ⟨k, hk, ek⟩ := lst_mem.mp hm
      exact hne k hk ek
    refine ⟨fun hc t3 o3 e3 w3 => ?_, fun hc => ?_⟩
    · have la := bL_app br4.2.1 (w2 _ br4.2.1) (l2 p hp) hc o3 w3 e3
      obtain ⟨j1, j2, j3⟩ := (w2 _ br4.2.1).1 (S p).length hc
      simp only [v_17_0, v_17_1, v_17_2, v_17_5, v_17_8, v_17_9, v_17_10, v_17_13, v_17_16, v_17_17, v_17_18, v_17_19, v_17_22, v_17_23, v_17_26, v_17_27, v_17_28, v_17_31, v_17_32, v_17_35, v_17_36, v_17_39, v_17_42, v_17_43, v_17_46, v_17_47, v_17_48, v_17_49, v_17_52, v_17_55, v_17_58, v_17_60, v_17_61, v_17_62, v_17_65, v_17_66, v_17_67, v_17_70, v_17_71, v_17_74, v_17_75, v_17_78, v_17_79, v_17_80, v_17_83, vgi_0, vgi_s, vga_0, vga_s, vset_0, vset_s, vtk_0, vtk_s, vrc_0, vsw_0, vsw_s, List.all_cons, List.all_nil, zc1_i, zc1_r, Bool.and_true, Bool.and_self, true_and, and_true, List.length_cons, List.length_nil, Nat.zero_le, Nat.reduceLeDiff, Nat.reduceAdd, Nat.reduceLT, Option.toList_some, List.cons_append, List.nil_append, tg_0, tf_0_8, tg_156, ln_156]
      rw [if_neg (by decide)]
      simp (disch := omega) only [nI_clamp, vinb_n, tf_156, tb]
      refine ⟨hp, trivial, ?_⟩
      refine twc.mono (rest t3 (S p ++ [cS t2 159]) o3.1 (fun x k hx => o3.2 x (by simp; omega) k) la (by simp; omega) (fun x hx => by
          rcases List.mem_append.mp hx with hx | hx
          · exact s3.2 x hx
          · rw [List.mem_singleton.mp hx]; exact hwg) (Or.inr ⟨nm, by omega, rfl⟩)) (fun r t4 hr => ?_)
      obtain ⟨rfl, hr⟩ := hr
      simp only [v_17_0, v_17_1, v_17_2, v_17_5, v_17_8, v_17_9, v_17_10, v_17_13, v_17_16, v_17_17, v_17_18, v_17_19, v_17_22, v_17_23, v_17_26, v_17_27, v_17_28, v_17_31, v_17_32, v_17_35, v_17_36, v_17_39, v_17_42, v_17_43, v_17_46, v_17_47, v_17_48, v_17_49, v_17_52, v_17_55, v_17_58, v_17_60, v_17_61, v_17_62, v_17_65, v_17_66, v_17_67, v_17_70, v_17_71, v_17_74, v_17_75, v_17_78, v_17_79, v_17_80, v_17_83, vgi_0, vgi_s, vga_0, vga_s, vset_0, vset_s, vtk_0, vtk_s, vrc_0, vsw_0, vsw_s, List.all_cons, List.all_nil, zc1_i, zc1_r, Bool.and_true, Bool.and_self, true_and, and_true, List.length_cons, List.length_nil, Nat.zero_le, Nat.reduceLeDiff, Nat.reduceAdd, Nat.reduceLT, Option.toList_none, List.nil_append, tg_0]
      refine twc.mono hr (fun r t5 hr5 => ?_)
      obtain ⟨rfl, c5, hF⟩ := hr5
      simp only [v_17_0, v_17_1, v_17_2, v_17_5, v_17_8, v_17_9, v_17_10, v_17_13, v_17_16, v_17_17, v_17_18, v_17_19, v_17_22, v_17_23, v_17_26, v_17_27, v_17_28, v_17_31, v_17_32, v_17_35, v_17_36, v_17_39, v_17_42, v_17_43, v_17_46, v_17_47, v_17_48, v_17_49, v_17_52, v_17_55, v_17_58, v_17_60, v_17_61, v_17_62, v_17_65, v_17_66, v_17_67, v_17_70, v_17_71, v_17_74, v_17_75, v_17_78, v_17_79, v_17_80, v_17_83, vgi_0, vgi_s, vga_0, vga_s, vset_0, vset_s, vtk_0, vtk_s, vrc_0, vsw_0, vsw_s, List.all_cons, List.all_nil, zc1_i, zc1_r, Bool.and_true, Bool.and_self, true_and, and_true, List.length_cons, List.length_nil, Nat.zero_le, Nat.reduceLeDiff, Nat.reduceAdd, Nat.reduceLT, Option.toList_none, List.nil_append, tg_0, tf_0_8, tg_156, ln_156]
      simp (disch := omega) only [nI_clamp, vinb_n, tf_156, tb, c5]
      exact ⟨hp, hF⟩
    · simp only [v_17_0, v_17_1, v_17_2, v_17_5, v_17_8, v_17_9, v_17_10, v_17_13, v_17_16, v_17_17, v_17_18, v_17_19, v_17_22, v_17_23, v_17_26, v_17_27, v_17_28, v_17_31, v_17_32, v_17_35, v_17_36, v_17_39, v_17_42, v_17_43, v_17_46, v_17_47, v_17_48, v_17_49, v_17_52, v_17_55, v_17_58, v_17_60, v_17_61, v_17_62, v_17_65, v_17_66, v_17_67, v_17_70, v_17_71, v_17_74, v_17_75, v_17_78, v_17_79, v_17_80, v_17_83, vgi_0, vgi_s, vga_0, vga_s, vset_0, vset_s, vtk_0, vtk_s, vrc_0, vsw_0, vsw_s, List.all_cons, List.all_nil, zc1_i, zc1_r, Bool.and_true, Bool.and_self, true_and, and_true, List.length_cons, List.length_nil, Nat.zero_le, Nat.reduceLeDiff, Nat.reduceAdd, Nat.reduceLT, Option.toList_some, List.cons_append, List.nil_append]
      rw [if_pos trivial]
      exact kF (cS t2 159) b2 nm (by omega) t2 I2 (fun x k hx => oA.2 x (by simp; omega) k)
theorem op_start (pv sv : Int32) : OP 17 97 [.int pv, .int sv] := by
  intro d t hd hI
  obtain ⟨q, m, ru, rc, ec, Es, h1, h2, h3, h4, h5, h6, h7, h8, h9⟩ := id hI
  have bad : (∀ p s, p < 4 → s < 4 → pv = nI p → sv ≠ nI s) → twc d 17 [.ref 0, .int pv, .int sv] t (fun r t1 => r = some (.int (-1)) ∧ t1 = t) ∧ twc d 97 [.ref 483, .int pv, .int sv] t (fun r t1 => r = some (.int (-1)) ∧ t1 = t) := by
    intro hno
    refine ⟨⟨by omega, ?_⟩, by omega, ?_⟩
    · rw [ze_17]
      refine vc_ok none zH_17 55 false _ 17 0 _ _ _ _ ?_
      simp only [v_17_0, v_17_1, v_17_2, v_17_5, v_17_8, v_17_9, v_17_10, v_17_13, v_17_16, v_17_17, v_17_18, v_17_19, v_17_22, v_17_23, v_17_26, v_17_27, v_17_28, v_17_31, v_17_32, v_17_35, v_17_36, v_17_39, v_17_42, v_17_43, v_17_46, v_17_47, v_17_48, v_17_49, v_17_52, v_17_55, v_17_58, v_17_60, v_17_61, v_17_62, v_17_65, v_17_66, v_17_67, v_17_70, v_17_71, v_17_74, v_17_75, v_17_78, v_17_79, v_17_80, v_17_83, vgi_0, vgi_s, vga_0, vga_s, vset_0, vset_s, vtk_0, vtk_s, vrc_0, vsw_0, vsw_s, List.all_cons, List.all_nil, zc1_i, zc1_r, Bool.and_true, Bool.and_self, true_and, and_true, List.length_cons, List.length_nil, Nat.zero_le, Nat.reduceLeDiff, Nat.reduceAdd, Nat.reduceLT]
      refine c_22 (L := 4) (by omega) (by omega) (fun p hp ep => ?_) (fun _ => ?_)
      · simp only [v_17_0, v_17_1, v_17_2, v_17_5, v_17_8, v_17_9, v_17_10, v_17_13, v_17_16, v_17_17, v_17_18, v_17_19, v_17_22, v_17_23, v_17_26, v_17_27, v_17_28, v_17_31, v_17_32, v_17_35, v_17_36, v_17_39, v_17_42, v_17_43, v_17_46, v_17_47, v_17_48, v_17_49, v_17_52, v_17_55, v_17_58, v_17_60, v_17_61, v_17_62, v_17_65, v_17_66, v_17_67, v_17_70, v_17_71, v_17_74, v_17_75, v_17_78, v_17_79, v_17_80, v_17_83, vgi_0, vgi_s, vga_0, vga_s, vset_0, vset_s, vtk_0, vtk_s, vrc_0, vsw_0, vsw_s, List.all_cons, List.all_nil, zc1_i, zc1_r, Bool.and_true, Bool.and_self, true_and, and_true, List.length_cons, List.length_nil, Nat.zero_le, Nat.reduceLeDiff, Nat.reduceAdd, Nat.reduceLT, Option.toList_some, List.cons_append, List.nil_append]
        rw [if_neg (by decide)]
        refine c_22 (L := 4) (by omega) (by omega) (fun s hs es => absurd es (hno p s hp hs ep)) (fun _ => ?_)
        simp only [v_17_0, v_17_1, v_17_2, v_17_5, v_17_8, v_17_9, v_17_10, v_17_13, v_17_16, v_17_17, v_17_18, v_17_19, v_17_22, v_17_23, v_17_26, v_17_27, v_17_28, v_17_31, v_17_32, v_17_35, v_17_36, v_17_39, v_17_42, v_17_43, v_17_46, v_17_47, v_17_48, v_17_49, v_17_52, v_17_55, v_17_58, v_17_60, v_17_61, v_17_62, v_17_65, v_17_66, v_17_67, v_17_70, v_17_71, v_17_74, v_17_75, v_17_78, v_17_79, v_17_80, v_17_83, vgi_0, vgi_s, vga_0, vga_s, vset_0, vset_s, vtk_0, vtk_s, vrc_0, vsw_0, vsw_s, List.all_cons, List.all_nil, zc1_i, zc1_r, Bool.and_true, Bool.and_self, true_and, and_true, List.length_cons, List.length_nil, Nat.zero_le, Nat.reduceLeDiff, Nat.reduceAdd, Nat.reduceLT, Option.toList_some, List.cons_append, List.nil_append]
        rw [if_pos trivial]
        exact trivial
      · simp only [v_17_0, v_17_1, v_17_2, v_17_5, v_17_8, v_17_9, v_17_10, v_17_13, v_17_16, v_17_17, v_17_18, v_17_19, v_17_22, v_17_23, v_17_26, v_17_27, v_17_28, v_17_31, v_17_32, v_17_35, v_17_36, v_17_39, v_17_42, v_17_43, v_17_46, v_17_47, v_17_48, v_17_49, v_17_52, v_17_55, v_17_58, v_17_60, v_17_61, v_17_62, v_17_65, v_17_66, v_17_67, v_17_70, v_17_71, v_17_74, v_17_75, v_17_78, v_17_79, v_17_80, v_17_83, vgi_0, vgi_s, vga_0, vga_s, vset_0, vset_s, vtk_0, vtk_s, vrc_0, vsw_0, vsw_s, List.all_cons, List.all_nil, zc1_i, zc1_r, Bool.and_true, Bool.and_self, true_and, and_true, List.length_cons, List.length_nil, Nat.zero_le, Nat.reduceLeDiff, Nat.reduceAdd, Nat.reduceLT, Option.toList_some, List.cons_append, List.nil_append]
        rw [if_pos trivial]
        exact trivial
    · rw [ze_97]
      refine vc_ok none zH_97 79 false _ 97 0 _ _ _ _ ?_
      simp only [v_97_0, v_97_1, v_97_4, v_97_7, v_97_8, v_97_11, v_97_14, v_97_15, v_97_16, v_97_17, v_97_18, v_97_21, v_97_24, v_97_25, v_97_28, v_97_31, v_97_33, v_97_35, v_97_36, v_97_37, v_97_38, v_97_39, v_97_40, v_97_41, v_97_42, v_97_45, v_97_46, v_97_47, v_97_50, v_97_53, v_97_55, v_97_57, v_97_59, v_97_62, v_97_64, v_97_65, v_97_67, v_97_68, v_97_71, v_97_72, v_97_73, v_97_76, v_97_77, v_97_80, v_97_81, v_97_83, v_97_84, v_97_87, v_97_88, v_97_91, v_97_92, v_97_93, v_97_94, v_97_95, v_97_96, v_97_97, v_97_98, v_97_101, v_97_102, v_97_105, v_97_107, v_97_109, v_97_112, v_97_114, v_97_117, v_97_118, v_97_121, v_97_122, v_97_123, vgi_0, vgi_s, vga_0, vga_s, vset_0, vset_s, vtk_0, vtk_s, vrc_0, vsw_0, vsw_s, List.all_cons, List.all_nil, zc1_i, zc1_r, Bool.and_true, Bool.and_self, true_and, and_true, List.length_cons, List.length_nil, Nat.zero_le, Nat.reduceLeDiff, Nat.reduceAdd, Nat.reduceLT]
      refine c_93 (by omega) (fun p hp ep => ?_) (fun _ => ?_)
      · simp only [v_97_0, v_97_1, v_97_4, v_97_7, v_97_8, v_97_11, v_97_14, v_97_15, v_97_16, v_97_17, v_97_18, v_97_21, v_97_24, v_97_25, v_97_28, v_97_31, v_97_33, v_97_35, v_97_36, v_97_37, v_97_38, v_97_39, v_97_40, v_97_41, v_97_42, v_97_45, v_97_46, v_97_47, v_97_50, v_97_53, v_97_55, v_97_57, v_97_59, v_97_62, v_97_64, v_97_65, v_97_67, v_97_68, v_97_71, v_97_72, v_97_73, v_97_76, v_97_77, v_97_80, v_97_81, v_97_83, v_97_84, v_97_87, v_97_88, v_97_91, v_97_92, v_97_93, v_97_94, v_97_95, v_97_96, v_97_97, v_97_98, v_97_101, v_97_102, v_97_105, v_97_107, v_97_109, v_97_112, v_97_114, v_97_117, v_97_118, v_97_121, v_97_122, v_97_123, vgi_0, vgi_s, vga_0, vga_s, vset_0, vset_s, vtk_0, vtk_s, vrc_0, vsw_0, vsw_s, List.all_cons, List.all_nil, zc1_i, zc1_r, Bool.and_true, Bool.and_self, true_and, and_true, List.length_cons, List.length_nil, Nat.zero_le, Nat.reduceLeDiff, Nat.reduceAdd, Nat.reduceLT, Option.toList_some, List.cons_append, List.nil_append]
        rw [if_neg (by decide)]
        refine c_47 (by omega) (fun s hs es => absurd es (hno p s hp hs ep)) (fun _ => ?_)
        simp only [v_97_0, v_97_1, v_97_4, v_97_7, v_97_8, v_97_11, v_97_14, v_97_15, v_97_16, v_97_17, v_97_18, v_97_21, v_97_24, v_97_25, v_97_28, v_97_31, v_97_33, v_97_35, v_97_36, v_97_37, v_97_38, v_97_39, v_97_40, v_97_41, v_97_42, v_97_45, v_97_46, v_97_47, v_97_50, v_97_53, v_97_55, v_97_57, v_97_59, v_97_62, v_97_64, v_97_65, v_97_67, v_97_68, v_97_71, v_97_72, v_97_73, v_97_76, v_97_77, v_97_80, v_97_81, v_97_83, v_97_84, v_97_87, v_97_88, v_97_91, v_97_92, v_97_93, v_97_94, v_97_95, v_97_96, v_97_97, v_97_98, v_97_101, v_97_102, v_97_105, v_97_107, v_97_109, v_97_112, v_97_114, v_97_117, v_97_118, v_97_121, v_97_122, v_97_123, vgi_0, vgi_s, vga_0, vga_s, vset_0, vset_s, vtk_0, vtk_s, vrc_0, vsw_0, vsw_s, List.all_cons, List.all_nil, zc1_i, zc1_r, Bool.and_true, Bool.and_self, true_and, and_true, List.length_cons, List.length_nil, Nat.zero_le, Nat.reduceLeDiff, Nat.reduceAdd, Nat.reduceLT, Option.toList_some, List.cons_append, List.nil_append]
        rw [if_pos trivial]
        exact trivial
      · simp only [v_97_0, v_97_1, v_97_4, v_97_7, v_97_8, v_97_11, v_97_14, v_97_15, v_97_16, v_97_17, v_97_18, v_97_21, v_97_24, v_97_25, v_97_28, v_97_31, v_97_33, v_97_35, v_97_36, v_97_37, v_97_38, v_97_39, v_97_40, v_97_41, v_97_42, v_97_45, v_97_46, v_97_47, v_97_50, v_97_53, v_97_55, v_97_57, v_97_59, v_97_62, v_97_64, v_97_65, v_97_67, v_97_68, v_97_71, v_97_72, v_97_73, v_97_76, v_97_77, v_97_80, v_97_81, v_97_83, v_97_84, v_97_87, v_97_88, v_97_91, v_97_92, v_97_93, v_97_94, v_97_95, v_97_96, v_97_97, v_97_98, v_97_101, v_97_102, v_97_105, v_97_107, v_97_109, v_97_112, v_97_114, v_97_117, v_97_118, v_97_121, v_97_122, v_97_123, vgi_0, vgi_s, vga_0, vga_s, vset_0, vset_s, vtk_0, vtk_s, vrc_0, vsw_0, vsw_s, List.all_cons, List.all_nil, zc1_i, zc1_r, Bool.and_true, Bool.and_self, true_and, and_true, List.length_cons, List.length_nil, Nat.zero_le, Nat.reduceLeDiff, Nat.reduceAdd, Nat.reduceLT, Option.toList_some, List.cons_append, List.nil_append]
        rw [if_pos trivial]
        exact trivial
  by_cases ok : ∃ p s, p < 4 ∧ s < 4 ∧ pv = nI p ∧ sv = nI s
  · obtain ⟨p, s, hp, hs, rfl, rfl⟩ := ok
    obtain ⟨g1, g2, g3, g4⟩ := hI.sl hs
    obtain ⟨S, S', hS⟩ := h9.all
    have memP : ∀ g, g ∈ S p ↔ g ∈ S' p := fun g => (hS p hp).2.2.1.mem_iff
    have lenP : (S p).length = (S' p).length := (hS p hp).2.2.1.length_eq
    refine c_17 (by omega) hI hs hp rfl g2 g3 g4 (fun p' hp' => ⟨(hS p' hp').1, (hS p' hp').2.1, (hS p' hp').2.2.2.1⟩) (fun g hg ng l12 t1 I1 i1 => ?_) (fun g L hg hL hLp t1 I1 i1 l1 => ?_)
    · have m1 : ∀ r, mS t1 r = mS t r := fun r => by
        funext k; unfold mS; rw [i1 _ _ (by omega)]
      refine c_97 (g := g) (S' := S') (by omega) hs hp (m1 s) g2 g3 g4 hg (fun p' hp' => ?_) (fun _ _ t2 o2 => ⟨_, rfl, rfl, INVx.r I1 (mW.of (B := mbA) (R := fun s => s = 182 ∨ s = 183) o2 (fun z => by unfold mbA at z; omega) (fun b z => z) (fun b z => z)) (fun b z => by unfold mbA at z; omega) (fun s z => by omega)⟩) (fun U _ hU => ?_)
      · obtain ⟨x1, x2, x3, x4, x5, x6⟩ := hS p' hp'
        have := x3.length_eq
        exact ⟨by omega, fun x hx => x4.2 x (x3.mem_iff.mpr hx), by rw [i1 _ _ (by omega)]; exact x5, fun k hk => by rw [m1]; exact x6 k hk⟩
      · rcases hU with ⟨y, -⟩ | ⟨-, y, -⟩
        · exact absurd ((memP g).mpr y) ng
        · omega
    · have m1 : ∀ r, mS t1 r = mS t r := fun r => by
        funext k; unfold mS; rw [i1 _ _ (by omega)]
      refine c_97 (g := g) (S' := S') (by omega) hs hp (m1 s) g2 g3 g4 hg (fun p' hp' => ?_) (fun ng l12 t2 o2 => ?_) (fun U hU1 hU t2 o2 f2 => ?_)
      · obtain ⟨x1, x2, x3, x4, x5, x6⟩ := hS p' hp'
        have := x3.length_eq
        exact ⟨by omega, fun x hx => x4.2 x (x3.mem_iff.mpr hx), by rw [i1 _ _ (by omega)]; exact x5, fun k hk => by rw [m1]; exact x6 k hk⟩
      · rcases hLp with ⟨y, -⟩ | ⟨-, y, -⟩
        · exact absurd ((memP g).mp y) ng
        · omega
      · have hwg := hg.wf g2 g4
        have LU : L.Perm (U p) ∧ L.Nodup ∧ L.length ≤ 12 ∧ ∀ x, x ∈ L → wfS x := by
          obtain ⟨x1, ⟨x2, -⟩, x3, x4, -⟩ := hS p hp
          rcases hLp with ⟨y1, y2⟩ | ⟨y1, y2, y3⟩
          · rcases hU with ⟨z1, z2⟩ | ⟨z1, -⟩
            · refine ⟨by rw [z2]; exact y2.trans x3, y2.nodup_iff.mpr x2, by rw [y2.length_eq]; exact x1, fun x hx => x4.2 x (y2.mem_iff.mp hx)⟩
            · exact absurd ((memP g).mp y1) z1
          · rcases hU with ⟨z1, -⟩ | ⟨z1, z2, z3⟩
            · exact absurd ((memP g).mpr z1) y1
            · refine ⟨by rw [z3]; exact y3.trans (x3.append_right _), y3.nodup_iff.mpr ?_, by rw [y3.length_eq]; simp; omega, fun x hx => ?_⟩
              · rw [List.nodup_append]
                refine ⟨x2, by simp, fun a ha b hb e => ?_⟩
                rw [List.mem_singleton.mp hb] at e
                exact y1 (e ▸ ha)
              · rcases List.mem_append.mp (y3.mem_iff.mp hx) with hx | hx
                · exact x4.2 x hx
                · rw [List.mem_singleton.mp hx]; exact hwg
        obtain ⟨q1, q2, q3, q4⟩ := LU
        have ci : ∀ b k, b < 503 → b ≠ 484 → t2.1 b k = t1.1 b k := fun b k h1 h2 => o2.2.1 b h2 (fun z => by unfold stA at z; omega) k
        have r2 := o2.1
        obtain ⟨qq, mm, ru1, rc1, ec1, Es1, -, -, -, -, bg1, -⟩ := id I1
        have all4 : ∀ p', p' < 4 → (Lad S p L p').length ≤ 12 ∧ ((Lad S p L p').Nodup ∧ (Lad S p L p').Pairwise (fun a b => so a b ≤ 0)) ∧ (Lad S p L p').Perm (U p') ∧ ∀ x, x ∈ Lad S p L p' → wfS x := fun p' hp' => by
          by_cases z : p' = p
          · subst z; rw [Lad_e]; exact ⟨q3, ⟨q2, hL⟩, q1, q4⟩
          · rw [Lad_o z, hU1 p' z]
            obtain ⟨x1, x2, x3, x4, -⟩ := hS p' hp'
            exact ⟨x1, x2, x3, x4.2⟩
        refine ⟨_, rfl, by rw [q1.length_eq], I1.r ci r2 (fun s hs => o2.2.2 s (fun z => by unfold stQ at z; omega)) (fun p' hp' => ?_) (fun p' hp' => ?_)⟩
        · obtain ⟨x1, x2, x3, x4⟩ := all4 p' hp'
          obtain ⟨z1, z2, z3, L0, z4, z5⟩ := f2 p' hp'
          have e0 : L0 = Lad S p L p' := std_eq z4.2 x2.2 (z4.1.trans x3.symm) (fun x hx => x4 x ((z4.1.trans x3.symm).mem_iff.mp hx))
          have br' := bag_r p' hp'
          refine ⟨Lad S p L p', x1, ⟨bL_k (l1 p' hp').2 (bg1 _ br'.1) (by omega) (fun x k a c => ci x k (by omega) (by omega)) (fun k => by rw [r2]), x4⟩, by rw [x3.length_eq]; exact z3, ?_⟩
          rw [← e0]; exact z5
        · obtain ⟨x1, x2, x3, x4⟩ := all4 p' hp'
          obtain ⟨z1, z2, -⟩ := f2 p' hp'
          have br' := bag_r p' hp'
          exact ⟨Lad S p L p', U p', x1, x2, x3, ⟨bL_k (l1 p' hp').1 (bg1 _ br'.2.1) (by omega) (fun x k a c => ci x k (by omega) (by omega)) (fun k => by rw [r2]), x4⟩, z1, z2⟩
  · have hb := bad (fun p s hp hs ep es => ok ⟨p, s, hp, hs, ep, es⟩)
    refine twc.mono hb.1 (fun r t1 hr => ?_)
    obtain ⟨rfl, rfl⟩ := hr
    refine twc.mono hb.2 (fun r' t2 hr' => ?_)
    obtain ⟨rfl, rfl⟩ := hr'
    exact ⟨_, rfl, rfl, hI⟩
end OP16
