/-! start: the reference. -/
section OP15
variable {d : Nat} {t t' : T} {F : Option Value → T → Prop}
def Lad (S : Nat → List St) (p : Nat) (L : List St) : Nat → List St := fun p' => if p' = p then L else S p'
theorem Lad_e {S : Nat → List St} {p : Nat} {L : List St} : Lad S p L p = L := if_pos rfl
theorem Lad_o {S : Nat → List St} {p p' : Nat} {L : List St} (h : p' ≠ p) : Lad S p L p' = S p' := if_neg h
def stA : Nat → Prop := fun b => 503 ≤ b ∧ b ≤ 515
def stQ : Nat → Prop := fun s => (4 ≤ s ∧ s < 100) ∨ s = 182 ∨ s = 183
theorem c_97 {s p n : Nat} {f g : St} {S' : Nat → List St} (hd : 8 ≤ d) (hs : s < 4) (hp : p < 4) (hf : mS t s = f) (hw : wfS f) (hn : f 0 = nI n) (hn6 : n ≤ 6) (hg : BLU f n g) (hS : ∀ p, p < 4 → (S' p).length ≤ 12 ∧ (∀ x, x ∈ S' p → wfS x) ∧ t.1 504 p = nI (S' p).length ∧ rwI t (52 + 12 * p) (S' p)) (kF : g ∉ S' p → (S' p).length = 12 → ∀ t', mG mbA (fun s => s = 182 ∨ s = 183) t t' → F (some (.int (-2))) t') (k1 : ∀ U : Nat → List St, (∀ p', p' ≠ p → U p' = S' p') → ((g ∈ S' p ∧ U p = S' p) ∨ (g ∉ S' p ∧ (S' p).length < 12 ∧ U p = S' p ++ [g])) → ∀ t', mG stA stQ t t' → (∀ p', p' < 4 → t'.1 504 p' = nI (U p').length ∧ rwI t' (52 + 12 * p') (U p') ∧ t'.1 503 p' = nI (U p').length ∧ ∃ L, stdL L (U p') ∧ rwI t' (4 + 12 * p') L) → F (some (.int (nI (U p).length))) t') : twc d 97 [.ref 483, .int (nI p), .int (nI s)] t F := by
  obtain ⟨s1, s2, s3, s4⟩ := hS p hp
  have hwg := hg.wf hw hn6
  refine ⟨by omega, ?_⟩
  rw [ze_97]
  refine vc_ok none zH_97 79 false _ 97 0 _ _ _ _ ?_
  simp only [v_97_0, v_97_1, v_97_4, v_97_7, v_97_8, v_97_11, v_97_14, v_97_15, v_97_16, v_97_17, v_97_18, v_97_21, v_97_24, v_97_25, v_97_28, v_97_31, v_97_33, v_97_35, v_97_36, v_97_37, v_97_38, v_97_39, v_97_40, v_97_41, v_97_42, v_97_45, v_97_46, v_97_47, v_97_50, v_97_53, v_97_55, v_97_57, v_97_59, v_97_62, v_97_64, v_97_65, v_97_67, v_97_68, v_97_71, v_97_72, v_97_73, v_97_76, v_97_77, v_97_80, v_97_81, v_97_83, v_97_84, v_97_87, v_97_88, v_97_91, v_97_92, v_97_93, v_97_94, v_97_95, v_97_96, v_97_97, v_97_98, v_97_101, v_97_102, v_97_105, v_97_107, v_97_109, v_97_112, v_97_114, v_97_117, v_97_118, v_97_121, v_97_122, v_97_123, vgi_0, vgi_s, vga_0, vga_s, vset_0, vset_s, vtk_0, vtk_s, vrc_0, vsw_0, vsw_s, List.all_cons, List.all_nil, zc1_i, zc1_r, Bool.and_true, Bool.and_self, true_and, and_true, List.length_cons, List.length_nil, Nat.zero_le, Nat.reduceLeDiff, Nat.reduceAdd, Nat.reduceLT]
  refine c_93 (by omega) (fun p' _ _ => ?_) (fun hno => absurd rfl (hno p hp))
  simp only [v_97_0, v_97_1, v_97_4, v_97_7, v_97_8, v_97_11, v_97_14, v_97_15, v_97_16, v_97_17, v_97_18, v_97_21, v_97_24, v_97_25, v_97_28, v_97_31, v_97_33, v_97_35, v_97_36, v_97_37, v_97_38, v_97_39, v_97_40, v_97_41, v_97_42, v_97_45, v_97_46, v_97_47, v_97_50, v_97_53, v_97_55, v_97_57, v_97_59, v_97_62, v_97_64, v_97_65, v_97_67, v_97_68, v_97_71, v_97_72, v_97_73, v_97_76, v_97_77, v_97_80, v_97_81, v_97_83, v_97_84, v_97_87, v_97_88, v_97_91, v_97_92, v_97_93, v_97_94, v_97_95, v_97_96, v_97_97, v_97_98, v_97_101, v_97_102, v_97_105, v_97_107, v_97_109, v_97_112, v_97_114, v_97_117, v_97_118, v_97_121, v_97_122, v_97_123, vgi_0, vgi_s, vga_0, vga_s, vset_0, vset_s, vtk_0, vtk_s, vrc_0, vsw_0, vsw_s, List.all_cons, List.all_nil, zc1_i, zc1_r, Bool.and_true, Bool.and_self, true_and, and_true, List.length_cons, List.length_nil, Nat.zero_le, Nat.reduceLeDiff, Nat.reduceAdd, Nat.reduceLT, Option.toList_some, List.cons_append, List.nil_append]
  rw [if_neg (by decide)]
  refine c_47 (by omega) (fun s' _ _ => ?_) (fun hno => absurd rfl (hno s hs))
  simp only [v_97_0, v_97_1, v_97_4, v_97_7, v_97_8, v_97_11, v_97_14, v_97_15, v_97_16, v_97_17, v_97_18, v_97_21, v_97_24, v_97_25, v_97_28, v_97_31, v_97_33, v_97_35, v_97_36, v_97_37, v_97_38, v_97_39, v_97_40, v_97_41, v_97_42, v_97_45, v_97_46, v_97_47, v_97_50, v_97_53, v_97_55, v_97_57, v_97_59, v_97_62, v_97_64, v_97_65, v_97_67, v_97_68, v_97_71, v_97_72, v_97_73, v_97_76, v_97_77, v_97_80, v_97_81, v_97_83, v_97_84, v_97_87, v_97_88, v_97_91, v_97_92, v_97_93, v_97_94, v_97_95, v_97_96, v_97_97, v_97_98, v_97_101, v_97_102, v_97_105, v_97_107, v_97_109, v_97_112, v_97_114, v_97_117, v_97_118, v_97_121, v_97_122, v_97_123, vgi_0, vgi_s, vga_0, vga_s, vset_0, vset_s, vtk_0, vtk_s, vrc_0, vsw_0, vsw_s, List.all_cons, List.all_nil, zc1_i, zc1_r, Bool.and_true, Bool.and_self, true_and, and_true, List.length_cons, List.length_nil, Nat.zero_le, Nat.reduceLeDiff, Nat.reduceAdd, Nat.reduceLT, Option.toList_some, List.cons_append, List.nil_append, tg_483]
  rw [if_neg (by decide)]
  refine c_44g (r := 183) (A := noA) (P := fun s => s = 182 ∨ s = 183) (by omega) (by omega) (by omega) (by rw [hf]; exact hw.b) (Or.inr rfl) (fun t1 o1 e1 => ?_)
  have e1 := e1 183
  rw [if_pos rfl, hf] at e1
  simp only [v_97_0, v_97_1, v_97_4, v_97_7, v_97_8, v_97_11, v_97_14, v_97_15, v_97_16, v_97_17, v_97_18, v_97_21, v_97_24, v_97_25, v_97_28, v_97_31, v_97_33, v_97_35, v_97_36, v_97_37, v_97_38, v_97_39, v_97_40, v_97_41, v_97_42, v_97_45, v_97_46, v_97_47, v_97_50, v_97_53, v_97_55, v_97_57, v_97_59, v_97_62, v_97_64, v_97_65, v_97_67, v_97_68, v_97_71, v_97_72, v_97_73, v_97_76, v_97_77, v_97_80, v_97_81, v_97_83, v_97_84, v_97_87, v_97_88, v_97_91, v_97_92, v_97_93, v_97_94, v_97_95, v_97_96, v_97_97, v_97_98, v_97_101, v_97_102, v_97_105, v_97_107, v_97_109, v_97_112, v_97_114, v_97_117, v_97_118, v_97_121, v_97_122, v_97_123, vgi_0, vgi_s, vga_0, vga_s, vset_0, vset_s, vtk_0, vtk_s, vrc_0, vsw_0, vsw_s, List.all_cons, List.all_nil, zc1_i, zc1_r, Bool.and_true, Bool.and_self, true_and, and_true, List.length_cons, List.length_nil, Nat.zero_le, Nat.reduceLeDiff, Nat.reduceAdd, Nat.reduceLT, Option.toList_none, List.nil_append, tg_483]
  refine c_71 (s := 183) (n := n) (by omega) (by omega) (by omega) (by rw [e1]; exact hw) (by rw [e1]; exact hn) hn6 (fun t2 o2 b2 => ?_)
  rw [e1] at b2
  have g2 : mS t2 183 = g := b2.uniq hg
  have O2 : mG stA (fun s => s = 182 ∨ s = 183) t t2 := (o1.mono (fun b z => z.elim) (fun s z => z)).tr (o2.mono (fun b z => by unfold mbA at z; unfold stA; omega) (fun s z => by unfold mbR at z; omega))
  have f2 : ∀ p', p' < 4 → t2.1 504 p' = nI (S' p').length ∧ rwI t2 (52 + 12 * p') (S' p') := fun p' hp' => by
    obtain ⟨x1, x2, x3, x4⟩ := hS p' hp'
    refine ⟨by rw [o2.2.1 504 (by omega) (fun z => by unfold mbA at z; omega), o1.2.1 504 (by omega) (fun z => z)]; exact x3, fun k hk => ?_⟩
    rw [O2.2.2 _ (by omega)]; exact x4 k hk
  obtain ⟨y1, y2⟩ := f2 p hp
  have fin : ∀ (U : Nat → List St) (t3 : T) (j5 : Value) (iv : Int32), (∀ p', p' ≠ p → U p' = S' p') → ((g ∈ S' p ∧ U p = S' p) ∨ (g ∉ S' p ∧ (S' p).length < 12 ∧ U p = S' p ++ [g])) → mG stA stQ t t3 → (∀ p', p' < 4 → t3.1 504 p' = nI (U p').length ∧ rwI t3 (52 + 12 * p') (U p')) → twc (d - 1) 95 [.ref 483] t3 (fun r t4 => r = none ∧ twc (d - 1) 96 [.ref 483] t4 (fun r t5 => r = some (.int (nI (tot U 4))) ∧ tot U 4 ≤ 48 ∧ t5.1 504 p = nI (U p).length ∧ F (some (.int (nI (U p).length))) t5)) := by
    intro U t3 j5 iv hU hUp o3 f3
    have wU : ∀ p', p' < 4 → (U p').length ≤ 12 ∧ ∀ x, x ∈ U p' → wfS x := fun p' hp' => by
      by_cases z : p' = p
      · subst z
        rcases hUp with ⟨-, e⟩ | ⟨-, hl, e⟩ <;> rw [e]
        · exact ⟨s1, s2⟩
        · refine ⟨by simp; omega, fun x hx => ?_⟩
          rcases List.mem_append.mp hx with hx | hx
          · exact s2 x hx
          · rw [List.mem_singleton.mp hx]; exact hwg
      · rw [hU p' z]; exact ⟨(hS p' hp').1, (hS p' hp').2.1⟩
    refine c_95 (S := U) (by omega) (fun p' hp' => ⟨(wU p' hp').1, (wU p' hp').2, f3 p' hp'⟩) (fun t4 o4 f4 => ⟨rfl, ?_⟩)
    refine c_96 (S := U) (by omega) (fun p' hp' => ⟨(wU p' hp').1, (wU p' hp').2, f4 p' hp'⟩) (fun t5 o5 f5 => ?_)
    have e504 : ∀ p', t5.1 504 p' = t3.1 504 p' := fun p' => by rw [o5.2.1 504 (by omega) (fun z => z), o4.2.1 504 (by omega) (fun z => by unfold reA at z; omega)]
    have O5 : mG stA stQ t t5 := (o3.tr (o4.mono (fun b z => by unfold reA at z; unfold stA; omega) (fun s z => by unfold reR at z; unfold stQ; omega))).tr (o5.mono (fun b z => z.elim) (fun s z => by unfold stR at z; unfold stQ; omega))
    have t48 : tot U 4 ≤ 48 := by
      show 0 + (U 0).length + (U 1).length + (U 2).length + (U 3).length ≤ 48
      have := (wU 0 (by omega)).1
      have := (wU 1 (by omega)).1
      have := (wU 2 (by omega)).1
      have := (wU 3 (by omega)).1
      omega
    refine ⟨rfl, t48, by rw [e504]; exact (f3 p hp).1, k1 U hU hUp t5 O5 (fun p' hp' => ⟨by rw [e504]; exact (f3 p' hp').1, fun k hk => ?_, ?_, f5 p' hp'⟩)⟩
    · have := (wU p' hp').1
      rw [o5.2.2 _ (by unfold stR; omega), o4.2.2 _ (by unfold reR; omega)]; exact (f3 p' hp').2 k hk
    · rw [o5.2.1 503 (by omega) (fun z => z)]; exact (f4 p' hp').1
  simp only [v_97_0, v_97_1, v_97_4, v_97_7, v_97_8, v_97_11, v_97_14, v_97_15, v_97_16, v_97_17, v_97_18, v_97_21, v_97_24, v_97_25, v_97_28, v_97_31, v_97_33, v_97_35, v_97_36, v_97_37, v_97_38, v_97_39, v_97_40, v_97_41, v_97_42, v_97_45, v_97_46, v_97_47, v_97_50, v_97_53, v_97_55, v_97_57, v_97_59, v_97_62, v_97_64, v_97_65, v_97_67, v_97_68, v_97_71, v_97_72, v_97_73, v_97_76, v_97_77, v_97_80, v_97_81, v_97_83, v_97_84, v_97_87, v_97_88, v_97_91, v_97_92, v_97_93, v_97_94, v_97_95, v_97_96, v_97_97, v_97_98, v_97_101, v_97_102, v_97_105, v_97_107, v_97_109, v_97_112, v_97_114, v_97_117, v_97_118, v_97_121, v_97_122, v_97_123, vgi_0, vgi_s, vga_0, vga_s, vset_0, vset_s, vtk_0, vtk_s, vrc_0, vsw_0, vsw_s, List.all_cons, List.all_nil, zc1_i, zc1_r, Bool.and_true, Bool.and_self, true_and, and_true, List.length_cons, List.length_nil, Nat.zero_le, Nat.reduceLeDiff, Nat.reduceAdd, Nat.reduceLT, Option.toList_none, List.nil_append, tg_483, tf_483_24, tg_504, ln_504]
  simp (disch := omega) only [nI_clamp, vinb_n, y1, li52, li12, pk_mul, nI_add]
  refine ⟨hp, ?_⟩
  refine c_94 (s := 183) (by omega) (by omega) (by omega) (fun k hk => by rw [y2 k hk]; exact s2 _ (gd_mem hk)) (by rw [g2]; exact hwg) (fun i hi hne hfd => ?_)
  have mem : i < (S' p).length → g ∈ S' p := fun h => by
    have := hfd h
    rw [y2 i h, g2] at this
    rw [← this]; exact gd_mem h
  have nmem : i = (S' p).length → g ∉ S' p := fun h hm => by
    have e := lst_gd (g := fun k => mS t2 (52 + 12 * p + k)) y2
    rw [← e] at hm
    obtain ⟨k, hk, ek⟩ := lst_mem.mp hm
    exact hne k (by omega) (by rw [g2]; exact ek)
  simp only [v_97_0, v_97_1, v_97_4, v_97_7, v_97_8, v_97_11, v_97_14, v_97_15, v_97_16, v_97_17, v_97_18, v_97_21, v_97_24, v_97_25, v_97_28, v_97_31, v_97_33, v_97_35, v_97_36, v_97_37, v_97_38, v_97_39, v_97_40, v_97_41, v_97_42, v_97_45, v_97_46, v_97_47, v_97_50, v_97_53, v_97_55, v_97_57, v_97_59, v_97_62, v_97_64, v_97_65, v_97_67, v_97_68, v_97_71, v_97_72, v_97_73, v_97_76, v_97_77, v_97_80, v_97_81, v_97_83, v_97_84, v_97_87, v_97_88, v_97_91, v_97_92, v_97_93, v_97_94, v_97_95, v_97_96, v_97_97, v_97_98, v_97_101, v_97_102, v_97_105, v_97_107, v_97_109, v_97_112, v_97_114, v_97_117, v_97_118, v_97_121, v_97_122, v_97_123, vgi_0, vgi_s, vga_0, vga_s, vset_0, vset_s, vtk_0, vtk_s, vrc_0, vsw_0, vsw_s, List.all_cons, List.all_nil, zc1_i, zc1_r, Bool.and_true, Bool.and_self, true_and, and_true, List.length_cons, List.length_nil, Nat.zero_le, Nat.reduceLeDiff, Nat.reduceAdd, Nat.reduceLT, Option.toList_some, List.cons_append, List.nil_append, tg_483, tf_483_24, tg_504, ln_504]
  simp (disch := omega) only [nI_clamp, vinb_n, y1, nI_eq, nI_add]
  by_cases i12 : i = 12
  · rw [if_pos (by rw [i12]; rfl)]
    exact kF (nmem (by omega)) (by omega) t2 ((o1.mono (fun b z => z.elim) (fun s z => z)).tr (o2.mono (fun b z => z) (fun s z => by unfold mbR at z; omega)))
  · rw [if_neg (by rw [li12, nI_eq (by omega) (by omega)]; exact i12)]
    refine ⟨hp, ?_⟩
    by_cases il : i = (S' p).length
    · rw [if_pos il]
      refine c_44g (s := 183) (A := noA) (P := fun s => 52 + 12 * p ≤ s ∧ s < 64 + 12 * p) (by omega) (by omega) (by omega) (by rw [g2]; exact hwg.b) (by omega) (fun t3 o3 e3 => ?_)
      have y3 : t3.1 504 p = nI (S' p).length := by rw [o3.2.1 504 (by omega) (fun z => z)]; exact y1
      simp only [v_97_0, v_97_1, v_97_4, v_97_7, v_97_8, v_97_11, v_97_14, v_97_15, v_97_16, v_97_17, v_97_18, v_97_21, v_97_24, v_97_25, v_97_28, v_97_31, v_97_33, v_97_35, v_97_36, v_97_37, v_97_38, v_97_39, v_97_40, v_97_41, v_97_42, v_97_45, v_97_46, v_97_47, v_97_50, v_97_53, v_97_55, v_97_57, v_97_59, v_97_62, v_97_64, v_97_65, v_97_67, v_97_68, v_97_71, v_97_72, v_97_73, v_97_76, v_97_77, v_97_80, v_97_81, v_97_83, v_97_84, v_97_87, v_97_88, v_97_91, v_97_92, v_97_93, v_97_94, v_97_95, v_97_96, v_97_97, v_97_98, v_97_101, v_97_102, v_97_105, v_97_107, v_97_109, v_97_112, v_97_114, v_97_117, v_97_118, v_97_121, v_97_122, v_97_123, vgi_0, vgi_s, vga_0, vga_s, vset_0, vset_s, vtk_0, vtk_s, vrc_0, vsw_0, vsw_s, List.all_cons, List.all_nil, zc1_i, zc1_r, Bool.and_true, Bool.and_self, true_and, and_true, List.length_cons, List.length_nil, Nat.zero_le, Nat.reduceLeDiff, Nat.reduceAdd, Nat.reduceLT, Option.toList_none, List.nil_append, tg_483, tf_483_24, tg_504, ln_504]
      simp (disch := omega) only [nI_clamp, vinb_n, y3, nI_1]
      refine ⟨hp, hp, ?_⟩
      have m4 : ∀ r, mS (tsi t3 504 p (nI ((S' p).length + 1))) r = mS t3 r := fun r => by
        funext k; unfold mS; rw [tsi_ne (by omega)]
      have O3 : mG stA stQ t (tsi t3 504 p (nI ((S' p).length + 1))) := ((O2.mono (fun b z => z) (fun s z => Or.inr z)).tr (o3.mono (fun b z => z.elim) (fun s z => Or.inl (by omega)))).tr ⟨rfl, fun b _ hb k => tsi_ne (fun z => hb (by rw [z.1]; unfold stA; omega)), fun r _ => m4 r⟩
      have FIN := fin (Lad S' p (S' p ++ [g])) (tsi t3 504 p (nI ((S' p).length + 1))) (.int 0) 0 (fun p' z => Lad_o z) (Or.inr ⟨nmem il, by omega, Lad_e⟩) O3 (fun p' hp' => ?_)
      refine twc.mono FIN (fun r t4 hr => ?_)
      obtain ⟨rfl, hr⟩ := hr
      simp only [v_97_0, v_97_1, v_97_4, v_97_7, v_97_8, v_97_11, v_97_14, v_97_15, v_97_16, v_97_17, v_97_18, v_97_21, v_97_24, v_97_25, v_97_28, v_97_31, v_97_33, v_97_35, v_97_36, v_97_37, v_97_38, v_97_39, v_97_40, v_97_41, v_97_42, v_97_45, v_97_46, v_97_47, v_97_50, v_97_53, v_97_55, v_97_57, v_97_59, v_97_62, v_97_64, v_97_65, v_97_67, v_97_68, v_97_71, v_97_72, v_97_73, v_97_76, v_97_77, v_97_80, v_97_81, v_97_83, v_97_84, v_97_87, v_97_88, v_97_91, v_97_92, v_97_93, v_97_94, v_97_95, v_97_96, v_97_97, v_97_98, v_97_101, v_97_102, v_97_105, v_97_107, v_97_109, v_97_112, v_97_114, v_97_117, v_97_118, v_97_121, v_97_122, v_97_123, vgi_0, vgi_s, vga_0, vga_s, vset_0, vset_s, vtk_0, vtk_s, vrc_0, vsw_0, vsw_s, List.all_cons, List.all_nil, zc1_i, zc1_r, Bool.and_true, Bool.and_self, true_and, and_true, List.length_cons, List.length_nil, Nat.zero_le, Nat.reduceLeDiff, Nat.reduceAdd, Nat.reduceLT, Option.toList_none, List.nil_append, tg_483]
      refine twc.mono hr (fun r t5 hr5 => ?_)
      obtain ⟨rfl, h48, h504, hF⟩ := hr5
      simp only [v_97_0, v_97_1, v_97_4, v_97_7, v_97_8, v_97_11, v_97_14, v_97_15, v_97_16, v_97_17, v_97_18, v_97_21, v_97_24, v_97_25, v_97_28, v_97_31, v_97_33, v_97_35, v_97_36, v_97_37, v_97_38, v_97_39, v_97_40, v_97_41, v_97_42, v_97_45, v_97_46, v_97_47, v_97_50, v_97_53, v_97_55, v_97_57, v_97_59, v_97_62, v_97_64, v_97_65, v_97_67, v_97_68, v_97_71, v_97_72, v_97_73, v_97_76, v_97_77, v_97_80, v_97_81, v_97_83, v_97_84, v_97_87, v_97_88, v_97_91, v_97_92, v_97_93, v_97_94, v_97_95, v_97_96, v_97_97, v_97_98, v_97_101, v_97_102, v_97_105, v_97_107, v_97_109, v_97_112, v_97_114, v_97_117, v_97_118, v_97_121, v_97_122, v_97_123, vgi_0, vgi_s, vga_0, vga_s, vset_0, vset_s, vtk_0, vtk_s, vrc_0, vsw_0, vsw_s, List.all_cons, List.all_nil, zc1_i, zc1_r, Bool.and_true, Bool.and_self, true_and, and_true, List.length_cons, List.length_nil, Nat.zero_le, Nat.reduceLeDiff, Nat.reduceAdd, Nat.reduceLT, Option.toList_some, List.cons_append, List.nil_append, tg_483, tf_483_24, tg_504, ln_504]
      rw [if_neg (by rw [li0, nI_ltI (by omega) (by omega)]; omega)]
      simp (disch := omega) only [nI_clamp, vinb_n, h504]
      exact ⟨hp, hF⟩
      by_cases z : p' = p
      · subst z
        rw [Lad_e, tsi_eq]
        refine ⟨by simp, fun k hk => ?_⟩
        simp only [List.length_append, List.length_cons, List.length_nil] at hk
        rw [m4, e3]
        by_cases zk : k < (S' p').length
        · rw [if_neg (by omega), gd_app_lt zk]; exact y2 k zk
        · have : k = (S' p').length := by omega
          subst this
          rw [if_pos (by omega), gd_app_ge (Nat.le_refl _), Nat.sub_self, g2]; rfl
      · rw [Lad_o z, tsi_ne (by omega)]
        obtain ⟨z1, z2⟩ := f2 p' hp'
        have := (hS p' hp').1
        exact ⟨by rw [o3.2.1 504 (by omega) (fun z => z)]; exact z1, fun k hk => by rw [m4, e3, if_neg (by omega)]; exact z2 k hk⟩
    · rw [if_neg il]
      have FIN := fin S' t2 (.int 0) 0 (fun _ _ => rfl) (Or.inl ⟨mem (by omega), rfl⟩) (O2.mono (fun b z => z) (fun s z => Or.inr z)) f2
      refine twc.mono FIN (fun r t4 hr => ?_)
      obtain ⟨rfl, hr⟩ := hr
      simp only [v_97_0, v_97_1, v_97_4, v_97_7, v_97_8, v_97_11, v_97_14, v_97_15, v_97_16, v_97_17, v_97_18, v_97_21, v_97_24, v_97_25, v_97_28, v_97_31, v_97_33, v_97_35, v_97_36, v_97_37, v_97_38, v_97_39, v_97_40, v_97_41, v_97_42, v_97_45, v_97_46, v_97_47, v_97_50, v_97_53, v_97_55, v_97_57, v_97_59, v_97_62, v_97_64, v_97_65, v_97_67, v_97_68, v_97_71, v_97_72, v_97_73, v_97_76, v_97_77, v_97_80, v_97_81, v_97_83, v_97_84, v_97_87, v_97_88, v_97_91, v_97_92, v_97_93, v_97_94, v_97_95, v_97_96, v_97_97, v_97_98, v_97_101, v_97_102, v_97_105, v_97_107, v_97_109, v_97_112, v_97_114, v_97_117, v_97_118, v_97_121, v_97_122, v_97_123, vgi_0, vgi_s, vga_0, vga_s, vset_0, vset_s, vtk_0, vtk_s, vrc_0, vsw_0, vsw_s, List.all_cons, List.all_nil, zc1_i, zc1_r, Bool.and_true, Bool.and_self, true_and, and_true, List.length_cons, List.length_nil, Nat.zero_le, Nat.reduceLeDiff, Nat.reduceAdd, Nat.reduceLT, Option.toList_none, List.nil_append, tg_483]
      refine twc.mono hr (fun r t5 hr5 => ?_)
      obtain ⟨rfl, h48, h504, hF⟩ := hr5
      simp only [v_97_0, v_97_1, v_97_4, v_97_7, v_97_8, v_97_11, v_97_14, v_97_15, v_97_16, v_97_17, v_97_18, v_97_21, v_97_24, v_97_25, v_97_28, v_97_31, v_97_33, v_97_35, v_97_36, v_97_37, v_97_38, v_97_39, v_97_40, v_97_41, v_97_42, v_97_45, v_97_46, v_97_47, v_97_50, v_97_53, v_97_55, v_97_57, v_97_59, v_97_62, v_97_64, v_97_65, v_97_67, v_97_68, v_97_71, v_97_72, v_97_73, v_97_76, v_97_77, v_97_80, v_97_81, v_97_83, v_97_84, v_97_87, v_97_88, v_97_91, v_97_92, v_97_93, v_97_94, v_97_95, v_97_96, v_97_97, v_97_98, v_97_101, v_97_102, v_97_105, v_97_107, v_97_109, v_97_112, v_97_114, v_97_117, v_97_118, v_97_121, v_97_122, v_97_123, vgi_0, vgi_s, vga_0, vga_s, vset_0, vset_s, vtk_0, vtk_s, vrc_0, vsw_0, vsw_s, List.all_cons, List.all_nil, zc1_i, zc1_r, Bool.and_true, Bool.and_self, true_and, and_true, List.length_cons, List.length_nil, Nat.zero_le, Nat.reduceLeDiff, Nat.reduceAdd, Nat.reduceLT, Option.toList_some, List.cons_append, List.nil_append, tg_483, tf_483_24, tg_504, ln_504]
      rw [if_neg (by rw [li0, nI_ltI (by omega) (by omega)]; omega)]
      simp (disch := omega) only [nI_clamp, vinb_n, h504]
      exact ⟨hp, hF⟩
end OP15
