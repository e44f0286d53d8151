/-! value. -/
section OP8
variable {d : Nat} {t t' : T} {F : Option Value → T → Prop} {q : FT} {m n : Nat} {f : St}
theorem c_122v {a i x y : Nat} {xv yv : Int32} (hd : 40 ≤ d) (hq : cft t q m) (ha : vtag a = 4) (hc : cS t a = f) (hf : wfS f) (hn : f 0 = nI n) (hn6 : n ≤ 6) (hi : i < m) (h3 : fr q i ≤ 3) (hfr : ∀ v, fb q i v → e2 x y v < n) (hx : fb q i 0 → xv = nI x) (hy : fb q i 1 → yv = nI y) (h : ∀ t', tF (shF a) t t' → cS t' a = f → F (some (.int (EV q f n i (e2 x y)))) t') : twc d 122 [.ref 44, .ref a, .int (nI i), .int xv, .int yv] t F := by
  have hg := st_ge ha
  refine c_122 (e := e2 x y) hd ⟨hq.1, hq.2.1, hq.2.2.1, hq.2.2.2, tsr_eq, ha, hc, hf, hn, hn6⟩ hi (fun v hv => ?_) (fun t' h1 h2 => ?_)
  · have h4 := fb3 h3 hv
    have h5 := hfr v hv
    have : v = 0 ∨ v = 1 := by omega
    rcases this with rfl | rfl
    · exact Or.inl ⟨rfl, hx hv, h5⟩
    · exact Or.inr ⟨rfl, hy hv, h5⟩
  · refine h t' (fun b hb => ⟨fun k => h2 b k (by unfold shF at hb; omega) (by unfold shF at hb; omega), fun k => ?_⟩) ?_
    · rw [h1, tsr_ne (by unfold shF at hb; omega)]
    · rw [cS_of (fun k => h2 a k (by omega) (by omega)) (fun k => h2 (a + 1) k (by omega) (by omega))]; exact hc
/-- evaluating leaves all as it was -/
theorem INVx.ev {x a : Nat} (h : INVx t x) (ha : a = a) (hO : tF (fun b => 44 ≤ b ∧ b ≤ 46) t t') : INVx t' x ∧ ∀ r, mS t' r = mS t r := by
  have wk : t.2 58 3 = 61 ∨ t.2 58 3 = 161 := by
    obtain ⟨q, m, ru, rc, ec, Es, h1, h2, h3, h4, h5, h6, -⟩ := h
    exact h6.elim (fun z => Or.inl z.2) (fun z => Or.inr z.2)
  have bw : bwf t (t.2 58 3) := by
    obtain ⟨q, m, ru, rc, ec, Es, h1, h2, h3, h4, h5, h6, -⟩ := h
    rcases wk with e | e <;> rw [e]
    · exact h5 _ bag_w.1
    · exact h5 _ bag_w.2.1
  refine ⟨h.c hO (fun b hb => by unfold scC; omega) (bw.k (t' := t') (fun k => (hO _ (by omega)).2 k)).1, fun r => ?_⟩
  funext k
  unfold mS
  rw [(hO 484 (by omega)).1]
theorem c_122z {a i x y : Nat} {xv yv : Int32} (hd : 40 ≤ d) (hq : cft t q m) (ha : vtag a = 4) (hc : cS t a = f) (hf : wfS f) (hn : f 0 = nI n) (hn6 : n ≤ 6) (hi : i < m) (h3 : fr q i ≤ 3) (hfr : ∀ v, fb q i v → e2 x y v < n) (hx : fb q i 0 → xv = nI x) (hy : fb q i 1 → yv = nI y) (h : ∀ t', tF (fun b => 44 ≤ b ∧ b ≤ 46) t t' → F (some (.int (EV q f n i (e2 x y)))) t') : twc d 122 [.ref 44, .ref a, .int (nI i), .int xv, .int yv] t F := by
  have hg := st_ge ha
  refine c_122 (e := e2 x y) hd ⟨hq.1, hq.2.1, hq.2.2.1, hq.2.2.2, tsr_eq, ha, hc, hf, hn, hn6⟩ hi (fun v hv => ?_) (fun t' h1 h2 => ?_)
  · have h4 := fb3 h3 hv
    have h5 := hfr v hv
    have : v = 0 ∨ v = 1 := by omega
    rcases this with rfl | rfl
    · exact Or.inl ⟨rfl, hx hv, h5⟩
    · exact Or.inr ⟨rfl, hy hv, h5⟩
  · refine h t' (fun b hb => ⟨fun k => h2 b k (by omega) (by omega), fun k => ?_⟩)
    rw [h1, tsr_ne (by omega)]
def vaOK (q : FT) (i n : Nat) (xv yv : Int32) : Prop := (fb q i 0 → ∃ x, x < n ∧ xv = nI x) ∧ (fb q i 1 → ∃ y, y < n ∧ yv = nI y)
theorem vaOK_f {i : Nat} {xv yv : Int32} (hn : n ≤ 6) (h3 : fr q i ≤ 3) (h : vaOK q i n xv yv) : ∃ x y, x < 6 ∧ y < 6 ∧ (∀ v, fb q i v → e2 x y v < n) ∧ (fb q i 0 → xv = nI x) ∧ (fb q i 1 → yv = nI y) ∧ (¬ fb q i 0 → x = 0) ∧ (¬ fb q i 1 → y = 0) := by
  have e0 : ∃ x, x < 6 ∧ (fb q i 0 → xv = nI x ∧ x < n) ∧ (¬ fb q i 0 → x = 0) := by
    by_cases z : fb q i 0
    · obtain ⟨x, hx, e⟩ := h.1 z
      exact ⟨x, by omega, fun _ => ⟨e, hx⟩, fun y => absurd z y⟩
    · exact ⟨0, by omega, fun y => absurd y z, fun _ => rfl⟩
  have e1 : ∃ x, x < 6 ∧ (fb q i 1 → yv = nI x ∧ x < n) ∧ (¬ fb q i 1 → x = 0) := by
    by_cases z : fb q i 1
    · obtain ⟨x, hx, e⟩ := h.2 z
      exact ⟨x, by omega, fun _ => ⟨e, hx⟩, fun y => absurd z y⟩
    · exact ⟨0, by omega, fun y => absurd y z, fun _ => rfl⟩
  obtain ⟨x, hx, a1, a2⟩ := e0
  obtain ⟨y, hy, b1, b2⟩ := e1
  refine ⟨x, y, hx, hy, fun v hv => ?_, fun z => (a1 z).1, fun z => (b1 z).1, a2, b2⟩
  have := fb3 h3 hv
  have : v = 0 ∨ v = 1 := by omega
  rcases this with rfl | rfl
  · exact (a1 hv).2
  · exact (b1 hv).2
/-- the reference's value -/
theorem c_69 {s i : Nat} {xv yv : Int32} (hd : 10 ≤ d) (hs : s < 4) (h2 : foI t q m) (hf : mS t s = f) (hw : wfS f) (hn : f 0 = nI n) (hn6 : n ≤ 6) (hi : i < m) (h3 : fr q i ≤ 3) (k0 : ¬ vaOK q i n xv yv → F (some (.int (-1))) t) (k1 : ∀ x y, x < 6 → y < 6 → vaOK q i n xv yv → (fb q i 0 → xv = nI x) → (fb q i 1 → yv = nI y) → (¬ fb q i 0 → x = 0) → (¬ fb q i 1 → y = 0) → ∀ t', tX mE t t' → F (some (.int (EV q f n i (e2 x y)))) t') : twc d 69 [.ref 483, .int (nI s), .int (nI i), .int xv, .int yv] t F := by
  obtain ⟨f1, f2, f3⟩ := h2.fr hi
  have hm := h2.le
  obtain ⟨b1, b0⟩ := bit2 _ f3
  have t0 : (nI (fr q i) &&& 1 = 0) ↔ ¬ fb q i 0 := by unfold fb; rw [b0]; cases (fr q i).testBit 0 <;> simp
  have t1 : (nI (fr q i) &&& 2 = 0) ↔ ¬ fb q i 1 := by unfold fb; rw [b1]; cases (fr q i).testBit 1 <;> simp
  have hms : mS t s 0 = nI n := by rw [hf]; exact hn
  have at80 : ∀ b5 b6 : Int32, (bo b5 (fb q i 0 → ∃ x, x < n ∧ xv = nI x)) → (bo b6 (fb q i 1 → ∃ y, y < n ∧ yv = nI y)) → ∀ j6, twp none (d - 1) 69 80 [.ref 483, .int (nI s), .int (nI i), .int xv, .int yv, .int b5, j6] [.int b6] t F := by
    intro b5 b6 h5 h6 j6
    refine vc_ok none zH_69 88 false _ 69 80 _ _ _ _ ?_
    simp only [v_69_0, v_69_1, v_69_4, v_69_7, v_69_8, v_69_9, v_69_12, v_69_15, v_69_16, v_69_19, v_69_20, v_69_21, v_69_22, v_69_25, v_69_26, v_69_27, v_69_28, v_69_31, v_69_32, v_69_33, v_69_34, v_69_35, v_69_38, v_69_39, v_69_40, v_69_41, v_69_44, v_69_47, v_69_48, v_69_51, v_69_52, h_69_52, v_69_54, v_69_55, v_69_58, v_69_59, v_69_60, v_69_61, v_69_62, v_69_65, v_69_66, v_69_67, v_69_69, v_69_72, v_69_75, v_69_76, v_69_79, v_69_80, h_69_80, v_69_82, v_69_84, v_69_87, v_69_89, v_69_92, v_69_93, v_69_94, v_69_95, v_69_96, v_69_99, v_69_100, v_69_101, v_69_102, v_69_103, v_69_106, v_69_107, v_69_110, v_69_111, v_69_112, v_69_115, v_69_116, v_69_117, v_69_118, v_69_119, v_69_122, v_69_123, v_69_126, v_69_128, v_69_131, v_69_134, v_69_135, vgi_0, vgi_s, vga_0, vga_s, vset_0, vset_s, vtk_0, vtk_s, vrc_0, vsw_0, vsw_s, List.all_cons, List.all_nil, zc1_i, zc1_r, Bool.and_true, Bool.and_self, true_and, and_true, List.length_cons, List.length_nil, Nat.zero_le, Nat.reduceLeDiff, Nat.reduceAdd, Nat.reduceLT, tg_483, tf_483_8, tg_491, ln_491]
    simp (disch := omega) only [nI_clamp, vinb_n, f2]
    rcases h5 with ⟨rfl, h5⟩ | ⟨rfl, h5⟩
    · rw [if_neg (by decide)]
      rcases h6 with ⟨rfl, h6⟩ | ⟨rfl, h6⟩
      · rw [if_neg (by decide)]
        refine ⟨by omega, ?_⟩
        have hok : vaOK q i n xv yv := ⟨h5, h6⟩
        obtain ⟨x, y, hx, hy, hfr, ex, ey, zx, zy⟩ := vaOK_f hn6 h3 hok
        have fin : ∀ (xa ya : Int32) (G : Option Value → T → Prop), xa = nI x → ya = nI y → (∀ t', tX mE t t' → G (some (.int (EV q f n i (e2 x y)))) t') → twc (d - 1) 68 [.ref 483, .int (nI s), .int (nI i), .int xa, .int ya] t G := by
          rintro xa ya G rfl rfl g
          exact c_68q (by omega) (h2.2.1.v (by omega) hf hw hn hn6) hi hx hy hfr g
        by_cases z0 : nI (fr q i) &&& 1 = 0
        · rw [if_pos z0]
          refine ⟨by omega, ?_⟩
          by_cases z1 : nI (fr q i) &&& 2 = 0
          · rw [if_pos z1]
            refine fin 0 0 _ (by rw [zx (t0.mp z0)]; rfl) (by rw [zy (t1.mp z1)]; rfl) (fun t' o => ?_)
            simp only [v_69_0, v_69_1, v_69_4, v_69_7, v_69_8, v_69_9, v_69_12, v_69_15, v_69_16, v_69_19, v_69_20, v_69_21, v_69_22, v_69_25, v_69_26, v_69_27, v_69_28, v_69_31, v_69_32, v_69_33, v_69_34, v_69_35, v_69_38, v_69_39, v_69_40, v_69_41, v_69_44, v_69_47, v_69_48, v_69_51, v_69_52, h_69_52, v_69_54, v_69_55, v_69_58, v_69_59, v_69_60, v_69_61, v_69_62, v_69_65, v_69_66, v_69_67, v_69_69, v_69_72, v_69_75, v_69_76, v_69_79, v_69_80, h_69_80, v_69_82, v_69_84, v_69_87, v_69_89, v_69_92, v_69_93, v_69_94, v_69_95, v_69_96, v_69_99, v_69_100, v_69_101, v_69_102, v_69_103, v_69_106, v_69_107, v_69_110, v_69_111, v_69_112, v_69_115, v_69_116, v_69_117, v_69_118, v_69_119, v_69_122, v_69_123, v_69_126, v_69_128, v_69_131, v_69_134, v_69_135, vgi_0, vgi_s, vga_0, vga_s, vset_0, vset_s, vtk_0, vtk_s, vrc_0, vsw_0, vsw_s, List.all_cons, List.all_nil, zc1_i, zc1_r, Bool.and_true, Bool.and_self, true_and, and_true, List.length_cons, List.length_nil, Nat.zero_le, Nat.reduceLeDiff, Nat.reduceAdd, Nat.reduceLT, Option.toList_some, List.cons_append, List.nil_append]
            exact k1 x y hx hy hok ex ey zx zy t' o
          · rw [if_neg z1]
            refine fin 0 yv _ (by rw [zx (t0.mp z0)]; rfl) (ey (Classical.byContradiction (fun h => z1 (t1.mpr h)))) (fun t' o => ?_)
            simp only [v_69_0, v_69_1, v_69_4, v_69_7, v_69_8, v_69_9, v_69_12, v_69_15, v_69_16, v_69_19, v_69_20, v_69_21, v_69_22, v_69_25, v_69_26, v_69_27, v_69_28, v_69_31, v_69_32, v_69_33, v_69_34, v_69_35, v_69_38, v_69_39, v_69_40, v_69_41, v_69_44, v_69_47, v_69_48, v_69_51, v_69_52, h_69_52, v_69_54, v_69_55, v_69_58, v_69_59, v_69_60, v_69_61, v_69_62, v_69_65, v_69_66, v_69_67, v_69_69, v_69_72, v_69_75, v_69_76, v_69_79, v_69_80, h_69_80, v_69_82, v_69_84, v_69_87, v_69_89, v_69_92, v_69_93, v_69_94, v_69_95, v_69_96, v_69_99, v_69_100, v_69_101, v_69_102, v_69_103, v_69_106, v_69_107, v_69_110, v_69_111, v_69_112, v_69_115, v_69_116, v_69_117, v_69_118, v_69_119, v_69_122, v_69_123, v_69_126, v_69_128, v_69_131, v_69_134, v_69_135, vgi_0, vgi_s, vga_0, vga_s, vset_0, vset_s, vtk_0, vtk_s, vrc_0, vsw_0, vsw_s, List.all_cons, List.all_nil, zc1_i, zc1_r, Bool.and_true, Bool.and_self, true_and, and_true, List.length_cons, List.length_nil, Nat.zero_le, Nat.reduceLeDiff, Nat.reduceAdd, Nat.reduceLT, Option.toList_some, List.cons_append, List.nil_append]
            exact k1 x y hx hy hok ex ey zx zy t' o
        · rw [if_neg z0]
          refine ⟨by omega, ?_⟩
          by_cases z1 : nI (fr q i) &&& 2 = 0
          · rw [if_pos z1]
            refine fin xv 0 _ (ex (Classical.byContradiction (fun h => z0 (t0.mpr h)))) (by rw [zy (t1.mp z1)]; rfl) (fun t' o => ?_)
            simp only [v_69_0, v_69_1, v_69_4, v_69_7, v_69_8, v_69_9, v_69_12, v_69_15, v_69_16, v_69_19, v_69_20, v_69_21, v_69_22, v_69_25, v_69_26, v_69_27, v_69_28, v_69_31, v_69_32, v_69_33, v_69_34, v_69_35, v_69_38, v_69_39, v_69_40, v_69_41, v_69_44, v_69_47, v_69_48, v_69_51, v_69_52, h_69_52, v_69_54, v_69_55, v_69_58, v_69_59, v_69_60, v_69_61, v_69_62, v_69_65, v_69_66, v_69_67, v_69_69, v_69_72, v_69_75, v_69_76, v_69_79, v_69_80, h_69_80, v_69_82, v_69_84, v_69_87, v_69_89, v_69_92, v_69_93, v_69_94, v_69_95, v_69_96, v_69_99, v_69_100, v_69_101, v_69_102, v_69_103, v_69_106, v_69_107, v_69_110, v_69_111, v_69_112, v_69_115, v_69_116, v_69_117, v_69_118, v_69_119, v_69_122, v_69_123, v_69_126, v_69_128, v_69_131, v_69_134, v_69_135, vgi_0, vgi_s, vga_0, vga_s, vset_0, vset_s, vtk_0, vtk_s, vrc_0, vsw_0, vsw_s, List.all_cons, List.all_nil, zc1_i, zc1_r, Bool.and_true, Bool.and_self, true_and, and_true, List.length_cons, List.length_nil, Nat.zero_le, Nat.reduceLeDiff, Nat.reduceAdd, Nat.reduceLT, Option.toList_some, List.cons_append, List.nil_append]
            exact k1 x y hx hy hok ex ey zx zy t' o
          · rw [if_neg z1]
            refine fin xv yv _ (ex (Classical.byContradiction (fun h => z0 (t0.mpr h)))) (ey (Classical.byContradiction (fun h => z1 (t1.mpr h)))) (fun t' o => ?_)
            simp only [v_69_0, v_69_1, v_69_4, v_69_7, v_69_8, v_69_9, v_69_12, v_69_15, v_69_16, v_69_19, v_69_20, v_69_21, v_69_22, v_69_25, v_69_26, v_69_27, v_69_28, v_69_31, v_69_32, v_69_33, v_69_34, v_69_35, v_69_38, v_69_39, v_69_40, v_69_41, v_69_44, v_69_47, v_69_48, v_69_51, v_69_52, h_69_52, v_69_54, v_69_55, v_69_58, v_69_59, v_69_60, v_69_61, v_69_62, v_69_65, v_69_66, v_69_67, v_69_69, v_69_72, v_69_75, v_69_76, v_69_79, v_69_80, h_69_80, v_69_82, v_69_84, v_69_87, v_69_89, v_69_92, v_69_93, v_69_94, v_69_95, v_69_96, v_69_99, v_69_100, v_69_101, v_69_102, v_69_103, v_69_106, v_69_107, v_69_110, v_69_111, v_69_112, v_69_115, v_69_116, v_69_117, v_69_118, v_69_119, v_69_122, v_69_123, v_69_126, v_69_128, v_69_131, v_69_134, v_69_135, vgi_0, vgi_s, vga_0, vga_s, vset_0, vset_s, vtk_0, vtk_s, vrc_0, vsw_0, vsw_s, List.all_cons, List.all_nil, zc1_i, zc1_r, Bool.and_true, Bool.and_self, true_and, and_true, List.length_cons, List.length_nil, Nat.zero_le, Nat.reduceLeDiff, Nat.reduceAdd, Nat.reduceLT, Option.toList_some, List.cons_append, List.nil_append]
            exact k1 x y hx hy hok ex ey zx zy t' o
      · rw [if_pos rfl]
        exact k0 (fun z => h6 z.2)
    · rw [if_pos rfl]
      exact k0 (fun z => h5 z.1)
  have at52 : ∀ b5 : Int32, (bo b5 (fb q i 0 → ∃ x, x < n ∧ xv = nI x)) → ∀ j5 j6, twp none (d - 1) 69 52 [.ref 483, .int (nI s), .int (nI i), .int xv, .int yv, j5, j6] [.int b5] t F := by
    intro b5 h5 j5 j6
    refine vc_ok none zH_69 88 false _ 69 52 _ _ _ _ ?_
    simp only [v_69_0, v_69_1, v_69_4, v_69_7, v_69_8, v_69_9, v_69_12, v_69_15, v_69_16, v_69_19, v_69_20, v_69_21, v_69_22, v_69_25, v_69_26, v_69_27, v_69_28, v_69_31, v_69_32, v_69_33, v_69_34, v_69_35, v_69_38, v_69_39, v_69_40, v_69_41, v_69_44, v_69_47, v_69_48, v_69_51, v_69_52, h_69_52, v_69_54, v_69_55, v_69_58, v_69_59, v_69_60, v_69_61, v_69_62, v_69_65, v_69_66, v_69_67, v_69_69, v_69_72, v_69_75, v_69_76, v_69_79, v_69_80, h_69_80, v_69_82, v_69_84, v_69_87, v_69_89, v_69_92, v_69_93, v_69_94, v_69_95, v_69_96, v_69_99, v_69_100, v_69_101, v_69_102, v_69_103, v_69_106, v_69_107, v_69_110, v_69_111, v_69_112, v_69_115, v_69_116, v_69_117, v_69_118, v_69_119, v_69_122, v_69_123, v_69_126, v_69_128, v_69_131, v_69_134, v_69_135, vgi_0, vgi_s, vga_0, vga_s, vset_0, vset_s, vtk_0, vtk_s, vrc_0, vsw_0, vsw_s, List.all_cons, List.all_nil, zc1_i, zc1_r, Bool.and_true, Bool.and_self, true_and, and_true, List.length_cons, List.length_nil, Nat.zero_le, Nat.reduceLeDiff, Nat.reduceAdd, Nat.reduceLT, tg_483, tf_483_8, tg_491, ln_491]
    simp (disch := omega) only [nI_clamp, vinb_n, f2]
    refine ⟨by omega, ?_⟩
    by_cases z1 : nI (fr q i) &&& 2 = 0
    · rw [if_pos z1]
      exact at80 b5 1 h5 (Or.inl ⟨rfl, fun z => absurd z (t1.mp z1)⟩) _
    · rw [if_neg z1]
      refine c_48 (by omega) (by omega) hms (by omega) (fun u hu eu => ?_) (fun hno => ?_)
      · simp only [v_69_0, v_69_1, v_69_4, v_69_7, v_69_8, v_69_9, v_69_12, v_69_15, v_69_16, v_69_19, v_69_20, v_69_21, v_69_22, v_69_25, v_69_26, v_69_27, v_69_28, v_69_31, v_69_32, v_69_33, v_69_34, v_69_35, v_69_38, v_69_39, v_69_40, v_69_41, v_69_44, v_69_47, v_69_48, v_69_51, v_69_52, h_69_52, v_69_54, v_69_55, v_69_58, v_69_59, v_69_60, v_69_61, v_69_62, v_69_65, v_69_66, v_69_67, v_69_69, v_69_72, v_69_75, v_69_76, v_69_79, v_69_80, h_69_80, v_69_82, v_69_84, v_69_87, v_69_89, v_69_92, v_69_93, v_69_94, v_69_95, v_69_96, v_69_99, v_69_100, v_69_101, v_69_102, v_69_103, v_69_106, v_69_107, v_69_110, v_69_111, v_69_112, v_69_115, v_69_116, v_69_117, v_69_118, v_69_119, v_69_122, v_69_123, v_69_126, v_69_128, v_69_131, v_69_134, v_69_135, vgi_0, vgi_s, vga_0, vga_s, vset_0, vset_s, vtk_0, vtk_s, vrc_0, vsw_0, vsw_s, List.all_cons, List.all_nil, zc1_i, zc1_r, Bool.and_true, Bool.and_self, true_and, and_true, List.length_cons, List.length_nil, Nat.zero_le, Nat.reduceLeDiff, Nat.reduceAdd, Nat.reduceLT, Option.toList_some, List.cons_append, List.nil_append]
        rw [if_neg (by decide)]
        exact at80 b5 1 h5 (Or.inl ⟨rfl, fun _ => ⟨u, hu, eu⟩⟩) _
      · simp only [v_69_0, v_69_1, v_69_4, v_69_7, v_69_8, v_69_9, v_69_12, v_69_15, v_69_16, v_69_19, v_69_20, v_69_21, v_69_22, v_69_25, v_69_26, v_69_27, v_69_28, v_69_31, v_69_32, v_69_33, v_69_34, v_69_35, v_69_38, v_69_39, v_69_40, v_69_41, v_69_44, v_69_47, v_69_48, v_69_51, v_69_52, h_69_52, v_69_54, v_69_55, v_69_58, v_69_59, v_69_60, v_69_61, v_69_62, v_69_65, v_69_66, v_69_67, v_69_69, v_69_72, v_69_75, v_69_76, v_69_79, v_69_80, h_69_80, v_69_82, v_69_84, v_69_87, v_69_89, v_69_92, v_69_93, v_69_94, v_69_95, v_69_96, v_69_99, v_69_100, v_69_101, v_69_102, v_69_103, v_69_106, v_69_107, v_69_110, v_69_111, v_69_112, v_69_115, v_69_116, v_69_117, v_69_118, v_69_119, v_69_122, v_69_123, v_69_126, v_69_128, v_69_131, v_69_134, v_69_135, vgi_0, vgi_s, vga_0, vga_s, vset_0, vset_s, vtk_0, vtk_s, vrc_0, vsw_0, vsw_s, List.all_cons, List.all_nil, zc1_i, zc1_r, Bool.and_true, Bool.and_self, true_and, and_true, List.length_cons, List.length_nil, Nat.zero_le, Nat.reduceLeDiff, Nat.reduceAdd, Nat.reduceLT, Option.toList_some, List.cons_append, List.nil_append]
        rw [if_pos trivial]
        refine at80 b5 0 h5 (Or.inr ⟨rfl, fun z => ?_⟩) _
        obtain ⟨y, hy, e⟩ := z (Classical.byContradiction (fun h => z1 (t1.mpr h)))
        exact hno y hy e
  refine ⟨by omega, ?_⟩
  rw [ze_69]
  refine vc_ok none zH_69 88 false _ 69 0 _ _ _ _ ?_
  simp only [v_69_0, v_69_1, v_69_4, v_69_7, v_69_8, v_69_9, v_69_12, v_69_15, v_69_16, v_69_19, v_69_20, v_69_21, v_69_22, v_69_25, v_69_26, v_69_27, v_69_28, v_69_31, v_69_32, v_69_33, v_69_34, v_69_35, v_69_38, v_69_39, v_69_40, v_69_41, v_69_44, v_69_47, v_69_48, v_69_51, v_69_52, h_69_52, v_69_54, v_69_55, v_69_58, v_69_59, v_69_60, v_69_61, v_69_62, v_69_65, v_69_66, v_69_67, v_69_69, v_69_72, v_69_75, v_69_76, v_69_79, v_69_80, h_69_80, v_69_82, v_69_84, v_69_87, v_69_89, v_69_92, v_69_93, v_69_94, v_69_95, v_69_96, v_69_99, v_69_100, v_69_101, v_69_102, v_69_103, v_69_106, v_69_107, v_69_110, v_69_111, v_69_112, v_69_115, v_69_116, v_69_117, v_69_118, v_69_119, v_69_122, v_69_123, v_69_126, v_69_128, v_69_131, v_69_134, v_69_135, vgi_0, vgi_s, vga_0, vga_s, vset_0, vset_s, vtk_0, vtk_s, vrc_0, vsw_0, vsw_s, List.all_cons, List.all_nil, zc1_i, zc1_r, Bool.and_true, Bool.and_self, true_and, and_true, List.length_cons, List.length_nil, Nat.zero_le, Nat.reduceLeDiff, Nat.reduceAdd, Nat.reduceLT]
  refine c_47 (by omega) (fun s' hs' es' => ?_) (fun hno => absurd rfl (hno s hs))
  simp only [v_69_0, v_69_1, v_69_4, v_69_7, v_69_8, v_69_9, v_69_12, v_69_15, v_69_16, v_69_19, v_69_20, v_69_21, v_69_22, v_69_25, v_69_26, v_69_27, v_69_28, v_69_31, v_69_32, v_69_33, v_69_34, v_69_35, v_69_38, v_69_39, v_69_40, v_69_41, v_69_44, v_69_47, v_69_48, v_69_51, v_69_52, h_69_52, v_69_54, v_69_55, v_69_58, v_69_59, v_69_60, v_69_61, v_69_62, v_69_65, v_69_66, v_69_67, v_69_69, v_69_72, v_69_75, v_69_76, v_69_79, v_69_80, h_69_80, v_69_82, v_69_84, v_69_87, v_69_89, v_69_92, v_69_93, v_69_94, v_69_95, v_69_96, v_69_99, v_69_100, v_69_101, v_69_102, v_69_103, v_69_106, v_69_107, v_69_110, v_69_111, v_69_112, v_69_115, v_69_116, v_69_117, v_69_118, v_69_119, v_69_122, v_69_123, v_69_126, v_69_128, v_69_131, v_69_134, v_69_135, vgi_0, vgi_s, vga_0, vga_s, vset_0, vset_s, vtk_0, vtk_s, vrc_0, vsw_0, vsw_s, List.all_cons, List.all_nil, zc1_i, zc1_r, Bool.and_true, Bool.and_self, true_and, and_true, List.length_cons, List.length_nil, Nat.zero_le, Nat.reduceLeDiff, Nat.reduceAdd, Nat.reduceLT, Option.toList_some, List.cons_append, List.nil_append, tg_483]
  rw [if_neg (by decide)]
  refine c_55 (by omega) h2 (fun j hj ej => ?_) (fun hno => absurd rfl (hno i hi))
  simp only [v_69_0, v_69_1, v_69_4, v_69_7, v_69_8, v_69_9, v_69_12, v_69_15, v_69_16, v_69_19, v_69_20, v_69_21, v_69_22, v_69_25, v_69_26, v_69_27, v_69_28, v_69_31, v_69_32, v_69_33, v_69_34, v_69_35, v_69_38, v_69_39, v_69_40, v_69_41, v_69_44, v_69_47, v_69_48, v_69_51, v_69_52, h_69_52, v_69_54, v_69_55, v_69_58, v_69_59, v_69_60, v_69_61, v_69_62, v_69_65, v_69_66, v_69_67, v_69_69, v_69_72, v_69_75, v_69_76, v_69_79, v_69_80, h_69_80, v_69_82, v_69_84, v_69_87, v_69_89, v_69_92, v_69_93, v_69_94, v_69_95, v_69_96, v_69_99, v_69_100, v_69_101, v_69_102, v_69_103, v_69_106, v_69_107, v_69_110, v_69_111, v_69_112, v_69_115, v_69_116, v_69_117, v_69_118, v_69_119, v_69_122, v_69_123, v_69_126, v_69_128, v_69_131, v_69_134, v_69_135, vgi_0, vgi_s, vga_0, vga_s, vset_0, vset_s, vtk_0, vtk_s, vrc_0, vsw_0, vsw_s, List.all_cons, List.all_nil, zc1_i, zc1_r, Bool.and_true, Bool.and_self, true_and, and_true, List.length_cons, List.length_nil, Nat.zero_le, Nat.reduceLeDiff, Nat.reduceAdd, Nat.reduceLT, Option.toList_some, List.cons_append, List.nil_append, tg_483, tf_483_8, tg_491, ln_491]
  rw [if_neg (by decide)]
  simp (disch := omega) only [nI_clamp, vinb_n, f2, li3, nI_ltI]
  refine ⟨by omega, ?_⟩
  rw [if_neg (by omega)]
  refine ⟨by omega, ?_⟩
  by_cases z0 : nI (fr q i) &&& 1 = 0
  · rw [if_pos z0]
    exact at52 1 (Or.inl ⟨rfl, fun z => absurd z (t0.mp z0)⟩) _ _
  · rw [if_neg z0]
    refine c_48 (by omega) (by omega) hms (by omega) (fun u hu eu => ?_) (fun hno => ?_)
    · simp only [v_69_0, v_69_1, v_69_4, v_69_7, v_69_8, v_69_9, v_69_12, v_69_15, v_69_16, v_69_19, v_69_20, v_69_21, v_69_22, v_69_25, v_69_26, v_69_27, v_69_28, v_69_31, v_69_32, v_69_33, v_69_34, v_69_35, v_69_38, v_69_39, v_69_40, v_69_41, v_69_44, v_69_47, v_69_48, v_69_51, v_69_52, h_69_52, v_69_54, v_69_55, v_69_58, v_69_59, v_69_60, v_69_61, v_69_62, v_69_65, v_69_66, v_69_67, v_69_69, v_69_72, v_69_75, v_69_76, v_69_79, v_69_80, h_69_80, v_69_82, v_69_84, v_69_87, v_69_89, v_69_92, v_69_93, v_69_94, v_69_95, v_69_96, v_69_99, v_69_100, v_69_101, v_69_102, v_69_103, v_69_106, v_69_107, v_69_110, v_69_111, v_69_112, v_69_115, v_69_116, v_69_117, v_69_118, v_69_119, v_69_122, v_69_123, v_69_126, v_69_128, v_69_131, v_69_134, v_69_135, vgi_0, vgi_s, vga_0, vga_s, vset_0, vset_s, vtk_0, vtk_s, vrc_0, vsw_0, vsw_s, List.all_cons, List.all_nil, zc1_i, zc1_r, Bool.and_true, Bool.and_self, true_and, and_true, List.length_cons, List.length_nil, Nat.zero_le, Nat.reduceLeDiff, Nat.reduceAdd, Nat.reduceLT, Option.toList_some, List.cons_append, List.nil_append]
      rw [if_neg (by decide)]
      exact at52 1 (Or.inl ⟨rfl, fun _ => ⟨u, hu, eu⟩⟩) _ _
    · simp only [v_69_0, v_69_1, v_69_4, v_69_7, v_69_8, v_69_9, v_69_12, v_69_15, v_69_16, v_69_19, v_69_20, v_69_21, v_69_22, v_69_25, v_69_26, v_69_27, v_69_28, v_69_31, v_69_32, v_69_33, v_69_34, v_69_35, v_69_38, v_69_39, v_69_40, v_69_41, v_69_44, v_69_47, v_69_48, v_69_51, v_69_52, h_69_52, v_69_54, v_69_55, v_69_58, v_69_59, v_69_60, v_69_61, v_69_62, v_69_65, v_69_66, v_69_67, v_69_69, v_69_72, v_69_75, v_69_76, v_69_79, v_69_80, h_69_80, v_69_82, v_69_84, v_69_87, v_69_89, v_69_92, v_69_93, v_69_94, v_69_95, v_69_96, v_69_99, v_69_100, v_69_101, v_69_102, v_69_103, v_69_106, v_69_107, v_69_110, v_69_111, v_69_112, v_69_115, v_69_116, v_69_117, v_69_118, v_69_119, v_69_122, v_69_123, v_69_126, v_69_128, v_69_131, v_69_134, v_69_135, vgi_0, vgi_s, vga_0, vga_s, vset_0, vset_s, vtk_0, vtk_s, vrc_0, vsw_0, vsw_s, List.all_cons, List.all_nil, zc1_i, zc1_r, Bool.and_true, Bool.and_self, true_and, and_true, List.length_cons, List.length_nil, Nat.zero_le, Nat.reduceLeDiff, Nat.reduceAdd, Nat.reduceLT, Option.toList_some, List.cons_append, List.nil_append]
      rw [if_pos trivial]
      refine at52 0 (Or.inr ⟨rfl, fun z => ?_⟩) _ _
      obtain ⟨x, hx, e⟩ := z (Classical.byContradiction (fun h => z0 (t0.mpr h)))
      exact hno x hx e
theorem op_value (sv fv xv yv : Int32) : OP 8 69 [.int sv, .int fv, .int xv, .int yv] := by
  intro d t hd hI
  obtain ⟨q, m, ru, rc, ec, Es, h1, h2, h3, h4, h5, h6, h7, h8, h9⟩ := id hI
  have hm := h2.le
  have bad : (∀ s i, s < 4 → i < m → sv = nI s → fv = nI i → ¬ fr q i ≤ 3) → twc d 69 [.ref 483, .int sv, .int fv, .int xv, .int yv] t (fun r' t2 => ∃ v, some (Value.int (-1)) = some (Value.int v) ∧ r' = some (Value.int v) ∧ INV t2) := by
    intro hno
    refine ⟨by omega, ?_⟩
    rw [ze_69]
    refine vc_ok none zH_69 88 false _ 69 0 _ _ _ _ ?_
    simp only [v_69_0, v_69_1, v_69_4, v_69_7, v_69_8, v_69_9, v_69_12, v_69_15, v_69_16, v_69_19, v_69_20, v_69_21, v_69_22, v_69_25, v_69_26, v_69_27, v_69_28, v_69_31, v_69_32, v_69_33, v_69_34, v_69_35, v_69_38, v_69_39, v_69_40, v_69_41, v_69_44, v_69_47, v_69_48, v_69_51, v_69_52, h_69_52, v_69_54, v_69_55, v_69_58, v_69_59, v_69_60, v_69_61, v_69_62, v_69_65, v_69_66, v_69_67, v_69_69, v_69_72, v_69_75, v_69_76, v_69_79, v_69_80, h_69_80, v_69_82, v_69_84, v_69_87, v_69_89, v_69_92, v_69_93, v_69_94, v_69_95, v_69_96, v_69_99, v_69_100, v_69_101, v_69_102, v_69_103, v_69_106, v_69_107, v_69_110, v_69_111, v_69_112, v_69_115, v_69_116, v_69_117, v_69_118, v_69_119, v_69_122, v_69_123, v_69_126, v_69_128, v_69_131, v_69_134, v_69_135, vgi_0, vgi_s, vga_0, vga_s, vset_0, vset_s, vtk_0, vtk_s, vrc_0, vsw_0, vsw_s, List.all_cons, List.all_nil, zc1_i, zc1_r, Bool.and_true, Bool.and_self, true_and, and_true, List.length_cons, List.length_nil, Nat.zero_le, Nat.reduceLeDiff, Nat.reduceAdd, Nat.reduceLT]
    refine c_47 (by omega) (fun s hs es => ?_) (fun _ => ?_)
    · simp only [v_69_0, v_69_1, v_69_4, v_69_7, v_69_8, v_69_9, v_69_12, v_69_15, v_69_16, v_69_19, v_69_20, v_69_21, v_69_22, v_69_25, v_69_26, v_69_27, v_69_28, v_69_31, v_69_32, v_69_33, v_69_34, v_69_35, v_69_38, v_69_39, v_69_40, v_69_41, v_69_44, v_69_47, v_69_48, v_69_51, v_69_52, h_69_52, v_69_54, v_69_55, v_69_58, v_69_59, v_69_60, v_69_61, v_69_62, v_69_65, v_69_66, v_69_67, v_69_69, v_69_72, v_69_75, v_69_76, v_69_79, v_69_80, h_69_80, v_69_82, v_69_84, v_69_87, v_69_89, v_69_92, v_69_93, v_69_94, v_69_95, v_69_96, v_69_99, v_69_100, v_69_101, v_69_102, v_69_103, v_69_106, v_69_107, v_69_110, v_69_111, v_69_112, v_69_115, v_69_116, v_69_117, v_69_118, v_69_119, v_69_122, v_69_123, v_69_126, v_69_128, v_69_131, v_69_134, v_69_135, vgi_0, vgi_s, vga_0, vga_s, vset_0, vset_s, vtk_0, vtk_s, vrc_0, vsw_0, vsw_s, List.all_cons, List.all_nil, zc1_i, zc1_r, Bool.and_true, Bool.and_self, true_and, and_true, List.length_cons, List.length_nil, Nat.zero_le, Nat.reduceLeDiff, Nat.reduceAdd, Nat.reduceLT, Option.toList_some, List.cons_append, List.nil_append, tg_483]
      rw [if_neg (by decide)]
      refine c_55 (by omega) h2 (fun i hi ei => ?_) (fun _ => ?_)
      · subst ei
        obtain ⟨f1, f2, f3⟩ := h2.fr hi
        simp only [v_69_0, v_69_1, v_69_4, v_69_7, v_69_8, v_69_9, v_69_12, v_69_15, v_69_16, v_69_19, v_69_20, v_69_21, v_69_22, v_69_25, v_69_26, v_69_27, v_69_28, v_69_31, v_69_32, v_69_33, v_69_34, v_69_35, v_69_38, v_69_39, v_69_40, v_69_41, v_69_44, v_69_47, v_69_48, v_69_51, v_69_52, h_69_52, v_69_54, v_69_55, v_69_58, v_69_59, v_69_60, v_69_61, v_69_62, v_69_65, v_69_66, v_69_67, v_69_69, v_69_72, v_69_75, v_69_76, v_69_79, v_69_80, h_69_80, v_69_82, v_69_84, v_69_87, v_69_89, v_69_92, v_69_93, v_69_94, v_69_95, v_69_96, v_69_99, v_69_100, v_69_101, v_69_102, v_69_103, v_69_106, v_69_107, v_69_110, v_69_111, v_69_112, v_69_115, v_69_116, v_69_117, v_69_118, v_69_119, v_69_122, v_69_123, v_69_126, v_69_128, v_69_131, v_69_134, v_69_135, vgi_0, vgi_s, vga_0, vga_s, vset_0, vset_s, vtk_0, vtk_s, vrc_0, vsw_0, vsw_s, List.all_cons, List.all_nil, zc1_i, zc1_r, Bool.and_true, Bool.and_self, true_and, and_true, List.length_cons, List.length_nil, Nat.zero_le, Nat.reduceLeDiff, Nat.reduceAdd, Nat.reduceLT, Option.toList_some, List.cons_append, List.nil_append, tg_483, tf_483_8, tg_491, ln_491]
        rw [if_neg (by decide)]
        simp (disch := omega) only [nI_clamp, vinb_n, f2, li3, nI_ltI]
        refine ⟨by omega, ?_⟩
        have := hno s i hs hi es rfl
        rw [if_pos (by omega)]
        exact ⟨_, rfl, rfl, hI⟩
      · simp only [v_69_0, v_69_1, v_69_4, v_69_7, v_69_8, v_69_9, v_69_12, v_69_15, v_69_16, v_69_19, v_69_20, v_69_21, v_69_22, v_69_25, v_69_26, v_69_27, v_69_28, v_69_31, v_69_32, v_69_33, v_69_34, v_69_35, v_69_38, v_69_39, v_69_40, v_69_41, v_69_44, v_69_47, v_69_48, v_69_51, v_69_52, h_69_52, v_69_54, v_69_55, v_69_58, v_69_59, v_69_60, v_69_61, v_69_62, v_69_65, v_69_66, v_69_67, v_69_69, v_69_72, v_69_75, v_69_76, v_69_79, v_69_80, h_69_80, v_69_82, v_69_84, v_69_87, v_69_89, v_69_92, v_69_93, v_69_94, v_69_95, v_69_96, v_69_99, v_69_100, v_69_101, v_69_102, v_69_103, v_69_106, v_69_107, v_69_110, v_69_111, v_69_112, v_69_115, v_69_116, v_69_117, v_69_118, v_69_119, v_69_122, v_69_123, v_69_126, v_69_128, v_69_131, v_69_134, v_69_135, vgi_0, vgi_s, vga_0, vga_s, vset_0, vset_s, vtk_0, vtk_s, vrc_0, vsw_0, vsw_s, List.all_cons, List.all_nil, zc1_i, zc1_r, Bool.and_true, Bool.and_self, true_and, and_true, List.length_cons, List.length_nil, Nat.zero_le, Nat.reduceLeDiff, Nat.reduceAdd, Nat.reduceLT, Option.toList_some, List.cons_append, List.nil_append]
        rw [if_pos trivial]
        exact ⟨_, rfl, rfl, hI⟩
    · simp only [v_69_0, v_69_1, v_69_4, v_69_7, v_69_8, v_69_9, v_69_12, v_69_15, v_69_16, v_69_19, v_69_20, v_69_21, v_69_22, v_69_25, v_69_26, v_69_27, v_69_28, v_69_31, v_69_32, v_69_33, v_69_34, v_69_35, v_69_38, v_69_39, v_69_40, v_69_41, v_69_44, v_69_47, v_69_48, v_69_51, v_69_52, h_69_52, v_69_54, v_69_55, v_69_58, v_69_59, v_69_60, v_69_61, v_69_62, v_69_65, v_69_66, v_69_67, v_69_69, v_69_72, v_69_75, v_69_76, v_69_79, v_69_80, h_69_80, v_69_82, v_69_84, v_69_87, v_69_89, v_69_92, v_69_93, v_69_94, v_69_95, v_69_96, v_69_99, v_69_100, v_69_101, v_69_102, v_69_103, v_69_106, v_69_107, v_69_110, v_69_111, v_69_112, v_69_115, v_69_116, v_69_117, v_69_118, v_69_119, v_69_122, v_69_123, v_69_126, v_69_128, v_69_131, v_69_134, v_69_135, vgi_0, vgi_s, vga_0, vga_s, vset_0, vset_s, vtk_0, vtk_s, vrc_0, vsw_0, vsw_s, List.all_cons, List.all_nil, zc1_i, zc1_r, Bool.and_true, Bool.and_self, true_and, and_true, List.length_cons, List.length_nil, Nat.zero_le, Nat.reduceLeDiff, Nat.reduceAdd, Nat.reduceLT, Option.toList_some, List.cons_append, List.nil_append]
      rw [if_pos trivial]
      exact ⟨_, rfl, rfl, hI⟩
  refine ⟨by omega, ?_⟩
  rw [ze_8]
  refine vc_ok none zH_8 64 false _ 8 0 _ _ _ _ ?_
  simp only [v_8_0, v_8_1, v_8_2, v_8_5, v_8_8, v_8_9, v_8_12, v_8_13, v_8_14, v_8_17, v_8_20, v_8_21, v_8_22, v_8_23, v_8_26, v_8_29, v_8_30, v_8_31, v_8_34, v_8_36, v_8_37, v_8_40, v_8_41, v_8_42, v_8_45, v_8_47, v_8_49, v_8_50, v_8_51, v_8_54, v_8_55, v_8_57, v_8_60, v_8_63, v_8_65, v_8_66, v_8_67, v_8_70, v_8_72, v_8_74, v_8_77, v_8_80, v_8_81, v_8_82, v_8_83, v_8_86, v_8_87, v_8_90, v_8_91, v_8_92, v_8_93, v_8_94, v_8_96, v_8_99, vgi_0, vgi_s, vga_0, vga_s, vset_0, vset_s, vtk_0, vtk_s, vrc_0, vsw_0, vsw_s, List.all_cons, List.all_nil, zc1_i, zc1_r, Bool.and_true, Bool.and_self, true_and, and_true, List.length_cons, List.length_nil, Nat.zero_le, Nat.reduceLeDiff, Nat.reduceAdd, Nat.reduceLT]
  refine c_22 (L := 4) (by omega) (by omega) (fun s hs es => ?_) (fun hno => ?_)
  · simp only [v_8_0, v_8_1, v_8_2, v_8_5, v_8_8, v_8_9, v_8_12, v_8_13, v_8_14, v_8_17, v_8_20, v_8_21, v_8_22, v_8_23, v_8_26, v_8_29, v_8_30, v_8_31, v_8_34, v_8_36, v_8_37, v_8_40, v_8_41, v_8_42, v_8_45, v_8_47, v_8_49, v_8_50, v_8_51, v_8_54, v_8_55, v_8_57, v_8_60, v_8_63, v_8_65, v_8_66, v_8_67, v_8_70, v_8_72, v_8_74, v_8_77, v_8_80, v_8_81, v_8_82, v_8_83, v_8_86, v_8_87, v_8_90, v_8_91, v_8_92, v_8_93, v_8_94, v_8_96, v_8_99, vgi_0, vgi_s, vga_0, vga_s, vset_0, vset_s, vtk_0, vtk_s, vrc_0, vsw_0, vsw_s, List.all_cons, List.all_nil, zc1_i, zc1_r, Bool.and_true, Bool.and_self, true_and, and_true, List.length_cons, List.length_nil, Nat.zero_le, Nat.reduceLeDiff, Nat.reduceAdd, Nat.reduceLT, Option.toList_some, List.cons_append, List.nil_append, tg_0, tf_0_1, tg_2]
    rw [if_neg (by decide)]
    refine c_134 (k := 3) (by omega) h2 (by omega) (by omega) (fun i hi ei hl => ?_) (fun hno => ?_)
    · subst es
      subst ei
      obtain ⟨g1, g2, g3, g4⟩ := hI.sl hs
      have st := sl_dec s hs
      have fo := fo_tag i (by omega)
      obtain ⟨f1, f2, f3⟩ := h2.fr hi
      obtain ⟨b1, b0⟩ := bit2 _ f3
      have t0 : (nI (fr q i) &&& 1 = 0) ↔ ¬ fb q i 0 := by unfold fb; rw [b0]; cases (fr q i).testBit 0 <;> simp
      have t1 : (nI (fr q i) &&& 2 = 0) ↔ ¬ fb q i 1 := by unfold fb; rw [b1]; cases (fr q i).testBit 1 <;> simp
      have h30 : t.1 (243 + 2 * s) 0 = nI (sn (mS t s)) := by rw [← cS_i, g1]; exact g3
      have no : ¬ vaOK q i (sn (mS t s)) xv yv → twc d 69 [.ref 483, .int (nI s), .int (nI i), .int xv, .int yv] t (fun r' t2 => ∃ v, some (Value.int (-1)) = some (Value.int v) ∧ r' = some (Value.int v) ∧ INV t2) := fun hno => c_69 (by omega) hs h2 rfl g2 g3 g4 hi hl (fun _ => ⟨_, rfl, rfl, hI⟩) (fun x y _ _ hok => absurd hok hno)
      have yes : vaOK q i (sn (mS t s)) xv yv → ∀ G : Option Value → T → Prop, (∀ v t1, twc d 69 [.ref 483, .int (nI s), .int (nI i), .int xv, .int yv] t1 (fun r' t2 => ∃ w, some (Value.int v) = some (Value.int w) ∧ r' = some (Value.int w) ∧ INV t2) → G (some (.int v)) t1) → twc (d - 1) 122 [.ref 44, .ref (243 + 2 * s), .int (nI i), .int xv, .int yv] t G := by
        intro hok G g
        obtain ⟨x, y, hx, hy, hfr, ex, ey, zx, zy⟩ := vaOK_f g4 hl hok
        refine c_122z (by omega) h2.1 st g1 g2 g3 g4 hi hl hfr ex ey (fun t1 o1 => g _ t1 ?_)
        obtain ⟨I1, m1⟩ := INVx.ev (a := 0) hI rfl o1
        have h21 : foI t1 q m := h2.k (fun b k a => (o1 b (by omega)).1 k) ((o1 483 (by omega)).1 1)
        refine c_69 (by omega) hs h21 (m1 s) g2 g3 g4 hi hl (fun hno => absurd hok hno) (fun x' y' hx' hy' _ ex' ey' zx' zy' t2 o2 => ?_)
        have exx : x' = x := by
          by_cases z : fb q i 0
          · exact nI_inj (by omega) (by omega) ((ex' z).symm.trans (ex z))
          · rw [zx z, zx' z]
        have eyy : y' = y := by
          by_cases z : fb q i 1
          · exact nI_inj (by omega) (by omega) ((ey' z).symm.trans (ey z))
          · rw [zy z, zy' z]
        rw [exx, eyy]
        exact ⟨_, rfl, rfl, INVx.r I1 (mW.of (B := mEb) (R := noA) (mG.tX o2) (fun z => by have := z.1; omega) (fun b z => z) (fun b z => z)) (fun b z => by have := z.1; omega) (fun s z => z.elim)⟩
      simp only [v_8_0, v_8_1, v_8_2, v_8_5, v_8_8, v_8_9, v_8_12, v_8_13, v_8_14, v_8_17, v_8_20, v_8_21, v_8_22, v_8_23, v_8_26, v_8_29, v_8_30, v_8_31, v_8_34, v_8_36, v_8_37, v_8_40, v_8_41, v_8_42, v_8_45, v_8_47, v_8_49, v_8_50, v_8_51, v_8_54, v_8_55, v_8_57, v_8_60, v_8_63, v_8_65, v_8_66, v_8_67, v_8_70, v_8_72, v_8_74, v_8_77, v_8_80, v_8_81, v_8_82, v_8_83, v_8_86, v_8_87, v_8_90, v_8_91, v_8_92, v_8_93, v_8_94, v_8_96, v_8_99, vgi_0, vgi_s, vga_0, vga_s, vset_0, vset_s, vtk_0, vtk_s, vrc_0, vsw_0, vsw_s, List.all_cons, List.all_nil, zc1_i, zc1_r, Bool.and_true, Bool.and_self, true_and, and_true, List.length_cons, List.length_nil, Nat.zero_le, Nat.reduceLeDiff, Nat.reduceAdd, Nat.reduceLT, Option.toList_some, List.cons_append, List.nil_append, tg_0, tf_0_0, tg_1, ln_1, tf_0_1, tg_2, tf_2_0, tg_3, ln_3, tf_0_2, tg_44]
      rw [if_neg (by decide)]
      simp (disch := omega) only [nI_clamp, vinb_n, tf_1, tf_3, fo, st, f1, h30]
      refine ⟨by omega, trivial, hs, trivial, ?_⟩
      by_cases z0 : nI (fr q i) &&& 1 = 0
      · rw [if_pos z0]
        by_cases z1 : nI (fr q i) &&& 2 = 0
        · rw [if_pos z1]
          refine ⟨hs, yes ⟨fun z => absurd z (t0.mp z0), fun z => absurd z (t1.mp z1)⟩ _ (fun v t1 hk => ?_)⟩
          simp only [v_8_0, v_8_1, v_8_2, v_8_5, v_8_8, v_8_9, v_8_12, v_8_13, v_8_14, v_8_17, v_8_20, v_8_21, v_8_22, v_8_23, v_8_26, v_8_29, v_8_30, v_8_31, v_8_34, v_8_36, v_8_37, v_8_40, v_8_41, v_8_42, v_8_45, v_8_47, v_8_49, v_8_50, v_8_51, v_8_54, v_8_55, v_8_57, v_8_60, v_8_63, v_8_65, v_8_66, v_8_67, v_8_70, v_8_72, v_8_74, v_8_77, v_8_80, v_8_81, v_8_82, v_8_83, v_8_86, v_8_87, v_8_90, v_8_91, v_8_92, v_8_93, v_8_94, v_8_96, v_8_99, vgi_0, vgi_s, vga_0, vga_s, vset_0, vset_s, vtk_0, vtk_s, vrc_0, vsw_0, vsw_s, List.all_cons, List.all_nil, zc1_i, zc1_r, Bool.and_true, Bool.and_self, true_and, and_true, List.length_cons, List.length_nil, Nat.zero_le, Nat.reduceLeDiff, Nat.reduceAdd, Nat.reduceLT, Option.toList_some, List.cons_append, List.nil_append]
          exact hk
        · rw [if_neg z1]
          have p1 : fb q i 1 := Classical.byContradiction (fun h => z1 (t1.mpr h))
          refine c_22 (by omega) (by omega) (fun y hy ey => ?_) (fun hno => ?_)
          · simp only [v_8_0, v_8_1, v_8_2, v_8_5, v_8_8, v_8_9, v_8_12, v_8_13, v_8_14, v_8_17, v_8_20, v_8_21, v_8_22, v_8_23, v_8_26, v_8_29, v_8_30, v_8_31, v_8_34, v_8_36, v_8_37, v_8_40, v_8_41, v_8_42, v_8_45, v_8_47, v_8_49, v_8_50, v_8_51, v_8_54, v_8_55, v_8_57, v_8_60, v_8_63, v_8_65, v_8_66, v_8_67, v_8_70, v_8_72, v_8_74, v_8_77, v_8_80, v_8_81, v_8_82, v_8_83, v_8_86, v_8_87, v_8_90, v_8_91, v_8_92, v_8_93, v_8_94, v_8_96, v_8_99, vgi_0, vgi_s, vga_0, vga_s, vset_0, vset_s, vtk_0, vtk_s, vrc_0, vsw_0, vsw_s, List.all_cons, List.all_nil, zc1_i, zc1_r, Bool.and_true, Bool.and_self, true_and, and_true, List.length_cons, List.length_nil, Nat.zero_le, Nat.reduceLeDiff, Nat.reduceAdd, Nat.reduceLT, Option.toList_some, List.cons_append, List.nil_append, tg_0, tf_0_0, tg_1, ln_1, tf_0_2, tg_44]
            rw [if_neg (by decide)]
            simp (disch := omega) only [nI_clamp, vinb_n, tf_1, st]
            refine ⟨hs, yes ⟨fun z => absurd z (t0.mp z0), fun _ => ⟨y, hy, ey⟩⟩ _ (fun v t1 hk => ?_)⟩
            simp only [v_8_0, v_8_1, v_8_2, v_8_5, v_8_8, v_8_9, v_8_12, v_8_13, v_8_14, v_8_17, v_8_20, v_8_21, v_8_22, v_8_23, v_8_26, v_8_29, v_8_30, v_8_31, v_8_34, v_8_36, v_8_37, v_8_40, v_8_41, v_8_42, v_8_45, v_8_47, v_8_49, v_8_50, v_8_51, v_8_54, v_8_55, v_8_57, v_8_60, v_8_63, v_8_65, v_8_66, v_8_67, v_8_70, v_8_72, v_8_74, v_8_77, v_8_80, v_8_81, v_8_82, v_8_83, v_8_86, v_8_87, v_8_90, v_8_91, v_8_92, v_8_93, v_8_94, v_8_96, v_8_99, vgi_0, vgi_s, vga_0, vga_s, vset_0, vset_s, vtk_0, vtk_s, vrc_0, vsw_0, vsw_s, List.all_cons, List.all_nil, zc1_i, zc1_r, Bool.and_true, Bool.and_self, true_and, and_true, List.length_cons, List.length_nil, Nat.zero_le, Nat.reduceLeDiff, Nat.reduceAdd, Nat.reduceLT, Option.toList_some, List.cons_append, List.nil_append]
            exact hk
          · simp only [v_8_0, v_8_1, v_8_2, v_8_5, v_8_8, v_8_9, v_8_12, v_8_13, v_8_14, v_8_17, v_8_20, v_8_21, v_8_22, v_8_23, v_8_26, v_8_29, v_8_30, v_8_31, v_8_34, v_8_36, v_8_37, v_8_40, v_8_41, v_8_42, v_8_45, v_8_47, v_8_49, v_8_50, v_8_51, v_8_54, v_8_55, v_8_57, v_8_60, v_8_63, v_8_65, v_8_66, v_8_67, v_8_70, v_8_72, v_8_74, v_8_77, v_8_80, v_8_81, v_8_82, v_8_83, v_8_86, v_8_87, v_8_90, v_8_91, v_8_92, v_8_93, v_8_94, v_8_96, v_8_99, vgi_0, vgi_s, vga_0, vga_s, vset_0, vset_s, vtk_0, vtk_s, vrc_0, vsw_0, vsw_s, List.all_cons, List.all_nil, zc1_i, zc1_r, Bool.and_true, Bool.and_self, true_and, and_true, List.length_cons, List.length_nil, Nat.zero_le, Nat.reduceLeDiff, Nat.reduceAdd, Nat.reduceLT, Option.toList_some, List.cons_append, List.nil_append]
            rw [if_pos trivial]
            exact no (fun z => by obtain ⟨y, hy, e⟩ := z.2 p1; exact hno y hy e)
      · rw [if_neg z0]
        have p0 : fb q i 0 := Classical.byContradiction (fun h => z0 (t0.mpr h))
        refine c_22 (by omega) (by omega) (fun x hx ex => ?_) (fun hno => ?_)
        · simp only [v_8_0, v_8_1, v_8_2, v_8_5, v_8_8, v_8_9, v_8_12, v_8_13, v_8_14, v_8_17, v_8_20, v_8_21, v_8_22, v_8_23, v_8_26, v_8_29, v_8_30, v_8_31, v_8_34, v_8_36, v_8_37, v_8_40, v_8_41, v_8_42, v_8_45, v_8_47, v_8_49, v_8_50, v_8_51, v_8_54, v_8_55, v_8_57, v_8_60, v_8_63, v_8_65, v_8_66, v_8_67, v_8_70, v_8_72, v_8_74, v_8_77, v_8_80, v_8_81, v_8_82, v_8_83, v_8_86, v_8_87, v_8_90, v_8_91, v_8_92, v_8_93, v_8_94, v_8_96, v_8_99, vgi_0, vgi_s, vga_0, vga_s, vset_0, vset_s, vtk_0, vtk_s, vrc_0, vsw_0, vsw_s, List.all_cons, List.all_nil, zc1_i, zc1_r, Bool.and_true, Bool.and_self, true_and, and_true, List.length_cons, List.length_nil, Nat.zero_le, Nat.reduceLeDiff, Nat.reduceAdd, Nat.reduceLT, Option.toList_some, List.cons_append, List.nil_append, tg_0, tf_0_0, tg_1, ln_1, tf_0_2, tg_44]
          rw [if_neg (by decide)]
          simp (disch := omega) only [nI_clamp, vinb_n, tf_1, st]
          by_cases z1 : nI (fr q i) &&& 2 = 0
          · rw [if_pos z1]
            refine ⟨hs, yes ⟨fun _ => ⟨x, hx, ex⟩, fun z => absurd z (t1.mp z1)⟩ _ (fun v t1 hk => ?_)⟩
            simp only [v_8_0, v_8_1, v_8_2, v_8_5, v_8_8, v_8_9, v_8_12, v_8_13, v_8_14, v_8_17, v_8_20, v_8_21, v_8_22, v_8_23, v_8_26, v_8_29, v_8_30, v_8_31, v_8_34, v_8_36, v_8_37, v_8_40, v_8_41, v_8_42, v_8_45, v_8_47, v_8_49, v_8_50, v_8_51, v_8_54, v_8_55, v_8_57, v_8_60, v_8_63, v_8_65, v_8_66, v_8_67, v_8_70, v_8_72, v_8_74, v_8_77, v_8_80, v_8_81, v_8_82, v_8_83, v_8_86, v_8_87, v_8_90, v_8_91, v_8_92, v_8_93, v_8_94, v_8_96, v_8_99, vgi_0, vgi_s, vga_0, vga_s, vset_0, vset_s, vtk_0, vtk_s, vrc_0, vsw_0, vsw_s, List.all_cons, List.all_nil, zc1_i, zc1_r, Bool.and_true, Bool.and_self, true_and, and_true, List.length_cons, List.length_nil, Nat.zero_le, Nat.reduceLeDiff, Nat.reduceAdd, Nat.reduceLT, Option.toList_some, List.cons_append, List.nil_append]
            exact hk
          · rw [if_neg z1]
            have p1 : fb q i 1 := Classical.byContradiction (fun h => z1 (t1.mpr h))
            refine c_22 (by omega) (by omega) (fun y hy ey => ?_) (fun hno => ?_)
            · simp only [v_8_0, v_8_1, v_8_2, v_8_5, v_8_8, v_8_9, v_8_12, v_8_13, v_8_14, v_8_17, v_8_20, v_8_21, v_8_22, v_8_23, v_8_26, v_8_29, v_8_30, v_8_31, v_8_34, v_8_36, v_8_37, v_8_40, v_8_41, v_8_42, v_8_45, v_8_47, v_8_49, v_8_50, v_8_51, v_8_54, v_8_55, v_8_57, v_8_60, v_8_63, v_8_65, v_8_66, v_8_67, v_8_70, v_8_72, v_8_74, v_8_77, v_8_80, v_8_81, v_8_82, v_8_83, v_8_86, v_8_87, v_8_90, v_8_91, v_8_92, v_8_93, v_8_94, v_8_96, v_8_99, vgi_0, vgi_s, vga_0, vga_s, vset_0, vset_s, vtk_0, vtk_s, vrc_0, vsw_0, vsw_s, List.all_cons, List.all_nil, zc1_i, zc1_r, Bool.and_true, Bool.and_self, true_and, and_true, List.length_cons, List.length_nil, Nat.zero_le, Nat.reduceLeDiff, Nat.reduceAdd, Nat.reduceLT, Option.toList_some, List.cons_append, List.nil_append, tg_0, tf_0_0, tg_1, ln_1, tf_0_2, tg_44]
              rw [if_neg (by decide)]
              simp (disch := omega) only [nI_clamp, vinb_n, tf_1, st]
              refine ⟨hs, yes ⟨fun _ => ⟨x, hx, ex⟩, fun _ => ⟨y, hy, ey⟩⟩ _ (fun v t1 hk => ?_)⟩
              simp only [v_8_0, v_8_1, v_8_2, v_8_5, v_8_8, v_8_9, v_8_12, v_8_13, v_8_14, v_8_17, v_8_20, v_8_21, v_8_22, v_8_23, v_8_26, v_8_29, v_8_30, v_8_31, v_8_34, v_8_36, v_8_37, v_8_40, v_8_41, v_8_42, v_8_45, v_8_47, v_8_49, v_8_50, v_8_51, v_8_54, v_8_55, v_8_57, v_8_60, v_8_63, v_8_65, v_8_66, v_8_67, v_8_70, v_8_72, v_8_74, v_8_77, v_8_80, v_8_81, v_8_82, v_8_83, v_8_86, v_8_87, v_8_90, v_8_91, v_8_92, v_8_93, v_8_94, v_8_96, v_8_99, vgi_0, vgi_s, vga_0, vga_s, vset_0, vset_s, vtk_0, vtk_s, vrc_0, vsw_0, vsw_s, List.all_cons, List.all_nil, zc1_i, zc1_r, Bool.and_true, Bool.and_self, true_and, and_true, List.length_cons, List.length_nil, Nat.zero_le, Nat.reduceLeDiff, Nat.reduceAdd, Nat.reduceLT, Option.toList_some, List.cons_append, List.nil_append]
              exact hk
            · simp only [v_8_0, v_8_1, v_8_2, v_8_5, v_8_8, v_8_9, v_8_12, v_8_13, v_8_14, v_8_17, v_8_20, v_8_21, v_8_22, v_8_23, v_8_26, v_8_29, v_8_30, v_8_31, v_8_34, v_8_36, v_8_37, v_8_40, v_8_41, v_8_42, v_8_45, v_8_47, v_8_49, v_8_50, v_8_51, v_8_54, v_8_55, v_8_57, v_8_60, v_8_63, v_8_65, v_8_66, v_8_67, v_8_70, v_8_72, v_8_74, v_8_77, v_8_80, v_8_81, v_8_82, v_8_83, v_8_86, v_8_87, v_8_90, v_8_91, v_8_92, v_8_93, v_8_94, v_8_96, v_8_99, vgi_0, vgi_s, vga_0, vga_s, vset_0, vset_s, vtk_0, vtk_s, vrc_0, vsw_0, vsw_s, List.all_cons, List.all_nil, zc1_i, zc1_r, Bool.and_true, Bool.and_self, true_and, and_true, List.length_cons, List.length_nil, Nat.zero_le, Nat.reduceLeDiff, Nat.reduceAdd, Nat.reduceLT, Option.toList_some, List.cons_append, List.nil_append]
              rw [if_pos trivial]
              exact no (fun z => by obtain ⟨y, hy, e⟩ := z.2 p1; exact hno y hy e)
        · simp only [v_8_0, v_8_1, v_8_2, v_8_5, v_8_8, v_8_9, v_8_12, v_8_13, v_8_14, v_8_17, v_8_20, v_8_21, v_8_22, v_8_23, v_8_26, v_8_29, v_8_30, v_8_31, v_8_34, v_8_36, v_8_37, v_8_40, v_8_41, v_8_42, v_8_45, v_8_47, v_8_49, v_8_50, v_8_51, v_8_54, v_8_55, v_8_57, v_8_60, v_8_63, v_8_65, v_8_66, v_8_67, v_8_70, v_8_72, v_8_74, v_8_77, v_8_80, v_8_81, v_8_82, v_8_83, v_8_86, v_8_87, v_8_90, v_8_91, v_8_92, v_8_93, v_8_94, v_8_96, v_8_99, vgi_0, vgi_s, vga_0, vga_s, vset_0, vset_s, vtk_0, vtk_s, vrc_0, vsw_0, vsw_s, List.all_cons, List.all_nil, zc1_i, zc1_r, Bool.and_true, Bool.and_self, true_and, and_true, List.length_cons, List.length_nil, Nat.zero_le, Nat.reduceLeDiff, Nat.reduceAdd, Nat.reduceLT, Option.toList_some, List.cons_append, List.nil_append]
          rw [if_pos trivial]
          exact no (fun z => by obtain ⟨x, hx, e⟩ := z.1 p0; exact hno x hx e)
    · simp only [v_8_0, v_8_1, v_8_2, v_8_5, v_8_8, v_8_9, v_8_12, v_8_13, v_8_14, v_8_17, v_8_20, v_8_21, v_8_22, v_8_23, v_8_26, v_8_29, v_8_30, v_8_31, v_8_34, v_8_36, v_8_37, v_8_40, v_8_41, v_8_42, v_8_45, v_8_47, v_8_49, v_8_50, v_8_51, v_8_54, v_8_55, v_8_57, v_8_60, v_8_63, v_8_65, v_8_66, v_8_67, v_8_70, v_8_72, v_8_74, v_8_77, v_8_80, v_8_81, v_8_82, v_8_83, v_8_86, v_8_87, v_8_90, v_8_91, v_8_92, v_8_93, v_8_94, v_8_96, v_8_99, vgi_0, vgi_s, vga_0, vga_s, vset_0, vset_s, vtk_0, vtk_s, vrc_0, vsw_0, vsw_s, List.all_cons, List.all_nil, zc1_i, zc1_r, Bool.and_true, Bool.and_self, true_and, and_true, List.length_cons, List.length_nil, Nat.zero_le, Nat.reduceLeDiff, Nat.reduceAdd, Nat.reduceLT, Option.toList_some, List.cons_append, List.nil_append]
      rw [if_pos trivial]
      exact bad (fun s i hs hi es ei => hno i hi ei)
  · simp only [v_8_0, v_8_1, v_8_2, v_8_5, v_8_8, v_8_9, v_8_12, v_8_13, v_8_14, v_8_17, v_8_20, v_8_21, v_8_22, v_8_23, v_8_26, v_8_29, v_8_30, v_8_31, v_8_34, v_8_36, v_8_37, v_8_40, v_8_41, v_8_42, v_8_45, v_8_47, v_8_49, v_8_50, v_8_51, v_8_54, v_8_55, v_8_57, v_8_60, v_8_63, v_8_65, v_8_66, v_8_67, v_8_70, v_8_72, v_8_74, v_8_77, v_8_80, v_8_81, v_8_82, v_8_83, v_8_86, v_8_87, v_8_90, v_8_91, v_8_92, v_8_93, v_8_94, v_8_96, v_8_99, vgi_0, vgi_s, vga_0, vga_s, vset_0, vset_s, vtk_0, vtk_s, vrc_0, vsw_0, vsw_s, List.all_cons, List.all_nil, zc1_i, zc1_r, Bool.and_true, Bool.and_self, true_and, and_true, List.length_cons, List.length_nil, Nat.zero_le, Nat.reduceLeDiff, Nat.reduceAdd, Nat.reduceLT, Option.toList_some, List.cons_append, List.nil_append]
    rw [if_pos trivial]
    exact bad (fun s i hs hi es => absurd es (hno s hs))
end OP8
