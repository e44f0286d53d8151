/-! The program embeds: level after level. -/
section CE2
variable {a b : Nat} {f g : St} {n m : Nat}
theorem emP.o {t t' : T} (he : emP t a b f g) (hO : tO [150, 151] t t') : emP t' a b f g := by
  obtain ⟨ea, eb, ta, tb, ef, eg⟩ := he
  have no : ∀ x, vtag x = 4 → x ∉ [150, 151] ∧ x + 1 ∉ [150, 151] := by
    intro x hx
    refine ⟨?_, ?_⟩
    · simp only [List.mem_cons, List.not_mem_nil, or_false, not_or]
      constructor
      · rintro rfl; rw [tg_150] at hx; omega
      · rintro rfl; rw [tg_151] at hx; omega
    · simp only [List.mem_cons, List.not_mem_nil, or_false, not_or]
      constructor
      · intro e
        have : x = 149 := by omega
        subst this; rw [tg_149] at hx; omega
      · intro e
        have : x = 150 := by omega
        subst this; rw [tg_150] at hx; omega
  refine ⟨by rw [hO.1]; exact ea, by rw [hO.1]; exact eb, ta, tb, ?_, ?_⟩
  · rw [hO.str (no a ta).1 (no a ta).2]; exact ef
  · rw [hO.str (no b tb).1 (no b tb).2]; exact eg
def xs (f : St) (n : Nat) (g : St) (m : Nat) (h : Nat → Nat) (u : Nat) : Prop := ∃ h', sol f n g m h' ∧ ∀ v, v < u → h' v = h v
theorem nI_sub' (u k : Nat) : nI (u + k) - nI u = nI k := by
  rw [Int32.sub_eq_add_neg, ← nI_add, Int32.add_comm (nI u), Int32.add_assoc, Int32.add_right_neg, Int32.add_zero]
theorem nI_mp (u : Nat) : nI (u + 1) - 1 = nI u := by rw [Int32.sub_eq_add_neg]; exact nI_pm u
/-- placing from u on: the promise -/
def PF (a b : Nat) (f : St) (n : Nat) (g : St) (m k u : Nat) : Prop := ∀ (d : Nat) (t : T) (F : Option Value → T → Prop) (h : Nat → Nat), k + 6 ≤ d → emP t a b f g → (∀ w, w < u → t.1 150 w = nI (h w) ∧ h w < m ∧ okE f g h w) → (∀ x, x < m → t.1 151 x = nI (hit h x u)) → (xs f n g m h u → ∀ t', tO [150, 151] t t' → F (some (.int 1)) t') → (¬ xs f n g m h u → ∀ t', tO [150, 151] t t' → (∀ w, w < u → t'.1 150 w = t.1 150 w) → (∀ x, x < m → t'.1 151 x = t.1 151 x) → F (some (.int 0)) t') → twc d 117 [.ref 149, .int (nI u), .int (nI (cmi h u m))] t F
theorem l_117 {d k u : Nat} {t : T} {F : Option Value → T → Prop} {h : Nat → Nat} (hd : k + 6 ≤ d) (hn : n ≤ 6) (hm : m ≤ 6) (hu : u < n) (h0 : g 0 = nI m) (he : emP t a b f g) (hp : ∀ w, w < u → t.1 150 w = nI (h w) ∧ h w < m ∧ okE f g h w) (hh : ∀ x, x < m → t.1 151 x = nI (hit h x u)) (ih : PF a b f n g m k (u + 1)) {j3 : Value} (k1 : xs f n g m h u → ∀ t', tO [150, 151] t t' → F (some (.int 1)) t') (k0 : ¬ xs f n g m h u → ∀ t', tO [150, 151] t t' → (∀ w, w < u → t'.1 150 w = t.1 150 w) → (∀ x, x < m → t'.1 151 x = t.1 151 x) → F (some (.int 0)) t') : ∀ (j x : Nat) (t' : T), x + j = m → tO [150, 151] t t' → (∀ w, w < u → t'.1 150 w = t.1 150 w) → (∀ x, x < m → t'.1 151 x = t.1 151 x) → (∀ h', sol f n g m h' → (∀ v, v < u → h' v = h v) → x ≤ h' u) → twp none d 117 26 [.ref 149, .int (nI u), .int (nI (cmi h u m)), j3, .int (nI x)] [] t' F := by
  have tb := he.2.2.2.1
  intro j
  induction j with
  | zero =>
    intro x t' hx hO hq1 hq2 hI
    have hx : x = m := by omega
    subst hx
    have he' := he.o hO
    have hb : t'.1 b 0 = nI x := by rw [← cS_i, he'.2.2.2.2.2]; exact h0
    refine vc_ok none zH_117 81 false _ 117 26 _ _ _ _ ?_
    simp only [v_117_0, v_117_1, v_117_4, v_117_7, v_117_8, v_117_9, v_117_10, v_117_11, v_117_12, v_117_15, v_117_16, v_117_17, v_117_18, v_117_21, v_117_22, v_117_23, v_117_24, v_117_26, h_117_26, v_117_28, v_117_29, v_117_32, v_117_35, v_117_38, v_117_39, v_117_42, v_117_43, v_117_45, v_117_46, v_117_47, v_117_48, v_117_50, v_117_53, v_117_56, v_117_57, v_117_60, v_117_62, v_117_63, v_117_64, v_117_65, v_117_66, v_117_67, v_117_68, v_117_69, v_117_70, v_117_71, v_117_72, v_117_75, v_117_77, v_117_78, v_117_79, v_117_82, v_117_83, v_117_84, v_117_85, v_117_88, v_117_89, v_117_92, v_117_95, v_117_96, v_117_97, v_117_98, v_117_101, v_117_103, v_117_104, v_117_105, v_117_106, v_117_107, v_117_108, v_117_111, v_117_114, v_117_115, vgi_0, vgi_s, vga_0, vga_s, vset_0, vset_s, vtk_0, vtk_s, vrc_0, vsw_0, vsw_s, List.all_cons, List.all_nil, zc1_i, zc1_r, Bool.and_true, Bool.and_self, true_and, and_true, List.length_cons, List.length_nil, Nat.zero_le, Nat.reduceLeDiff, Nat.reduceAdd, Nat.reduceLT, tg_149, tf_149_3, he'.2.1, tb, hb]
    simp (disch := omega) only [nI_ltI, Nat.lt_irrefl, if_false]
    refine ⟨Or.inl trivial, k0 ?_ t' hO hq1 hq2⟩
    rintro ⟨h', s', e'⟩
    have h1 := hI h' s' e'
    have h2 := (s'.1 u hu).1
    omega
  | succ j ihj =>
    intro x t' hx hO hq1 hq2 hI
    have he' := he.o hO
    have hb : t'.1 b 0 = nI m := by rw [← cS_i, he'.2.2.2.2.2]; exact h0
    have hl := hit_le (h := h) (a := x) u
    have hz := hit_z (h := h) (a := x) u
    have hcm := cmi_m (h := h) (u := u) m
    have cong : ∀ v, v < u → h v = eu h u x v := fun v hv => by unfold eu; rw [if_neg (by omega)]
    have ex : eu h u x u = x := by unfold eu; rw [if_pos rfl]
    have o2 : tO [150, 151] t' (tsi t' 150 u (nI x)) := tO.si (by simp)
    have hi : ∀ w, w ≤ u → (tsi t' 150 u (nI x)).1 150 w = nI (eu h u x w) ∧ eu h u x w < 6 := fun w hw => by
      by_cases e : w = u
      · rw [e, tsi_eq, ex]; exact ⟨rfl, by omega⟩
      · have := hp w (by omega)
        rw [tsi_ne (by omega), hq1 w (by omega), ← cong w (by omega)]; exact ⟨this.1, by omega⟩
    have h151 : ∀ y, y < m → (tsi t' 150 u (nI x)).1 151 y = nI (hit h y u) := fun y hy => by
      rw [tsi_ne (by omega), hq2 y hy]; exact hh y hy
    have nx : ∀ t2, tO [150, 151] t t2 → (∀ w, w < u → t2.1 150 w = t.1 150 w) → (∀ y, y < m → t2.1 151 y = t.1 151 y) → (∀ h', sol f n g m h' → (∀ v, v < u → h' v = h v) → h' u ≠ x) → twp none d 117 26 [.ref 149, .int (nI u), .int (nI (cmi h u m)), j3, .int (nI (x + 1))] [] t2 F := by
      intro t2 ot q1 q2 hne
      refine ihj (x + 1) t2 (by omega) ot q1 q2 (fun h' s' e' => ?_)
      have := hI h' s' e'
      have := hne h' s' e'
      omega
    refine vc_ok none zH_117 81 false _ 117 26 _ _ _ _ ?_
    simp only [v_117_0, v_117_1, v_117_4, v_117_7, v_117_8, v_117_9, v_117_10, v_117_11, v_117_12, v_117_15, v_117_16, v_117_17, v_117_18, v_117_21, v_117_22, v_117_23, v_117_24, v_117_26, h_117_26, v_117_28, v_117_29, v_117_32, v_117_35, v_117_38, v_117_39, v_117_42, v_117_43, v_117_45, v_117_46, v_117_47, v_117_48, v_117_50, v_117_53, v_117_56, v_117_57, v_117_60, v_117_62, v_117_63, v_117_64, v_117_65, v_117_66, v_117_67, v_117_68, v_117_69, v_117_70, v_117_71, v_117_72, v_117_75, v_117_77, v_117_78, v_117_79, v_117_82, v_117_83, v_117_84, v_117_85, v_117_88, v_117_89, v_117_92, v_117_95, v_117_96, v_117_97, v_117_98, v_117_101, v_117_103, v_117_104, v_117_105, v_117_106, v_117_107, v_117_108, v_117_111, v_117_114, v_117_115, vgi_0, vgi_s, vga_0, vga_s, vset_0, vset_s, vtk_0, vtk_s, vrc_0, vsw_0, vsw_s, List.all_cons, List.all_nil, zc1_i, zc1_r, Bool.and_true, Bool.and_self, true_and, and_true, List.length_cons, List.length_nil, Nat.zero_le, Nat.reduceLeDiff, Nat.reduceAdd, Nat.reduceLT, tg_149, tf_149_3, he'.2.1, tb, hb, tf_149_0, tg_150, ln_150]
    simp (disch := omega) only [nI_ltI, nI_clamp, vinb_n]
    rw [if_pos (by omega)]
    refine ⟨by omega, ?_⟩
    have c118 : ∀ G : Option Value → T → Prop, (okE f g (eu h u x) u → G (some (.int 1)) (tsi t' 150 u (nI x))) → (¬ okE f g (eu h u x) u → G (some (.int 0)) (tsi t' 150 u (nI x))) → twc d 118 [.ref 149, .int (nI u), .int (nI x)] (tsi t' 150 u (nI x)) G := fun G g1 g0 => by
      have := c_118 (d := d) (F := G) (u := u) (h := eu h u x) (t := tsi t' 150 u (nI x)) (f := f) (g := g) (a := a) (b := b) (by omega) (he'.o o2) (by omega) hi (by rw [ex, h151 x (by omega), hit_congr u cong]) g1 g0
      rw [ex] at this
      exact this
    refine c118 _ (fun q => ?_) (fun q => ?_)
    · have e151 := h151 x (by omega)
      simp only [v_117_0, v_117_1, v_117_4, v_117_7, v_117_8, v_117_9, v_117_10, v_117_11, v_117_12, v_117_15, v_117_16, v_117_17, v_117_18, v_117_21, v_117_22, v_117_23, v_117_24, v_117_26, h_117_26, v_117_28, v_117_29, v_117_32, v_117_35, v_117_38, v_117_39, v_117_42, v_117_43, v_117_45, v_117_46, v_117_47, v_117_48, v_117_50, v_117_53, v_117_56, v_117_57, v_117_60, v_117_62, v_117_63, v_117_64, v_117_65, v_117_66, v_117_67, v_117_68, v_117_69, v_117_70, v_117_71, v_117_72, v_117_75, v_117_77, v_117_78, v_117_79, v_117_82, v_117_83, v_117_84, v_117_85, v_117_88, v_117_89, v_117_92, v_117_95, v_117_96, v_117_97, v_117_98, v_117_101, v_117_103, v_117_104, v_117_105, v_117_106, v_117_107, v_117_108, v_117_111, v_117_114, v_117_115, vgi_0, vgi_s, vga_0, vga_s, vset_0, vset_s, vtk_0, vtk_s, vrc_0, vsw_0, vsw_s, List.all_cons, List.all_nil, zc1_i, zc1_r, Bool.and_true, Bool.and_self, true_and, and_true, List.length_cons, List.length_nil, Nat.zero_le, Nat.reduceLeDiff, Nat.reduceAdd, Nat.reduceLT, Option.toList_some, List.cons_append, List.nil_append, tg_149, tf_149_1, tg_151, ln_151]
      rw [if_neg (by decide)]
      simp (disch := omega) only [nI_clamp, vinb_n, e151, tsi_eq, nI_1]
      refine ⟨by omega, by omega, by omega, ?_⟩
      have o3 : tO [150, 151] t' (tsi (tsi t' 150 u (nI x)) 151 x (nI (hit h x u + 1))) := o2.tr (tO.si (by simp))
      have p3 : ∀ w, w < u + 1 → (tsi (tsi t' 150 u (nI x)) 151 x (nI (hit h x u + 1))).1 150 w = nI (eu h u x w) ∧ eu h u x w < m ∧ okE f g (eu h u x) w := fun w hw => by
        refine ⟨by rw [tsi_ne (by omega)]; exact (hi w (by omega)).1, ?_⟩
        by_cases e : w = u
        · subst e; rw [ex]; exact ⟨by omega, q⟩
        · have := (hp w (by omega)).2
          rw [← cong w (by omega)]
          exact ⟨this.1, okE_congr (fun v hv => cong v (by omega)) this.2⟩
      have h3 : ∀ y, y < m → (tsi (tsi t' 150 u (nI x)) 151 x (nI (hit h x u + 1))).1 151 y = nI (hit (eu h u x) y (u + 1)) := fun y hy => by
        show _ = nI (hit (eu h u x) y u + if eu h u x u = y then 1 else 0)
        rw [ex, ← hit_congr u cong]
        by_cases e : y = x
        · rw [e, tsi_eq, if_pos rfl]
        · rw [tsi_ne (by omega), h151 y hy, if_neg (fun z => e z.symm)]; rfl
      have o3t : tO [150, 151] t (tsi (tsi t' 150 u (nI x)) 151 x (nI (hit h x u + 1))) := hO.tr o3
      have xsx : xs f n g m (eu h u x) (u + 1) → xs f n g m h u := fun ⟨h', s', e'⟩ => ⟨h', s', fun v hv => (e' v (by omega)).trans (cong v hv).symm⟩
      have found : ∀ t4, xs f n g m (eu h u x) (u + 1) → tO [150, 151] (tsi (tsi t' 150 u (nI x)) 151 x (nI (hit h x u + 1))) t4 → F (some (.int 1)) t4 := fun t4 y o4 => k1 (xsx y) t4 (o3t.tr o4)
      have not : ∀ t4, ¬ xs f n g m (eu h u x) (u + 1) → tO [150, 151] (tsi (tsi t' 150 u (nI x)) 151 x (nI (hit h x u + 1))) t4 → (∀ w, w < u + 1 → t4.1 150 w = (tsi (tsi t' 150 u (nI x)) 151 x (nI (hit h x u + 1))).1 150 w) → (∀ y, y < m → t4.1 151 y = (tsi (tsi t' 150 u (nI x)) 151 x (nI (hit h x u + 1))).1 151 y) → twp none d 117 26 [.ref 149, .int (nI u), .int (nI (cmi h u m)), j3, .int (nI (x + 1))] [] (tsi t4 151 x (nI (hit h x u))) F := by
        intro t4 y o4 q4 q5
        refine nx _ ((o3t.tr o4).tr (tO.si (by simp))) (fun w hw => ?_) (fun y hy => ?_) (fun h' s' e' ea => y ⟨h', s', fun v hv => ?_⟩)
        · rw [tsi_ne (by omega), q4 w (by omega), tsi_ne (by omega), tsi_ne (by omega)]; exact hq1 w hw
        · by_cases e : y = x
          · rw [e, tsi_eq]; exact (hh x (by omega)).symm
          · rw [tsi_ne (by omega), q5 y hy, tsi_ne (by omega), tsi_ne (by omega)]; exact hq2 y hy
        · by_cases e : v = u
          · rw [e, ex]; exact ea
          · rw [← cong v (by omega)]; exact e' v (by omega)
      have rcr : ∀ G : Option Value → T → Prop, (∀ t4, F (some (.int 1)) t4 → G (some (.int 1)) t4) → (∀ t4, t4.1 151 x = nI (hit h x u + 1) → twp none d 117 26 [.ref 149, .int (nI u), .int (nI (cmi h u m)), j3, .int (nI (x + 1))] [] (tsi t4 151 x (nI (hit h x u))) F → G (some (.int 0)) t4) → twc d 117 [.ref 149, .int (nI (u + 1)), .int (nI (cmi (eu h u x) (u + 1) m))] (tsi (tsi t' 150 u (nI x)) 151 x (nI (hit h x u + 1))) G := fun G g1 g0 =>
        ih d _ G (eu h u x) (by omega) (he'.o o3) p3 h3 (fun y t4 o4 => g1 t4 (found t4 y o4)) (fun y t4 o4 q4 q5 => g0 t4 (by rw [q5 x (by omega), tsi_eq]) (not t4 y o4 q4 q5))
      have cs := cmi_s (h := eu h u x) (u := u) m
      rw [ex, ← cmi_congr cong] at cs
      simp (disch := omega) only [li1, nI_eq]
      by_cases z : hit h x u = 0
      · have z2 := hz.mp z
        have cs2 := cs.2 (by rintro ⟨v, hv, ev⟩; rw [← cong v hv] at ev; exact z2 v hv ev)
        rw [if_pos (by omega)] at cs2
        rw [if_pos (by omega), ← cs2, ← li1, nI_mp]
        rw [← cs2] at rcr
        refine rcr _ (fun t4 f4 => ?_) (fun t4 e4 f4 => ?_)
        · simp only [v_117_0, v_117_1, v_117_4, v_117_7, v_117_8, v_117_9, v_117_10, v_117_11, v_117_12, v_117_15, v_117_16, v_117_17, v_117_18, v_117_21, v_117_22, v_117_23, v_117_24, v_117_26, h_117_26, v_117_28, v_117_29, v_117_32, v_117_35, v_117_38, v_117_39, v_117_42, v_117_43, v_117_45, v_117_46, v_117_47, v_117_48, v_117_50, v_117_53, v_117_56, v_117_57, v_117_60, v_117_62, v_117_63, v_117_64, v_117_65, v_117_66, v_117_67, v_117_68, v_117_69, v_117_70, v_117_71, v_117_72, v_117_75, v_117_77, v_117_78, v_117_79, v_117_82, v_117_83, v_117_84, v_117_85, v_117_88, v_117_89, v_117_92, v_117_95, v_117_96, v_117_97, v_117_98, v_117_101, v_117_103, v_117_104, v_117_105, v_117_106, v_117_107, v_117_108, v_117_111, v_117_114, v_117_115, vgi_0, vgi_s, vga_0, vga_s, vset_0, vset_s, vtk_0, vtk_s, vrc_0, vsw_0, vsw_s, List.all_cons, List.all_nil, zc1_i, zc1_r, Bool.and_true, Bool.and_self, true_and, and_true, List.length_cons, List.length_nil, Nat.zero_le, Nat.reduceLeDiff, Nat.reduceAdd, Nat.reduceLT, Option.toList_some, List.cons_append, List.nil_append]
          rw [if_neg (by decide)]
          exact ⟨Or.inr trivial, f4⟩
        · simp only [v_117_0, v_117_1, v_117_4, v_117_7, v_117_8, v_117_9, v_117_10, v_117_11, v_117_12, v_117_15, v_117_16, v_117_17, v_117_18, v_117_21, v_117_22, v_117_23, v_117_24, v_117_26, h_117_26, v_117_28, v_117_29, v_117_32, v_117_35, v_117_38, v_117_39, v_117_42, v_117_43, v_117_45, v_117_46, v_117_47, v_117_48, v_117_50, v_117_53, v_117_56, v_117_57, v_117_60, v_117_62, v_117_63, v_117_64, v_117_65, v_117_66, v_117_67, v_117_68, v_117_69, v_117_70, v_117_71, v_117_72, v_117_75, v_117_77, v_117_78, v_117_79, v_117_82, v_117_83, v_117_84, v_117_85, v_117_88, v_117_89, v_117_92, v_117_95, v_117_96, v_117_97, v_117_98, v_117_101, v_117_103, v_117_104, v_117_105, v_117_106, v_117_107, v_117_108, v_117_111, v_117_114, v_117_115, vgi_0, vgi_s, vga_0, vga_s, vset_0, vset_s, vtk_0, vtk_s, vrc_0, vsw_0, vsw_s, List.all_cons, List.all_nil, zc1_i, zc1_r, Bool.and_true, Bool.and_self, true_and, and_true, List.length_cons, List.length_nil, Nat.zero_le, Nat.reduceLeDiff, Nat.reduceAdd, Nat.reduceLT, Option.toList_some, List.cons_append, List.nil_append, tg_149, tf_149_1, tg_151, ln_151]
          rw [if_pos trivial]
          simp (disch := omega) only [nI_clamp, vinb_n, e4, nI_mp, nI_1]
          exact ⟨by omega, by omega, f4⟩
      · have z2 : ¬ ∀ v, v < u → h v ≠ x := fun q => z (hz.mpr q)
        have cs2 := cs.1 (by
          apply Classical.byContradiction
          intro q
          exact z2 (fun v hv ev => q ⟨v, hv, by rw [← cong v hv]; exact ev⟩))
        rw [if_neg (by omega)]
        rw [cs2] at rcr
        refine rcr _ (fun t4 f4 => ?_) (fun t4 e4 f4 => ?_)
        · simp only [v_117_0, v_117_1, v_117_4, v_117_7, v_117_8, v_117_9, v_117_10, v_117_11, v_117_12, v_117_15, v_117_16, v_117_17, v_117_18, v_117_21, v_117_22, v_117_23, v_117_24, v_117_26, h_117_26, v_117_28, v_117_29, v_117_32, v_117_35, v_117_38, v_117_39, v_117_42, v_117_43, v_117_45, v_117_46, v_117_47, v_117_48, v_117_50, v_117_53, v_117_56, v_117_57, v_117_60, v_117_62, v_117_63, v_117_64, v_117_65, v_117_66, v_117_67, v_117_68, v_117_69, v_117_70, v_117_71, v_117_72, v_117_75, v_117_77, v_117_78, v_117_79, v_117_82, v_117_83, v_117_84, v_117_85, v_117_88, v_117_89, v_117_92, v_117_95, v_117_96, v_117_97, v_117_98, v_117_101, v_117_103, v_117_104, v_117_105, v_117_106, v_117_107, v_117_108, v_117_111, v_117_114, v_117_115, vgi_0, vgi_s, vga_0, vga_s, vset_0, vset_s, vtk_0, vtk_s, vrc_0, vsw_0, vsw_s, List.all_cons, List.all_nil, zc1_i, zc1_r, Bool.and_true, Bool.and_self, true_and, and_true, List.length_cons, List.length_nil, Nat.zero_le, Nat.reduceLeDiff, Nat.reduceAdd, Nat.reduceLT, Option.toList_some, List.cons_append, List.nil_append]
          rw [if_neg (by decide)]
          exact ⟨Or.inr trivial, f4⟩
        · simp only [v_117_0, v_117_1, v_117_4, v_117_7, v_117_8, v_117_9, v_117_10, v_117_11, v_117_12, v_117_15, v_117_16, v_117_17, v_117_18, v_117_21, v_117_22, v_117_23, v_117_24, v_117_26, h_117_26, v_117_28, v_117_29, v_117_32, v_117_35, v_117_38, v_117_39, v_117_42, v_117_43, v_117_45, v_117_46, v_117_47, v_117_48, v_117_50, v_117_53, v_117_56, v_117_57, v_117_60, v_117_62, v_117_63, v_117_64, v_117_65, v_117_66, v_117_67, v_117_68, v_117_69, v_117_70, v_117_71, v_117_72, v_117_75, v_117_77, v_117_78, v_117_79, v_117_82, v_117_83, v_117_84, v_117_85, v_117_88, v_117_89, v_117_92, v_117_95, v_117_96, v_117_97, v_117_98, v_117_101, v_117_103, v_117_104, v_117_105, v_117_106, v_117_107, v_117_108, v_117_111, v_117_114, v_117_115, vgi_0, vgi_s, vga_0, vga_s, vset_0, vset_s, vtk_0, vtk_s, vrc_0, vsw_0, vsw_s, List.all_cons, List.all_nil, zc1_i, zc1_r, Bool.and_true, Bool.and_self, true_and, and_true, List.length_cons, List.length_nil, Nat.zero_le, Nat.reduceLeDiff, Nat.reduceAdd, Nat.reduceLT, Option.toList_some, List.cons_append, List.nil_append, tg_149, tf_149_1, tg_151, ln_151]
          rw [if_pos trivial]
          simp (disch := omega) only [nI_clamp, vinb_n, e4, nI_mp, nI_1]
          exact ⟨by omega, by omega, f4⟩
    · simp only [v_117_0, v_117_1, v_117_4, v_117_7, v_117_8, v_117_9, v_117_10, v_117_11, v_117_12, v_117_15, v_117_16, v_117_17, v_117_18, v_117_21, v_117_22, v_117_23, v_117_24, v_117_26, h_117_26, v_117_28, v_117_29, v_117_32, v_117_35, v_117_38, v_117_39, v_117_42, v_117_43, v_117_45, v_117_46, v_117_47, v_117_48, v_117_50, v_117_53, v_117_56, v_117_57, v_117_60, v_117_62, v_117_63, v_117_64, v_117_65, v_117_66, v_117_67, v_117_68, v_117_69, v_117_70, v_117_71, v_117_72, v_117_75, v_117_77, v_117_78, v_117_79, v_117_82, v_117_83, v_117_84, v_117_85, v_117_88, v_117_89, v_117_92, v_117_95, v_117_96, v_117_97, v_117_98, v_117_101, v_117_103, v_117_104, v_117_105, v_117_106, v_117_107, v_117_108, v_117_111, v_117_114, v_117_115, vgi_0, vgi_s, vga_0, vga_s, vset_0, vset_s, vtk_0, vtk_s, vrc_0, vsw_0, vsw_s, List.all_cons, List.all_nil, zc1_i, zc1_r, Bool.and_true, Bool.and_self, true_and, and_true, List.length_cons, List.length_nil, Nat.zero_le, Nat.reduceLeDiff, Nat.reduceAdd, Nat.reduceLT, Option.toList_some, List.cons_append, List.nil_append]
      rw [if_pos trivial, nI_1]
      refine nx _ (hO.tr o2) (fun w hw => by rw [tsi_ne (by omega)]; exact hq1 w hw) (fun y hy => by rw [tsi_ne (by omega)]; exact hq2 y hy) (fun h' s' e' ea => q (okE_congr (fun v hv => ?_) (s'.1 u hu).2))
      by_cases e : v = u
      · rw [e, ex]; exact ea
      · rw [← cong v (by omega)]; exact e' v (by omega)
theorem PF_all (hn : n ≤ 6) (hm : m ≤ 6) (hfn : f 0 = nI n) (hgm : g 0 = nI m) : ∀ (k u : Nat), u + k = n → PF a b f n g m k u := by
  intro k
  induction k with
  | zero =>
    intro u hu d t F h hd he hp hh k1 k0
    have hu : u = n := by omega
    subst hu
    have hcm := cmi_m (h := h) (u := u) m
    have ta := he.2.2.1
    have ha : t.1 a 0 = nI u := by rw [← cS_i, he.2.2.2.2.1]; exact hfn
    refine ⟨by omega, ?_⟩
    rw [ze_117]
    refine vc_ok none zH_117 81 false _ 117 0 _ _ _ _ ?_
    simp only [v_117_0, v_117_1, v_117_4, v_117_7, v_117_8, v_117_9, v_117_10, v_117_11, v_117_12, v_117_15, v_117_16, v_117_17, v_117_18, v_117_21, v_117_22, v_117_23, v_117_24, v_117_26, h_117_26, v_117_28, v_117_29, v_117_32, v_117_35, v_117_38, v_117_39, v_117_42, v_117_43, v_117_45, v_117_46, v_117_47, v_117_48, v_117_50, v_117_53, v_117_56, v_117_57, v_117_60, v_117_62, v_117_63, v_117_64, v_117_65, v_117_66, v_117_67, v_117_68, v_117_69, v_117_70, v_117_71, v_117_72, v_117_75, v_117_77, v_117_78, v_117_79, v_117_82, v_117_83, v_117_84, v_117_85, v_117_88, v_117_89, v_117_92, v_117_95, v_117_96, v_117_97, v_117_98, v_117_101, v_117_103, v_117_104, v_117_105, v_117_106, v_117_107, v_117_108, v_117_111, v_117_114, v_117_115, vgi_0, vgi_s, vga_0, vga_s, vset_0, vset_s, vtk_0, vtk_s, vrc_0, vsw_0, vsw_s, List.all_cons, List.all_nil, zc1_i, zc1_r, Bool.and_true, Bool.and_self, true_and, and_true, List.length_cons, List.length_nil, Nat.zero_le, Nat.reduceLeDiff, Nat.reduceAdd, Nat.reduceLT, tg_149, tf_149_2, he.1, ta, ha]
    have e0 : nI u - nI u = nI 0 := by rw [Int32.sub_self]; rfl
    rw [e0]
    simp (disch := omega) only [nI_ltI]
    by_cases z : 0 < cmi h u m
    · rw [if_pos z]
      refine ⟨Or.inl trivial, k0 ?_ t tO.rf (fun _ _ => rfl) (fun _ _ => rfl)⟩
      rintro ⟨h', s', e'⟩
      have : cmi h' u m = 0 := (cmi_z m).mpr s'.2
      rw [cmi_congr e'] at this
      omega
    · rw [if_neg z, if_neg (by decide)]
      exact ⟨Or.inr trivial, k1 ⟨h, ⟨fun w hw => (hp w hw).2, (cmi_z m).mp (by omega)⟩, fun _ _ => rfl⟩ t tO.rf⟩
  | succ k ih =>
    intro u hu d t F h hd he hp hh k1 k0
    have hcm := cmi_m (h := h) (u := u) m
    have ta := he.2.2.1
    have ha : t.1 a 0 = nI n := by rw [← cS_i, he.2.2.2.2.1]; exact hfn
    refine ⟨by omega, ?_⟩
    rw [ze_117]
    refine vc_ok none zH_117 81 false _ 117 0 _ _ _ _ ?_
    simp only [v_117_0, v_117_1, v_117_4, v_117_7, v_117_8, v_117_9, v_117_10, v_117_11, v_117_12, v_117_15, v_117_16, v_117_17, v_117_18, v_117_21, v_117_22, v_117_23, v_117_24, v_117_26, h_117_26, v_117_28, v_117_29, v_117_32, v_117_35, v_117_38, v_117_39, v_117_42, v_117_43, v_117_45, v_117_46, v_117_47, v_117_48, v_117_50, v_117_53, v_117_56, v_117_57, v_117_60, v_117_62, v_117_63, v_117_64, v_117_65, v_117_66, v_117_67, v_117_68, v_117_69, v_117_70, v_117_71, v_117_72, v_117_75, v_117_77, v_117_78, v_117_79, v_117_82, v_117_83, v_117_84, v_117_85, v_117_88, v_117_89, v_117_92, v_117_95, v_117_96, v_117_97, v_117_98, v_117_101, v_117_103, v_117_104, v_117_105, v_117_106, v_117_107, v_117_108, v_117_111, v_117_114, v_117_115, vgi_0, vgi_s, vga_0, vga_s, vset_0, vset_s, vtk_0, vtk_s, vrc_0, vsw_0, vsw_s, List.all_cons, List.all_nil, zc1_i, zc1_r, Bool.and_true, Bool.and_self, true_and, and_true, List.length_cons, List.length_nil, Nat.zero_le, Nat.reduceLeDiff, Nat.reduceAdd, Nat.reduceLT, tg_149, tf_149_2, he.1, ta, ha]
    have e0 : nI n - nI u = nI (k + 1) := by
      have : n = u + (k + 1) := by omega
      rw [this]
      exact nI_sub' u (k + 1)
    rw [e0]
    simp (disch := omega) only [nI_ltI]
    by_cases z : k + 1 < cmi h u m
    · rw [if_pos z]
      refine ⟨Or.inl trivial, k0 ?_ t tO.rf (fun _ _ => rfl) (fun _ _ => rfl)⟩
      rintro ⟨h', s', e'⟩
      have h0 : cmi h' n m = 0 := (cmi_z m).mpr s'.2
      have h1 := cmi_le (h := h') (u := u) (m := m) (k + 1)
      rw [hu, h0, cmi_congr e'] at h1
      omega
    · rw [if_neg z, if_pos (by rw [li0, nI_ltI (by omega) (by omega)]; omega)]
      exact l_117 (k := k) (by omega) hn hm (by omega) hgm he hp hh (ih (u + 1) (by omega)) k1 k0 m 0 t (by omega) tO.rf (fun _ _ => rfl) (fun _ _ => rfl) (fun _ _ _ => Nat.zero_le _)
end CE2
