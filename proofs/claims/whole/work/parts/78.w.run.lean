/-! run: the program. -/
section RUNC
variable {d b : Nat} {t t' : T} {F : Option Value → T → Prop} {q : FT} {m rc ec : Nat} {ru Es : Nat → Nat → Nat} {S X Y Z : Nat → List St}
/-- lists that only grow at their ends -/
def exL (X Y : Nat → List St) : Prop := ∀ p, ∃ M, Y p = X p ++ M
theorem exL.rf : exL X X := fun _ => ⟨[], (List.append_nil _).symm⟩
theorem exL.tr (h1 : exL X Y) (h2 : exL Y Z) : exL X Z := fun p => by
  obtain ⟨M, e⟩ := h1 p
  obtain ⟨N, e2⟩ := h2 p
  exact ⟨M ++ N, by rw [e2, e, List.append_assoc]⟩
theorem exL.mem {p : Nat} {x : St} (h : exL X Y) (hx : x ∈ X p) : x ∈ Y p := by
  obtain ⟨M, e⟩ := h p
  rw [e]; exact List.mem_append_left _ hx
theorem exL.len (h : exL X Y) (p : Nat) : (X p).length ≤ (Y p).length := by
  obtain ⟨M, e⟩ := h p
  rw [e, List.length_append]; omega
theorem exL.gd {p k : Nat} (h : exL X Y) (hk : k < (X p).length) : (Y p).getD k z0 = (X p).getD k z0 := by
  obtain ⟨M, e⟩ := h p
  rw [e]; exact gd_app_lt hk
theorem exL.add {p : Nat} {g : St} : exL X (Lad X p (X p ++ [g])) := fun p' => by
  by_cases z : p' = p
  · subst z; exact ⟨[g], Lad_e⟩
  · exact ⟨[], by rw [Lad_o z, List.append_nil]⟩
theorem mem_gd {L : List St} {x : St} (h : x ∈ L) : ∃ k, k < L.length ∧ L.getD k z0 = x := by
  obtain ⟨k, hk, e⟩ := List.mem_iff_getElem.mp h
  exact ⟨k, hk, by rw [List.getD_eq_getElem?_getD, List.getElem?_eq_getElem hk]; exact e⟩
def grw (q : FT) (ru : Nat → Nat → Nat) (rc ec : Nat) (Es : Nat → Nat → Nat) (S X : Nat → List St) : Prop := ∀ p, p < 4 → (X p).length ≤ 12 ∧ (X p).Nodup ∧ (∀ x, x ∈ S p → x ∈ X p) ∧ ∀ x, x ∈ X p → wfS x ∧ Rch q ru rc ec Es S p x
theorem grw.good (h : grw q ru rc ec Es S X) (hc : ∀ p, p < 4 → ∀ x, x ∈ X p → clsd q ru rc ec Es X p x) : goodX q ru rc ec Es S X := fun p hp => ⟨(h p hp).1, (h p hp).2.1, (h p hp).2.2.1, (h p hp).2.2.2, hc p hp⟩
theorem clsd.mono {p : Nat} {x : St} (h : exL X Y) (hc : clsd q ru rc ec Es X p x) : clsd q ru rc ec Es Y p x := fun e he ep => by
  obtain ⟨K, h1, h2⟩ := hc e he ep
  exact ⟨K, h1, fun z hz => by obtain ⟨g, g1, g2⟩ := h2 z hz; exact ⟨g, h.mem g1, g2⟩⟩
theorem grw.add {p : Nat} {g : St} (h : grw q ru rc ec Es S X) (hl : (X p).length < 12) (hn : g ∉ X p) (hw : wfS g) (hR : Rch q ru rc ec Es S p g) : grw q ru rc ec Es S (Lad X p (X p ++ [g])) := fun p' hp' => by
  by_cases z : p' = p
  · subst z
    obtain ⟨h1, h2, h3, h4⟩ := h p' hp'
    rw [Lad_e]
    refine ⟨by simp; omega, List.nodup_append.mpr ⟨h2, by simp, fun a ha b hb => ?_⟩, fun x hx => List.mem_append_left _ (h3 x hx), fun x hx => ?_⟩
    · rw [List.mem_singleton.mp hb]
      exact fun e => hn (e ▸ ha)
    · rcases List.mem_append.mp hx with hx | hx
      · exact h4 x hx
      · rw [List.mem_singleton.mp hx]; exact ⟨hw, hR⟩
  · rw [Lad_o z]; exact h p' hp'
theorem grw.full {p : Nat} {g : St} (h : grw q ru rc ec Es S X) (hp : p < 4) (hl : (X p).length = 12) (hn : g ∉ X p) (hR : Rch q ru rc ec Es S p g) : badX q ru rc ec Es S := by
  obtain ⟨h1, h2, h3, h4⟩ := h p hp
  refine Or.inr ⟨p, X p ++ [g], hp, List.nodup_append.mpr ⟨h2, by simp, fun a ha b hb => ?_⟩, by simp; omega, fun x hx => ?_⟩
  · rw [List.mem_singleton.mp hb]
    exact fun e => hn (e ▸ ha)
  · rcases List.mem_append.mp hx with hx | hx
    · exact (h4 x hx).2
    · rw [List.mem_singleton.mp hx]; exact hR
theorem Rch.step {e : Nat} {y z g : St} {K : List St} (h : Rch q ru rc ec Es S (Es e 0) y) (he : e < ec) (hm : MV q ru rc (Es e) y (some K)) (hz : z ∈ K) (hb : BLU z (sn z) g) : Rch q ru rc ec Es S (Es e 1) g := by
  obtain ⟨k, hk⟩ := h
  exact ⟨k + 1, y, e, K, z, hk, he, hm, hz, hb, rfl⟩
/-- the lists in the bags of the recorded -/
def cX (t : T) (X : Nat → List St) : Prop := ∀ p, p < 4 → bL t (301 + 52 * p) (X p)
theorem l_28 {H : Nat → Nat} (hd : 1 ≤ d) (hX : cX t X) (hH : ∀ p, p < 4 → (X p).length ≤ 12 ∧ H p ≤ (X p).length ∧ t.1 158 p = nI (H p)) (k1 : ∀ p, p < 4 → H p < (X p).length → F (some (.int (nI p))) t) (k0 : (∀ p, p < 4 → H p = (X p).length) → F (some (.int (-1))) t) : ∀ (j p : Nat), p + j = 4 → (∀ p', p' < p → H p' = (X p').length) → twp none d 28 2 [.ref 0, .int (nI p)] [] t F := by
  intro j
  induction j with
  | zero =>
    intro p hp hI
    have hp : p = 4 := by omega
    subst hp
    refine vc_ok none zH_28 31 false _ 28 2 _ _ _ _ ?_
    simp only [v_28_0, v_28_1, v_28_2, h_28_2, v_28_3, v_28_4, v_28_7, v_28_8, v_28_11, v_28_12, v_28_13, v_28_14, v_28_17, v_28_18, v_28_19, v_28_22, v_28_25, v_28_26, v_28_27, v_28_30, v_28_33, v_28_34, vgi_0, vgi_s, vga_0, vga_s, vset_0, vset_s, vtk_0, vtk_s, vrc_0, vsw_0, vsw_s, List.all_cons, List.all_nil, zc1_i, zc1_r, Bool.and_true, Bool.and_self, true_and, and_true, List.length_cons, List.length_nil, Nat.zero_le, Nat.reduceLeDiff, Nat.reduceAdd, Nat.reduceLT]
    rw [if_neg (by decide)]
    exact k0 hI
  | succ j ih =>
    intro p hp hI
    have hp4 : p < 4 := by omega
    have br4 := bag_r p hp4
    have tb : vtag (301 + 52 * p) = 8 := (bag_all _ br4.1).2.2.2.2.2.1
    obtain ⟨h1, h2, h3⟩ := hH p hp4
    have hc := (hX p hp4).1
    refine vc_ok none zH_28 31 false _ 28 2 _ _ _ _ ?_
    simp only [v_28_0, v_28_1, v_28_2, h_28_2, v_28_3, v_28_4, v_28_7, v_28_8, v_28_11, v_28_12, v_28_13, v_28_14, v_28_17, v_28_18, v_28_19, v_28_22, v_28_25, v_28_26, v_28_27, v_28_30, v_28_33, v_28_34, vgi_0, vgi_s, vga_0, vga_s, vset_0, vset_s, vtk_0, vtk_s, vrc_0, vsw_0, vsw_s, List.all_cons, List.all_nil, zc1_i, zc1_r, Bool.and_true, Bool.and_self, true_and, and_true, List.length_cons, List.length_nil, Nat.zero_le, Nat.reduceLeDiff, Nat.reduceAdd, Nat.reduceLT, tg_0, tf_0_10, tg_158, ln_158, tf_0_9, tg_157, ln_157]
    rw [li4, if_pos (nI_lt (by omega) (by omega))]
    simp (disch := omega) only [nI_clamp, vinb_n, tf_157, tb, h3, hc, nI_ltI]
    refine ⟨hp4, hp4, trivial, ?_⟩
    by_cases z : H p < (X p).length
    · rw [if_pos z]
      exact k1 p hp4 z
    · rw [if_neg z, nI_1]
      refine ih (p + 1) (by omega) (fun p' hp' => ?_)
      by_cases e : p' = p
      · subst e; omega
      · exact hI p' (by omega)
theorem c_28 {H : Nat → Nat} (hd : 2 ≤ d) (hX : cX t X) (hH : ∀ p, p < 4 → (X p).length ≤ 12 ∧ H p ≤ (X p).length ∧ t.1 158 p = nI (H p)) (k1 : ∀ p, p < 4 → H p < (X p).length → F (some (.int (nI p))) t) (k0 : (∀ p, p < 4 → H p = (X p).length) → F (some (.int (-1))) t) : twc d 28 [.ref 0] t F := by
  refine ⟨by omega, ?_⟩
  rw [ze_28]
  refine vc_ok none zH_28 31 false _ 28 0 _ _ _ _ ?_
  simp only [v_28_0, v_28_1, v_28_2, h_28_2, v_28_3, v_28_4, v_28_7, v_28_8, v_28_11, v_28_12, v_28_13, v_28_14, v_28_17, v_28_18, v_28_19, v_28_22, v_28_25, v_28_26, v_28_27, v_28_30, v_28_33, v_28_34, vgi_0, vgi_s, vga_0, vga_s, vset_0, vset_s, vtk_0, vtk_s, vrc_0, vsw_0, vsw_s, List.all_cons, List.all_nil, zc1_i, zc1_r, Bool.and_true, Bool.and_self, true_and, and_true, List.length_cons, List.length_nil, Nat.zero_le, Nat.reduceLeDiff, Nat.reduceAdd, Nat.reduceLT]
  exact l_28 (by omega) hX hH k1 k0 4 0 (by omega) (fun p hp => by omega)
def roF (b p : Nat) : Nat → Prop := fun x => bgF b x ∨ (144 ≤ x ∧ x ≤ 148) ∨ (301 + 52 * p ≤ x ∧ x < 327 + 52 * p)
theorem l_30 {K : List St} {p : Nat} (hd : 7 ≤ d) (hp : p < 4) (hb : b ∈ bags) (hbN : bN b = 40) (hb2 : b = 61 ∨ b = 161) (hbg : bgI t) (hK : K.length ≤ 40) (hKw : ∀ x, x ∈ K → wfS x) (hR : ∀ z g, z ∈ K → BLU z (sn z) g → Rch q ru rc ec Es S p g) (kf : badX q ru rc ec Es S → ∀ t', tQ (roF b p) t t' → F (some (.int 0)) t') (k1 : ∀ Y, exL X Y → grw q ru rc ec Es S Y → (∀ z, z ∈ K → ∃ g, g ∈ Y p ∧ BLU z (sn z) g) → ∀ t', tQ (roF b p) t t' → cX t' Y → F (some (.int 1)) t') : ∀ (j i : Nat) (Y : Nat → List St) (t' : T), i + j = K.length → exL X Y → grw q ru rc ec Es S Y → (∀ k, k < i → ∃ g, g ∈ Y p ∧ BLU (K.getD k z0) (sn (K.getD k z0)) g) → tQ (roF b p) t t' → cX t' Y → t'.1 b 1 = nI K.length → (∀ k, i ≤ k → k < K.length → bg t' b k = K.getD k z0) → twp none d 30 10 [.ref 0, .ref (301 + 52 * p), .ref b, .int (nI i)] [] t' F := by
  have hbd := bag_all b hb
  have tb : vtag b = 8 := hbd.2.2.2.2.2.1
  have br4 := bag_r p hp
  intro j
  induction j with
  | zero =>
    intro i Y t' hi hY hG hI hO hX hct hrem
    have hi : i = K.length := by omega
    subst hi
    refine vc_ok none zH_30 40 false _ 30 10 _ _ _ _ ?_
    simp only [v_30_0, v_30_1, v_30_4, v_30_7, v_30_8, v_30_9, v_30_10, h_30_10, v_30_11, v_30_12, v_30_15, v_30_18, v_30_19, v_30_22, v_30_23, v_30_26, v_30_27, v_30_28, v_30_31, v_30_32, v_30_33, v_30_36, v_30_37, v_30_38, v_30_41, v_30_44, v_30_45, v_30_46, v_30_49, v_30_52, v_30_53, vgi_0, vgi_s, vga_0, vga_s, vset_0, vset_s, vtk_0, vtk_s, vrc_0, vsw_0, vsw_s, List.all_cons, List.all_nil, zc1_i, zc1_r, Bool.and_true, Bool.and_self, true_and, and_true, List.length_cons, List.length_nil, Nat.zero_le, Nat.reduceLeDiff, Nat.reduceAdd, Nat.reduceLT, tb, hct]
    simp (disch := omega) only [nI_ltI, Nat.lt_irrefl, if_false]
    refine ⟨Or.inr trivial, k1 Y hY hG (fun z hz => ?_) t' hO hX⟩
    obtain ⟨k, hk, e⟩ := mem_gd hz
    rw [← e]; exact hI k hk
  | succ j ih =>
    intro i Y t' hi hY hG hI hO hX hct hrem
    have il : i < K.length := by omega
    have hwx := hKw _ (gd_mem il)
    obtain ⟨hn, hn6⟩ := hwx.n
    have hbw := ((hbg b hb).q hO.1).1
    obtain ⟨i1, i2, i3⟩ := hbw.1 i (by omega)
    have hbi : t'.2 (b + 1) i = br t' b i := rfl
    have hxi : cS t' (br t' b i) = K.getD i z0 := hrem i (Nat.le_refl _) il
    obtain ⟨y1, y2, y3, y4⟩ := hG p hp
    refine vc_ok none zH_30 40 false _ 30 10 _ _ _ _ ?_
    simp only [v_30_0, v_30_1, v_30_4, v_30_7, v_30_8, v_30_9, v_30_10, h_30_10, v_30_11, v_30_12, v_30_15, v_30_18, v_30_19, v_30_22, v_30_23, v_30_26, v_30_27, v_30_28, v_30_31, v_30_32, v_30_33, v_30_36, v_30_37, v_30_38, v_30_41, v_30_44, v_30_45, v_30_46, v_30_49, v_30_52, v_30_53, vgi_0, vgi_s, vga_0, vga_s, vset_0, vset_s, vtk_0, vtk_s, vrc_0, vsw_0, vsw_s, List.all_cons, List.all_nil, zc1_i, zc1_r, Bool.and_true, Bool.and_self, true_and, and_true, List.length_cons, List.length_nil, Nat.zero_le, Nat.reduceLeDiff, Nat.reduceAdd, Nat.reduceLT, tg_0, tf_0_6, tg_143, tb, hct, bag_arr _ hb]
    simp (disch := omega) only [nI_ltI, nI_clamp, vinb_n, hbd.2.2.1, bag_ref _ hb, hbi]
    rw [if_pos il]
    refine ⟨by omega, by omega, by show i < bN b; omega, ?_⟩
    refine c_141 (n := sn (K.getD i z0)) (by omega) i3 (by omega) (by rw [hxi]; exact hwx) (by rw [hxi]; exact hn) hn6 (fun t1 o1 b1 => ?_)
    rw [hxi] at b1
    have hwg := b1.wf hwx hn6
    have hRg := hR _ _ (gd_mem il) b1
    have hbi1 : t1.2 (b + 1) i = br t' b i := by rw [o1.1]; rfl
    have r1 : ∀ k, br t1 b k = br t' b k := (hbw.q o1.1).2
    have oQ : tQ (roF b p) t' t1 := tQ.of o1 (fun x hx => by
      simp [mgB] at hx
      unfold roF bgF
      omega)
    have X1 : cX t1 Y := fun p' hp' => by
      have br' := bag_r p' hp'
      exact bL_k (hX p' hp') ((hbg _ br'.1).q hO.1).1 (by have := (hG p' hp').1; omega) (fun x k a c => o1.2 x (by simp [mgB]; omega) k) (fun k => by rw [o1.1])
    have ct1 : t1.1 b 1 = nI K.length := by
      have n4 := st_nb i3 hb
      rw [o1.2 b (by simp [mgB]; omega)]; exact hct
    have rem1 : ∀ k, i + 1 ≤ k → k < K.length → bg t1 b k = K.getD k z0 := fun k hk hk2 => by
      rw [← hrem k (by omega) hk2]
      obtain ⟨j1, j2, j3⟩ := hbw.1 k (by omega)
      have n1 : br t' b k ≠ br t' b i := fun z => by have := hbw.2 k i (by omega) (by omega) z; omega
      have n2 := st_ne i3 j3
      have n3 := st_ne j3 i3
      unfold bg
      rw [r1]
      exact o1.str (by simp [mgB]; omega) (by simp [mgB]; omega)
    have w1 : bwf t1 (301 + 52 * p) := ((hbg _ br4.1).q (oQ.1.trans hO.1)).1
    have l1 := X1 p hp
    simp only [v_30_0, v_30_1, v_30_4, v_30_7, v_30_8, v_30_9, v_30_10, h_30_10, v_30_11, v_30_12, v_30_15, v_30_18, v_30_19, v_30_22, v_30_23, v_30_26, v_30_27, v_30_28, v_30_31, v_30_32, v_30_33, v_30_36, v_30_37, v_30_38, v_30_41, v_30_44, v_30_45, v_30_46, v_30_49, v_30_52, v_30_53, vgi_0, vgi_s, vga_0, vga_s, vset_0, vset_s, vtk_0, vtk_s, vrc_0, vsw_0, vsw_s, List.all_cons, List.all_nil, zc1_i, zc1_r, Bool.and_true, Bool.and_self, true_and, and_true, List.length_cons, List.length_nil, Nat.zero_le, Nat.reduceLeDiff, Nat.reduceAdd, Nat.reduceLT, Option.toList_none, List.nil_append, tb, bag_arr _ hb]
    simp (disch := omega) only [nI_clamp, vinb_n, hbd.2.2.1, bag_ref _ hb, hbi1]
    refine ⟨by show i < bN b; omega, (bag_all _ br4.1).2.2.2.2.2.1, ?_⟩
    refine c_107 (b := 301 + 52 * p) (c := (Y p).length) (by omega) br4.1 w1 l1.1 (by omega) i3 (fun k hk => by rw [l1.2 k hk]; exact (y4 _ (gd_mem hk)).1) hwg (fun k hk ek => ?_) (fun hne => ?_)
    · simp only [v_30_0, v_30_1, v_30_4, v_30_7, v_30_8, v_30_9, v_30_10, h_30_10, v_30_11, v_30_12, v_30_15, v_30_18, v_30_19, v_30_22, v_30_23, v_30_26, v_30_27, v_30_28, v_30_31, v_30_32, v_30_33, v_30_36, v_30_37, v_30_38, v_30_41, v_30_44, v_30_45, v_30_46, v_30_49, v_30_52, v_30_53, vgi_0, vgi_s, vga_0, vga_s, vset_0, vset_s, vtk_0, vtk_s, vrc_0, vsw_0, vsw_s, List.all_cons, List.all_nil, zc1_i, zc1_r, Bool.and_true, Bool.and_self, true_and, and_true, List.length_cons, List.length_nil, Nat.zero_le, Nat.reduceLeDiff, Nat.reduceAdd, Nat.reduceLT, Option.toList_some, List.cons_append, List.nil_append]
      rw [if_neg (by decide), nI_1]
      refine ih (i + 1) Y t1 (by omega) hY hG (fun k' hk' => ?_) (hO.tr oQ) X1 ct1 rem1
      by_cases z : k' = i
      · subst z
        rw [l1.2 k hk] at ek
        exact ⟨_, by rw [← ek]; exact gd_mem hk, b1⟩
      · exact hI k' (by omega)
    · have nm : cS t1 (br t' b i) ∉ Y p := fun hm => by
        obtain ⟨k, hk, e⟩ := mem_gd hm
        exact hne k hk (by rw [l1.2 k hk]; exact e)
      refine ⟨fun hc t2 o2 e2 c2 => ?_, fun hc => ?_⟩
      · obtain ⟨j1, j2, j3⟩ := w1.1 (Y p).length hc
        have oQ2 : tQ (roF b p) t1 t2 := tQ.of o2 (fun x hx => by
          simp at hx
          unfold roF
          omega)
        simp only [v_30_0, v_30_1, v_30_4, v_30_7, v_30_8, v_30_9, v_30_10, h_30_10, v_30_11, v_30_12, v_30_15, v_30_18, v_30_19, v_30_22, v_30_23, v_30_26, v_30_27, v_30_28, v_30_31, v_30_32, v_30_33, v_30_36, v_30_37, v_30_38, v_30_41, v_30_44, v_30_45, v_30_46, v_30_49, v_30_52, v_30_53, vgi_0, vgi_s, vga_0, vga_s, vset_0, vset_s, vtk_0, vtk_s, vrc_0, vsw_0, vsw_s, List.all_cons, List.all_nil, zc1_i, zc1_r, Bool.and_true, Bool.and_self, true_and, and_true, List.length_cons, List.length_nil, Nat.zero_le, Nat.reduceLeDiff, Nat.reduceAdd, Nat.reduceLT, Option.toList_some, List.cons_append, List.nil_append]
        rw [if_neg (by decide), nI_1]
        refine ih (i + 1) (Lad Y p (Y p ++ [cS t1 (br t' b i)])) t2 (by omega) (hY.tr exL.add) (hG.add (by omega) nm hwg hRg) (fun k' hk' => ?_) ((hO.tr oQ).tr oQ2) (fun p' hp' => ?_) ?_ (fun k hk hk2 => ?_)
        · by_cases z : k' = i
          · subst z
            exact ⟨_, by rw [Lad_e]; exact List.mem_append_right _ (List.mem_singleton.mpr rfl), b1⟩
          · obtain ⟨g, g1, g2⟩ := hI k' (by omega)
            exact ⟨g, exL.add.mem g1, g2⟩
        · by_cases z : p' = p
          · subst z
            rw [Lad_e]
            exact bL_app br4.1 w1 l1 hc o2 c2 e2
          · rw [Lad_o z]
            have br' := bag_r p' hp'
            exact bL_k (X1 p' hp') ((hbg _ br'.1).q (oQ.1.trans hO.1)).1 (by have := (hG p' hp').1; omega) (fun x k a c => o2.2 x (by simp; omega) k) (fun k => by rw [o2.1])
        · rw [o2.2 b (by simp; omega)]; exact ct1
        · rw [← rem1 k hk hk2]
          obtain ⟨m1, m2, m3⟩ := hbw.1 k (by omega)
          unfold bg
          rw [show br t2 b k = br t1 b k by unfold br; rw [o2.1], r1]
          exact o2.str (by simp; omega) (by simp; omega)
      · simp only [v_30_0, v_30_1, v_30_4, v_30_7, v_30_8, v_30_9, v_30_10, h_30_10, v_30_11, v_30_12, v_30_15, v_30_18, v_30_19, v_30_22, v_30_23, v_30_26, v_30_27, v_30_28, v_30_31, v_30_32, v_30_33, v_30_36, v_30_37, v_30_38, v_30_41, v_30_44, v_30_45, v_30_46, v_30_49, v_30_52, v_30_53, vgi_0, vgi_s, vga_0, vga_s, vset_0, vset_s, vtk_0, vtk_s, vrc_0, vsw_0, vsw_s, List.all_cons, List.all_nil, zc1_i, zc1_r, Bool.and_true, Bool.and_self, true_and, and_true, List.length_cons, List.length_nil, Nat.zero_le, Nat.reduceLeDiff, Nat.reduceAdd, Nat.reduceLT, Option.toList_some, List.cons_append, List.nil_append]
        rw [if_pos trivial]
        exact ⟨Or.inl trivial, kf (hG.full hp (by omega) nm hRg) t1 (hO.tr oQ)⟩
theorem c_30 {K : List St} {p : Nat} (hd : 8 ≤ d) (hp : p < 4) (hb : b ∈ bags) (hbN : bN b = 40) (hb2 : b = 61 ∨ b = 161) (hbg : bgI t) (hwk : t.2 58 3 = b) (hK : K.length ≤ 40) (hKw : ∀ x, x ∈ K → wfS x) (hKb : bL t b K) (hG : grw q ru rc ec Es S X) (hX : cX t X) (hR : ∀ z g, z ∈ K → BLU z (sn z) g → Rch q ru rc ec Es S p g) (kf : badX q ru rc ec Es S → ∀ t', tQ (roF b p) t t' → F (some (.int 0)) t') (k1 : ∀ Y, exL X Y → grw q ru rc ec Es S Y → (∀ z, z ∈ K → ∃ g, g ∈ Y p ∧ BLU z (sn z) g) → ∀ t', tQ (roF b p) t t' → cX t' Y → F (some (.int 1)) t') : twc d 30 [.ref 0, .ref (301 + 52 * p)] t F := by
  have br4 := bag_r p hp
  have tb : vtag (301 + 52 * p) = 8 := (bag_all _ br4.1).2.2.2.2.2.1
  refine ⟨by omega, ?_⟩
  rw [ze_30]
  refine vc_ok none zH_30 40 false _ 30 0 _ _ _ _ ?_
  simp only [v_30_0, v_30_1, v_30_4, v_30_7, v_30_8, v_30_9, v_30_10, h_30_10, v_30_11, v_30_12, v_30_15, v_30_18, v_30_19, v_30_22, v_30_23, v_30_26, v_30_27, v_30_28, v_30_31, v_30_32, v_30_33, v_30_36, v_30_37, v_30_38, v_30_41, v_30_44, v_30_45, v_30_46, v_30_49, v_30_52, v_30_53, vgi_0, vgi_s, vga_0, vga_s, vset_0, vset_s, vtk_0, vtk_s, vrc_0, vsw_0, vsw_s, List.all_cons, List.all_nil, zc1_i, zc1_r, Bool.and_true, Bool.and_self, true_and, and_true, List.length_cons, List.length_nil, Nat.zero_le, Nat.reduceLeDiff, Nat.reduceAdd, Nat.reduceLT, tg_0, tf_0_5, tg_58, tf_58_3, hwk]
  exact l_30 (by omega) hp hb hbN hb2 hbg hK hKw hR kf k1 K.length 0 X t (by omega) exL.rf hG (fun k hk => by omega) tQ.rf hX hKb.1 (fun k _ hk => hKb.2 k hk)
end RUNC
