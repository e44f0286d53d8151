/-! From started to recorded, on both sides. -/
section RC
variable {d : Nat} {t t' : T} {F : Option Value → T → Prop}
theorem bL_k {b : Nat} {L : List St} (h : bL t b L) (hw : bwf t b) (hL : L.length ≤ bN b) (h1 : ∀ x k, b ≤ x → x < b + 2 + 2 * bN b → t'.1 x k = t.1 x k) (h2 : ∀ k, t'.2 (b + 1) k = t.2 (b + 1) k) : bL t' b L := by
  refine ⟨by rw [h1 b 1 (by omega) (by omega)]; exact h.1, fun k hk => ?_⟩
  obtain ⟨i1, i2, i3⟩ := hw.1 k (by omega)
  rw [← h.2 k hk]
  unfold bg
  rw [(hw.k h2).2]
  exact cS_of (fun j => h1 _ j (by omega) (by omega)) (fun j => h1 _ j (by omega) (by omega))
theorem l_110 {b c : Nat} {L : List St} (hd : 1 ≤ d) (hb : b ∈ bags) (hc : c ∈ bags) (hne : b ≠ c) (hbw : bwf t b) (hcw : bwf t c) (hL : bL t c L) (hl1 : L.length ≤ bN b) (hl2 : L.length ≤ bN c) (h : ∀ t', tQ (bgF b) t t' → bL t' b L → F none t') : ∀ (j i : Nat) (t' : T), i + j = L.length → tQ (bgF b) t t' → (∀ k, k < i → bg t' b k = L.getD k z0) → twp none d 110 2 [.ref b, .ref c, .int (nI i)] [] t' F := by
  have hbd := bag_all b hb
  have hcd := bag_all c hc
  have tb : vtag b = 8 := hbd.2.2.2.2.2.1
  have tc : vtag c = 8 := hcd.2.2.2.2.2.1
  have dis := bag_dis b hb c hc hne
  have l40 := bN_le hb
  intro j
  induction j with
  | zero =>
    intro i t' hi hO hI
    have hi : i = L.length := by omega
    subst hi
    have hc1 : t'.1 c 1 = nI L.length := by rw [hO.2 c (by unfold bgF; omega)]; exact hL.1
    refine vc_ok none zH_110 32 false _ 110 2 _ _ _ _ ?_
    simp only [v_110_0, v_110_1, v_110_2, h_110_2, v_110_3, v_110_4, v_110_7, v_110_10, v_110_11, v_110_14, v_110_15, v_110_16, v_110_17, v_110_20, v_110_21, v_110_22, v_110_25, v_110_28, v_110_31, v_110_32, v_110_33, v_110_36, v_110_39, vgi_0, vgi_s, vga_0, vga_s, vset_0, vset_s, vtk_0, vtk_s, vrc_0, vsw_0, vsw_s, List.all_cons, List.all_nil, zc1_i, zc1_r, Bool.and_true, Bool.and_self, true_and, and_true, List.length_cons, List.length_nil, Nat.zero_le, Nat.reduceLeDiff, Nat.reduceAdd, Nat.reduceLT, tc, hc1, tb]
    simp (disch := omega) only [nI_ltI, Nat.lt_irrefl, if_false]
    refine h _ (hO.tr ⟨rfl, fun x hx k => tsi_ne (fun z => hx (by rw [z.1]; unfold bgF; omega))⟩) ⟨tsi_eq, fun k hk => ?_⟩
    obtain ⟨i1, i2, i3⟩ := hbw.1 k (by omega)
    have n4 := st_nb i3 hb
    have e : br t' b k = br t b k := (hbw.q hO.1).2 k
    rw [← hI k hk]
    show cS (tsi t' b 1 (nI L.length)) (br t' b k) = cS t' (br t' b k)
    rw [e]
    exact cS_of (fun j => tsi_ne (by omega)) (fun j => tsi_ne (by omega))
  | succ j ih =>
    intro i t' hi hO hI
    have il : i < L.length := by omega
    have hc1 : t'.1 c 1 = nI L.length := by rw [hO.2 c (by unfold bgF; omega)]; exact hL.1
    have qb := hbw.q hO.1
    have qc := hcw.q hO.1
    obtain ⟨i1, i2, i3⟩ := hbw.1 i (by omega)
    obtain ⟨j1, j2, j3⟩ := hcw.1 i (by omega)
    have hbi : t'.2 (b + 1) i = br t b i := qb.2 i
    have hci : t'.2 (c + 1) i = br t c i := qc.2 i
    have ec : cS t' (br t c i) = L.getD i z0 := by
      rw [cS_of (fun k => hO.2 _ (by unfold bgF; omega) k) (fun k => hO.2 _ (by unfold bgF; omega) k)]
      exact hL.2 i il
    refine vc_ok none zH_110 32 false _ 110 2 _ _ _ _ ?_
    simp only [v_110_0, v_110_1, v_110_2, h_110_2, v_110_3, v_110_4, v_110_7, v_110_10, v_110_11, v_110_14, v_110_15, v_110_16, v_110_17, v_110_20, v_110_21, v_110_22, v_110_25, v_110_28, v_110_31, v_110_32, v_110_33, v_110_36, v_110_39, vgi_0, vgi_s, vga_0, vga_s, vset_0, vset_s, vtk_0, vtk_s, vrc_0, vsw_0, vsw_s, List.all_cons, List.all_nil, zc1_i, zc1_r, Bool.and_true, Bool.and_self, true_and, and_true, List.length_cons, List.length_nil, Nat.zero_le, Nat.reduceLeDiff, Nat.reduceAdd, Nat.reduceLT, tc, hc1, tb, bag_arr _ hb, bag_arr _ hc]
    simp (disch := omega) only [nI_ltI, nI_clamp, vinb_n, hbd.2.2.1, hcd.2.2.1, bag_ref _ hb, bag_ref _ hc, hbi, hci, i3]
    rw [if_pos il]
    refine ⟨by omega, by omega, by show i < bN b; omega, by omega, by omega, by show i < bN c; omega, trivial, ?_⟩
    refine c_168 (by omega) i3 j3 (fun t2 o2 e2 => ?_)
    simp only [v_110_0, v_110_1, v_110_2, h_110_2, v_110_3, v_110_4, v_110_7, v_110_10, v_110_11, v_110_14, v_110_15, v_110_16, v_110_17, v_110_20, v_110_21, v_110_22, v_110_25, v_110_28, v_110_31, v_110_32, v_110_33, v_110_36, v_110_39, vgi_0, vgi_s, vga_0, vga_s, vset_0, vset_s, vtk_0, vtk_s, vrc_0, vsw_0, vsw_s, List.all_cons, List.all_nil, zc1_i, zc1_r, Bool.and_true, Bool.and_self, true_and, and_true, List.length_cons, List.length_nil, Nat.zero_le, Nat.reduceLeDiff, Nat.reduceAdd, Nat.reduceLT, Option.toList_none, List.nil_append]
    rw [nI_1]
    have o2' : tO [br t' b i, br t' b i + 1] t' t2 := by rw [qb.2]; exact o2
    refine ih (i + 1) t2 (by omega) (hO.tr (tQ.of o2 (fun x hx => by simp at hx; unfold bgF; omega))) (fun k hk => ?_)
    by_cases z : k = i
    · subst z
      unfold bg
      rw [(qb.1.q o2.1).2, qb.2, e2]; exact ec
    · rw [bg_ne (j := i) hb qb.1 (by omega) (by omega) z (fun x hx => by simp at hx; omega) o2']
      exact hI k (by omega)
theorem c_110 {b c : Nat} {L : List St} (hd : 2 ≤ d) (hb : b ∈ bags) (hc : c ∈ bags) (hne : b ≠ c) (hbw : bwf t b) (hcw : bwf t c) (hL : bL t c L) (hl1 : L.length ≤ bN b) (hl2 : L.length ≤ bN c) (h : ∀ t', tQ (bgF b) t t' → bL t' b L → F none t') : twc d 110 [.ref b, .ref c] t F := by
  refine ⟨by omega, ?_⟩
  rw [ze_110]
  refine vc_ok none zH_110 32 false _ 110 0 _ _ _ _ ?_
  simp only [v_110_0, v_110_1, v_110_2, h_110_2, v_110_3, v_110_4, v_110_7, v_110_10, v_110_11, v_110_14, v_110_15, v_110_16, v_110_17, v_110_20, v_110_21, v_110_22, v_110_25, v_110_28, v_110_31, v_110_32, v_110_33, v_110_36, v_110_39, vgi_0, vgi_s, vga_0, vga_s, vset_0, vset_s, vtk_0, vtk_s, vrc_0, vsw_0, vsw_s, List.all_cons, List.all_nil, zc1_i, zc1_r, Bool.and_true, Bool.and_self, true_and, and_true, List.length_cons, List.length_nil, Nat.zero_le, Nat.reduceLeDiff, Nat.reduceAdd, Nat.reduceLT]
  exact l_110 (by omega) hb hc hne hbw hcw hL hl1 hl2 h L.length 0 t (by omega) tQ.rf (fun k hk => by omega)
def rcF : Nat → Prop := fun x => ∃ p, p < 4 ∧ 301 + 52 * p ≤ x ∧ x < 327 + 52 * p
theorem l_27 {S : Nat → List St} (hd : 2 ≤ d) (hbg : bgI t) (hS : ∀ p, p < 4 → (S p).length ≤ 12 ∧ bL t (275 + 52 * p) (S p)) (h : ∀ t', tQ rcF t t' → (∀ p, p < 4 → bL t' (301 + 52 * p) (S p)) → F none t') : ∀ (j p : Nat) (t' : T), p + j = 4 → tQ rcF t t' → (∀ p', p' < p → bL t' (301 + 52 * p') (S p')) → twp none d 27 2 [.ref 0, .int (nI p)] [] t' F := by
  intro j
  induction j with
  | zero =>
    intro p t' hp hO hI
    have hp : p = 4 := by omega
    subst hp
    refine vc_ok none zH_27 27 false _ 27 2 _ _ _ _ ?_
    simp only [v_27_0, v_27_1, v_27_2, h_27_2, v_27_3, v_27_4, v_27_7, v_27_8, v_27_11, v_27_12, v_27_13, v_27_14, v_27_17, v_27_18, v_27_19, v_27_22, v_27_25, v_27_28, vgi_0, vgi_s, vga_0, vga_s, vset_0, vset_s, vtk_0, vtk_s, vrc_0, vsw_0, vsw_s, List.all_cons, List.all_nil, zc1_i, zc1_r, Bool.and_true, Bool.and_self, true_and, and_true, List.length_cons, List.length_nil, Nat.zero_le, Nat.reduceLeDiff, Nat.reduceAdd, Nat.reduceLT]
    rw [if_neg (by decide)]
    exact h t' hO hI
  | succ j ih =>
    intro p t' hp hO hI
    have hp4 : p < 4 := by omega
    have br4 := bag_r p hp4
    obtain ⟨s1, s2⟩ := hS p hp4
    have tb1 : vtag (301 + 52 * p) = 8 := (bag_all _ br4.1).2.2.2.2.2.1
    have w1 := ((hbg _ br4.1).q hO.1).1
    have w2 := ((hbg _ br4.2.1).q hO.1).1
    have l2 : bL t' (275 + 52 * p) (S p) := bL_k s2 (hbg _ br4.2.1) (by omega) (fun x k a1 a2 => hO.2 x (fun ⟨p', h1, h2, h3⟩ => by omega) k) (fun k => by rw [hO.1])
    refine vc_ok none zH_27 27 false _ 27 2 _ _ _ _ ?_
    simp only [v_27_0, v_27_1, v_27_2, h_27_2, v_27_3, v_27_4, v_27_7, v_27_8, v_27_11, v_27_12, v_27_13, v_27_14, v_27_17, v_27_18, v_27_19, v_27_22, v_27_25, v_27_28, vgi_0, vgi_s, vga_0, vga_s, vset_0, vset_s, vtk_0, vtk_s, vrc_0, vsw_0, vsw_s, List.all_cons, List.all_nil, zc1_i, zc1_r, Bool.and_true, Bool.and_self, true_and, and_true, List.length_cons, List.length_nil, Nat.zero_le, Nat.reduceLeDiff, Nat.reduceAdd, Nat.reduceLT, tg_0, tf_0_9, tg_157, ln_157, tf_0_8, tg_156, ln_156]
    rw [li4, if_pos (nI_lt (by omega) (by omega))]
    simp (disch := omega) only [nI_clamp, vinb_n, tf_157, tf_156, tb1]
    refine ⟨hp4, hp4, trivial, ?_⟩
    refine c_110 (by omega) br4.1 br4.2.1 (by omega) w1 w2 l2 (by omega) (by omega) (fun t2 o2 l3 => ?_)
    simp only [v_27_0, v_27_1, v_27_2, h_27_2, v_27_3, v_27_4, v_27_7, v_27_8, v_27_11, v_27_12, v_27_13, v_27_14, v_27_17, v_27_18, v_27_19, v_27_22, v_27_25, v_27_28, vgi_0, vgi_s, vga_0, vga_s, vset_0, vset_s, vtk_0, vtk_s, vrc_0, vsw_0, vsw_s, List.all_cons, List.all_nil, zc1_i, zc1_r, Bool.and_true, Bool.and_self, true_and, and_true, List.length_cons, List.length_nil, Nat.zero_le, Nat.reduceLeDiff, Nat.reduceAdd, Nat.reduceLT, Option.toList_none, List.nil_append]
    rw [nI_1]
    refine ih (p + 1) t2 (by omega) (hO.tr ⟨o2.1, fun x hx k => o2.2 x (fun z => hx ⟨p, hp4, by unfold bgF at z; omega⟩) k⟩) (fun p' hp' => ?_)
    by_cases z : p' = p
    · subst z; exact l3
    · have br' := bag_r p' (by omega)
      refine bL_k (hI p' (by omega)) (((hbg _ br'.1).q hO.1).1) (by have := (hS p' (by omega)).1; omega) (fun x k a1 a2 => o2.2 x (by unfold bgF; omega) k) (fun k => by rw [o2.1])
theorem c_27 {S : Nat → List St} (hd : 3 ≤ d) (hbg : bgI t) (hS : ∀ p, p < 4 → (S p).length ≤ 12 ∧ bL t (275 + 52 * p) (S p)) (h : ∀ t', tQ rcF t t' → (∀ p, p < 4 → bL t' (301 + 52 * p) (S p)) → F none t') : twc d 27 [.ref 0] t F := by
  refine ⟨by omega, ?_⟩
  rw [ze_27]
  refine vc_ok none zH_27 27 false _ 27 0 _ _ _ _ ?_
  simp only [v_27_0, v_27_1, v_27_2, h_27_2, v_27_3, v_27_4, v_27_7, v_27_8, v_27_11, v_27_12, v_27_13, v_27_14, v_27_17, v_27_18, v_27_19, v_27_22, v_27_25, v_27_28, vgi_0, vgi_s, vga_0, vga_s, vset_0, vset_s, vtk_0, vtk_s, vrc_0, vsw_0, vsw_s, List.all_cons, List.all_nil, zc1_i, zc1_r, Bool.and_true, Bool.and_self, true_and, and_true, List.length_cons, List.length_nil, Nat.zero_le, Nat.reduceLeDiff, Nat.reduceAdd, Nat.reduceLT]
  exact l_27 (by omega) hbg hS h 4 0 t (by omega) tQ.rf (fun p hp => by omega)
end RC
