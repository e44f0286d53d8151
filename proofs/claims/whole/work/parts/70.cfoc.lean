/-! The program focuses: one branch. -/
section CF
variable {d b : Nat} {t : T} {F : Option Value → T → Prop} {p a : Nat}
def tQ (P : Nat → Prop) (t t' : T) : Prop := t'.2 = t.2 ∧ ∀ x, ¬ P x → ∀ k, t'.1 x k = t.1 x k
theorem tQ.rf {P : Nat → Prop} : tQ P t t := ⟨rfl, fun _ _ _ => rfl⟩
theorem tQ.tr {P : Nat → Prop} {t1 t2 : T} (h1 : tQ P t t1) (h2 : tQ P t1 t2) : tQ P t t2 := ⟨h2.1.trans h1.1, fun b hb k => (h2.2 b hb k).trans (h1.2 b hb k)⟩
theorem tQ.of {A : List Nat} {P : Nat → Prop} {t' : T} (h : tO A t t') (h2 : ∀ b, b ∈ A → P b) : tQ P t t' := ⟨h.1, fun x hx k => h.2 x (fun z => hx (h2 x z)) k⟩
def bgF (b : Nat) : Nat → Prop := fun x => b ≤ x ∧ x < b + 2 + 2 * bN b
def bL (t : T) (b : Nat) (L : List St) : Prop := t.1 b 1 = nI L.length ∧ ∀ k, k < L.length → bg t b k = L.getD k z0
theorem bwf.q {t' : T} (h : bwf t b) (h2 : t'.2 = t.2) : bwf t' b ∧ ∀ k, br t' b k = br t b k := by
  have e : ∀ k, br t' b k = br t b k := fun k => by unfold br; rw [h2]
  refine ⟨⟨fun k hk => ?_, fun j k hj hk he => ?_⟩, e⟩
  · rw [e]; exact h.1 k hk
  · rw [e, e] at he; exact h.2 j k hj hk he
/-- writing one structure of a bag leaves the others -/
theorem bg_ne {t' : T} {j k : Nat} {A : List Nat} (hb : b ∈ bags) (h : bwf t b) (hj : j < bN b) (hk : k < bN b) (hne : k ≠ j) (hA : ∀ x, x ∈ A → x = br t b j ∨ x = br t b j + 1 ∨ x = b) (hO : tO A t t') : bg t' b k = bg t b k := by
  have e := (h.q hO.1).2 k
  obtain ⟨a1, a2, a3⟩ := h.1 j hj
  obtain ⟨b1, b2, b3⟩ := h.1 k hk
  have n1 : br t b k ≠ br t b j := fun z => hne (h.2 k j hk hj z)
  have n2 := st_ne a3 b3
  have n3 := st_ne b3 a3
  have n4 := st_nb b3 hb
  unfold bg
  rw [e]
  exact hO.str (fun z => by rcases hA _ z with q | q | q <;> omega) (fun z => by rcases hA _ z with q | q | q <;> omega)
theorem c_150 {u w : Nat} (hd : 2 ≤ d) (hp2 : 2 ≤ p) (hp8 : p < 8) (hu : u < 100) (hw : w < 100) (h : F (some (.int (nI (fcl p u w - 1)))) t) : twc d 150 [.int (nI p), .int (nI u), .int (nI w)] t F := by
  refine ⟨by omega, ?_⟩
  rw [ze_150]
  refine vc_ok none zH_150 23 false _ 150 0 _ _ _ _ ?_
  simp only [v_150_0, v_150_1, v_150_3, v_150_6, v_150_7, v_150_8, v_150_9, v_150_12, v_150_15, v_150_16, v_150_17, v_150_18, v_150_21, vgi_0, vgi_s, vga_0, vga_s, vset_0, vset_s, vtk_0, vtk_s, vrc_0, vsw_0, vsw_s, List.all_cons, List.all_nil, zc1_i, zc1_r, Bool.and_true, Bool.and_self, true_and, and_true, List.length_cons, List.length_nil, Nat.zero_le, Nat.reduceLeDiff, Nat.reduceAdd, Nat.reduceLT]
  simp (disch := omega) only [li6, nI_ltI]
  by_cases p6 : p < 6
  · rw [if_pos p6]
    refine c_161 (w := 0) (by omega) (by omega) (by omega) (by omega) ?_
    simp only [v_150_0, v_150_1, v_150_3, v_150_6, v_150_7, v_150_8, v_150_9, v_150_12, v_150_15, v_150_16, v_150_17, v_150_18, v_150_21, vgi_0, vgi_s, vga_0, vga_s, vset_0, vset_s, vtk_0, vtk_s, vrc_0, vsw_0, vsw_s, List.all_cons, List.all_nil, zc1_i, zc1_r, Bool.and_true, Bool.and_self, true_and, and_true, List.length_cons, List.length_nil, Nat.zero_le, Nat.reduceLeDiff, Nat.reduceAdd, Nat.reduceLT, Option.toList_some, List.cons_append, List.nil_append]
    have := cel1 (u := w) (w := 0) hp2 p6
    rw [show cel p w 0 = fcl p u w - 1 by rw [fcl_1 p6]; omega]
    exact h
  · rw [if_neg p6]
    refine c_161 (by omega) (by omega) (by omega) (by omega) ?_
    simp only [v_150_0, v_150_1, v_150_3, v_150_6, v_150_7, v_150_8, v_150_9, v_150_12, v_150_15, v_150_16, v_150_17, v_150_18, v_150_21, vgi_0, vgi_s, vga_0, vga_s, vset_0, vset_s, vtk_0, vtk_s, vrc_0, vsw_0, vsw_s, List.all_cons, List.all_nil, zc1_i, zc1_r, Bool.and_true, Bool.and_self, true_and, and_true, List.length_cons, List.length_nil, Nat.zero_le, Nat.reduceLeDiff, Nat.reduceAdd, Nat.reduceLT, Option.toList_some, List.cons_append, List.nil_append]
    have := cel2 (u := u) (w := w) (show 6 ≤ p by omega)
    rw [show cel p u w = fcl p u w - 1 by rw [fcl_2 (by omega)]; omega]
    exact h
theorem bagF {x : Nat} (h : b ≤ x) (h2 : x < b + 2 + 2 * bN b) : bgF b x := ⟨h, h2⟩
/-- the first copy, with its cell at 1 -/
theorem c_151a {L : List St} {i u w : Nat} {f : St} {G : Option Value → T → Prop} (hd : 3 ≤ d) (hb : b ∈ bags) (hbN : bN b = 40) (hbw : bwf t b) (hL : bL t b L) (hi : i < L.length) (hf : L.getD i z0 = f) (hc : L.length + 1 ≤ 40) (hcl : fcl p u w < 105 ∧ 0 < fcl p u w) (h : ∀ t', tQ (bgF b) t t' → br t' b i = br t b i → bL (tsi t' (br t b L.length + 1) (fcl p u w - 1) 1) b (L.set i (su f (fcl p u w) 0) ++ [su f (fcl p u w) 1]) → G (some (.ref (br t b L.length))) t') : twc d 106 [.ref b, .ref (br t b i)] (tsi t (br t b i + 1) (fcl p u w - 1) 0) G := by
  obtain ⟨hc0, hL⟩ := hL
  obtain ⟨i1, i2, i3⟩ := hbw.1 i (by omega)
  have hbd := bag_all b hb
  have n4 := st_nb i3 hb
  have o0 : tO [br t b i, br t b i + 1, b] t (tsi t (br t b i + 1) (fcl p u w - 1) 0) := tO.si (by simp)
  have q0 := hbw.q o0.1
  have hc1 : (tsi t (br t b i + 1) (fcl p u w - 1) 0).1 b 1 = nI L.length := by rw [tsi_ne (by omega)]; exact hc0
  have e0 : cS (tsi t (br t b i + 1) (fcl p u w - 1) 0) (br t b i) = su f (fcl p u w) 0 := by
    rw [cS_su (by omega), show fcl p u w - 1 + 1 = fcl p u w by omega, ← hf, ← hL i hi]; rfl
  obtain ⟨j1, j2, j3⟩ := hbw.1 L.length (by omega)
  have nij : br t b i ≠ br t b L.length := fun z => by have := hbw.2 i L.length (by omega) (by omega) z; omega
  have m1 := st_ne i3 j3
  have m2 := st_ne j3 i3
  have m3 := st_nb j3 hb
  have hw1 := q0.1
  refine c_106 (c := L.length) (by omega) hb hw1 hc1 (by omega) i3 (fun t1 o1 e1 w1 => ?_)
  rw [q0.2] at o1 e1 ⊢
  have o1' : tO [br t b L.length, br t b L.length + 1, b] (tsi t (br t b i + 1) (fcl p u w - 1) 0) t1 := o1
  have br1 : ∀ k, br t1 b k = br t b k := fun k => by
    have := (hw1.q o1.1).2 k
    rw [this, q0.2]
  have oq : tQ (bgF b) t t1 := (tQ.of o0 (fun x hx => by simp at hx; unfold bgF; omega)).tr (tQ.of o1 (fun x hx => by simp at hx; unfold bgF; omega))
  refine h t1 oq (br1 i) ⟨?_, ?_⟩
  · rw [tsi_ne (by omega), w1]; simp
  · have bw1 := (hbw.q oq.1).1
    refine isL_step (g := bg t b) (g' := bg (tsi t1 (br t b L.length + 1) (fcl p u w - 1) 1) b) hL hi (fun k hk hk2 => ?_) ?_ (fun k hk => ?_)
    · have o2 : tO [br t1 b L.length, br t1 b L.length + 1] t1 (tsi t1 (br t b L.length + 1) (fcl p u w - 1) 1) := by rw [br1]; exact tO.si (by simp)
      rw [bg_ne (j := L.length) hb bw1 (by omega) (by omega) (by omega) (fun x hx => by simp at hx; omega) o2]
      rw [bg_ne (t := tsi t (br t b i + 1) (fcl p u w - 1) 0) (j := L.length) hb hw1 (by omega) (by omega) (by omega) (fun x hx => by rw [q0.2]; simp at hx; omega) o1']
      exact bg_ne (j := i) hb hbw (by omega) (by omega) hk2 (fun x hx => by simp at hx; omega) o0
    · have o2 : tO [br t1 b L.length, br t1 b L.length + 1] t1 (tsi t1 (br t b L.length + 1) (fcl p u w - 1) 1) := by rw [br1]; exact tO.si (by simp)
      rw [bg_ne (j := L.length) hb bw1 (by omega) (by omega) (by omega) (fun x hx => by simp at hx; omega) o2]
      rw [bg_ne (t := tsi t (br t b i + 1) (fcl p u w - 1) 0) (j := L.length) hb hw1 (by omega) (by omega) (by omega) (fun x hx => by rw [q0.2]; simp at hx; omega) o1']
      unfold bg
      rw [q0.2]
      exact e0
    · have : k = 0 := by simp at hk; exact hk
      subst this
      show cS _ (br t1 b L.length) = _
      rw [br1, cS_su (by omega), show fcl p u w - 1 + 1 = fcl p u w by omega, e1, e0]
      show su (su f (fcl p u w) 0) (fcl p u w) 1 = su f (fcl p u w) 1
      funext k
      unfold su
      by_cases z : k = fcl p u w
      · rw [if_pos z, if_pos z]
      · rw [if_neg z, if_neg z, if_neg z]
theorem bL_app {t' : T} {L : List St} {x : St} (hb : b ∈ bags) (hbw : bwf t b) (hL : bL t b L) (hc : L.length < bN b) (hO : tO [br t b L.length, br t b L.length + 1, b] t t') (h1 : t'.1 b 1 = nI (L.length + 1)) (h2 : cS t' (br t b L.length) = x) : bL t' b (L ++ [x]) := by
  refine ⟨by rw [h1]; simp, fun k hk => ?_⟩
  simp only [List.length_append, List.length_cons, List.length_nil] at hk
  by_cases z : k < L.length
  · rw [gd_app_lt z, bg_ne (j := L.length) hb hbw (by omega) (by omega) (by omega) (fun y hy => by simp at hy; omega) hO]
    exact hL.2 k z
  · have : k = L.length := by omega
    subst this
    rw [gd_app_ge (Nat.le_refl _), Nat.sub_self]
    unfold bg
    rw [(hbw.q hO.1).2]
    exact h2
/-- the second copy: parted -/
theorem c_151 {L : List St} {i n u w : Nat} {f : St} (hd : 6 ≤ d) (hb : b ∈ bags) (hbN : bN b = 40) (hbw : bwf t b) (hwk : t.2 58 3 = b) (hL : bL t b L) (hi : i < L.length) (h40 : L.length ≤ 40) (hf : L.getD i z0 = f) (hwf : wfS f) (hn : f 0 = nI n) (hn6 : n ≤ 6) (hp2 : 2 ≤ p) (hp8 : p < 8) (hu6 : u < 6) (hw : w < n) (hu : 6 ≤ p → u < n ∧ f (3 + 5 * u) ≠ 1) (kf : ((f (3 + 5 * w) = 1 ∧ n = 6) ∨ 40 < L.length + (if f (3 + 5 * w) = 1 then 2 else 1)) → F (some (.int 0)) t) (k1 : ¬ f (3 + 5 * w) = 1 → L.length + 1 ≤ 40 → ∀ t', tQ (bgF b) t t' → bL t' b (L.set i (su f (fcl p u w) 0) ++ [su f (fcl p u w) 1]) → F (some (.int 1)) t') (k2 : f (3 + 5 * w) = 1 → n < 6 → L.length + 2 ≤ 40 → ∀ t', tQ (bgF b) t t' → bL t' b (L.set i (su f (fcl p u w) 0) ++ [su f (fcl p u w) 1, part p f n u w]) → F (some (.int 1)) t') : twc d 151 [.ref 58, .ref (br t b i), .int (nI p), .int (nI u), .int (nI w)] t F := by
  obtain ⟨i1, i2, i3⟩ := hbw.1 i (by omega)
  have hbd := bag_all b hb
  have tb : vtag b = 8 := hbd.2.2.2.2.2.1
  have hfi : cS t (br t b i) = f := by rw [← hf, ← hL.2 i hi]; rfl
  have hti : t.1 (br t b i) 0 = nI n := by rw [← cS_i, hfi]; exact hn
  have hcl : fcl p u w < 105 ∧ 0 < fcl p u w := by
    by_cases p6 : p < 6
    · rw [fcl_1 p6]; omega
    · rw [fcl_2 (by omega)]; omega
  have st := st_tag i3
  have sl := st_len i3
  refine ⟨by omega, ?_⟩
  rw [ze_151]
  refine vc_ok none zH_151 72 false _ 151 0 _ _ _ _ ?_
  simp only [v_151_0, v_151_1, v_151_2, v_151_4, v_151_7, v_151_9, v_151_10, v_151_12, v_151_15, v_151_17, v_151_19, v_151_22, v_151_23, v_151_26, v_151_28, v_151_31, v_151_32, v_151_35, v_151_37, v_151_40, v_151_41, v_151_44, v_151_45, v_151_48, v_151_51, v_151_52, v_151_53, v_151_54, v_151_57, v_151_59, v_151_60, v_151_61, v_151_62, v_151_65, v_151_66, v_151_69, v_151_72, v_151_74, v_151_75, v_151_76, v_151_78, v_151_81, v_151_82, v_151_85, v_151_86, v_151_89, v_151_91, v_151_93, v_151_95, v_151_98, v_151_100, v_151_103, v_151_104, v_151_105, v_151_107, v_151_110, v_151_111, v_151_112, v_151_115, v_151_116, v_151_117, h_151_117, v_151_118, vgi_0, vgi_s, vga_0, vga_s, vset_0, vset_s, vtk_0, vtk_s, vrc_0, vsw_0, vsw_s, List.all_cons, List.all_nil, zc1_i, zc1_r, Bool.and_true, Bool.and_self, true_and, and_true, List.length_cons, List.length_nil, Nat.zero_le, Nat.reduceLeDiff, Nat.reduceAdd, Nat.reduceLT]
  refine c_150 (by omega) hp2 hp8 (by omega) (by omega) ?_
  simp only [v_151_0, v_151_1, v_151_2, v_151_4, v_151_7, v_151_9, v_151_10, v_151_12, v_151_15, v_151_17, v_151_19, v_151_22, v_151_23, v_151_26, v_151_28, v_151_31, v_151_32, v_151_35, v_151_37, v_151_40, v_151_41, v_151_44, v_151_45, v_151_48, v_151_51, v_151_52, v_151_53, v_151_54, v_151_57, v_151_59, v_151_60, v_151_61, v_151_62, v_151_65, v_151_66, v_151_69, v_151_72, v_151_74, v_151_75, v_151_76, v_151_78, v_151_81, v_151_82, v_151_85, v_151_86, v_151_89, v_151_91, v_151_93, v_151_95, v_151_98, v_151_100, v_151_103, v_151_104, v_151_105, v_151_107, v_151_110, v_151_111, v_151_112, v_151_115, v_151_116, v_151_117, h_151_117, v_151_118, vgi_0, vgi_s, vga_0, vga_s, vset_0, vset_s, vtk_0, vtk_s, vrc_0, vsw_0, vsw_s, List.all_cons, List.all_nil, zc1_i, zc1_r, Bool.and_true, Bool.and_self, true_and, and_true, List.length_cons, List.length_nil, Nat.zero_le, Nat.reduceLeDiff, Nat.reduceAdd, Nat.reduceLT, Option.toList_some, List.cons_append, List.nil_append, i3]
  refine c_165 (by omega) i3 (by omega) ?_
  simp only [v_151_0, v_151_1, v_151_2, v_151_4, v_151_7, v_151_9, v_151_10, v_151_12, v_151_15, v_151_17, v_151_19, v_151_22, v_151_23, v_151_26, v_151_28, v_151_31, v_151_32, v_151_35, v_151_37, v_151_40, v_151_41, v_151_44, v_151_45, v_151_48, v_151_51, v_151_52, v_151_53, v_151_54, v_151_57, v_151_59, v_151_60, v_151_61, v_151_62, v_151_65, v_151_66, v_151_69, v_151_72, v_151_74, v_151_75, v_151_76, v_151_78, v_151_81, v_151_82, v_151_85, v_151_86, v_151_89, v_151_91, v_151_93, v_151_95, v_151_98, v_151_100, v_151_103, v_151_104, v_151_105, v_151_107, v_151_110, v_151_111, v_151_112, v_151_115, v_151_116, v_151_117, h_151_117, v_151_118, vgi_0, vgi_s, vga_0, vga_s, vset_0, vset_s, vtk_0, vtk_s, vrc_0, vsw_0, vsw_s, List.all_cons, List.all_nil, zc1_i, zc1_r, Bool.and_true, Bool.and_self, true_and, and_true, List.length_cons, List.length_nil, Nat.zero_le, Nat.reduceLeDiff, Nat.reduceAdd, Nat.reduceLT, Option.toList_some, List.cons_append, List.nil_append, i3, hti, tg_58, tf_58_3, hwk, tb]
  rw [hfi]
  by_cases y : f (3 + 5 * w) = 1
  · rw [if_pos y]
    rw [if_pos y] at kf
    rw [if_neg (by decide)]
    simp (disch := omega) only [li6, nI_eq]
    by_cases n6 : n = 6
    · rw [if_pos n6]
      exact ⟨Or.inl trivial, kf (Or.inl ⟨y, n6⟩)⟩
    · rw [if_neg n6, if_neg (by decide)]
      refine c_105 (k := 2) (by omega) hb hL.1 (by omega) (by omega) (fun hc => ?_) (fun hc => ?_)
      · simp only [v_151_0, v_151_1, v_151_2, v_151_4, v_151_7, v_151_9, v_151_10, v_151_12, v_151_15, v_151_17, v_151_19, v_151_22, v_151_23, v_151_26, v_151_28, v_151_31, v_151_32, v_151_35, v_151_37, v_151_40, v_151_41, v_151_44, v_151_45, v_151_48, v_151_51, v_151_52, v_151_53, v_151_54, v_151_57, v_151_59, v_151_60, v_151_61, v_151_62, v_151_65, v_151_66, v_151_69, v_151_72, v_151_74, v_151_75, v_151_76, v_151_78, v_151_81, v_151_82, v_151_85, v_151_86, v_151_89, v_151_91, v_151_93, v_151_95, v_151_98, v_151_100, v_151_103, v_151_104, v_151_105, v_151_107, v_151_110, v_151_111, v_151_112, v_151_115, v_151_116, v_151_117, h_151_117, v_151_118, vgi_0, vgi_s, vga_0, vga_s, vset_0, vset_s, vtk_0, vtk_s, vrc_0, vsw_0, vsw_s, List.all_cons, List.all_nil, zc1_i, zc1_r, Bool.and_true, Bool.and_self, true_and, and_true, List.length_cons, List.length_nil, Nat.zero_le, Nat.reduceLeDiff, Nat.reduceAdd, Nat.reduceLT, Option.toList_some, List.cons_append, List.nil_append, i3, tg_58, tf_58_3, hwk, tb, st_row _ i3, st, sl]
        rw [if_neg (by decide)]
        simp (disch := omega) only [nI_clamp, vinb_n]
        refine ⟨by omega, ?_⟩
        have wk0 : (tsi t (br t b i + 1) (fcl p u w - 1) 0).2 58 3 = b := hwk
        simp only [wk0]
        refine ⟨tb, ?_⟩
        refine c_151a (L := L) (u := u) (w := w) (f := f) (by omega) hb hbN hbw hL hi hf (by omega) hcl (fun t1 o1 b1 hL1 => ?_)
        obtain ⟨j1, j2, j3⟩ := hbw.1 L.length (by omega)
        have m3 := st_nb j3 hb
        have wk1 : t1.2 58 3 = b := by rw [o1.1]; exact hwk
        simp only [v_151_0, v_151_1, v_151_2, v_151_4, v_151_7, v_151_9, v_151_10, v_151_12, v_151_15, v_151_17, v_151_19, v_151_22, v_151_23, v_151_26, v_151_28, v_151_31, v_151_32, v_151_35, v_151_37, v_151_40, v_151_41, v_151_44, v_151_45, v_151_48, v_151_51, v_151_52, v_151_53, v_151_54, v_151_57, v_151_59, v_151_60, v_151_61, v_151_62, v_151_65, v_151_66, v_151_69, v_151_72, v_151_74, v_151_75, v_151_76, v_151_78, v_151_81, v_151_82, v_151_85, v_151_86, v_151_89, v_151_91, v_151_93, v_151_95, v_151_98, v_151_100, v_151_103, v_151_104, v_151_105, v_151_107, v_151_110, v_151_111, v_151_112, v_151_115, v_151_116, v_151_117, h_151_117, v_151_118, vgi_0, vgi_s, vga_0, vga_s, vset_0, vset_s, vtk_0, vtk_s, vrc_0, vsw_0, vsw_s, List.all_cons, List.all_nil, zc1_i, zc1_r, Bool.and_true, Bool.and_self, true_and, and_true, List.length_cons, List.length_nil, Nat.zero_le, Nat.reduceLeDiff, Nat.reduceAdd, Nat.reduceLT, Option.toList_some, List.cons_append, List.nil_append, j3, st_row _ j3, st_tag j3, st_len j3, tg_58, tf_58_3, tb]
        simp (disch := omega) only [nI_clamp, vinb_n]
        rw [if_neg (by decide)]
        refine ⟨by omega, ?_⟩
        have ob1 : tQ (bgF b) t (tsi t1 (br t b L.length + 1) (fcl p u w - 1) 1) := o1.tr (tQ.of (A := [br t b L.length + 1]) (tO.si (by simp)) (fun x hx => by simp at hx; unfold bgF; omega))
        have q1 := hbw.q ob1.1
        have hwk1 : (tsi t1 (br t b L.length + 1) (fcl p u w - 1) 1).2 58 3 = b := wk1
        simp only [hwk1]
        refine ⟨tb, ?_⟩
        have hl1 : (L.set i (su f (fcl p u w) 0) ++ [su f (fcl p u w) 1]).length = L.length + 1 := by simp
        have hc2 : (tsi t1 (br t b L.length + 1) (fcl p u w - 1) 1).1 b 1 = nI (L.length + 1) := by rw [hL1.1, hl1]
        have hgi : cS (tsi t1 (br t b L.length + 1) (fcl p u w - 1) 1) (br t b i) = su f (fcl p u w) 0 := by
          have := hL1.2 i (by rw [hl1]; omega)
          rw [gd_app_lt (by rw [List.length_set]; exact hi), gd_set_eq hi] at this
          unfold bg at this
          rw [q1.2] at this
          exact this
        obtain ⟨l1, l2, l3⟩ := hbw.1 (L.length + 1) (by omega)
        have wz := fcl_wf (u := u) (w := w) (c := 0) hp2 hp8 hwf hn hn6 hw (fun h => (hu h).1) (by omega)
        refine c_106 (c := L.length + 1) (by omega) hb q1.1 hc2 (by omega) i3 (fun t3 o3 e3 w3 => ?_)
        rw [q1.2] at o3 e3 ⊢
        rw [hgi] at e3
        simp only [v_151_0, v_151_1, v_151_2, v_151_4, v_151_7, v_151_9, v_151_10, v_151_12, v_151_15, v_151_17, v_151_19, v_151_22, v_151_23, v_151_26, v_151_28, v_151_31, v_151_32, v_151_35, v_151_37, v_151_40, v_151_41, v_151_44, v_151_45, v_151_48, v_151_51, v_151_52, v_151_53, v_151_54, v_151_57, v_151_59, v_151_60, v_151_61, v_151_62, v_151_65, v_151_66, v_151_69, v_151_72, v_151_74, v_151_75, v_151_76, v_151_78, v_151_81, v_151_82, v_151_85, v_151_86, v_151_89, v_151_91, v_151_93, v_151_95, v_151_98, v_151_100, v_151_103, v_151_104, v_151_105, v_151_107, v_151_110, v_151_111, v_151_112, v_151_115, v_151_116, v_151_117, h_151_117, v_151_118, vgi_0, vgi_s, vga_0, vga_s, vset_0, vset_s, vtk_0, vtk_s, vrc_0, vsw_0, vsw_s, List.all_cons, List.all_nil, zc1_i, zc1_r, Bool.and_true, Bool.and_self, true_and, and_true, List.length_cons, List.length_nil, Nat.zero_le, Nat.reduceLeDiff, Nat.reduceAdd, Nat.reduceLT, Option.toList_some, List.cons_append, List.nil_append, l3]
        refine c_170 (n := n) (w := w) (by omega) l3 (by rw [e3]; exact wz.1) (by rw [e3]; exact wz.2) (by omega) hw (fun t4 o4 e4 => ?_)
        rw [e3] at e4
        have h40 : t4.1 (br t b (L.length + 1)) 0 = nI (n + 1) := by rw [← cS_i, e4]; rfl
        simp only [v_151_0, v_151_1, v_151_2, v_151_4, v_151_7, v_151_9, v_151_10, v_151_12, v_151_15, v_151_17, v_151_19, v_151_22, v_151_23, v_151_26, v_151_28, v_151_31, v_151_32, v_151_35, v_151_37, v_151_40, v_151_41, v_151_44, v_151_45, v_151_48, v_151_51, v_151_52, v_151_53, v_151_54, v_151_57, v_151_59, v_151_60, v_151_61, v_151_62, v_151_65, v_151_66, v_151_69, v_151_72, v_151_74, v_151_75, v_151_76, v_151_78, v_151_81, v_151_82, v_151_85, v_151_86, v_151_89, v_151_91, v_151_93, v_151_95, v_151_98, v_151_100, v_151_103, v_151_104, v_151_105, v_151_107, v_151_110, v_151_111, v_151_112, v_151_115, v_151_116, v_151_117, h_151_117, v_151_118, vgi_0, vgi_s, vga_0, vga_s, vset_0, vset_s, vtk_0, vtk_s, vrc_0, vsw_0, vsw_s, List.all_cons, List.all_nil, zc1_i, zc1_r, Bool.and_true, Bool.and_self, true_and, and_true, List.length_cons, List.length_nil, Nat.zero_le, Nat.reduceLeDiff, Nat.reduceAdd, Nat.reduceLT, Option.toList_none, List.nil_append, l3, st_row _ l3, h40]
        rw [nI_mp]
        refine c_150 (by omega) hp2 hp8 (by omega) (by omega) ?_
        have hcl2 : fcl p u n < 105 ∧ 0 < fcl p u n := by
          by_cases p6 : p < 6
          · rw [fcl_1 p6]; omega
          · rw [fcl_2 (by omega)]; omega
        simp only [v_151_0, v_151_1, v_151_2, v_151_4, v_151_7, v_151_9, v_151_10, v_151_12, v_151_15, v_151_17, v_151_19, v_151_22, v_151_23, v_151_26, v_151_28, v_151_31, v_151_32, v_151_35, v_151_37, v_151_40, v_151_41, v_151_44, v_151_45, v_151_48, v_151_51, v_151_52, v_151_53, v_151_54, v_151_57, v_151_59, v_151_60, v_151_61, v_151_62, v_151_65, v_151_66, v_151_69, v_151_72, v_151_74, v_151_75, v_151_76, v_151_78, v_151_81, v_151_82, v_151_85, v_151_86, v_151_89, v_151_91, v_151_93, v_151_95, v_151_98, v_151_100, v_151_103, v_151_104, v_151_105, v_151_107, v_151_110, v_151_111, v_151_112, v_151_115, v_151_116, v_151_117, h_151_117, v_151_118, vgi_0, vgi_s, vga_0, vga_s, vset_0, vset_s, vtk_0, vtk_s, vrc_0, vsw_0, vsw_s, List.all_cons, List.all_nil, zc1_i, zc1_r, Bool.and_true, Bool.and_self, true_and, and_true, List.length_cons, List.length_nil, Nat.zero_le, Nat.reduceLeDiff, Nat.reduceAdd, Nat.reduceLT, Option.toList_some, List.cons_append, List.nil_append, st_tag l3, st_len l3]
        simp (disch := omega) only [nI_clamp, vinb_n]
        refine ⟨by omega, ?_⟩
        refine vc_ok none zH_151 72 false _ 151 117 _ _ _ _ ?_
        simp only [v_151_0, v_151_1, v_151_2, v_151_4, v_151_7, v_151_9, v_151_10, v_151_12, v_151_15, v_151_17, v_151_19, v_151_22, v_151_23, v_151_26, v_151_28, v_151_31, v_151_32, v_151_35, v_151_37, v_151_40, v_151_41, v_151_44, v_151_45, v_151_48, v_151_51, v_151_52, v_151_53, v_151_54, v_151_57, v_151_59, v_151_60, v_151_61, v_151_62, v_151_65, v_151_66, v_151_69, v_151_72, v_151_74, v_151_75, v_151_76, v_151_78, v_151_81, v_151_82, v_151_85, v_151_86, v_151_89, v_151_91, v_151_93, v_151_95, v_151_98, v_151_100, v_151_103, v_151_104, v_151_105, v_151_107, v_151_110, v_151_111, v_151_112, v_151_115, v_151_116, v_151_117, h_151_117, v_151_118, vgi_0, vgi_s, vga_0, vga_s, vset_0, vset_s, vtk_0, vtk_s, vrc_0, vsw_0, vsw_s, List.all_cons, List.all_nil, zc1_i, zc1_r, Bool.and_true, Bool.and_self, true_and, and_true, List.length_cons, List.length_nil, Nat.zero_le, Nat.reduceLeDiff, Nat.reduceAdd, Nat.reduceLT]
        have m4 := st_nb l3 hb
        have o5 : tO [br t b (L.length + 1), br t b (L.length + 1) + 1, b] (tsi t1 (br t b L.length + 1) (fcl p u w - 1) 1) (tsi t4 (br t b (L.length + 1) + 1) (fcl p u n - 1) 1) := (o3.tr (o4.mono (by intro x hx; simp at hx ⊢; omega))).tr (tO.si (by simp))
        refine ⟨Or.inr trivial, k2 y (by omega) (by omega) _ (ob1.tr (tQ.of o5 (fun x hx => by simp at hx; unfold bgF; omega))) ?_⟩
        have o5' : tO [br (tsi t1 (br t b L.length + 1) (fcl p u w - 1) 1) b (L.set i (su f (fcl p u w) 0) ++ [su f (fcl p u w) 1]).length, br (tsi t1 (br t b L.length + 1) (fcl p u w - 1) 1) b (L.set i (su f (fcl p u w) 0) ++ [su f (fcl p u w) 1]).length + 1, b] (tsi t1 (br t b L.length + 1) (fcl p u w - 1) 1) (tsi t4 (br t b (L.length + 1) + 1) (fcl p u n - 1) 1) := by rw [hl1, q1.2]; exact o5
        have := bL_app (x := part p f n u w) hb q1.1 hL1 (by rw [hl1]; omega) o5' (by rw [hl1, tsi_ne (by omega), o4.2 b (by simp; omega)]; exact w3) (by
          rw [hl1, q1.2, cS_su (by omega), e4, show fcl p u n - 1 + 1 = fcl p u n by omega]
          refine part_c hp2 hp8 (by omega) hw (fun h => ⟨(hu h).1, fun e => (hu h).2 (by rw [e]; exact y)⟩))
        rw [List.append_assoc] at this
        exact this
      · simp only [v_151_0, v_151_1, v_151_2, v_151_4, v_151_7, v_151_9, v_151_10, v_151_12, v_151_15, v_151_17, v_151_19, v_151_22, v_151_23, v_151_26, v_151_28, v_151_31, v_151_32, v_151_35, v_151_37, v_151_40, v_151_41, v_151_44, v_151_45, v_151_48, v_151_51, v_151_52, v_151_53, v_151_54, v_151_57, v_151_59, v_151_60, v_151_61, v_151_62, v_151_65, v_151_66, v_151_69, v_151_72, v_151_74, v_151_75, v_151_76, v_151_78, v_151_81, v_151_82, v_151_85, v_151_86, v_151_89, v_151_91, v_151_93, v_151_95, v_151_98, v_151_100, v_151_103, v_151_104, v_151_105, v_151_107, v_151_110, v_151_111, v_151_112, v_151_115, v_151_116, v_151_117, h_151_117, v_151_118, vgi_0, vgi_s, vga_0, vga_s, vset_0, vset_s, vtk_0, vtk_s, vrc_0, vsw_0, vsw_s, List.all_cons, List.all_nil, zc1_i, zc1_r, Bool.and_true, Bool.and_self, true_and, and_true, List.length_cons, List.length_nil, Nat.zero_le, Nat.reduceLeDiff, Nat.reduceAdd, Nat.reduceLT, Option.toList_some, List.cons_append, List.nil_append]
        rw [if_pos trivial]
        exact ⟨Or.inl trivial, kf (Or.inr (by omega))⟩
  · rw [if_neg y]
    rw [if_neg y] at kf
    rw [if_pos rfl, if_pos rfl]
    refine c_105 (k := 1) (by omega) hb hL.1 (by omega) (by omega) (fun hc => ?_) (fun hc => ?_)
    · simp only [v_151_0, v_151_1, v_151_2, v_151_4, v_151_7, v_151_9, v_151_10, v_151_12, v_151_15, v_151_17, v_151_19, v_151_22, v_151_23, v_151_26, v_151_28, v_151_31, v_151_32, v_151_35, v_151_37, v_151_40, v_151_41, v_151_44, v_151_45, v_151_48, v_151_51, v_151_52, v_151_53, v_151_54, v_151_57, v_151_59, v_151_60, v_151_61, v_151_62, v_151_65, v_151_66, v_151_69, v_151_72, v_151_74, v_151_75, v_151_76, v_151_78, v_151_81, v_151_82, v_151_85, v_151_86, v_151_89, v_151_91, v_151_93, v_151_95, v_151_98, v_151_100, v_151_103, v_151_104, v_151_105, v_151_107, v_151_110, v_151_111, v_151_112, v_151_115, v_151_116, v_151_117, h_151_117, v_151_118, vgi_0, vgi_s, vga_0, vga_s, vset_0, vset_s, vtk_0, vtk_s, vrc_0, vsw_0, vsw_s, List.all_cons, List.all_nil, zc1_i, zc1_r, Bool.and_true, Bool.and_self, true_and, and_true, List.length_cons, List.length_nil, Nat.zero_le, Nat.reduceLeDiff, Nat.reduceAdd, Nat.reduceLT, Option.toList_some, List.cons_append, List.nil_append, i3, tg_58, tf_58_3, hwk, tb, st_row _ i3, st, sl]
      rw [if_neg (by decide)]
      simp (disch := omega) only [nI_clamp, vinb_n]
      refine ⟨by omega, ?_⟩
      have wk0 : (tsi t (br t b i + 1) (fcl p u w - 1) 0).2 58 3 = b := hwk
      simp only [wk0]
      refine ⟨tb, ?_⟩
      refine c_151a (L := L) (u := u) (w := w) (f := f) (by omega) hb hbN hbw hL hi hf (by omega) hcl (fun t1 o1 b1 hL1 => ?_)
      obtain ⟨j1, j2, j3⟩ := hbw.1 L.length (by omega)
      have m3 := st_nb j3 hb
      have wk1 : t1.2 58 3 = b := by rw [o1.1]; exact hwk
      simp only [v_151_0, v_151_1, v_151_2, v_151_4, v_151_7, v_151_9, v_151_10, v_151_12, v_151_15, v_151_17, v_151_19, v_151_22, v_151_23, v_151_26, v_151_28, v_151_31, v_151_32, v_151_35, v_151_37, v_151_40, v_151_41, v_151_44, v_151_45, v_151_48, v_151_51, v_151_52, v_151_53, v_151_54, v_151_57, v_151_59, v_151_60, v_151_61, v_151_62, v_151_65, v_151_66, v_151_69, v_151_72, v_151_74, v_151_75, v_151_76, v_151_78, v_151_81, v_151_82, v_151_85, v_151_86, v_151_89, v_151_91, v_151_93, v_151_95, v_151_98, v_151_100, v_151_103, v_151_104, v_151_105, v_151_107, v_151_110, v_151_111, v_151_112, v_151_115, v_151_116, v_151_117, h_151_117, v_151_118, vgi_0, vgi_s, vga_0, vga_s, vset_0, vset_s, vtk_0, vtk_s, vrc_0, vsw_0, vsw_s, List.all_cons, List.all_nil, zc1_i, zc1_r, Bool.and_true, Bool.and_self, true_and, and_true, List.length_cons, List.length_nil, Nat.zero_le, Nat.reduceLeDiff, Nat.reduceAdd, Nat.reduceLT, Option.toList_some, List.cons_append, List.nil_append, j3, st_row _ j3, st_tag j3, st_len j3]
      simp (disch := omega) only [nI_clamp, vinb_n]
      refine ⟨by omega, ?_⟩
      have ob1 : tQ (bgF b) t (tsi t1 (br t b L.length + 1) (fcl p u w - 1) 1) := o1.tr (tQ.of (A := [br t b L.length + 1]) (tO.si (by simp)) (fun x hx => by simp at hx; unfold bgF; omega))
      rw [if_pos trivial]
      refine vc_ok none zH_151 72 false _ 151 117 _ _ _ _ ?_
      simp only [v_151_0, v_151_1, v_151_2, v_151_4, v_151_7, v_151_9, v_151_10, v_151_12, v_151_15, v_151_17, v_151_19, v_151_22, v_151_23, v_151_26, v_151_28, v_151_31, v_151_32, v_151_35, v_151_37, v_151_40, v_151_41, v_151_44, v_151_45, v_151_48, v_151_51, v_151_52, v_151_53, v_151_54, v_151_57, v_151_59, v_151_60, v_151_61, v_151_62, v_151_65, v_151_66, v_151_69, v_151_72, v_151_74, v_151_75, v_151_76, v_151_78, v_151_81, v_151_82, v_151_85, v_151_86, v_151_89, v_151_91, v_151_93, v_151_95, v_151_98, v_151_100, v_151_103, v_151_104, v_151_105, v_151_107, v_151_110, v_151_111, v_151_112, v_151_115, v_151_116, v_151_117, h_151_117, v_151_118, vgi_0, vgi_s, vga_0, vga_s, vset_0, vset_s, vtk_0, vtk_s, vrc_0, vsw_0, vsw_s, List.all_cons, List.all_nil, zc1_i, zc1_r, Bool.and_true, Bool.and_self, true_and, and_true, List.length_cons, List.length_nil, Nat.zero_le, Nat.reduceLeDiff, Nat.reduceAdd, Nat.reduceLT]
      exact ⟨Or.inr trivial, k1 y (by omega) _ ob1 hL1⟩
    · simp only [v_151_0, v_151_1, v_151_2, v_151_4, v_151_7, v_151_9, v_151_10, v_151_12, v_151_15, v_151_17, v_151_19, v_151_22, v_151_23, v_151_26, v_151_28, v_151_31, v_151_32, v_151_35, v_151_37, v_151_40, v_151_41, v_151_44, v_151_45, v_151_48, v_151_51, v_151_52, v_151_53, v_151_54, v_151_57, v_151_59, v_151_60, v_151_61, v_151_62, v_151_65, v_151_66, v_151_69, v_151_72, v_151_74, v_151_75, v_151_76, v_151_78, v_151_81, v_151_82, v_151_85, v_151_86, v_151_89, v_151_91, v_151_93, v_151_95, v_151_98, v_151_100, v_151_103, v_151_104, v_151_105, v_151_107, v_151_110, v_151_111, v_151_112, v_151_115, v_151_116, v_151_117, h_151_117, v_151_118, vgi_0, vgi_s, vga_0, vga_s, vset_0, vset_s, vtk_0, vtk_s, vrc_0, vsw_0, vsw_s, List.all_cons, List.all_nil, zc1_i, zc1_r, Bool.and_true, Bool.and_self, true_and, and_true, List.length_cons, List.length_nil, Nat.zero_le, Nat.reduceLeDiff, Nat.reduceAdd, Nat.reduceLT, Option.toList_some, List.cons_append, List.nil_append]
      rw [if_pos trivial]
      exact ⟨Or.inl trivial, kf (Or.inr (by omega))⟩
end CF
