/-! The program sharpens: one rule. -/
section CC
variable {d a : Nat} {t : T} {F : Option Value → T → Prop} {q : FT} {m n rc : Nat} {f : St} {ru : Nat → Nat → Nat}
theorem st_pl : ∀ a, a < 517 → vtag a = 4 → a = 47 ∨ 59 ≤ a := by decide +kernel
theorem st_ge (h : vtag a = 4) : a = 47 ∨ 59 ≤ a := st_pl a (vtag_lt h (by omega)) h
/-- the program's table of formulas -/
def cft (t : T) (q : FT) (m : Nat) : Prop := m ≤ 40 ∧ (∀ i, i < m → fwf q i) ∧ (∀ i, i < m → kd q i = 1 → (va q i < 2 → q i 2 = 0) ∧ (va q i < 6 → q i 3 = 0)) ∧ ∀ i k, i < m → k < 8 → t.1 (4 + i) k = q i k
def crl (t : T) (ru : Nat → Nat → Nat) (rc : Nat) : Prop := t.1 49 3 = nI rc ∧ ∀ r, r < rc → t.1 (51 + r) 0 = nI (ru r 0) ∧ t.1 (51 + r) 1 = nI (ru r 1) ∧ t.1 (51 + r) 2 = nI (ru r 2)
def shF (a : Nat) : Nat → Prop := fun b => (44 ≤ b ∧ b ≤ 46) ∨ b = a ∨ b = a + 1
theorem cft.fr {t' : T} (h : cft t q m) (ha : vtag a = 4) (hO : tF (shF a) t t') : cft t' q m := by
  have := st_ge ha
  obtain ⟨h1, h2, h3, h4⟩ := h
  refine ⟨h1, h2, h3, fun i k hi hk => ?_⟩
  rw [(hO (4 + i) (by unfold shF; omega)).1]; exact h4 i k hi hk
theorem crl.fr {t' : T} (h : crl t ru rc) (hr : rc ≤ 6) (ha : vtag a = 4) (hO : tF (shF a) t t') : crl t' ru rc := by
  have := st_ge ha
  refine ⟨by rw [(hO 49 (by unfold shF; omega)).1]; exact h.1, fun r hr => ?_⟩
  rw [(hO (51 + r) (by unfold shF; omega)).1, (hO (51 + r) (by unfold shF; omega)).1, (hO (51 + r) (by unfold shF; omega)).1]
  exact h.2 r hr
theorem c_122w {i x y : Nat} (hd : 40 ≤ d) (hq : cft t q m) (ha : vtag a = 4) (hc : cS t a = f) (hf : wfS f) (hn : f 0 = nI n) (hn6 : n ≤ 6) (hi : i < m) (h3 : fr q i ≤ 3) (hfr : ∀ v, fb q i v → e2 x y v < n) (h : ∀ t', tF (shF a) t t' → cS t' a = f → F (some (.int (EV q f n i (e2 x y)))) t') : twc d 122 [.ref 44, .ref a, .int (nI i), .int (nI x), .int (nI y)] t F := by
  have hg := st_ge ha
  refine c_122 (e := e2 x y) hd ⟨hq.1, hq.2.1, hq.2.2.1, hq.2.2.2, tsr_eq, ha, hc, hf, hn, hn6⟩ hi (fun v hv => ?_) (fun t' h1 h2 => ?_)
  · have h4 := fb3 h3 hv
    have h5 := hfr v hv
    have : v = 0 ∨ v = 1 := by omega
    rcases this with rfl | rfl
    · exact Or.inl ⟨rfl, rfl, h5⟩
    · exact Or.inr ⟨rfl, rfl, h5⟩
  · refine h t' (fun b hb => ⟨fun k => h2 b k (by unfold shF at hb; omega) (by unfold shF at hb; omega), fun k => ?_⟩) ?_
    · rw [h1, tsr_ne (by unfold shF at hb; omega)]
    · rw [cS_of (fun k => h2 a k (by omega) (by omega)) (fun k => h2 (a + 1) k (by omega) (by omega))]; exact hc
theorem bit2 : ∀ m, m < 64 → ((nI m &&& 2 = 0 ↔ m.testBit 1 = false) ∧ (nI m &&& 1 = 0 ↔ m.testBit 0 = false)) := by decide +kernel
theorem c_158 {i u : Nat} {sv : Int32} (hd : 1 ≤ d) (hi : fr q i < 64) (hu : u < 6) (hs : sv = -1 ∨ ∃ x, x < 6 ∧ sv = nI x) (k1 : F (some (.int 1)) t) (k0 : ∀ x, x < 6 → sv = nI x → ¬ fb q i 1 → (¬ fb q i 0 ∨ x = u) → F (some (.int 0)) t) : twc d 158 [.int (nI (fr q i)), .int sv, .int (nI u)] t F := by
  obtain ⟨b1, b0⟩ := bit2 _ hi
  refine ⟨by omega, ?_⟩
  rw [ze_158]
  refine vc_ok none zH_158 27 false _ 158 0 _ _ _ _ ?_
  simp only [v_158_0, v_158_1, v_158_4, v_158_5, v_158_6, v_158_7, v_158_10, v_158_11, v_158_12, v_158_13, v_158_16, v_158_17, v_158_18, v_158_21, v_158_22, v_158_25, v_158_26, vgi_0, vgi_s, vga_0, vga_s, vset_0, vset_s, vtk_0, vtk_s, vrc_0, vsw_0, vsw_s, List.all_cons, List.all_nil, zc1_i, zc1_r, Bool.and_true, Bool.and_self, true_and, and_true, List.length_cons, List.length_nil, Nat.zero_le, Nat.reduceLeDiff, Nat.reduceAdd, Nat.reduceLT]
  rcases hs with rfl | ⟨x, hx, rfl⟩
  · rw [if_pos (by decide)]
    exact ⟨Or.inr trivial, k1⟩
  · rw [if_neg (by rw [li0, nI_ltI (by omega) (by omega)]; omega)]
    by_cases z1 : nI (fr q i) &&& 2 = 0
    · rw [if_pos z1]
      have n1 : ¬ fb q i 1 := by unfold fb; rw [b1.mp z1]; decide
      by_cases z0 : nI (fr q i) &&& 1 = 0
      · rw [if_pos z0]
        have n0 : ¬ fb q i 0 := by unfold fb; rw [b0.mp z0]; decide
        exact ⟨Or.inl trivial, k0 x hx rfl n1 (Or.inl n0)⟩
      · rw [if_neg z0]
        simp (disch := omega) only [nI_eq]
        by_cases y : x = u
        · rw [if_pos y]
          exact ⟨Or.inl trivial, k0 x hx rfl n1 (Or.inr y)⟩
        · rw [if_neg y]
          exact ⟨Or.inr trivial, k1⟩
    · rw [if_neg z1]
      exact ⟨Or.inr trivial, k1⟩
theorem rl_tag : ∀ r, r < 6 → vtag (51 + r) = 6 := by decide +kernel
theorem c_159 {r u w : Nat} (hd : 3 ≤ d) (hr : rwf q m ru rc) (hm : crl t ru rc) (h1 : r < rc) (ha : vtag a = 4) (hu : u < 6) (hw : w < 6) (hc : cS t a = f) (k0 : (sg f (ru r 1) u w ≠ 2 ∨ (ru r 1 = 8 ∧ ru r 2 = 0)) → F (some (.int 0)) t) (k1 : ∀ t', tO [a, a + 1] t t' → cS t' a = su f (ck (ru r 1) u w) (cv (ru r 1) (ru r 2)) → sg f (ru r 1) u w = 2 → ¬ (ru r 1 = 8 ∧ ru r 2 = 0) → F (some (.int 1)) t') : twc d 159 [.ref (51 + r), .ref a, .int (nI u), .int (nI w)] t F := by
  have rc6 := hr.1
  have tr := rl_tag r (by omega)
  obtain ⟨r1, r2, r3, r4, r5⟩ := hr.2 r h1
  obtain ⟨g1, g2, g3⟩ := hm.2 r h1
  refine ⟨by omega, ?_⟩
  rw [ze_159]
  refine vc_ok none zH_159 45 false _ 159 0 _ _ _ _ ?_
  simp only [v_159_0, v_159_1, v_159_2, v_159_5, v_159_6, v_159_7, v_159_10, v_159_11, v_159_14, v_159_15, v_159_16, v_159_17, v_159_20, v_159_22, v_159_25, v_159_26, v_159_27, v_159_30, v_159_31, v_159_32, v_159_33, v_159_36, v_159_39, v_159_40, v_159_41, v_159_42, v_159_45, v_159_48, v_159_49, v_159_50, v_159_51, v_159_52, v_159_53, v_159_56, v_159_57, vgi_0, vgi_s, vga_0, vga_s, vset_0, vset_s, vtk_0, vtk_s, vrc_0, vsw_0, vsw_s, List.all_cons, List.all_nil, zc1_i, zc1_r, Bool.and_true, Bool.and_self, true_and, and_true, List.length_cons, List.length_nil, Nat.zero_le, Nat.reduceLeDiff, Nat.reduceAdd, Nat.reduceLT, ha, tr, g2, g3]
  refine c_162 (by omega) ha (by omega) hu hw ?_
  simp only [v_159_0, v_159_1, v_159_2, v_159_5, v_159_6, v_159_7, v_159_10, v_159_11, v_159_14, v_159_15, v_159_16, v_159_17, v_159_20, v_159_22, v_159_25, v_159_26, v_159_27, v_159_30, v_159_31, v_159_32, v_159_33, v_159_36, v_159_39, v_159_40, v_159_41, v_159_42, v_159_45, v_159_48, v_159_49, v_159_50, v_159_51, v_159_52, v_159_53, v_159_56, v_159_57, vgi_0, vgi_s, vga_0, vga_s, vset_0, vset_s, vtk_0, vtk_s, vrc_0, vsw_0, vsw_s, List.all_cons, List.all_nil, zc1_i, zc1_r, Bool.and_true, Bool.and_self, true_and, and_true, List.length_cons, List.length_nil, Nat.zero_le, Nat.reduceLeDiff, Nat.reduceAdd, Nat.reduceLT, Option.toList_some, List.cons_append, List.nil_append, ha, tr, g2, g3]
  rw [hc]
  by_cases x : sg f (ru r 1) u w = 2
  · rw [if_pos x]
    by_cases p8 : ru r 1 = 8
    · have e8 : nI (ru r 1) = 8 := by rw [p8]; rfl
      rw [if_pos e8]
      by_cases c0 : ru r 2 = 0
      · have e0 : nI (ru r 2) = 0 := by rw [c0]; rfl
        rw [if_pos e0]
        exact ⟨Or.inl trivial, k0 (Or.inr ⟨p8, c0⟩)⟩
      · have e0 : ¬ nI (ru r 2) = 0 := by rw [li0, nI_eq (by omega) (by omega)]; exact c0
        rw [if_neg e0]
        refine c_166s (by omega) ha hu (fun t2 o2 e2 => ?_)
        simp only [v_159_0, v_159_1, v_159_2, v_159_5, v_159_6, v_159_7, v_159_10, v_159_11, v_159_14, v_159_15, v_159_16, v_159_17, v_159_20, v_159_22, v_159_25, v_159_26, v_159_27, v_159_30, v_159_31, v_159_32, v_159_33, v_159_36, v_159_39, v_159_40, v_159_41, v_159_42, v_159_45, v_159_48, v_159_49, v_159_50, v_159_51, v_159_52, v_159_53, v_159_56, v_159_57, vgi_0, vgi_s, vga_0, vga_s, vset_0, vset_s, vtk_0, vtk_s, vrc_0, vsw_0, vsw_s, List.all_cons, List.all_nil, zc1_i, zc1_r, Bool.and_true, Bool.and_self, true_and, and_true, List.length_cons, List.length_nil, Nat.zero_le, Nat.reduceLeDiff, Nat.reduceAdd, Nat.reduceLT, Option.toList_none, List.nil_append]
        refine ⟨Or.inr trivial, k1 t2 o2 ?_ x (fun q => c0 q.2)⟩
        rw [e2, hc]; unfold ck cv; rw [if_pos p8, if_pos p8]; rfl
    · have e8 : ¬ nI (ru r 1) = 8 := by rw [li8, nI_eq (by omega) (by omega)]; exact p8
      rw [if_neg e8]
      refine c_163s (by omega) ha (by omega) hu hw (fun t2 o2 e2 => ?_)
      simp only [v_159_0, v_159_1, v_159_2, v_159_5, v_159_6, v_159_7, v_159_10, v_159_11, v_159_14, v_159_15, v_159_16, v_159_17, v_159_20, v_159_22, v_159_25, v_159_26, v_159_27, v_159_30, v_159_31, v_159_32, v_159_33, v_159_36, v_159_39, v_159_40, v_159_41, v_159_42, v_159_45, v_159_48, v_159_49, v_159_50, v_159_51, v_159_52, v_159_53, v_159_56, v_159_57, vgi_0, vgi_s, vga_0, vga_s, vset_0, vset_s, vtk_0, vtk_s, vrc_0, vsw_0, vsw_s, List.all_cons, List.all_nil, zc1_i, zc1_r, Bool.and_true, Bool.and_self, true_and, and_true, List.length_cons, List.length_nil, Nat.zero_le, Nat.reduceLeDiff, Nat.reduceAdd, Nat.reduceLT, Option.toList_none, List.nil_append]
      refine ⟨Or.inr trivial, k1 t2 o2 ?_ x (fun q => p8 q.1)⟩
      rw [e2, hc]; unfold ck cv; rw [if_neg p8, if_neg p8]
  · rw [if_neg x]
    exact ⟨Or.inl trivial, k0 (Or.inl x)⟩
/-- what has been seen of a formula, kept for later -/
def seenP (q : FT) (n : Nat) (ru : Nat → Nat → Nat) (r : Nat) (f : St) (out sv hol : Int32) : Prop := sv = -1 ∨ ∃ x y g, x < n ∧ y < n ∧ sv = nI x ∧ hol = EVr q n ru g r x y ∧ wfS g ∧ g 0 = nI n ∧ cle g f ∧ (out = 0 → g = f)
/-- all pairs before (u, w) are done for rule r -/
def dnp (q : FT) (n : Nat) (ru : Nat → Nat → Nat) (r u w : Nat) (f : St) : Prop := ∀ u' w', (u' < u ∨ (u' = u ∧ w' < w)) → u' < n → w' < n → sg f (ru r 1) u' w' = nI (ru r 2) ∨ EVr q n ru f r u' w' ≠ 1
def EI (q : FT) (n : Nat) (ru : Nat → Nat → Nat) (rc : Nat) (f1 : St) (r u w : Nat) (out : Int32) (f : St) : Prop := ∃ j, stk q n ru rc j f1 f ∧ ((out = 1 ∧ 0 < j) ∨ (out = 0 ∧ j = 0 ∧ dnp q n ru r u w f))
theorem seen_use {r u w x : Nat} {out sv hol : Int32} (hw : ∀ i, i < m → fwf q i) (hr : rwf q m ru rc) (h1 : r < rc) (hf : wfS f) (hn6 : n ≤ 6) (hu : u < n) (hww : w < n) (hs : seenP q n ru r f out sv hol) (hx6 : x < 6) (hx : sv = nI x) (n1 : ¬ fb q (ru r 0) 1) (n0 : ¬ fb q (ru r 0) 0 ∨ x = u) : (hol = 1 → EVr q n ru f r u w = 1) ∧ (out = 0 → hol = EVr q n ru f r u w) := by
  obtain ⟨r1, r2, -⟩ := hr.2 r h1
  rcases hs with hs | ⟨x', y, g, hx', hy, e1, ee, g1, g2, g3, g4⟩
  · rw [hx] at hs
    have : ∀ x, x < 6 → nI x ≠ -1 := by decide
    exact absurd hs (this x hx6)
  · have ex : x' = x := nI_inj (by omega) (by omega) (e1.symm.trans hx)
    subst ex
    have env : ∀ g, wfS g → EV q g n (ru r 0) (e2 x' y) = EV q g n (ru r 0) (e2 u w) := fun g hg => EV_env hw hg hn6 r1 (fun v hv => by
      have h4 := fb3 r2 hv
      have : v = 0 ∨ v = 1 := by omega
      rcases this with rfl | rfl
      · rcases n0 with n0 | n0
        · exact absurd hv n0
        · exact ⟨hx', n0.symm⟩
      · exact absurd hv n1)
    constructor
    · intro h
      have : EVr q n ru g r u w = 1 := by unfold EVr; rw [← env g g1]; exact ee.symm.trans h
      exact EV_sharp hw g1 hf hn6 (cle_shp hn6 g3 g1 hf) r1 (fun v hv => e2_lt hu hww (fb3 r2 hv)) this
    · intro h
      rw [ee, g4 h]
      unfold EVr
      exact env f hf
end CC
