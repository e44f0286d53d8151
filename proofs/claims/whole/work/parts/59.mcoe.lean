/-! The reference sharpens. -/
section MC
variable {d s : Nat} {t : T} {F : Option Value → T → Prop} {q : FT} {m n rc : Nat} {f : St} {ru : Nat → Nat → Nat}
def mEb : Nat → Prop := fun b => 506 ≤ b ∧ b ≤ 513
theorem mG.tX {P : Nat → Prop} {t' : T} (h : tX mE t t') : mG mEb P t t' := ⟨h.1, fun b _ hb k => h.2 b k hb, fun r _ => by
  funext k
  unfold mS
  rw [h.2 484 _ (by unfold mE; omega)]⟩
def mrl (t : T) (ru : Nat → Nat → Nat) (rc : Nat) : Prop := t.1 483 10 = nI rc ∧ ∀ r, r < rc → t.1 493 r = nI (ru r 0) ∧ t.1 494 r = nI (ru r 1) ∧ t.1 495 r = nI (ru r 2)
theorem mrl.g {P : Nat → Prop} {t' : T} (h : mrl t ru rc) (hO : mG mEb P t t') : mrl t' ru rc := by
  have e : ∀ b, b < 506 → b ≠ 484 → ∀ k, t'.1 b k = t.1 b k := fun b hb hb2 k => hO.2.1 b hb2 (fun z => by have := z.1; omega) k
  refine ⟨by rw [e 483 (by omega) (by omega)]; exact h.1, fun r hr => ?_⟩
  rw [e 493 (by omega) (by omega), e 494 (by omega) (by omega), e 495 (by omega) (by omega)]
  exact h.2 r hr
/-- the reference's table says what q says -/
def mvq (t : T) (q : FT) (m s : Nat) (f : St) (n : Nat) : Prop := (∃ q', mvp t q' m s f n ∧ ∀ i, i < m → tgr q' q i) ∧ ∀ i, i < m → fwf q i
theorem mvq.m40 (h : mvq t q m s f n) : m ≤ 40 := by obtain ⟨⟨q', h1, -⟩, -⟩ := h; exact h1.1
theorem mvq.slt (h : mvq t q m s f n) : s < 184 := by obtain ⟨⟨q', h1, -⟩, -⟩ := h; exact h1.2.2.2.1
theorem mvq.row (h : mvq t q m s f n) : mS t s = f := by obtain ⟨⟨q', h1, -⟩, -⟩ := h; exact h1.2.2.2.2.1
theorem mvq.wf (h : mvq t q m s f n) : wfS f := by obtain ⟨⟨q', h1, -⟩, -⟩ := h; exact h1.2.2.2.2.2.1
theorem mvq.cnt (h : mvq t q m s f n) : f 0 = nI n := by obtain ⟨⟨q', h1, -⟩, -⟩ := h; exact h1.2.2.2.2.2.2.1
theorem mvq.n6 (h : mvq t q m s f n) : n ≤ 6 := by obtain ⟨⟨q', h1, -⟩, -⟩ := h; exact h1.2.2.2.2.2.2.2
theorem mvq.g {P : Nat → Prop} {t' : T} {f' : St} (h : mvq t q m s f n) (hO : mG mEb P t t') (e1 : mS t' s = f') (e2 : wfS f') (e3 : f' 0 = nI n) : mvq t' q m s f' n := by
  obtain ⟨⟨q', ⟨a1, a2, a3, a4, a5, a6, a7, a8⟩, b⟩, c⟩ := h
  refine ⟨⟨q', ⟨a1, a2, fun i k hi hk => ?_, a4, e1, e2, e3, a8⟩, b⟩, c⟩
  rw [hO.2.1 (485 + k) (by omega) (fun z => by have := z.1; omega)]
  exact a3 i k hi hk
theorem c_68q {i x y : Nat} (hd : 8 ≤ d) (hq : mvq t q m s f n) (hi : i < m) (hx : x < 6) (hy : y < 6) (hfr : ∀ v, fb q i v → e2 x y v < n) (h : ∀ t', tX mE t t' → F (some (.int (EV q f n i (e2 x y)))) t') : twc d 68 [.ref 483, .int (nI s), .int (nI i), .int (nI x), .int (nI y)] t F := by
  obtain ⟨⟨q', h1, h2⟩, h3⟩ := hq
  have hfb : ∀ v, fb q' i v → fb q i v := fun v hv => by unfold fb at hv ⊢; rw [← (h2 i hi).2.2.2.2.2.2.2.2]; exact hv
  refine c_68 hd h1 hi hx hy (fun v hv => hfr v (hfb v hv)) (fun t' o => ?_)
  rcases EV_rl (S := False) h1.2.1 h3 h2 h1.2.2.2.2.2.1 h1.2.2.2.2.2.1 h1.2.2.2.2.2.2.2 shp_rf i hi (e2 x y) (e2 x y) (fun v hv => ⟨hfr v (hfb v hv), rfl⟩) with z | ⟨z, -⟩
  · rw [z]; exact h t' o
  · exact z.elim
theorem c_82 {r u w : Nat} (hd : 9 ≤ d) (hq : mvq t q m s f n) (hr : rwf q m ru rc) (hm : mrl t ru rc) (h1 : r < rc) (hu : u < n) (hw : w < n) (k0 : ∀ t', mG mEb (only s) t t' → mS t' s = f → (sg f (ru r 1) u w = nI (ru r 2) ∨ EVr q n ru f r u w ≠ 1) → F (some (.int 0)) t') (kf : ∀ t', mG mEb (only s) t t' → mS t' s = f → sg f (ru r 1) u w ≠ nI (ru r 2) → EVr q n ru f r u w = 1 → (sg f (ru r 1) u w ≠ 2 ∨ (ru r 1 = 8 ∧ ru r 2 = 0)) → F (some (.int (-1))) t') (k1 : ∀ t', mG mEb (only s) t t' → mS t' s = su f (ck (ru r 1) u w) (cv (ru r 1) (ru r 2)) → sg f (ru r 1) u w = 2 → EVr q n ru f r u w = 1 → ¬ (ru r 1 = 8 ∧ ru r 2 = 0) → F (some (.int 1)) t') : twc d 82 [.ref 483, .int (nI s), .int (nI r), .int (nI u), .int (nI w)] t F := by
  have a4 := hq.slt
  have a5 := hq.row
  have a8 := hq.n6
  obtain ⟨r1, r2, r3, r4, r5⟩ := hr.2 r h1
  obtain ⟨g1, g2, g3⟩ := hm.2 r h1
  have rc6 := hr.1
  refine ⟨by omega, ?_⟩
  rw [ze_82]
  refine vc_ok none zH_82 77 false _ 82 0 _ _ _ _ ?_
  simp only [v_82_0, v_82_1, v_82_4, v_82_5, v_82_6, v_82_8, v_82_9, v_82_12, v_82_13, v_82_14, v_82_16, v_82_17, v_82_18, v_82_20, v_82_21, v_82_23, v_82_26, v_82_28, v_82_30, v_82_32, v_82_35, v_82_36, v_82_37, v_82_38, v_82_41, v_82_42, v_82_43, v_82_44, v_82_46, v_82_49, v_82_50, v_82_53, v_82_54, v_82_55, v_82_57, v_82_58, v_82_61, v_82_63, v_82_65, v_82_68, v_82_70, v_82_73, v_82_74, v_82_75, v_82_76, v_82_77, v_82_79, v_82_81, v_82_84, v_82_85, v_82_86, v_82_87, v_82_88, v_82_89, v_82_92, v_82_94, v_82_95, v_82_97, v_82_100, v_82_102, v_82_104, v_82_107, v_82_108, v_82_111, v_82_113, v_82_116, v_82_117, vgi_0, vgi_s, vga_0, vga_s, vset_0, vset_s, vtk_0, vtk_s, vrc_0, vsw_0, vsw_s, List.all_cons, List.all_nil, zc1_i, zc1_r, Bool.and_true, Bool.and_self, true_and, and_true, List.length_cons, List.length_nil, Nat.zero_le, Nat.reduceLeDiff, Nat.reduceAdd, Nat.reduceLT, tg_483, tf_483_12, tg_494, ln_494, tf_483_13, tg_495, ln_495]
  simp (disch := omega) only [nI_clamp, vinb_n, g2, g3]
  refine ⟨by omega, by omega, ?_⟩
  refine c_43 (by omega) a4 (by omega) (by omega) (by omega) ?_
  simp only [v_82_0, v_82_1, v_82_4, v_82_5, v_82_6, v_82_8, v_82_9, v_82_12, v_82_13, v_82_14, v_82_16, v_82_17, v_82_18, v_82_20, v_82_21, v_82_23, v_82_26, v_82_28, v_82_30, v_82_32, v_82_35, v_82_36, v_82_37, v_82_38, v_82_41, v_82_42, v_82_43, v_82_44, v_82_46, v_82_49, v_82_50, v_82_53, v_82_54, v_82_55, v_82_57, v_82_58, v_82_61, v_82_63, v_82_65, v_82_68, v_82_70, v_82_73, v_82_74, v_82_75, v_82_76, v_82_77, v_82_79, v_82_81, v_82_84, v_82_85, v_82_86, v_82_87, v_82_88, v_82_89, v_82_92, v_82_94, v_82_95, v_82_97, v_82_100, v_82_102, v_82_104, v_82_107, v_82_108, v_82_111, v_82_113, v_82_116, v_82_117, vgi_0, vgi_s, vga_0, vga_s, vset_0, vset_s, vtk_0, vtk_s, vrc_0, vsw_0, vsw_s, List.all_cons, List.all_nil, zc1_i, zc1_r, Bool.and_true, Bool.and_self, true_and, and_true, List.length_cons, List.length_nil, Nat.zero_le, Nat.reduceLeDiff, Nat.reduceAdd, Nat.reduceLT, Option.toList_some, List.cons_append, List.nil_append, tg_483, tf_483_11, tg_493, ln_493]
  simp (disch := omega) only [nI_clamp, vinb_n, g1, a5]
  by_cases z : sg f (ru r 1) u w = nI (ru r 2)
  · rw [if_pos z]
    exact k0 t mG.rf a5 (Or.inl z)
  · rw [if_neg z]
    refine ⟨by omega, ?_⟩
    refine c_68q (by omega) hq r1 (by omega) (by omega) (fun v hv => e2_lt hu hw (fb3 r2 hv)) (fun t2 o2 => ?_)
    have o2 : mG mEb (only s) t t2 := mG.tX o2
    have m2 : mS t2 s = f := by
      have : mG mEb (fun _ => False) t t2 := mG.tX (by assumption)
      exact (this.2.2 s (fun z => z)).trans a5
    simp only [v_82_0, v_82_1, v_82_4, v_82_5, v_82_6, v_82_8, v_82_9, v_82_12, v_82_13, v_82_14, v_82_16, v_82_17, v_82_18, v_82_20, v_82_21, v_82_23, v_82_26, v_82_28, v_82_30, v_82_32, v_82_35, v_82_36, v_82_37, v_82_38, v_82_41, v_82_42, v_82_43, v_82_44, v_82_46, v_82_49, v_82_50, v_82_53, v_82_54, v_82_55, v_82_57, v_82_58, v_82_61, v_82_63, v_82_65, v_82_68, v_82_70, v_82_73, v_82_74, v_82_75, v_82_76, v_82_77, v_82_79, v_82_81, v_82_84, v_82_85, v_82_86, v_82_87, v_82_88, v_82_89, v_82_92, v_82_94, v_82_95, v_82_97, v_82_100, v_82_102, v_82_104, v_82_107, v_82_108, v_82_111, v_82_113, v_82_116, v_82_117, vgi_0, vgi_s, vga_0, vga_s, vset_0, vset_s, vtk_0, vtk_s, vrc_0, vsw_0, vsw_s, List.all_cons, List.all_nil, zc1_i, zc1_r, Bool.and_true, Bool.and_self, true_and, and_true, List.length_cons, List.length_nil, Nat.zero_le, Nat.reduceLeDiff, Nat.reduceAdd, Nat.reduceLT, Option.toList_some, List.cons_append, List.nil_append, tg_483]
    by_cases y : EV q f n (ru r 0) (e2 u w) = 1
    · rw [if_pos y]
      by_cases x : sg f (ru r 1) u w = 2
      · rw [if_pos x]
        by_cases p8 : ru r 1 = 8
        · have e8 : nI (ru r 1) = 8 := by rw [p8]; rfl
          rw [if_pos e8]
          by_cases c0 : ru r 2 = 0
          · have e0 : nI (ru r 2) = 0 := by rw [c0]; rfl
            rw [if_pos e0]
            exact kf t2 o2 m2 z y (Or.inr ⟨p8, c0⟩)
          · have e0 : ¬ nI (ru r 2) = 0 := by rw [li0, nI_eq (by omega) (by omega)]; exact c0
            rw [if_neg e0, if_pos e8, if_pos e8]
            simp (disch := omega) only [li5, li3, pk_mul, nI_add]
            refine c_39s (A := mEb) (P := only s) (v := 0) (by omega) a4 (by omega) (by decide) rfl (fun t3 o3 e3 => ?_)
            have e3 := e3 s
            rw [if_pos rfl, m2] at e3
            simp only [v_82_0, v_82_1, v_82_4, v_82_5, v_82_6, v_82_8, v_82_9, v_82_12, v_82_13, v_82_14, v_82_16, v_82_17, v_82_18, v_82_20, v_82_21, v_82_23, v_82_26, v_82_28, v_82_30, v_82_32, v_82_35, v_82_36, v_82_37, v_82_38, v_82_41, v_82_42, v_82_43, v_82_44, v_82_46, v_82_49, v_82_50, v_82_53, v_82_54, v_82_55, v_82_57, v_82_58, v_82_61, v_82_63, v_82_65, v_82_68, v_82_70, v_82_73, v_82_74, v_82_75, v_82_76, v_82_77, v_82_79, v_82_81, v_82_84, v_82_85, v_82_86, v_82_87, v_82_88, v_82_89, v_82_92, v_82_94, v_82_95, v_82_97, v_82_100, v_82_102, v_82_104, v_82_107, v_82_108, v_82_111, v_82_113, v_82_116, v_82_117, vgi_0, vgi_s, vga_0, vga_s, vset_0, vset_s, vtk_0, vtk_s, vrc_0, vsw_0, vsw_s, List.all_cons, List.all_nil, zc1_i, zc1_r, Bool.and_true, Bool.and_self, true_and, and_true, List.length_cons, List.length_nil, Nat.zero_le, Nat.reduceLeDiff, Nat.reduceAdd, Nat.reduceLT, Option.toList_none, List.nil_append]
            refine k1 t3 (o2.tr o3) ?_ x y (fun q => c0 q.2)
            rw [e3]; unfold ck cv; rw [if_pos p8, if_pos p8]
        · have e8 : ¬ nI (ru r 1) = 8 := by rw [li8, nI_eq (by omega) (by omega)]; exact p8
          rw [if_neg e8, if_neg e8]
          refine c_41 (by omega) (by omega) (by omega) (by omega) ?_
          simp only [v_82_0, v_82_1, v_82_4, v_82_5, v_82_6, v_82_8, v_82_9, v_82_12, v_82_13, v_82_14, v_82_16, v_82_17, v_82_18, v_82_20, v_82_21, v_82_23, v_82_26, v_82_28, v_82_30, v_82_32, v_82_35, v_82_36, v_82_37, v_82_38, v_82_41, v_82_42, v_82_43, v_82_44, v_82_46, v_82_49, v_82_50, v_82_53, v_82_54, v_82_55, v_82_57, v_82_58, v_82_61, v_82_63, v_82_65, v_82_68, v_82_70, v_82_73, v_82_74, v_82_75, v_82_76, v_82_77, v_82_79, v_82_81, v_82_84, v_82_85, v_82_86, v_82_87, v_82_88, v_82_89, v_82_92, v_82_94, v_82_95, v_82_97, v_82_100, v_82_102, v_82_104, v_82_107, v_82_108, v_82_111, v_82_113, v_82_116, v_82_117, vgi_0, vgi_s, vga_0, vga_s, vset_0, vset_s, vtk_0, vtk_s, vrc_0, vsw_0, vsw_s, List.all_cons, List.all_nil, zc1_i, zc1_r, Bool.and_true, Bool.and_self, true_and, and_true, List.length_cons, List.length_nil, Nat.zero_le, Nat.reduceLeDiff, Nat.reduceAdd, Nat.reduceLT, Option.toList_some, List.cons_append, List.nil_append, tg_483]
          rw [if_neg e8]
          have := cel_r (p := ru r 1) (u := u) (w := w) (by omega) (by omega) (by omega)
          refine c_39s (A := mEb) (P := only s) (by omega) a4 this.2 (n_byte _ (by omega)) rfl (fun t3 o3 e3 => ?_)
          have e3 := e3 s
          rw [if_pos rfl, m2] at e3
          simp only [v_82_0, v_82_1, v_82_4, v_82_5, v_82_6, v_82_8, v_82_9, v_82_12, v_82_13, v_82_14, v_82_16, v_82_17, v_82_18, v_82_20, v_82_21, v_82_23, v_82_26, v_82_28, v_82_30, v_82_32, v_82_35, v_82_36, v_82_37, v_82_38, v_82_41, v_82_42, v_82_43, v_82_44, v_82_46, v_82_49, v_82_50, v_82_53, v_82_54, v_82_55, v_82_57, v_82_58, v_82_61, v_82_63, v_82_65, v_82_68, v_82_70, v_82_73, v_82_74, v_82_75, v_82_76, v_82_77, v_82_79, v_82_81, v_82_84, v_82_85, v_82_86, v_82_87, v_82_88, v_82_89, v_82_92, v_82_94, v_82_95, v_82_97, v_82_100, v_82_102, v_82_104, v_82_107, v_82_108, v_82_111, v_82_113, v_82_116, v_82_117, vgi_0, vgi_s, vga_0, vga_s, vset_0, vset_s, vtk_0, vtk_s, vrc_0, vsw_0, vsw_s, List.all_cons, List.all_nil, zc1_i, zc1_r, Bool.and_true, Bool.and_self, true_and, and_true, List.length_cons, List.length_nil, Nat.zero_le, Nat.reduceLeDiff, Nat.reduceAdd, Nat.reduceLT, Option.toList_none, List.nil_append]
          refine k1 t3 (o2.tr o3) ?_ x y (fun q => p8 q.1)
          rw [e3]; unfold ck cv; rw [if_neg p8, if_neg p8]
      · rw [if_neg x]
        exact kf t2 o2 m2 z y (Or.inl x)
    · rw [if_neg y]
      exact k0 t2 o2 m2 (Or.inr y)
theorem stk_tr {f g : St} {j : Nat} (h1 : stk q n ru rc j f g) : ∀ (k : Nat) (h : St), stk q n ru rc k g h → stk q n ru rc (j + k) f h
  | 0, h, e => by
    have : g = h := e
    subst this
    exact h1
  | k + 1, h, e => by
    obtain ⟨h', e1, e2⟩ := e
    exact ⟨h', stk_tr h1 k h' e1, e2⟩
theorem stk_1 {f g : St} (h : stp1 q n ru rc f g) : stk q n ru rc 1 f g := ⟨f, rfl, h⟩
/-- all before (r, k) is done -/
def dnb (q : FT) (n : Nat) (ru : Nat → Nat → Nat) (r k : Nat) (f : St) : Prop := ∀ r' u w, (r' < r ∨ (r' = r ∧ 6 * u + w < k)) → u < n → w < n → sg f (ru r' 1) u w = nI (ru r' 2) ∨ EVr q n ru f r' u w ≠ 1
def CI (q : FT) (n : Nat) (ru : Nat → Nat → Nat) (rc : Nat) (f1 : St) (r k : Nat) (mo : Int32) (f : St) : Prop := ∃ j, stk q n ru rc j f1 f ∧ ((mo = 1 ∧ 0 < j) ∨ (mo = 0 ∧ j = 0 ∧ dnb q n ru r k f))
theorem CI.rest {f1 : St} {r k r' k' : Nat} {mo : Int32} (h : CI q n ru rc f1 r k mo f) (h2 : dnb q n ru r k f → dnb q n ru r' k' f) : CI q n ru rc f1 r' k' mo f := by
  obtain ⟨j, h1, h3⟩ := h
  refine ⟨j, h1, ?_⟩
  rcases h3 with h3 | ⟨h4, h5, h6⟩
  · exact Or.inl h3
  · exact Or.inr ⟨h4, h5, h2 h6⟩
theorem CI.step {f1 f' : St} {r k r' k' : Nat} {mo : Int32} (h : CI q n ru rc f1 r k mo f) (h2 : stp1 q n ru rc f f') : CI q n ru rc f1 r' k' 1 f' := by
  obtain ⟨j, h1, -⟩ := h
  exact ⟨j + 1, ⟨f, h1, h2⟩, Or.inl ⟨rfl, by omega⟩⟩
theorem dv6 : ∀ k, k < 36 → nI k / 6 = nI (k / 6) ∧ nI k - nI k / 6 * 6 = nI (k % 6) := by decide +kernel
theorem l_83c {f0 f1 : St} {r : Nat} (hd : 9 ≤ d) (hw : ∀ i, i < m → fwf q i) (hr : rwf q m ru rc) (h1 : r < rc) (hf1 : wfS f1) (hn1 : f1 0 = nI n) (hn6 : n ≤ 6) (h01 : ∃ k, stk q n ru rc k f0 f1) (hm : mrl t ru rc) (hv : mvq t q m s f1 n) (kf : ∀ t', mG mEb (only s) t t' → CO q n ru rc f0 none → F (some (.int 0)) t') (kn : ∀ (t' : T) (mo : Int32) (j4 j5 : Value), mG mEb (only s) t t' → CI q n ru rc f1 (r + 1) 0 mo (mS t' s) → twp none d 83 10 [.ref 483, .int (nI s), .int mo, .int (nI (r + 1)), j4, j5] [] t' F) : ∀ (j k : Nat) (t' : T) (mo : Int32) (j5 : Value), k + j = 36 → mG mEb (only s) t t' → CI q n ru rc f1 r k mo (mS t' s) → twp none d 83 21 [.ref 483, .int (nI s), .int mo, .int (nI r), .int (nI k), j5] [] t' F := by
  have a4 : s < 184 := hv.slt
  intro j
  induction j with
  | zero =>
    intro k t' mo j5 hk hO hI
    have hk : k = 36 := by omega
    subst hk
    refine vc_ok none zH_83 71 false _ 83 21 _ _ _ _ ?_
    simp only [v_83_0, v_83_1, v_83_2, h_83_2, v_83_3, v_83_6, v_83_7, v_83_8, v_83_9, v_83_10, h_83_10, v_83_11, v_83_12, v_83_15, v_83_18, v_83_19, v_83_21, h_83_21, v_83_23, v_83_25, v_83_28, v_83_29, v_83_30, v_83_32, v_83_34, v_83_35, v_83_38, v_83_41, v_83_42, v_83_43, v_83_45, v_83_47, v_83_48, v_83_51, v_83_54, v_83_55, v_83_56, v_83_57, v_83_59, v_83_61, v_83_62, v_83_64, v_83_66, v_83_67, v_83_70, v_83_72, v_83_74, v_83_77, v_83_78, v_83_79, v_83_80, v_83_83, v_83_85, v_83_88, v_83_89, v_83_92, v_83_93, v_83_94, v_83_97, v_83_100, v_83_103, v_83_106, v_83_109, v_83_110, vgi_0, vgi_s, vga_0, vga_s, vset_0, vset_s, vtk_0, vtk_s, vrc_0, vsw_0, vsw_s, List.all_cons, List.all_nil, zc1_i, zc1_r, Bool.and_true, Bool.and_self, true_and, and_true, List.length_cons, List.length_nil, Nat.zero_le, Nat.reduceLeDiff, Nat.reduceAdd, Nat.reduceLT]
    rw [if_neg (by decide), nI_1]
    refine kn t' mo _ _ hO (hI.rest (fun h r' u w hx hu hw => ?_))
    refine h r' u w ?_ hu hw
    rcases hx with hx | hx
    · by_cases e : r' = r
      · exact Or.inr ⟨e, by omega⟩
      · exact Or.inl (by omega)
    · omega
  | succ j ih =>
    intro k t' mo j5 hk hO hI
    obtain ⟨e1, e2⟩ := dv6 k (by omega)
    obtain ⟨j0, s0, hmo⟩ := id hI
    obtain ⟨w1, w2, -, -⟩ := stk.ok hr hf1 hn1 hn6 j0 _ s0
    have hv' : mvq t' q m s (mS t' s) n := hv.g hO rfl w1 w2
    have hm' := hm.g hO
    have skip : (¬ (k / 6 < n ∧ k % 6 < n) ∨ (sg (mS t' s) (ru r 1) (k / 6) (k % 6) = nI (ru r 2) ∨ EVr q n ru (mS t' s) r (k / 6) (k % 6) ≠ 1)) → CI q n ru rc f1 r (k + 1) mo (mS t' s) := fun hc => hI.rest (fun h r' u w hx hu hw => by
      rcases hx with hx | ⟨hx1, hx2⟩
      · exact h r' u w (Or.inl hx) hu hw
      · by_cases e : 6 * u + w = k
        · have eu : k / 6 = u := by omega
          have ew : k % 6 = w := by omega
          rw [eu, ew] at hc
          subst hx1
          rcases hc with hc | hc
          · exact absurd ⟨hu, hw⟩ hc
          · exact hc
        · exact h r' u w (Or.inr ⟨hx1, by omega⟩) hu hw)
    refine vc_ok none zH_83 71 false _ 83 21 _ _ _ _ ?_
    simp only [v_83_0, v_83_1, v_83_2, h_83_2, v_83_3, v_83_6, v_83_7, v_83_8, v_83_9, v_83_10, h_83_10, v_83_11, v_83_12, v_83_15, v_83_18, v_83_19, v_83_21, h_83_21, v_83_23, v_83_25, v_83_28, v_83_29, v_83_30, v_83_32, v_83_34, v_83_35, v_83_38, v_83_41, v_83_42, v_83_43, v_83_45, v_83_47, v_83_48, v_83_51, v_83_54, v_83_55, v_83_56, v_83_57, v_83_59, v_83_61, v_83_62, v_83_64, v_83_66, v_83_67, v_83_70, v_83_72, v_83_74, v_83_77, v_83_78, v_83_79, v_83_80, v_83_83, v_83_85, v_83_88, v_83_89, v_83_92, v_83_93, v_83_94, v_83_97, v_83_100, v_83_103, v_83_106, v_83_109, v_83_110, vgi_0, vgi_s, vga_0, vga_s, vset_0, vset_s, vtk_0, vtk_s, vrc_0, vsw_0, vsw_s, List.all_cons, List.all_nil, zc1_i, zc1_r, Bool.and_true, Bool.and_self, true_and, and_true, List.length_cons, List.length_nil, Nat.zero_le, Nat.reduceLeDiff, Nat.reduceAdd, Nat.reduceLT, tg_483]
    rw [li36, if_pos (nI_lt (by omega) (by omega)), e1]
    refine ⟨by decide, ?_⟩
    refine c_48 (by omega) a4 w2 (by omega) (fun x hx ex => ?_) (fun hx => ?_)
    · simp only [v_83_0, v_83_1, v_83_2, h_83_2, v_83_3, v_83_6, v_83_7, v_83_8, v_83_9, v_83_10, h_83_10, v_83_11, v_83_12, v_83_15, v_83_18, v_83_19, v_83_21, h_83_21, v_83_23, v_83_25, v_83_28, v_83_29, v_83_30, v_83_32, v_83_34, v_83_35, v_83_38, v_83_41, v_83_42, v_83_43, v_83_45, v_83_47, v_83_48, v_83_51, v_83_54, v_83_55, v_83_56, v_83_57, v_83_59, v_83_61, v_83_62, v_83_64, v_83_66, v_83_67, v_83_70, v_83_72, v_83_74, v_83_77, v_83_78, v_83_79, v_83_80, v_83_83, v_83_85, v_83_88, v_83_89, v_83_92, v_83_93, v_83_94, v_83_97, v_83_100, v_83_103, v_83_106, v_83_109, v_83_110, vgi_0, vgi_s, vga_0, vga_s, vset_0, vset_s, vtk_0, vtk_s, vrc_0, vsw_0, vsw_s, List.all_cons, List.all_nil, zc1_i, zc1_r, Bool.and_true, Bool.and_self, true_and, and_true, List.length_cons, List.length_nil, Nat.zero_le, Nat.reduceLeDiff, Nat.reduceAdd, Nat.reduceLT, Option.toList_some, List.cons_append, List.nil_append, tg_483]
      rw [if_neg (by decide), e2]
      refine ⟨by decide, ?_⟩
      have ex : k / 6 = x := nI_inj (by omega) (by omega) ex
      subst ex
      refine c_48 (by omega) a4 w2 (by omega) (fun y hy ey => ?_) (fun hy => ?_)
      · simp only [v_83_0, v_83_1, v_83_2, h_83_2, v_83_3, v_83_6, v_83_7, v_83_8, v_83_9, v_83_10, h_83_10, v_83_11, v_83_12, v_83_15, v_83_18, v_83_19, v_83_21, h_83_21, v_83_23, v_83_25, v_83_28, v_83_29, v_83_30, v_83_32, v_83_34, v_83_35, v_83_38, v_83_41, v_83_42, v_83_43, v_83_45, v_83_47, v_83_48, v_83_51, v_83_54, v_83_55, v_83_56, v_83_57, v_83_59, v_83_61, v_83_62, v_83_64, v_83_66, v_83_67, v_83_70, v_83_72, v_83_74, v_83_77, v_83_78, v_83_79, v_83_80, v_83_83, v_83_85, v_83_88, v_83_89, v_83_92, v_83_93, v_83_94, v_83_97, v_83_100, v_83_103, v_83_106, v_83_109, v_83_110, vgi_0, vgi_s, vga_0, vga_s, vset_0, vset_s, vtk_0, vtk_s, vrc_0, vsw_0, vsw_s, List.all_cons, List.all_nil, zc1_i, zc1_r, Bool.and_true, Bool.and_self, true_and, and_true, List.length_cons, List.length_nil, Nat.zero_le, Nat.reduceLeDiff, Nat.reduceAdd, Nat.reduceLT, Option.toList_some, List.cons_append, List.nil_append, tg_483]
        rw [if_neg (by decide), e2, e1]
        refine ⟨by decide, by decide, ?_⟩
        have ey : k % 6 = y := nI_inj (by omega) (by omega) ey
        subst ey
        refine c_82 (by omega) hv' hr hm' h1 hx hy (fun t2 o2 m2 q2 => ?_) (fun t2 o2 m2 q1 q2 q3 => ?_) (fun t2 o2 m2 q1 q2 q3 => ?_)
        · simp only [v_83_0, v_83_1, v_83_2, h_83_2, v_83_3, v_83_6, v_83_7, v_83_8, v_83_9, v_83_10, h_83_10, v_83_11, v_83_12, v_83_15, v_83_18, v_83_19, v_83_21, h_83_21, v_83_23, v_83_25, v_83_28, v_83_29, v_83_30, v_83_32, v_83_34, v_83_35, v_83_38, v_83_41, v_83_42, v_83_43, v_83_45, v_83_47, v_83_48, v_83_51, v_83_54, v_83_55, v_83_56, v_83_57, v_83_59, v_83_61, v_83_62, v_83_64, v_83_66, v_83_67, v_83_70, v_83_72, v_83_74, v_83_77, v_83_78, v_83_79, v_83_80, v_83_83, v_83_85, v_83_88, v_83_89, v_83_92, v_83_93, v_83_94, v_83_97, v_83_100, v_83_103, v_83_106, v_83_109, v_83_110, vgi_0, vgi_s, vga_0, vga_s, vset_0, vset_s, vtk_0, vtk_s, vrc_0, vsw_0, vsw_s, List.all_cons, List.all_nil, zc1_i, zc1_r, Bool.and_true, Bool.and_self, true_and, and_true, List.length_cons, List.length_nil, Nat.zero_le, Nat.reduceLeDiff, Nat.reduceAdd, Nat.reduceLT, Option.toList_some, List.cons_append, List.nil_append]
          rw [if_neg (by decide), nI_1]
          have hI2 := skip (Or.inr q2)
          rw [← m2] at hI2
          rcases hmo with ⟨rfl, -⟩ | ⟨rfl, -⟩
          · rw [if_neg (by decide)]
            exact ih (k + 1) t2 1 _ (by omega) (hO.tr o2) hI2
          · rw [if_pos rfl, if_neg (by decide)]
            exact ih (k + 1) t2 0 _ (by omega) (hO.tr o2) hI2
        · simp only [v_83_0, v_83_1, v_83_2, h_83_2, v_83_3, v_83_6, v_83_7, v_83_8, v_83_9, v_83_10, h_83_10, v_83_11, v_83_12, v_83_15, v_83_18, v_83_19, v_83_21, h_83_21, v_83_23, v_83_25, v_83_28, v_83_29, v_83_30, v_83_32, v_83_34, v_83_35, v_83_38, v_83_41, v_83_42, v_83_43, v_83_45, v_83_47, v_83_48, v_83_51, v_83_54, v_83_55, v_83_56, v_83_57, v_83_59, v_83_61, v_83_62, v_83_64, v_83_66, v_83_67, v_83_70, v_83_72, v_83_74, v_83_77, v_83_78, v_83_79, v_83_80, v_83_83, v_83_85, v_83_88, v_83_89, v_83_92, v_83_93, v_83_94, v_83_97, v_83_100, v_83_103, v_83_106, v_83_109, v_83_110, vgi_0, vgi_s, vga_0, vga_s, vset_0, vset_s, vtk_0, vtk_s, vrc_0, vsw_0, vsw_s, List.all_cons, List.all_nil, zc1_i, zc1_r, Bool.and_true, Bool.and_self, true_and, and_true, List.length_cons, List.length_nil, Nat.zero_le, Nat.reduceLeDiff, Nat.reduceAdd, Nat.reduceLT, Option.toList_some, List.cons_append, List.nil_append]
          rw [if_pos (by decide)]
          refine ⟨Or.inl trivial, kf t2 (hO.tr o2) ?_⟩
          obtain ⟨k0, hk0⟩ := h01
          exact ⟨mS t' s, _, stk_tr hk0 j0 _ s0, r, _, _, h1, hx, hy, q1, q2, q3⟩
        · simp only [v_83_0, v_83_1, v_83_2, h_83_2, v_83_3, v_83_6, v_83_7, v_83_8, v_83_9, v_83_10, h_83_10, v_83_11, v_83_12, v_83_15, v_83_18, v_83_19, v_83_21, h_83_21, v_83_23, v_83_25, v_83_28, v_83_29, v_83_30, v_83_32, v_83_34, v_83_35, v_83_38, v_83_41, v_83_42, v_83_43, v_83_45, v_83_47, v_83_48, v_83_51, v_83_54, v_83_55, v_83_56, v_83_57, v_83_59, v_83_61, v_83_62, v_83_64, v_83_66, v_83_67, v_83_70, v_83_72, v_83_74, v_83_77, v_83_78, v_83_79, v_83_80, v_83_83, v_83_85, v_83_88, v_83_89, v_83_92, v_83_93, v_83_94, v_83_97, v_83_100, v_83_103, v_83_106, v_83_109, v_83_110, vgi_0, vgi_s, vga_0, vga_s, vset_0, vset_s, vtk_0, vtk_s, vrc_0, vsw_0, vsw_s, List.all_cons, List.all_nil, zc1_i, zc1_r, Bool.and_true, Bool.and_self, true_and, and_true, List.length_cons, List.length_nil, Nat.zero_le, Nat.reduceLeDiff, Nat.reduceAdd, Nat.reduceLT, Option.toList_some, List.cons_append, List.nil_append]
          rw [if_neg (by decide), nI_1]
          have hI2 : CI q n ru rc f1 r (k + 1) 1 (mS t2 s) := hI.step ⟨r, _, _, h1, hx, hy, q1, q2, q3, m2⟩
          rcases hmo with ⟨rfl, -⟩ | ⟨rfl, -⟩
          · rw [if_neg (by decide)]
            exact ih (k + 1) t2 1 _ (by omega) (hO.tr o2) hI2
          · rw [if_pos rfl, if_pos (by decide)]
            exact ih (k + 1) t2 1 _ (by omega) (hO.tr o2) hI2
      · simp only [v_83_0, v_83_1, v_83_2, h_83_2, v_83_3, v_83_6, v_83_7, v_83_8, v_83_9, v_83_10, h_83_10, v_83_11, v_83_12, v_83_15, v_83_18, v_83_19, v_83_21, h_83_21, v_83_23, v_83_25, v_83_28, v_83_29, v_83_30, v_83_32, v_83_34, v_83_35, v_83_38, v_83_41, v_83_42, v_83_43, v_83_45, v_83_47, v_83_48, v_83_51, v_83_54, v_83_55, v_83_56, v_83_57, v_83_59, v_83_61, v_83_62, v_83_64, v_83_66, v_83_67, v_83_70, v_83_72, v_83_74, v_83_77, v_83_78, v_83_79, v_83_80, v_83_83, v_83_85, v_83_88, v_83_89, v_83_92, v_83_93, v_83_94, v_83_97, v_83_100, v_83_103, v_83_106, v_83_109, v_83_110, vgi_0, vgi_s, vga_0, vga_s, vset_0, vset_s, vtk_0, vtk_s, vrc_0, vsw_0, vsw_s, List.all_cons, List.all_nil, zc1_i, zc1_r, Bool.and_true, Bool.and_self, true_and, and_true, List.length_cons, List.length_nil, Nat.zero_le, Nat.reduceLeDiff, Nat.reduceAdd, Nat.reduceLT, Option.toList_some, List.cons_append, List.nil_append]
        rw [if_pos trivial, nI_1]
        exact ih (k + 1) t' mo _ (by omega) hO (skip (Or.inl (fun z => hy _ z.2 rfl)))
    · simp only [v_83_0, v_83_1, v_83_2, h_83_2, v_83_3, v_83_6, v_83_7, v_83_8, v_83_9, v_83_10, h_83_10, v_83_11, v_83_12, v_83_15, v_83_18, v_83_19, v_83_21, h_83_21, v_83_23, v_83_25, v_83_28, v_83_29, v_83_30, v_83_32, v_83_34, v_83_35, v_83_38, v_83_41, v_83_42, v_83_43, v_83_45, v_83_47, v_83_48, v_83_51, v_83_54, v_83_55, v_83_56, v_83_57, v_83_59, v_83_61, v_83_62, v_83_64, v_83_66, v_83_67, v_83_70, v_83_72, v_83_74, v_83_77, v_83_78, v_83_79, v_83_80, v_83_83, v_83_85, v_83_88, v_83_89, v_83_92, v_83_93, v_83_94, v_83_97, v_83_100, v_83_103, v_83_106, v_83_109, v_83_110, vgi_0, vgi_s, vga_0, vga_s, vset_0, vset_s, vtk_0, vtk_s, vrc_0, vsw_0, vsw_s, List.all_cons, List.all_nil, zc1_i, zc1_r, Bool.and_true, Bool.and_self, true_and, and_true, List.length_cons, List.length_nil, Nat.zero_le, Nat.reduceLeDiff, Nat.reduceAdd, Nat.reduceLT, Option.toList_some, List.cons_append, List.nil_append]
      rw [if_pos trivial, nI_1]
      exact ih (k + 1) t' mo _ (by omega) hO (skip (Or.inl (fun z => hx _ z.1 rfl)))
theorem l_83b {f0 f1 : St} (hd : 9 ≤ d) (hw : ∀ i, i < m → fwf q i) (hr : rwf q m ru rc) (hf1 : wfS f1) (hn1 : f1 0 = nI n) (hn6 : n ≤ 6) (h01 : ∃ k, stk q n ru rc k f0 f1) (hm : mrl t ru rc) (hv : mvq t q m s f1 n) (kf : ∀ t', mG mEb (only s) t t' → CO q n ru rc f0 none → F (some (.int 0)) t') (k : ∀ (t' : T) (mo : Int32) (j3 j4 j5 : Value), mG mEb (only s) t t' → CI q n ru rc f1 rc 0 mo (mS t' s) → twp none d 83 2 [.ref 483, .int (nI s), .int mo, j3, j4, j5] [] t' F) : ∀ (j r : Nat) (t' : T) (mo : Int32) (j4 j5 : Value), r + j = rc → mG mEb (only s) t t' → CI q n ru rc f1 r 0 mo (mS t' s) → twp none d 83 10 [.ref 483, .int (nI s), .int mo, .int (nI r), j4, j5] [] t' F := by
  have rc6 := hr.1
  intro j
  induction j with
  | zero =>
    intro r t' mo j4 j5 hj hO hI
    have hj : r = rc := by omega
    subst hj
    have h10 := (hm.g hO).1
    refine vc_ok none zH_83 71 false _ 83 10 _ _ _ _ ?_
    simp only [v_83_0, v_83_1, v_83_2, h_83_2, v_83_3, v_83_6, v_83_7, v_83_8, v_83_9, v_83_10, h_83_10, v_83_11, v_83_12, v_83_15, v_83_18, v_83_19, v_83_21, h_83_21, v_83_23, v_83_25, v_83_28, v_83_29, v_83_30, v_83_32, v_83_34, v_83_35, v_83_38, v_83_41, v_83_42, v_83_43, v_83_45, v_83_47, v_83_48, v_83_51, v_83_54, v_83_55, v_83_56, v_83_57, v_83_59, v_83_61, v_83_62, v_83_64, v_83_66, v_83_67, v_83_70, v_83_72, v_83_74, v_83_77, v_83_78, v_83_79, v_83_80, v_83_83, v_83_85, v_83_88, v_83_89, v_83_92, v_83_93, v_83_94, v_83_97, v_83_100, v_83_103, v_83_106, v_83_109, v_83_110, vgi_0, vgi_s, vga_0, vga_s, vset_0, vset_s, vtk_0, vtk_s, vrc_0, vsw_0, vsw_s, List.all_cons, List.all_nil, zc1_i, zc1_r, Bool.and_true, Bool.and_self, true_and, and_true, List.length_cons, List.length_nil, Nat.zero_le, Nat.reduceLeDiff, Nat.reduceAdd, Nat.reduceLT, tg_483, h10]
    simp (disch := omega) only [nI_ltI, Nat.lt_irrefl, if_false]
    exact k t' mo _ _ _ hO hI
  | succ j ih =>
    intro r t' mo j4 j5 hj hO hI
    have h10 := (hm.g hO).1
    refine vc_ok none zH_83 71 false _ 83 10 _ _ _ _ ?_
    simp only [v_83_0, v_83_1, v_83_2, h_83_2, v_83_3, v_83_6, v_83_7, v_83_8, v_83_9, v_83_10, h_83_10, v_83_11, v_83_12, v_83_15, v_83_18, v_83_19, v_83_21, h_83_21, v_83_23, v_83_25, v_83_28, v_83_29, v_83_30, v_83_32, v_83_34, v_83_35, v_83_38, v_83_41, v_83_42, v_83_43, v_83_45, v_83_47, v_83_48, v_83_51, v_83_54, v_83_55, v_83_56, v_83_57, v_83_59, v_83_61, v_83_62, v_83_64, v_83_66, v_83_67, v_83_70, v_83_72, v_83_74, v_83_77, v_83_78, v_83_79, v_83_80, v_83_83, v_83_85, v_83_88, v_83_89, v_83_92, v_83_93, v_83_94, v_83_97, v_83_100, v_83_103, v_83_106, v_83_109, v_83_110, vgi_0, vgi_s, vga_0, vga_s, vset_0, vset_s, vtk_0, vtk_s, vrc_0, vsw_0, vsw_s, List.all_cons, List.all_nil, zc1_i, zc1_r, Bool.and_true, Bool.and_self, true_and, and_true, List.length_cons, List.length_nil, Nat.zero_le, Nat.reduceLeDiff, Nat.reduceAdd, Nat.reduceLT, tg_483, h10]
    simp (disch := omega) only [nI_ltI]
    rw [if_pos (by omega)]
    exact l_83c (t := t) hd hw hr (by omega) hf1 hn1 hn6 h01 hm hv kf (fun t2 mo2 k4 k5 o2 hI2 => ih (r + 1) t2 mo2 k4 k5 (by omega) o2 hI2) 36 0 t' mo j5 (by omega) hO hI
theorem l_83a {f0 : St} (hd : 9 ≤ d) (hw : ∀ i, i < m → fwf q i) (hr : rwf q m ru rc) (hn6 : n ≤ 6) (hm : mrl t ru rc) (hv : mvq t q m s f0 n) (kf : ∀ t', mG mEb (only s) t t' → CO q n ru rc f0 none → F (some (.int 0)) t') (k1 : ∀ t', mG mEb (only s) t t' → CO q n ru rc f0 (some (mS t' s)) → F (some (.int 1)) t') : ∀ (z : Nat) (t' : T) (j3 j4 j5 : Value), mG mEb (only s) t t' → mu (mS t' s) 105 = z → (∃ k, stk q n ru rc k f0 (mS t' s)) → twp none d 83 2 [.ref 483, .int (nI s), .int 1, j3, j4, j5] [] t' F := by
  have hf0 : wfS f0 := hv.wf
  have hn0 : f0 0 = nI n := hv.cnt
  intro z
  induction z using Nat.strongRecOn with
  | ind z ih =>
    intro t' j3 j4 j5 hO hz h01
    obtain ⟨j0, s0⟩ := h01
    obtain ⟨w1, w2, -, -⟩ := stk.ok hr hf0 hn0 hn6 j0 _ s0
    refine vc_ok none zH_83 71 false _ 83 2 _ _ _ _ ?_
    simp only [v_83_0, v_83_1, v_83_2, h_83_2, v_83_3, v_83_6, v_83_7, v_83_8, v_83_9, v_83_10, h_83_10, v_83_11, v_83_12, v_83_15, v_83_18, v_83_19, v_83_21, h_83_21, v_83_23, v_83_25, v_83_28, v_83_29, v_83_30, v_83_32, v_83_34, v_83_35, v_83_38, v_83_41, v_83_42, v_83_43, v_83_45, v_83_47, v_83_48, v_83_51, v_83_54, v_83_55, v_83_56, v_83_57, v_83_59, v_83_61, v_83_62, v_83_64, v_83_66, v_83_67, v_83_70, v_83_72, v_83_74, v_83_77, v_83_78, v_83_79, v_83_80, v_83_83, v_83_85, v_83_88, v_83_89, v_83_92, v_83_93, v_83_94, v_83_97, v_83_100, v_83_103, v_83_106, v_83_109, v_83_110, vgi_0, vgi_s, vga_0, vga_s, vset_0, vset_s, vtk_0, vtk_s, vrc_0, vsw_0, vsw_s, List.all_cons, List.all_nil, zc1_i, zc1_r, Bool.and_true, Bool.and_self, true_and, and_true, List.length_cons, List.length_nil, Nat.zero_le, Nat.reduceLeDiff, Nat.reduceAdd, Nat.reduceLT]
    rw [if_neg (by decide)]
    refine l_83b (t := t') (f0 := f0) (f1 := mS t' s) hd hw hr w1 w2 hn6 ⟨j0, s0⟩ (hm.g hO) (hv.g hO rfl w1 w2) (fun t2 o2 c2 => kf t2 (hO.tr o2) c2) (fun t2 mo k3 k4 k5 o2 hI => ?_) rc 0 t' 0 _ _ (by omega) mG.rf ⟨0, rfl, Or.inr ⟨rfl, rfl, fun r' u w hx _ _ => by omega⟩⟩
    obtain ⟨j2, s2, hmo⟩ := hI
    obtain ⟨x1, x2, x3, x4⟩ := stk.ok hr w1 w2 hn6 j2 _ s2
    rcases hmo with ⟨rfl, hj⟩ | ⟨rfl, hj, hdn⟩
    · exact ih _ (by omega) t2 k3 k4 k5 (hO.tr o2) rfl ⟨_, stk_tr s0 j2 _ s2⟩
    · refine vc_ok none zH_83 71 false _ 83 2 _ _ _ _ ?_
      simp only [v_83_0, v_83_1, v_83_2, h_83_2, v_83_3, v_83_6, v_83_7, v_83_8, v_83_9, v_83_10, h_83_10, v_83_11, v_83_12, v_83_15, v_83_18, v_83_19, v_83_21, h_83_21, v_83_23, v_83_25, v_83_28, v_83_29, v_83_30, v_83_32, v_83_34, v_83_35, v_83_38, v_83_41, v_83_42, v_83_43, v_83_45, v_83_47, v_83_48, v_83_51, v_83_54, v_83_55, v_83_56, v_83_57, v_83_59, v_83_61, v_83_62, v_83_64, v_83_66, v_83_67, v_83_70, v_83_72, v_83_74, v_83_77, v_83_78, v_83_79, v_83_80, v_83_83, v_83_85, v_83_88, v_83_89, v_83_92, v_83_93, v_83_94, v_83_97, v_83_100, v_83_103, v_83_106, v_83_109, v_83_110, vgi_0, vgi_s, vga_0, vga_s, vset_0, vset_s, vtk_0, vtk_s, vrc_0, vsw_0, vsw_s, List.all_cons, List.all_nil, zc1_i, zc1_r, Bool.and_true, Bool.and_self, true_and, and_true, List.length_cons, List.length_nil, Nat.zero_le, Nat.reduceLeDiff, Nat.reduceAdd, Nat.reduceLT]
      rw [if_pos trivial]
      refine ⟨Or.inr trivial, k1 t2 (hO.tr o2) ⟨⟨_, stk_tr s0 j2 _ s2⟩, fun r u w h1 h2 h3 => hdn r u w (Or.inl h1) h2 h3⟩⟩
theorem c_83 {f0 : St} (hd : 10 ≤ d) (hr : rwf q m ru rc) (hm : mrl t ru rc) (hv : mvq t q m s f0 n) (kf : ∀ t', mG mEb (only s) t t' → CO q n ru rc f0 none → F (some (.int 0)) t') (k1 : ∀ t', mG mEb (only s) t t' → CO q n ru rc f0 (some (mS t' s)) → F (some (.int 1)) t') : twc d 83 [.ref 483, .int (nI s)] t F := by
  have e5 : mS t s = f0 := hv.row
  refine ⟨by omega, ?_⟩
  rw [ze_83]
  refine vc_ok none zH_83 71 false _ 83 0 _ _ _ _ ?_
  simp only [v_83_0, v_83_1, v_83_2, h_83_2, v_83_3, v_83_6, v_83_7, v_83_8, v_83_9, v_83_10, h_83_10, v_83_11, v_83_12, v_83_15, v_83_18, v_83_19, v_83_21, h_83_21, v_83_23, v_83_25, v_83_28, v_83_29, v_83_30, v_83_32, v_83_34, v_83_35, v_83_38, v_83_41, v_83_42, v_83_43, v_83_45, v_83_47, v_83_48, v_83_51, v_83_54, v_83_55, v_83_56, v_83_57, v_83_59, v_83_61, v_83_62, v_83_64, v_83_66, v_83_67, v_83_70, v_83_72, v_83_74, v_83_77, v_83_78, v_83_79, v_83_80, v_83_83, v_83_85, v_83_88, v_83_89, v_83_92, v_83_93, v_83_94, v_83_97, v_83_100, v_83_103, v_83_106, v_83_109, v_83_110, vgi_0, vgi_s, vga_0, vga_s, vset_0, vset_s, vtk_0, vtk_s, vrc_0, vsw_0, vsw_s, List.all_cons, List.all_nil, zc1_i, zc1_r, Bool.and_true, Bool.and_self, true_and, and_true, List.length_cons, List.length_nil, Nat.zero_le, Nat.reduceLeDiff, Nat.reduceAdd, Nat.reduceLT]
  exact l_83a (by omega) hv.2 hr hv.n6 hm hv kf k1 _ t _ _ _ mG.rf rfl ⟨0, by rw [e5]; rfl⟩
end MC
