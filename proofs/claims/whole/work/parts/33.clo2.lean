/-! The class's closure: its loop. -/
/-- what holds at the loop's head: the row is sound; who was left has told its steps; the weak ones were left behind all strong ones -/
def clI (n : Nat) (g : Nat → Nat → Int32) (x0 : Nat) (r : Nat → Int32) (lf : Nat) (S : Nat → Prop) : Prop :=
  lf < 64 ∧ (∀ v, n ≤ v → v < 6 → lf.testBit v = false) ∧ (∀ v, S v → lf.testBit v = true) ∧ (∀ v, v < n → tri (r v)) ∧
  (∀ v, v < n → r v = 1 → way n (fun u v => g u v = 1) x0 v) ∧ (∀ v, v < n → r v ≠ 0 → way n (fun u v => g u v ≠ 0) x0 v) ∧
  (∀ w, w < n → lf.testBit w = true → S w → ∀ v, v < n → g w v = 1 → r v = 1) ∧
  (∀ w, w < n → lf.testBit w = true → ∀ v, v < n → g w v ≠ 0 → r v ≠ 0) ∧
  (∀ w, w < n → lf.testBit w = true → ¬ S w → (r w ≠ 1 ∧ ∀ v, v < n → r v = 1 → lf.testBit v = true ∧ S v))
/-- the next to be left, and its strength -/
def clX (n : Nat) (x0 : Nat) (r : Nat → Int32) (lf : Nat) (S : Nat → Prop) (x : Nat) (s : Int32) : Prop :=
  x < n ∧ lf.testBit x = false ∧ ((x = x0 ∧ s = 1 ∧ lf = 0) ∨ (s = r x ∧ s ≠ 0 ∧ lf.testBit x0 = true ∧ S x0 ∧ (s = 1 ∨ ∀ v, v < n → lf.testBit v = false → r v ≠ 1)))
theorem clI_end {n : Nat} {g : Nat → Nat → Int32} {x0 y : Nat} {r : Nat → Int32} {lf : Nat} {S : Nat → Prop} (h : clI n g x0 r lf S) (hy : y < n) (h0 : lf.testBit x0 = true) (hx0 : x0 < n) (hS : S x0) (hd : ∀ v, v < n → r v ≠ 0 → lf.testBit v = true) : r y = clo n g x0 y := by
  obtain ⟨-, -, -, h3, h4, h5, h6, h7, h8⟩ := h
  refine clo_of (h3 y hy) (h4 y hy) (h5 y hy) (fun hw => ?_) (fun hw => ?_)
  · refine (way_ind (P := fun v => r v = 1) (fun v hv hg => h6 x0 hx0 h0 hS v hv hg) (fun u v hu hu1 hv hg => ?_) hw).1
    have hlu := hd u hu (by rw [hu1]; decide)
    by_cases hSu : S u
    · exact h6 u hu hlu hSu v hv hg
    · exact absurd hu1 (h8 u hu hlu hSu).1
  · exact (way_ind (P := fun v => r v ≠ 0) (fun v hv hg => h7 x0 hx0 h0 v hv hg) (fun u v hu hu1 hv hg => h7 u hu (hd u hu hu1) v hv hg) hw).1
/-- one more is left -/
theorem clI_step {n : Nat} {g : Nat → Nat → Int32} {x0 x : Nat} {s : Int32} {r r' : Nat → Int32} {lf : Nat} {S : Nat → Prop} (hn : n ≤ 6) (hx0 : x0 < n) (h : clI n g x0 r lf S) (hX : clX n x0 r lf S x s) (hg : ∀ v, v < n → tri (g x v)) (hr : ∀ v, v < n → r' v = tor (r v) (tand s (g x v))) : clI n g x0 r' (lf ||| 2 ^ x) (fun v => S v ∨ (v = x ∧ s = 1)) ∧ (lf ||| 2 ^ x).testBit x0 = true ∧ (S x0 ∨ (x0 = x ∧ s = 1)) := by
  obtain ⟨h1, h2, hSl, h3, h4, h5, h6, h7, h8⟩ := h
  obtain ⟨x1, x2, x3⟩ := hX
  have hs : tri s := by
    rcases x3 with ⟨-, e, -⟩ | ⟨e, -⟩
    · rw [e]; exact tri_1
    · rw [e]; exact h3 x x1
  have hs0 : s ≠ 0 := by
    rcases x3 with ⟨-, e, -⟩ | ⟨-, e, -⟩
    · rw [e]; decide
    · exact e
  have ht : ∀ v, v < n → tri (tand s (g x v)) := fun v hv => tri_and hs (hg v hv)
  have r1 : ∀ v, v < n → (r' v = 1 ↔ (r v = 1 ∨ (s = 1 ∧ g x v = 1))) := fun v hv => by
    rw [hr v hv, tor_1 (h3 v hv) (ht v hv), tand_1 hs (hg v hv)]
  have r0 : ∀ v, v < n → (r' v = 0 ↔ (r v = 0 ∧ g x v = 0)) := fun v hv => by
    rw [hr v hv, tor_0 (h3 v hv) (ht v hv), tand_0 hs (hg v hv)]
    constructor
    · rintro ⟨a, b | b⟩
      · exact absurd b hs0
      · exact ⟨a, b⟩
    · rintro ⟨a, b⟩; exact ⟨a, Or.inr b⟩
  have bt : ∀ v, (lf ||| 2 ^ x).testBit v = true ↔ (lf.testBit v = true ∨ v = x) := fun v => by
    rw [bof6]
    simp only [Bool.or_eq_true, decide_eq_true_eq]
    constructor
    · rintro (a | a)
      · exact Or.inl a
      · exact Or.inr a.symm
    · rintro (a | a)
      · exact Or.inl a
      · exact Or.inr a.symm
  have wk : s ≠ 1 → ∀ v, v < n → (r' v = 1 ↔ r v = 1) := fun hs1 v hv => by
    rw [r1 v hv]
    constructor
    · rintro (a | a)
      · exact a
      · exact absurd a.1 hs1
    · exact Or.inl
  have w1x : s = 1 → x = x0 ∨ way n (fun u v => g u v = 1) x0 x := fun hs1 => by
    rcases x3 with ⟨a, -⟩ | ⟨a, -⟩
    · exact Or.inl a
    · exact Or.inr (h4 x x1 (by rw [← a]; exact hs1))
  have w2x : x = x0 ∨ way n (fun u v => g u v ≠ 0) x0 x := by
    rcases x3 with ⟨a, -⟩ | ⟨a, b, -⟩
    · exact Or.inl a
    · exact Or.inr (h5 x x1 (by rw [← a]; exact b))
  refine ⟨⟨(bor6 lf h1 x (by omega)).2, fun v hv1 hv2 => ?_, fun v hv => ?_, fun v hv => by rw [hr v hv]; exact tri_or (h3 v hv) (ht v hv), fun v hv hv1 => ?_, fun v hv hv1 => ?_, fun w hw hb hS v hv hgv => ?_, fun w hw hb v hv hgv => ?_, fun w hw hb hS => ?_⟩, ?_, ?_⟩
  · cases hb : (lf ||| 2 ^ x).testBit v with
    | false => rfl
    | true =>
      rcases (bt v).mp hb with a | a
      · rw [h2 v hv1 hv2] at a; cases a
      · omega
  · rw [bt]
    rcases hv with a | a
    · exact Or.inl (hSl v a)
    · exact Or.inr a.1
  · rcases (r1 v hv).mp hv1 with a | ⟨a, b⟩
    · exact h4 v hv a
    · rcases w1x a with c | c
      · rw [c] at b; exact way_one hv b
      · exact way_snoc c hv b
  · have : r v ≠ 0 ∨ g x v ≠ 0 := by
      by_cases z : r v = 0
      · right; intro z2; exact hv1 ((r0 v hv).mpr ⟨z, z2⟩)
      · exact Or.inl z
    rcases this with a | a
    · exact h5 v hv a
    · rcases w2x with c | c
      · rw [c] at a; exact way_one hv a
      · exact way_snoc c hv a
  · rw [r1 v hv]
    rcases hS with a | ⟨a, b⟩
    · rcases (bt w).mp hb with c | c
      · exact Or.inl (h6 w hw c a v hv hgv)
      · subst c
        have := hSl w a
        rw [x2] at this
        cases this
    · subst a
      exact Or.inr ⟨b, hgv⟩
  · intro z
    have z := (r0 v hv).mp z
    rcases (bt w).mp hb with c | c
    · exact h7 w hw c v hv hgv z.1
    · subst c
      exact hgv z.2
  · have hnS : ¬ S w := fun q => hS (Or.inl q)
    rcases (bt w).mp hb with c | c
    · obtain ⟨a1, a2⟩ := h8 w hw c hnS
      have hs1 : s ≠ 1 := by
        intro hs1
        rcases x3 with ⟨-, -, e⟩ | ⟨e1, -⟩
        · rw [e] at c
          rw [Nat.zero_testBit] at c
          cases c
        · have := (a2 x x1 (by rw [← e1]; exact hs1)).1
          rw [x2] at this
          cases this
      refine ⟨fun q => a1 ((wk hs1 w hw).mp q), fun v hv hv1 => ?_⟩
      obtain ⟨b1, b2⟩ := a2 v hv ((wk hs1 v hv).mp hv1)
      exact ⟨(bt v).mpr (Or.inl b1), Or.inl b2⟩
    · subst c
      have hs1 : s ≠ 1 := fun q => hS (Or.inr ⟨rfl, q⟩)
      rcases x3 with ⟨-, e, -⟩ | ⟨e1, e2, e3, e4, e5⟩
      · exact absurd e hs1
      · have hmx : ∀ v, v < n → lf.testBit v = false → r v ≠ 1 := by
          rcases e5 with e5 | e5
          · exact absurd e5 hs1
          · exact e5
        refine ⟨fun q => hs1 (by rw [e1]; exact (wk hs1 w hw).mp q), fun v hv hv1 => ?_⟩
        have hv2 := (wk hs1 v hv).mp hv1
        cases hb2 : lf.testBit v with
        | false => exact absurd hv2 (hmx v hv hb2)
        | true =>
          refine ⟨(bt v).mpr (Or.inl hb2), Or.inl ?_⟩
          apply Classical.byContradiction
          intro hnv
          exact (h8 v hv hb2 hnv).1 hv2
  · rw [bt]
    rcases x3 with ⟨e, -⟩ | ⟨-, -, e, -⟩
    · exact Or.inr e.symm
    · exact Or.inl e
  · rcases x3 with ⟨e, e2, -⟩ | ⟨-, -, -, e, -⟩
    · exact Or.inr ⟨e.symm, e2⟩
    · exact Or.inl e

section CLB
variable {d : Nat} {t : T} {F : Option Value → T → Prop} {q : FT} {m a n i : Nat} {f : St} {e : Nat → Nat}
theorem n_m1 {z : Nat} (h : z < 100) : ¬ nI z < 0 := nI_pos (by omega)
theorem l_126 (hd : 5 ≤ d) (hq : evp t q m a f n) (he : eve t q i n e) (hi : i < m) (hk : kd q i = 8) (hE : EVC q m (pc q i) (d - 1)) (h : ∀ t', tO (clA q i) t t' → F (some (.int (EV q f n i e))) t') : ∀ (j step : Nat) (t' : T) (x s : Int32) (lf : Nat) (S : Nat → Prop), step + j = n → cs t t' → clI n (stp q f n (pc q i) e) (e (va q i)) (t'.1 46) lf S → pc6 lf = step → (0 < step → lf.testBit (e (va q i)) = true ∧ S (e (va q i))) → ((x = -1 ∧ 0 < step ∧ (t'.1 46 (e (vb q i)) = 1 ∨ ∀ v, v < n → lf.testBit v = true ∨ t'.1 46 v = 0)) ∨ ∃ z, x = nI z ∧ clX n (e (va q i)) (t'.1 46) lf S z s) → twp none d 126 53 [.ref 44, .ref (4 + i), .int (t.1 45 4), .int (t.1 45 5), .int x, .int (nI (e (vb q i))), .int (nI lf), .int s, .int (nI step)] [] t' F := by
  have hwi := hq.2.1 i hi
  obtain ⟨p1, p2, p3, -⟩ := hwi.2.2.2.2.2.2.2.2.2.2.2.1 (by omega)
  obtain ⟨a1, a2, b1, b2, fa, fbb, c1, c2, c3⟩ := hwi.2.2.2.2.2.2.2.2.2.2.2.2.2.2.2 hk
  have hm := hq.1
  have hn := hq.2.2.2.2.2.2.2.2.2
  have fo := fo_tag i (by omega)
  have hea := (he _ fa).1
  have heb := (he _ fbb).1
  have hev : ∀ v, fb q (pc q i) v → v = 4 ∨ v = 5 ∨ (e v < n ∧ t.1 45 v = nI (e v)) := fun v hv => by
    rcases c3 v hv with z | z | z
    · exact Or.inl z
    · exact Or.inr (Or.inl z)
    · exact Or.inr (Or.inr (he v z))
  have htri : ∀ x w, x < n → w < n → tri (stp q f n (pc q i) e x w) := by
    intro x w hx hw
    refine EV_tri hq.2.1 hq.2.2.2.2.2.2.2.1 hn _ (by omega) _ (fun v hv => ?_)
    unfold eu
    split
    · exact hw
    · split
      · exact hx
      · rcases hev v hv with z | z | z
        · rename_i h1 h2; exact absurd z h2
        · rename_i h1 h2; exact absurd z h1
        · exact z.1
  have fin : ∀ (t' : T), cs t t' → t'.1 46 (e (vb q i)) = EV q f n i e → F (some (.int (t'.1 46 (e (vb q i))))) (tsi (tsi t' 45 4 (t.1 45 4)) 45 5 (t.1 45 5)) := by
    intro t' hcs hv
    rw [hv]
    refine h _ ⟨hcs.1, fun b hb k => ?_⟩
    have hb46 : b ≠ 46 := by
      intro z
      apply hb
      unfold clA
      rw [if_neg (by omega), z]
      simp
    by_cases k5 : b = 45 ∧ k = 5
    · rw [k5.1, k5.2, tsi_eq]
    · rw [tsi_ne k5]
      by_cases k4 : b = 45 ∧ k = 4
      · rw [k4.1, k4.2, tsi_eq]
      · rw [tsi_ne k4]
        exact hcs.2 b k hb46 (fun z => by rcases z.2 with y | y; exact k4 ⟨z.1, y⟩; exact k5 ⟨z.1, y⟩)
  intro j
  induction j with
  | zero =>
    intro step t' x s lf S hst hcs hI hpc h0 hx
    have hst : step = n := by omega
    subst hst
    have hq' := hcs.evp hq
    refine vc_ok none zH_126 102 false _ 126 53 _ _ _ _ ?_
    simp only [v_126_0, v_126_1, v_126_4, v_126_5, v_126_6, v_126_7, v_126_8, v_126_11, v_126_12, v_126_13, v_126_14, v_126_15, v_126_18, v_126_19, v_126_22, v_126_23, v_126_25, v_126_26, v_126_29, v_126_30, v_126_33, v_126_34, v_126_36, v_126_37, v_126_40, v_126_41, v_126_44, v_126_45, v_126_47, v_126_48, v_126_50, v_126_51, v_126_53, h_126_53, v_126_55, v_126_56, v_126_59, v_126_62, v_126_65, v_126_67, v_126_70, v_126_72, v_126_73, v_126_75, v_126_76, v_126_77, v_126_79, v_126_80, v_126_82, v_126_84, v_126_85, v_126_88, v_126_89, v_126_92, v_126_93, v_126_96, v_126_97, v_126_100, v_126_102, v_126_103, v_126_104, v_126_107, v_126_108, v_126_111, v_126_112, v_126_114, v_126_117, v_126_119, v_126_121, v_126_124, v_126_125, v_126_128, v_126_129, v_126_132, v_126_134, v_126_135, v_126_137, v_126_140, v_126_143, v_126_144, v_126_147, v_126_148, v_126_149, v_126_150, v_126_151, v_126_154, v_126_155, v_126_156, v_126_157, v_126_158, v_126_161, v_126_163, v_126_164, vgi_0, vgi_s, vga_0, vga_s, vset_0, vset_s, vtk_0, vtk_s, vrc_0, vsw_0, vsw_s, List.all_cons, List.all_nil, zc1_i, zc1_r, Bool.and_true, Bool.and_self, true_and, and_true, List.length_cons, List.length_nil, Nat.zero_le, Nat.reduceLeDiff, Nat.reduceAdd, tg_44, tf_44_3, hq'.2.2.2.2.1, hq'.2.2.2.2.2.1, hq'.cnt, tf_44_1, tg_45, ln_45, tf_44_2, tg_46, ln_46]
    simp (disch := omega) only [li4, li5, nI_ltI, nI_clamp, vinb_n, Nat.lt_irrefl, if_false]
    refine ⟨by omega, by omega, by omega, ?_⟩
    rw [tsi_ne (by omega), tsi_ne (by omega)]
    refine fin t' hcs ?_
    rw [EV_8 hq.2.1 hi hk]
    have hall := pc6_all lf hI.1 step hn (fun v hv1 hv2 => hI.2.1 v hv2 hv1) hpc
    have hz := h0 (by omega)
    exact clI_end hI heb hz.1 hea hz.2 (fun v hv _ => hall v hv)
  | succ j ih =>
    intro step t' x s lf S hst hcs hI hpc h0 hx
    have hq' := hcs.evp hq
    have hpi : t'.1 (4 + i) 3 = nI (pc q i) := (hq'.2.2.2.1 i 3 hi (by omega)).trans p1
    rcases hx with ⟨rfl, hs0, hx⟩ | ⟨z, rfl, hX⟩
    · refine vc_ok none zH_126 102 false _ 126 53 _ _ _ _ ?_
      simp only [v_126_0, v_126_1, v_126_4, v_126_5, v_126_6, v_126_7, v_126_8, v_126_11, v_126_12, v_126_13, v_126_14, v_126_15, v_126_18, v_126_19, v_126_22, v_126_23, v_126_25, v_126_26, v_126_29, v_126_30, v_126_33, v_126_34, v_126_36, v_126_37, v_126_40, v_126_41, v_126_44, v_126_45, v_126_47, v_126_48, v_126_50, v_126_51, v_126_53, h_126_53, v_126_55, v_126_56, v_126_59, v_126_62, v_126_65, v_126_67, v_126_70, v_126_72, v_126_73, v_126_75, v_126_76, v_126_77, v_126_79, v_126_80, v_126_82, v_126_84, v_126_85, v_126_88, v_126_89, v_126_92, v_126_93, v_126_96, v_126_97, v_126_100, v_126_102, v_126_103, v_126_104, v_126_107, v_126_108, v_126_111, v_126_112, v_126_114, v_126_117, v_126_119, v_126_121, v_126_124, v_126_125, v_126_128, v_126_129, v_126_132, v_126_134, v_126_135, v_126_137, v_126_140, v_126_143, v_126_144, v_126_147, v_126_148, v_126_149, v_126_150, v_126_151, v_126_154, v_126_155, v_126_156, v_126_157, v_126_158, v_126_161, v_126_163, v_126_164, vgi_0, vgi_s, vga_0, vga_s, vset_0, vset_s, vtk_0, vtk_s, vrc_0, vsw_0, vsw_s, List.all_cons, List.all_nil, zc1_i, zc1_r, Bool.and_true, Bool.and_self, true_and, and_true, List.length_cons, List.length_nil, Nat.zero_le, Nat.reduceLeDiff, Nat.reduceAdd, tg_44, tf_44_3, hq'.2.2.2.2.1, hq'.2.2.2.2.2.1, hq'.cnt, tf_44_1, tg_45, ln_45, tf_44_2, tg_46, ln_46]
      simp (disch := omega) only [li4, li5, nI_clamp, vinb_n]
      rw [if_pos (nI_lt (by omega) (by omega)), if_pos (by decide)]
      refine ⟨by omega, by omega, by omega, ?_⟩
      rw [tsi_ne (by omega), tsi_ne (by omega)]
      refine fin t' hcs ?_
      rw [EV_8 hq.2.1 hi hk]
      have hz := h0 hs0
      rcases hx with hx | hx
      · rw [hx]
        exact (clo_1 (hI.2.2.2.2.1 _ heb hx)).symm
      · exact clI_end hI heb hz.1 hea hz.2 (fun v hv hr => by
          rcases hx v hv with y | y
          · exact y
          · exact absurd y hr)
    · have hz6 : z < n := hX.1
      have hsv : s = 1 ∨ s = 2 := by
        rcases hX.2.2 with ⟨-, y, -⟩ | ⟨y1, y2, -⟩
        · exact Or.inl y
        · obtain ⟨v, hv, hve⟩ := hI.2.2.2.1 z hz6
          have : v = 0 ∨ v = 1 ∨ v = 2 := by omega
          rcases this with rfl | rfl | rfl
          · exact absurd (y1.trans hve) y2
          · exact Or.inl (y1.trans hve)
          · exact Or.inr (y1.trans hve)
      obtain ⟨o1, o2⟩ := bor6 lf hI.1 z (by omega)
      refine vc_ok none zH_126 102 false _ 126 53 _ _ _ _ ?_
      simp only [v_126_0, v_126_1, v_126_4, v_126_5, v_126_6, v_126_7, v_126_8, v_126_11, v_126_12, v_126_13, v_126_14, v_126_15, v_126_18, v_126_19, v_126_22, v_126_23, v_126_25, v_126_26, v_126_29, v_126_30, v_126_33, v_126_34, v_126_36, v_126_37, v_126_40, v_126_41, v_126_44, v_126_45, v_126_47, v_126_48, v_126_50, v_126_51, v_126_53, h_126_53, v_126_55, v_126_56, v_126_59, v_126_62, v_126_65, v_126_67, v_126_70, v_126_72, v_126_73, v_126_75, v_126_76, v_126_77, v_126_79, v_126_80, v_126_82, v_126_84, v_126_85, v_126_88, v_126_89, v_126_92, v_126_93, v_126_96, v_126_97, v_126_100, v_126_102, v_126_103, v_126_104, v_126_107, v_126_108, v_126_111, v_126_112, v_126_114, v_126_117, v_126_119, v_126_121, v_126_124, v_126_125, v_126_128, v_126_129, v_126_132, v_126_134, v_126_135, v_126_137, v_126_140, v_126_143, v_126_144, v_126_147, v_126_148, v_126_149, v_126_150, v_126_151, v_126_154, v_126_155, v_126_156, v_126_157, v_126_158, v_126_161, v_126_163, v_126_164, vgi_0, vgi_s, vga_0, vga_s, vset_0, vset_s, vtk_0, vtk_s, vrc_0, vsw_0, vsw_s, List.all_cons, List.all_nil, zc1_i, zc1_r, Bool.and_true, Bool.and_self, true_and, and_true, List.length_cons, List.length_nil, Nat.zero_le, Nat.reduceLeDiff, Nat.reduceAdd, tg_44, tf_44_3, hq'.2.2.2.2.1, hq'.2.2.2.2.2.1, hq'.cnt, tf_44_0, tg_3, ln_3, fo, hpi]
      rw [if_pos (nI_lt (by omega) (by omega)), if_neg (n_m1 (by omega))]
      simp (disch := omega) only [nI_clamp, vinb_n, tf_3, o1]
      refine ⟨by omega, by omega, ?_⟩
      refine c_127 (e := e) (by omega) hq' (by omega) c2 (fun v hv => ?_) hz6 hsv hI.2.2.2.1 hE (fun t2 hc2 hr2 => ?_)
      · by_cases v45 : v = 4 ∨ v = 5
        · rcases v45 with y | y
          · exact Or.inl y
          · exact Or.inr (Or.inl y)
        · rcases hev v hv with y | y | y
          · exact Or.inl y
          · exact Or.inr (Or.inl y)
          · refine Or.inr (Or.inr ⟨y.1, ?_⟩)
            rw [hcs.2 45 v (by omega) (fun w => v45 w.2)]
            exact y.2
      · have hcs2 := hcs.tr hc2
        have hq2 := hcs2.evp hq
        obtain ⟨I1, I2, I3⟩ := clI_step (r' := t2.1 46) hn hea hI hX (fun v hv => htri z v hz6 hv) hr2
        have hpc2 : pc6 (lf ||| 2 ^ z) = step + 1 := by rw [pc6_add lf hI.1 z (by omega) hX.2.1, hpc]
        simp only [v_126_0, v_126_1, v_126_4, v_126_5, v_126_6, v_126_7, v_126_8, v_126_11, v_126_12, v_126_13, v_126_14, v_126_15, v_126_18, v_126_19, v_126_22, v_126_23, v_126_25, v_126_26, v_126_29, v_126_30, v_126_33, v_126_34, v_126_36, v_126_37, v_126_40, v_126_41, v_126_44, v_126_45, v_126_47, v_126_48, v_126_50, v_126_51, v_126_53, h_126_53, v_126_55, v_126_56, v_126_59, v_126_62, v_126_65, v_126_67, v_126_70, v_126_72, v_126_73, v_126_75, v_126_76, v_126_77, v_126_79, v_126_80, v_126_82, v_126_84, v_126_85, v_126_88, v_126_89, v_126_92, v_126_93, v_126_96, v_126_97, v_126_100, v_126_102, v_126_103, v_126_104, v_126_107, v_126_108, v_126_111, v_126_112, v_126_114, v_126_117, v_126_119, v_126_121, v_126_124, v_126_125, v_126_128, v_126_129, v_126_132, v_126_134, v_126_135, v_126_137, v_126_140, v_126_143, v_126_144, v_126_147, v_126_148, v_126_149, v_126_150, v_126_151, v_126_154, v_126_155, v_126_156, v_126_157, v_126_158, v_126_161, v_126_163, v_126_164, vgi_0, vgi_s, vga_0, vga_s, vset_0, vset_s, vtk_0, vtk_s, vrc_0, vsw_0, vsw_s, List.all_cons, List.all_nil, zc1_i, zc1_r, Bool.and_true, Bool.and_self, true_and, and_true, List.length_cons, List.length_nil, Nat.zero_le, Nat.reduceLeDiff, Nat.reduceAdd, Option.toList_none, List.nil_append, tg_44, tf_44_2, tg_46, ln_46]
        refine ⟨by omega, ?_⟩
        by_cases ht1 : t2.1 46 (e (vb q i)) = 1
        · rw [if_pos ht1, if_pos (by decide)]
          simp (disch := omega) only [li1, nI_add]
          exact ih (step + 1) t2 (-1) 0 _ _ (by omega) hcs2 I1 hpc2 (fun _ => ⟨I2, I3⟩) (Or.inl ⟨rfl, by omega, Or.inl ht1⟩)
        · rw [if_neg ht1]
          refine c_128 (by omega) hq2 o2 (fun x2 hb => ?_)
          simp only [v_126_0, v_126_1, v_126_4, v_126_5, v_126_6, v_126_7, v_126_8, v_126_11, v_126_12, v_126_13, v_126_14, v_126_15, v_126_18, v_126_19, v_126_22, v_126_23, v_126_25, v_126_26, v_126_29, v_126_30, v_126_33, v_126_34, v_126_36, v_126_37, v_126_40, v_126_41, v_126_44, v_126_45, v_126_47, v_126_48, v_126_50, v_126_51, v_126_53, h_126_53, v_126_55, v_126_56, v_126_59, v_126_62, v_126_65, v_126_67, v_126_70, v_126_72, v_126_73, v_126_75, v_126_76, v_126_77, v_126_79, v_126_80, v_126_82, v_126_84, v_126_85, v_126_88, v_126_89, v_126_92, v_126_93, v_126_96, v_126_97, v_126_100, v_126_102, v_126_103, v_126_104, v_126_107, v_126_108, v_126_111, v_126_112, v_126_114, v_126_117, v_126_119, v_126_121, v_126_124, v_126_125, v_126_128, v_126_129, v_126_132, v_126_134, v_126_135, v_126_137, v_126_140, v_126_143, v_126_144, v_126_147, v_126_148, v_126_149, v_126_150, v_126_151, v_126_154, v_126_155, v_126_156, v_126_157, v_126_158, v_126_161, v_126_163, v_126_164, vgi_0, vgi_s, vga_0, vga_s, vset_0, vset_s, vtk_0, vtk_s, vrc_0, vsw_0, vsw_s, List.all_cons, List.all_nil, zc1_i, zc1_r, Bool.and_true, Bool.and_self, true_and, and_true, List.length_cons, List.length_nil, Nat.zero_le, Nat.reduceLeDiff, Nat.reduceAdd, Option.toList_some, List.cons_append, List.nil_append, tg_44, tf_44_2, tg_46, ln_46]
          rcases hb with ⟨rfl, hb⟩ | ⟨w, w1, rfl, w3, w4, w5⟩
          · rw [if_pos (by decide)]
            simp (disch := omega) only [li1, nI_add]
            exact ih (step + 1) t2 (-1) 0 _ _ (by omega) hcs2 I1 hpc2 (fun _ => ⟨I2, I3⟩) (Or.inl ⟨rfl, by omega, Or.inr hb⟩)
          · rw [if_neg (n_m1 (by omega))]
            simp (disch := omega) only [li1, nI_add, nI_clamp, vinb_n]
            refine ⟨by omega, ?_⟩
            exact ih (step + 1) t2 (nI w) _ _ _ (by omega) hcs2 I1 hpc2 (fun _ => ⟨I2, I3⟩) (Or.inr ⟨w, rfl, w1, w3, Or.inr ⟨rfl, w4, I2, I3, w5⟩⟩)
theorem c_126 (hd : 6 ≤ d) (hi : i < m) (hk : kd q i = 8) (hE : EVC q m (pc q i) (d - 2)) : CLC q m i d := by
  intro t a n f e F hq he h
  have hwi := hq.2.1 i hi
  obtain ⟨a1, a2, b1, b2, fa, fbb, c1, c2, c3⟩ := hwi.2.2.2.2.2.2.2.2.2.2.2.2.2.2.2 hk
  have hm := hq.1
  have hn := hq.2.2.2.2.2.2.2.2.2
  have fo := fo_tag i (by omega)
  have hea := he _ fa
  have heb := he _ fbb
  have hva : t.1 (4 + i) 1 = nI (va q i) := (hq.2.2.2.1 i 1 hi (by omega)).trans a1
  have hvb : t.1 (4 + i) 2 = nI (vb q i) := (hq.2.2.2.1 i 2 hi (by omega)).trans b1
  refine ⟨by omega, ?_⟩
  rw [ze_126]
  refine vc_ok none zH_126 102 false _ 126 0 _ _ _ _ ?_
  simp only [v_126_0, v_126_1, v_126_4, v_126_5, v_126_6, v_126_7, v_126_8, v_126_11, v_126_12, v_126_13, v_126_14, v_126_15, v_126_18, v_126_19, v_126_22, v_126_23, v_126_25, v_126_26, v_126_29, v_126_30, v_126_33, v_126_34, v_126_36, v_126_37, v_126_40, v_126_41, v_126_44, v_126_45, v_126_47, v_126_48, v_126_50, v_126_51, v_126_53, h_126_53, v_126_55, v_126_56, v_126_59, v_126_62, v_126_65, v_126_67, v_126_70, v_126_72, v_126_73, v_126_75, v_126_76, v_126_77, v_126_79, v_126_80, v_126_82, v_126_84, v_126_85, v_126_88, v_126_89, v_126_92, v_126_93, v_126_96, v_126_97, v_126_100, v_126_102, v_126_103, v_126_104, v_126_107, v_126_108, v_126_111, v_126_112, v_126_114, v_126_117, v_126_119, v_126_121, v_126_124, v_126_125, v_126_128, v_126_129, v_126_132, v_126_134, v_126_135, v_126_137, v_126_140, v_126_143, v_126_144, v_126_147, v_126_148, v_126_149, v_126_150, v_126_151, v_126_154, v_126_155, v_126_156, v_126_157, v_126_158, v_126_161, v_126_163, v_126_164, vgi_0, vgi_s, vga_0, vga_s, vset_0, vset_s, vtk_0, vtk_s, vrc_0, vsw_0, vsw_s, List.all_cons, List.all_nil, zc1_i, zc1_r, Bool.and_true, Bool.and_self, true_and, and_true, List.length_cons, List.length_nil, Nat.zero_le, Nat.reduceLeDiff, Nat.reduceAdd, tg_44, tf_44_1, tg_45, ln_45, tf_44_2, fo, hva, hvb]
  simp (disch := omega) only [li4, li5, nI_clamp, vinb_n, hea.2, heb.2]
  refine ⟨by omega, by omega, by omega, by omega, ?_⟩
  refine c_172 (n := 6) (by omega) tg_46 ln_46 (by omega) ?_
  simp only [v_126_0, v_126_1, v_126_4, v_126_5, v_126_6, v_126_7, v_126_8, v_126_11, v_126_12, v_126_13, v_126_14, v_126_15, v_126_18, v_126_19, v_126_22, v_126_23, v_126_25, v_126_26, v_126_29, v_126_30, v_126_33, v_126_34, v_126_36, v_126_37, v_126_40, v_126_41, v_126_44, v_126_45, v_126_47, v_126_48, v_126_50, v_126_51, v_126_53, h_126_53, v_126_55, v_126_56, v_126_59, v_126_62, v_126_65, v_126_67, v_126_70, v_126_72, v_126_73, v_126_75, v_126_76, v_126_77, v_126_79, v_126_80, v_126_82, v_126_84, v_126_85, v_126_88, v_126_89, v_126_92, v_126_93, v_126_96, v_126_97, v_126_100, v_126_102, v_126_103, v_126_104, v_126_107, v_126_108, v_126_111, v_126_112, v_126_114, v_126_117, v_126_119, v_126_121, v_126_124, v_126_125, v_126_128, v_126_129, v_126_132, v_126_134, v_126_135, v_126_137, v_126_140, v_126_143, v_126_144, v_126_147, v_126_148, v_126_149, v_126_150, v_126_151, v_126_154, v_126_155, v_126_156, v_126_157, v_126_158, v_126_161, v_126_163, v_126_164, vgi_0, vgi_s, vga_0, vga_s, vset_0, vset_s, vtk_0, vtk_s, vrc_0, vsw_0, vsw_s, List.all_cons, List.all_nil, zc1_i, zc1_r, Bool.and_true, Bool.and_self, true_and, and_true, List.length_cons, List.length_nil, Nat.zero_le, Nat.reduceLeDiff, Nat.reduceAdd, Option.toList_none, List.nil_append]
  have hcs : cs t (tfl t 46 0 6 0) := ⟨rfl, fun b k hb _ => by
    show (if b = 46 ∧ 0 ≤ k ∧ k < 6 then (0 : Int32) else t.1 b k) = _
    rw [if_neg (fun z => hb z.1)]⟩
  have h0 : ∀ v, v < n → (tfl t 46 0 6 0).1 46 v = 0 := fun v hv => by
    show (if 46 = 46 ∧ 0 ≤ v ∧ v < 6 then (0 : Int32) else t.1 46 v) = _
    rw [if_pos ⟨rfl, by omega, by omega⟩]
  refine l_126 (d := d - 1) (by omega) hq he hi hk hE h n 0 _ (nI (e (va q i))) 1 0 (fun _ => False) (by omega) hcs ⟨by omega, fun v _ _ => Nat.zero_testBit v, fun v hv => hv.elim, fun v hv => (by rw [h0 v hv]; exact tri_0), fun v hv h1 => (by rw [h0 v hv] at h1; exact absurd h1 (by decide)), fun v hv h1 => absurd (h0 v hv) h1, fun w hw hb => (by rw [Nat.zero_testBit] at hb; cases hb), fun w hw hb => (by rw [Nat.zero_testBit] at hb; cases hb), fun w hw hb => (by rw [Nat.zero_testBit] at hb; cases hb)⟩ (by decide +kernel) (fun z => absurd z (by omega)) (Or.inr ⟨e (va q i), rfl, hea.1, Nat.zero_testBit _, Or.inl ⟨rfl, rfl, rfl⟩⟩)
/-- valueOf, for every formula -/
theorem EV_all (hm : m ≤ 40) (hw : ∀ i, i < m → fwf q i) : ∀ (i : Nat), i < m → ∀ (d : Nat), 6 * dp q i + 8 ≤ d → EVC q m i d := by
  intro i
  induction i using Nat.strongRecOn with
  | ind i ih =>
    intro hi d hd
    have hwi := hw i hi
    have w3 := hwi.2.2.2.2.2.2.2.2.2.2.2.1
    have w45 := hwi.2.2.2.2.2.2.2.2.2.2.2.2.2.1
    refine c_123 (by omega) hi (fun hk => ?_) (fun hk => ?_) (fun hk => ?_)
    · obtain ⟨-, p1, p2, -⟩ := w3 hk
      exact ⟨ih _ p1 (by omega) (d - 1) (by omega), ih _ p1 (by omega) (d - 2) (by omega)⟩
    · obtain ⟨-, p1, p2, -⟩ := w45 hk
      exact ih _ p1 (by omega) (d - 1) (by omega)
    · obtain ⟨-, p1, p2, -⟩ := w3 (by omega)
      exact c_126 (by omega) hi hk (ih _ p1 (by omega) (d - 1 - 2) (by omega))
/-- evaluate: the structure and the first two variables are laid down, then valueOf -/
theorem c_122 {x y : Int32} (hd : 40 ≤ d) (hq : evp (tsr t 44 3 a) q m a f n) (hi : i < m) (he : ∀ v, fb q i v → (v = 0 ∧ x = nI (e 0) ∧ e 0 < n) ∨ (v = 1 ∧ y = nI (e 1) ∧ e 1 < n)) (h : ∀ t', t'.2 = (tsr t 44 3 a).2 → (∀ b k, b ≠ 45 → b ≠ 46 → t'.1 b k = t.1 b k) → F (some (.int (EV q f n i e))) t') : twc d 122 [.ref 44, .ref a, .int (nI i), .int x, .int y] t F := by
  have hm := hq.1
  refine ⟨by omega, ?_⟩
  rw [ze_122]
  refine vc_ok none zH_122 30 false _ 122 0 _ _ _ _ ?_
  simp only [v_122_0, v_122_1, v_122_2, v_122_5, v_122_6, v_122_9, v_122_10, v_122_11, v_122_12, v_122_13, v_122_16, v_122_17, v_122_19, v_122_20, v_122_21, v_122_22, v_122_25, v_122_26, v_122_27, v_122_30, vgi_0, vgi_s, vga_0, vga_s, vset_0, vset_s, vtk_0, vtk_s, vrc_0, vsw_0, vsw_s, List.all_cons, List.all_nil, zc1_i, zc1_r, Bool.and_true, Bool.and_self, true_and, and_true, List.length_cons, List.length_nil, Nat.zero_le, Nat.reduceLeDiff, Nat.reduceAdd, tg_44, tm_44_3, tf_44_1, tg_45, ln_45, tf_44_0, tg_3, ln_3]
  simp (disch := omega) only [li0, li1, nI_clamp, vinb_n, tf_3]
  refine ⟨by omega, by omega, by omega, by omega, ?_⟩
  have hq2 : evp (tsi (tsi (tsr t 44 3 a) 45 0 x) 45 1 y) q m a f n := hq.keep rfl (fun b k h1 h2 => by rw [tsi_ne (fun z => h1 z.1), tsi_ne (fun z => h1 z.1)])
  have hdp : dp q i ≤ 4 := (hq.2.1 i hi).2.2.2.1
  refine EV_all hm hq.2.1 i hi (d - 1) (by omega) _ a n f e _ hq2 (fun v hv => ?_) (fun t' ht => ?_)
  · rcases he v hv with ⟨rfl, h1, h2⟩ | ⟨rfl, h1, h2⟩
    · exact ⟨h2, by rw [tsi_ne (by omega), tsi_eq]; exact h1⟩
    · exact ⟨h2, by rw [tsi_eq]; exact h1⟩
  · simp only [v_122_0, v_122_1, v_122_2, v_122_5, v_122_6, v_122_9, v_122_10, v_122_11, v_122_12, v_122_13, v_122_16, v_122_17, v_122_19, v_122_20, v_122_21, v_122_22, v_122_25, v_122_26, v_122_27, v_122_30, vgi_0, vgi_s, vga_0, vga_s, vset_0, vset_s, vtk_0, vtk_s, vrc_0, vsw_0, vsw_s, List.all_cons, List.all_nil, zc1_i, zc1_r, Bool.and_true, Bool.and_self, true_and, and_true, List.length_cons, List.length_nil, Nat.zero_le, Nat.reduceLeDiff, Nat.reduceAdd, Option.toList_some, List.cons_append, List.nil_append]
    have hc := ht.cl
    refine h t' (hc.1.trans rfl) (fun b k h1 h2 => ?_)
    rw [hc.2 b k h2, tsi_ne (fun z => h1 z.1), tsi_ne (fun z => h1 z.1)]
    rfl
end CLB
