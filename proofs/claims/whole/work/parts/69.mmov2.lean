/-! The reference moves: structure after structure. -/
section MM2
variable {d s : Nat} {t : T} {F : Option Value → T → Prop} {q : FT} {m n rc e : Nat} {ru : Nat → Nat → Nat} {E : Nat → Nat}
def mfq (t : T) (q : FT) (m : Nat) : Prop := (∃ q', m ≤ 40 ∧ (∀ i, i < m → fwf q' i) ∧ (∀ i k, i < m → k < 8 → t.1 (485 + k) i = q' i k) ∧ ∀ i, i < m → tgr q' q i) ∧ ∀ i, i < m → fwf q i
theorem mfq.v {f : St} (h : mfq t q m) (hs : s < 184) (hf : mS t s = f) (hw : wfS f) (hn : f 0 = nI n) (hn6 : n ≤ 6) : mvq t q m s f n := by
  obtain ⟨⟨q', a1, a2, a3, a4⟩, b⟩ := h
  exact ⟨⟨q', ⟨a1, a2, a3, hs, hf, hw, hn, hn6⟩, a4⟩, b⟩
theorem mfq.k {t' : T} (h : mfq t q m) (h2 : ∀ b k, 485 ≤ b → b ≤ 492 → t'.1 b k = t.1 b k) : mfq t' q m := by
  obtain ⟨⟨q', a1, a2, a3, a4⟩, b⟩ := h
  refine ⟨⟨q', a1, a2, fun i k hi hk => ?_, a4⟩, b⟩
  rw [h2 _ _ (by omega) (by omega)]; exact a3 i k hi hk
def wkS : Nat → Prop := fun x => 140 ≤ x ∧ x ≤ 182
/-- what a move needs of the memory -/
def mvm (t : T) (q : FT) (m : Nat) (ru : Nat → Nat → Nat) (rc e : Nat) (E : Nat → Nat) : Prop := mfq t q m ∧ mrl t ru rc ∧ med t e E
theorem mvm.k {t' : T} (h : mvm t q m ru rc e E) (hO : mW mEb wkS t t') : mvm t' q m ru rc e E := by
  have k1 : ∀ b k, 485 ≤ b → b < 506 → t'.1 b k = t.1 b k := fun b k h1 h2 => hO.1.2.1 b (by omega) (fun z => by
    rcases z with z | z
    · have := z.1; omega
    · omega) k
  refine ⟨h.1.k (fun b k h1 h2 => k1 b k h1 (by omega)), ⟨by rw [hO.2 10 (by omega)]; exact h.2.1.1, fun r hr => ?_⟩, h.2.2.k (fun b k h1 h2 => k1 b k (by omega) (by omega))⟩
  rw [k1 493 _ (by omega) (by omega), k1 494 _ (by omega) (by omega), k1 495 _ (by omega) (by omega)]
  exact h.2.1.2 r hr
theorem wkE {P : Nat → Prop} {t' : T} (h : mG mEb P t t') (hP : ∀ x, P x → wkS x) : mW mEb wkS t t' := mW.of h (fun z => by have := z.1; omega) (fun b z => z) hP
theorem wk0 {P : Nat → Prop} {t' : T} (h : mG noA P t t') (hP : ∀ x, P x → wkS x) : mW mEb wkS t t' := mW.of h (fun z => z) (fun b z => z.elim) hP
theorem l_90 {f : St} {sv : Int32} {m6 : Value} {Lf : List St} (hd : 11 ≤ d) (he : e < 8) (hr : rwf q m ru rc) (hE : ewf q m E) (hv : mvm t q m ru rc e E) (h40 : Lf.length ≤ 40) (hwf : ∀ x, x ∈ Lf → wfS x) (hwk : t.1 483 26 = nI Lf.length) (kf : MVA q ru rc E Lf [] none → ∀ t', mW mEb wkS t t' → F (some (.int (-3))) t') (k1 : ∀ K, MVA q ru rc E Lf [] (some K) → ∀ t', mW mEb wkS t t' → mL t' K → F (some (.int (nI K.length))) t') : ∀ (R K : List St) (i : Nat) (t' : T) (m6 : Value), i + R.length = Lf.length → K.length ≤ i → (∀ x, x ∈ R → wfS x) → mW mEb wkS t t' → t'.1 483 26 = nI Lf.length → mL t' K → (∀ k, k < R.length → mS t' (140 + (i + k)) = R.getD k z0) → (∀ r, MVA q ru rc E R K r → MVA q ru rc E Lf [] r) → twp none d 90 42 [.ref 483, .int (nI e), .int sv, .int (nI (E 2 + 16 * E 3 + 256 * E 4)), .int (nI K.length), .int (nI i), m6] [] t' F := by
  intro R
  induction R with
  | nil =>
    intro K i t' m6 hi hK hR hO h26 hmL hrow hb
    have hi : i = Lf.length := by simpa using hi
    refine vc_ok none zH_90 82 false _ 90 42 _ _ _ _ ?_
    simp only [v_90_0, v_90_1, v_90_2, v_90_5, v_90_8, v_90_9, v_90_12, v_90_13, v_90_14, v_90_15, v_90_16, v_90_17, v_90_19, v_90_20, v_90_21, v_90_23, v_90_24, v_90_26, v_90_27, v_90_30, v_90_33, v_90_35, v_90_36, v_90_37, v_90_39, v_90_40, v_90_42, h_90_42, v_90_44, v_90_45, v_90_48, v_90_51, v_90_54, v_90_56, v_90_57, v_90_59, v_90_60, v_90_62, v_90_63, v_90_66, v_90_67, v_90_68, v_90_69, v_90_70, v_90_73, v_90_76, v_90_77, v_90_80, v_90_83, v_90_84, v_90_86, v_90_89, v_90_92, v_90_94, v_90_95, v_90_96, v_90_98, v_90_99, v_90_102, v_90_103, v_90_105, v_90_108, v_90_111, v_90_112, v_90_114, v_90_117, v_90_119, v_90_120, v_90_123, v_90_126, v_90_129, v_90_132, v_90_134, vgi_0, vgi_s, vga_0, vga_s, vset_0, vset_s, vtk_0, vtk_s, vrc_0, vsw_0, vsw_s, List.all_cons, List.all_nil, zc1_i, zc1_r, Bool.and_true, Bool.and_self, true_and, and_true, List.length_cons, List.length_nil, Nat.zero_le, Nat.reduceLeDiff, Nat.reduceAdd, Nat.reduceLT, tg_483, h26]
    simp (disch := omega) only [nI_ltI]
    rw [if_neg (by omega)]
    exact k1 K (hb _ rfl) t' hO hmL
  | cons x R ih =>
    intro K i t' m6 hi hK hR hO h26 hmL hrow hb
    simp only [List.length_cons] at hi
    have hwx := hR x (List.mem_cons_self ..)
    obtain ⟨hn, hn6⟩ := hwx.n
    have hx : mS t' (140 + i) = x := hrow 0 (by simp)
    have hv' := hv.k hO
    have hmv : mvq t' q m (140 + i) x (sn x) := hv'.1.v (by omega) hx hwx hn hn6
    have h499 := hv'.2.2.2.2.2.1
    have e5 : E 5 < m := hE.2.2.2.2.2.2.1
    have e5f : fr q (E 5) = 0 := hE.2.2.2.2.2.2.2.1
    have e4 : E 4 < 2 := hE.2.2.2.2.2.1
    have e28 := hE.2.2.1
    have e316 : E 3 < 16 := hE.2.2.2.2.1
    have hR' : ∀ y, y ∈ R → wfS y := fun y hy => hR y (List.mem_cons_of_mem _ hy)
    have nofr : ∀ v, ¬ fb q (E 5) v := fun v hv => by unfold fb at hv; rw [e5f, Nat.zero_testBit] at hv; cases hv
    have m40 := hmv.m40
    have skip : ∀ (t2 : T) (m6 : Value), mW mEb wkS t' t2 → (∀ k, k ≠ 140 + i → k ≠ 182 → mS t2 k = mS t' k) → t2.1 483 26 = nI Lf.length → MO1 q ru rc E x (some none) → twp none d 90 42 [.ref 483, .int (nI e), .int sv, .int (nI (E 2 + 16 * E 3 + 256 * E 4)), .int (nI K.length), .int (nI (i + 1)), m6] [] t2 F := by
      intro t2 m6 o2 r2 w2 hmo
      refine ih K (i + 1) t2 m6 (by omega) (by omega) hR' (hO.tr o2) w2 (fun k hk => ?_) (fun k hk => ?_) (fun r hr => hb r ⟨_, hmo, Or.inr (Or.inl ⟨rfl, hr⟩)⟩)
      · rw [r2 _ (by omega) (by omega)]; exact hmL k hk
      · rw [r2 _ (by omega) (by omega), show i + 1 + k = i + (k + 1) by omega, hrow (k + 1) (by simp; omega)]; rfl
    have go : ∀ (t2 : T), mW mEb wkS t' t2 → (∀ k, k ≠ 140 + i → k ≠ 182 → mS t2 k = mS t' k) → t2.1 483 26 = nI Lf.length → mS t2 (140 + i) = crx E x (sn x) → EV q x (sn x) (E 5) (e2 0 0) ≠ 0 → ¬ (E 4 = 1 ∧ sn x = 6) → twc d 89 [.ref 483, .int (nI (140 + i)), .int (nI e)] t2 (fun r t3 => ∃ g, r = none ∧ mW mEb wkS t' t3 ∧ (∀ k, k ≠ 140 + i → k ≠ 182 → mS t3 k = mS t' k) ∧ t3.1 483 26 = nI Lf.length ∧ mS t3 (140 + i) = g ∧ CHS q (crx E x (sn x)) (nx E (sn x)) E (E 6) g ∧ mvq t3 q m (140 + i) g (nx E (sn x)) ∧ mrl t3 ru rc) := by
      intro t2 o2 r2 w2 hc hev hno
      have cw := crx_wf hwx hn hn6 hno
      have hv2 := hv'.k o2
      refine c_89 (by omega) (by omega) (by omega) he (hv2.1.v (by omega) hc cw.1 cw.2.1 cw.2.2) hE hv2.2.2 (fun t3 o3 h3 => ?_)
      have o3' : mW mEb wkS t2 t3 := wkE o3 (fun x hx => by unfold spR at hx; unfold wkS; omega)
      have hw3 := CHS_wf hv2.1.2 cw.1 cw.2.1 cw.2.2 hE _ _ (Nat.le_refl _) h3
      have hv3 := hv2.k o3'
      refine ⟨mS t3 (140 + i), rfl, o2.tr o3', fun k h1 h2 => ?_, ?_, rfl, h3, hv3.1.v (by omega) rfl hw3.1 hw3.2 cw.2.2, hv3.2.1⟩
      · rw [o3.2.2 k (by unfold spR; omega)]; exact r2 k h1 h2
      · rw [o3.2.1 483 (by omega) (fun z => by have := z.1; omega)]; exact w2
    have rest : ∀ (t2 : T) (m6 : Value) (g : St), mW mEb wkS t' t2 → (∀ k, k ≠ 140 + i → k ≠ 182 → mS t2 k = mS t' k) → t2.1 483 26 = nI Lf.length → mS t2 (140 + i) = g → wfS g → MO1 q ru rc E x (some (some g)) → twc d 44 [.ref 483, .int (nI (140 + i)), .int (nI (140 + K.length))] t2 (fun r t3 => r = none ∧ twp none d 90 42 [.ref 483, .int (nI e), .int sv, .int (nI (E 2 + 16 * E 3 + 256 * E 4)), .int (nI (K.length + 1)), .int (nI (i + 1)), m6] [] t3 F) := by
      intro t2 m6 g o2 r2 w2 hg hwg hmo
      refine c_44g (A := noA) (P := only (140 + K.length)) (by omega) (by omega) (by omega) (by rw [hg]; exact hwg.b) rfl (fun t3 o3 e3 => ⟨rfl, ?_⟩)
      have hKl : (K ++ [g]).length = K.length + 1 := by simp
      have := ih (K ++ [g]) (i + 1) t3 m6 (by omega) (by omega) hR' ((hO.tr o2).tr (wk0 o3 (fun x hx => by rw [hx]; unfold wkS; omega))) (by rw [o3.2.1 483 (by omega) (fun z => z)]; exact w2) (fun k hk => ?_) (fun k hk => ?_) (fun r hr => hb r ⟨_, hmo, Or.inr (Or.inr ⟨g, rfl, hr⟩)⟩)
      · rw [hKl] at this; exact this
      · rw [e3]
        by_cases z : k = K.length
        · rw [if_pos (by omega), hg, z, gd_app_ge (Nat.le_refl _), Nat.sub_self]; rfl
        · have hk2 : k < K.length := by omega
          rw [if_neg (by omega), gd_app_lt hk2, r2 _ (by omega) (by omega)]; exact hmL k hk2
      · rw [e3, if_neg (by omega), r2 _ (by omega) (by omega), show i + 1 + k = i + (k + 1) by omega, hrow (k + 1) (by simp; omega)]; rfl
    have co : ∀ (t3 : T) (m6 : Value) (g : St), EV q x (sn x) (E 5) (e2 0 0) ≠ 0 → ¬ (E 4 = 1 ∧ sn x = 6) → mW mEb wkS t' t3 → (∀ k, k ≠ 140 + i → k ≠ 182 → mS t3 k = mS t' k) → t3.1 483 26 = nI Lf.length → mS t3 (140 + i) = g → CHS q (crx E x (sn x)) (nx E (sn x)) E (E 6) g → mvq t3 q m (140 + i) g (nx E (sn x)) → mrl t3 ru rc → twc d 83 [.ref 483, .int (nI (140 + i))] t3 (fun r t4 => (r = some (.int 0) ∧ twp none d 90 42 [.ref 483, .int (nI e), .int sv, .int (nI (E 2 + 16 * E 3 + 256 * E 4)), .int (nI K.length), .int (nI (i + 1)), m6] [] t4 F) ∨ (r = some (.int 1) ∧ twc d 44 [.ref 483, .int (nI (140 + i)), .int (nI (140 + K.length))] t4 (fun r t3 => r = none ∧ twp none d 90 42 [.ref 483, .int (nI e), .int sv, .int (nI (E 2 + 16 * E 3 + 256 * E 4)), .int (nI (K.length + 1)), .int (nI (i + 1)), m6] [] t3 F))) := by
      intro t3 m6 g hev hno o3 r3 w3 hg hch hm3 hr3
      have fr : ∀ t4, mG mEb (only (140 + i)) t3 t4 → mW mEb wkS t' t4 ∧ (∀ k, k ≠ 140 + i → k ≠ 182 → mS t4 k = mS t' k) ∧ t4.1 483 26 = nI Lf.length := fun t4 o4 => ⟨o3.tr (wkE o4 (fun x hx => by rw [hx]; unfold wkS; omega)), fun k h1 h2 => by rw [o4.2.2 k (by unfold only; omega)]; exact r3 k h1 h2, by rw [o4.2.1 483 (by omega) (fun z => by have := z.1; omega)]; exact w3⟩
      refine c_83 (by omega) hr hr3 hm3 (fun t4 o4 c4 => Or.inl ⟨rfl, ?_⟩) (fun t4 o4 c4 => Or.inr ⟨rfl, ?_⟩)
      · obtain ⟨f1, f2, f3⟩ := fr t4 o4
        exact skip t4 m6 f1 f2 f3 ⟨sn x, hn, hn6, Or.inr (Or.inr ⟨hev, hno, g, none, hch, c4, rfl⟩)⟩
      · obtain ⟨f1, f2, f3⟩ := fr t4 o4
        obtain ⟨⟨k4, s4⟩, -⟩ := id c4
        have w4 := (stk.ok hr hm3.wf hm3.cnt hm3.n6 k4 _ s4).1
        exact rest t4 m6 _ f1 f2 f3 rfl w4 ⟨sn x, hn, hn6, Or.inr (Or.inr ⟨hev, hno, g, some _, hch, c4, rfl⟩)⟩
    have h256 : (nI (E 2 + 16 * E 3 + 256 * E 4) < 256) = (E 4 = 0) := by
      rw [show (256 : Int32) = nI 256 from rfl, nI_ltI (by omega) (by omega)]
      exact propext ⟨fun h => by omega, fun h => by omega⟩
    refine vc_ok none zH_90 82 false _ 90 42 _ _ _ _ ?_
    simp only [v_90_0, v_90_1, v_90_2, v_90_5, v_90_8, v_90_9, v_90_12, v_90_13, v_90_14, v_90_15, v_90_16, v_90_17, v_90_19, v_90_20, v_90_21, v_90_23, v_90_24, v_90_26, v_90_27, v_90_30, v_90_33, v_90_35, v_90_36, v_90_37, v_90_39, v_90_40, v_90_42, h_90_42, v_90_44, v_90_45, v_90_48, v_90_51, v_90_54, v_90_56, v_90_57, v_90_59, v_90_60, v_90_62, v_90_63, v_90_66, v_90_67, v_90_68, v_90_69, v_90_70, v_90_73, v_90_76, v_90_77, v_90_80, v_90_83, v_90_84, v_90_86, v_90_89, v_90_92, v_90_94, v_90_95, v_90_96, v_90_98, v_90_99, v_90_102, v_90_103, v_90_105, v_90_108, v_90_111, v_90_112, v_90_114, v_90_117, v_90_119, v_90_120, v_90_123, v_90_126, v_90_129, v_90_132, v_90_134, vgi_0, vgi_s, vga_0, vga_s, vset_0, vset_s, vtk_0, vtk_s, vrc_0, vsw_0, vsw_s, List.all_cons, List.all_nil, zc1_i, zc1_r, Bool.and_true, Bool.and_self, true_and, and_true, List.length_cons, List.length_nil, Nat.zero_le, Nat.reduceLeDiff, Nat.reduceAdd, Nat.reduceLT, tg_483, h26, tf_483_18, tg_499, ln_499]
    simp (disch := omega) only [nI_ltI, li140, nI_add, nI_clamp, vinb_n, h499]
    rw [if_pos (by omega)]
    refine ⟨by omega, ?_⟩
    refine c_68q (x := 0) (y := 0) (by omega) hmv e5 (by omega) (by omega) (fun v hv => absurd hv (nofr v)) (fun t2 o2 => ?_)
    have oF : mG mEb (fun _ => False) t' t2 := mG.tX o2
    have o2 : mW mEb wkS t' t2 := wkE oF (fun x hx => hx.elim)
    have r2 : ∀ k, mS t2 k = mS t' k := fun k => oF.2.2 k (fun z => z)
    have w2 : t2.1 483 26 = nI Lf.length := by rw [oF.2.1 483 (by omega) (fun z => by have := z.1; omega)]; exact h26
    simp only [v_90_0, v_90_1, v_90_2, v_90_5, v_90_8, v_90_9, v_90_12, v_90_13, v_90_14, v_90_15, v_90_16, v_90_17, v_90_19, v_90_20, v_90_21, v_90_23, v_90_24, v_90_26, v_90_27, v_90_30, v_90_33, v_90_35, v_90_36, v_90_37, v_90_39, v_90_40, v_90_42, h_90_42, v_90_44, v_90_45, v_90_48, v_90_51, v_90_54, v_90_56, v_90_57, v_90_59, v_90_60, v_90_62, v_90_63, v_90_66, v_90_67, v_90_68, v_90_69, v_90_70, v_90_73, v_90_76, v_90_77, v_90_80, v_90_83, v_90_84, v_90_86, v_90_89, v_90_92, v_90_94, v_90_95, v_90_96, v_90_98, v_90_99, v_90_102, v_90_103, v_90_105, v_90_108, v_90_111, v_90_112, v_90_114, v_90_117, v_90_119, v_90_120, v_90_123, v_90_126, v_90_129, v_90_132, v_90_134, vgi_0, vgi_s, vga_0, vga_s, vset_0, vset_s, vtk_0, vtk_s, vrc_0, vsw_0, vsw_s, List.all_cons, List.all_nil, zc1_i, zc1_r, Bool.and_true, Bool.and_self, true_and, and_true, List.length_cons, List.length_nil, Nat.zero_le, Nat.reduceLeDiff, Nat.reduceAdd, Nat.reduceLT, Option.toList_some, List.cons_append, List.nil_append, tg_483, h256]
    by_cases hev : EV q x (sn x) (E 5) (e2 0 0) = 0
    · rw [if_pos hev, nI_1]
      exact skip t2 _ o2 (fun k _ _ => r2 k) w2 ⟨sn x, hn, hn6, Or.inl ⟨hev, rfl⟩⟩
    · rw [if_neg hev]
      by_cases e40 : E 4 = 0
      · rw [if_pos e40]
        have hno : ¬ (E 4 = 1 ∧ sn x = 6) := fun z => by omega
        refine twc.mono (go t2 o2 (fun k _ _ => r2 k) w2 (by rw [r2, hx]; unfold crx; rw [if_neg (by omega)]) hev hno) (fun r t3 hr3 => ?_)
        obtain ⟨g, rfl, p1, p2, p3, p4, p5, p6, p7⟩ := hr3
        simp only [v_90_0, v_90_1, v_90_2, v_90_5, v_90_8, v_90_9, v_90_12, v_90_13, v_90_14, v_90_15, v_90_16, v_90_17, v_90_19, v_90_20, v_90_21, v_90_23, v_90_24, v_90_26, v_90_27, v_90_30, v_90_33, v_90_35, v_90_36, v_90_37, v_90_39, v_90_40, v_90_42, h_90_42, v_90_44, v_90_45, v_90_48, v_90_51, v_90_54, v_90_56, v_90_57, v_90_59, v_90_60, v_90_62, v_90_63, v_90_66, v_90_67, v_90_68, v_90_69, v_90_70, v_90_73, v_90_76, v_90_77, v_90_80, v_90_83, v_90_84, v_90_86, v_90_89, v_90_92, v_90_94, v_90_95, v_90_96, v_90_98, v_90_99, v_90_102, v_90_103, v_90_105, v_90_108, v_90_111, v_90_112, v_90_114, v_90_117, v_90_119, v_90_120, v_90_123, v_90_126, v_90_129, v_90_132, v_90_134, vgi_0, vgi_s, vga_0, vga_s, vset_0, vset_s, vtk_0, vtk_s, vrc_0, vsw_0, vsw_s, List.all_cons, List.all_nil, zc1_i, zc1_r, Bool.and_true, Bool.and_self, true_and, and_true, List.length_cons, List.length_nil, Nat.zero_le, Nat.reduceLeDiff, Nat.reduceAdd, Nat.reduceLT, Option.toList_none, List.nil_append, tg_483]
        refine twc.mono (co t3 (.int (nI (140 + i))) g hev hno p1 p2 p3 p4 p5 p6 p7) (fun r t4 hr4 => ?_)
        rcases hr4 with ⟨rfl, hk⟩ | ⟨rfl, hk⟩
        · simp only [v_90_0, v_90_1, v_90_2, v_90_5, v_90_8, v_90_9, v_90_12, v_90_13, v_90_14, v_90_15, v_90_16, v_90_17, v_90_19, v_90_20, v_90_21, v_90_23, v_90_24, v_90_26, v_90_27, v_90_30, v_90_33, v_90_35, v_90_36, v_90_37, v_90_39, v_90_40, v_90_42, h_90_42, v_90_44, v_90_45, v_90_48, v_90_51, v_90_54, v_90_56, v_90_57, v_90_59, v_90_60, v_90_62, v_90_63, v_90_66, v_90_67, v_90_68, v_90_69, v_90_70, v_90_73, v_90_76, v_90_77, v_90_80, v_90_83, v_90_84, v_90_86, v_90_89, v_90_92, v_90_94, v_90_95, v_90_96, v_90_98, v_90_99, v_90_102, v_90_103, v_90_105, v_90_108, v_90_111, v_90_112, v_90_114, v_90_117, v_90_119, v_90_120, v_90_123, v_90_126, v_90_129, v_90_132, v_90_134, vgi_0, vgi_s, vga_0, vga_s, vset_0, vset_s, vtk_0, vtk_s, vrc_0, vsw_0, vsw_s, List.all_cons, List.all_nil, zc1_i, zc1_r, Bool.and_true, Bool.and_self, true_and, and_true, List.length_cons, List.length_nil, Nat.zero_le, Nat.reduceLeDiff, Nat.reduceAdd, Nat.reduceLT, Option.toList_some, List.cons_append, List.nil_append]
          rw [if_pos trivial, nI_1]
          exact hk
        · simp only [v_90_0, v_90_1, v_90_2, v_90_5, v_90_8, v_90_9, v_90_12, v_90_13, v_90_14, v_90_15, v_90_16, v_90_17, v_90_19, v_90_20, v_90_21, v_90_23, v_90_24, v_90_26, v_90_27, v_90_30, v_90_33, v_90_35, v_90_36, v_90_37, v_90_39, v_90_40, v_90_42, h_90_42, v_90_44, v_90_45, v_90_48, v_90_51, v_90_54, v_90_56, v_90_57, v_90_59, v_90_60, v_90_62, v_90_63, v_90_66, v_90_67, v_90_68, v_90_69, v_90_70, v_90_73, v_90_76, v_90_77, v_90_80, v_90_83, v_90_84, v_90_86, v_90_89, v_90_92, v_90_94, v_90_95, v_90_96, v_90_98, v_90_99, v_90_102, v_90_103, v_90_105, v_90_108, v_90_111, v_90_112, v_90_114, v_90_117, v_90_119, v_90_120, v_90_123, v_90_126, v_90_129, v_90_132, v_90_134, vgi_0, vgi_s, vga_0, vga_s, vset_0, vset_s, vtk_0, vtk_s, vrc_0, vsw_0, vsw_s, List.all_cons, List.all_nil, zc1_i, zc1_r, Bool.and_true, Bool.and_self, true_and, and_true, List.length_cons, List.length_nil, Nat.zero_le, Nat.reduceLeDiff, Nat.reduceAdd, Nat.reduceLT, Option.toList_some, List.cons_append, List.nil_append, tg_483]
          rw [if_neg (by decide)]
          simp (disch := omega) only [li140, nI_add]
          refine twc.mono hk (fun r t5 hr5 => ?_)
          obtain ⟨rfl, hk5⟩ := hr5
          simp only [v_90_0, v_90_1, v_90_2, v_90_5, v_90_8, v_90_9, v_90_12, v_90_13, v_90_14, v_90_15, v_90_16, v_90_17, v_90_19, v_90_20, v_90_21, v_90_23, v_90_24, v_90_26, v_90_27, v_90_30, v_90_33, v_90_35, v_90_36, v_90_37, v_90_39, v_90_40, v_90_42, h_90_42, v_90_44, v_90_45, v_90_48, v_90_51, v_90_54, v_90_56, v_90_57, v_90_59, v_90_60, v_90_62, v_90_63, v_90_66, v_90_67, v_90_68, v_90_69, v_90_70, v_90_73, v_90_76, v_90_77, v_90_80, v_90_83, v_90_84, v_90_86, v_90_89, v_90_92, v_90_94, v_90_95, v_90_96, v_90_98, v_90_99, v_90_102, v_90_103, v_90_105, v_90_108, v_90_111, v_90_112, v_90_114, v_90_117, v_90_119, v_90_120, v_90_123, v_90_126, v_90_129, v_90_132, v_90_134, vgi_0, vgi_s, vga_0, vga_s, vset_0, vset_s, vtk_0, vtk_s, vrc_0, vsw_0, vsw_s, List.all_cons, List.all_nil, zc1_i, zc1_r, Bool.and_true, Bool.and_self, true_and, and_true, List.length_cons, List.length_nil, Nat.zero_le, Nat.reduceLeDiff, Nat.reduceAdd, Nat.reduceLT, Option.toList_none, List.nil_append]
          rw [nI_1, nI_1]
          exact hk5
      · rw [if_neg e40]
        have e41 : E 4 = 1 := by omega
        refine c_88 (by omega) (by omega) (by rw [r2]; exact hx) hn hn6 (fun n6 => ?_) (fun n6 t3 o3 c3 => ?_)
        · simp only [v_90_0, v_90_1, v_90_2, v_90_5, v_90_8, v_90_9, v_90_12, v_90_13, v_90_14, v_90_15, v_90_16, v_90_17, v_90_19, v_90_20, v_90_21, v_90_23, v_90_24, v_90_26, v_90_27, v_90_30, v_90_33, v_90_35, v_90_36, v_90_37, v_90_39, v_90_40, v_90_42, h_90_42, v_90_44, v_90_45, v_90_48, v_90_51, v_90_54, v_90_56, v_90_57, v_90_59, v_90_60, v_90_62, v_90_63, v_90_66, v_90_67, v_90_68, v_90_69, v_90_70, v_90_73, v_90_76, v_90_77, v_90_80, v_90_83, v_90_84, v_90_86, v_90_89, v_90_92, v_90_94, v_90_95, v_90_96, v_90_98, v_90_99, v_90_102, v_90_103, v_90_105, v_90_108, v_90_111, v_90_112, v_90_114, v_90_117, v_90_119, v_90_120, v_90_123, v_90_126, v_90_129, v_90_132, v_90_134, vgi_0, vgi_s, vga_0, vga_s, vset_0, vset_s, vtk_0, vtk_s, vrc_0, vsw_0, vsw_s, List.all_cons, List.all_nil, zc1_i, zc1_r, Bool.and_true, Bool.and_self, true_and, and_true, List.length_cons, List.length_nil, Nat.zero_le, Nat.reduceLeDiff, Nat.reduceAdd, Nat.reduceLT, Option.toList_some, List.cons_append, List.nil_append]
          rw [if_pos trivial]
          exact kf (hb _ ⟨none, ⟨sn x, hn, hn6, Or.inr (Or.inl ⟨hev, ⟨e41, n6⟩, rfl⟩)⟩, Or.inl ⟨rfl, rfl⟩⟩) t2 (hO.tr o2)
        · have hno : ¬ (E 4 = 1 ∧ sn x = 6) := fun z => by omega
          simp only [v_90_0, v_90_1, v_90_2, v_90_5, v_90_8, v_90_9, v_90_12, v_90_13, v_90_14, v_90_15, v_90_16, v_90_17, v_90_19, v_90_20, v_90_21, v_90_23, v_90_24, v_90_26, v_90_27, v_90_30, v_90_33, v_90_35, v_90_36, v_90_37, v_90_39, v_90_40, v_90_42, h_90_42, v_90_44, v_90_45, v_90_48, v_90_51, v_90_54, v_90_56, v_90_57, v_90_59, v_90_60, v_90_62, v_90_63, v_90_66, v_90_67, v_90_68, v_90_69, v_90_70, v_90_73, v_90_76, v_90_77, v_90_80, v_90_83, v_90_84, v_90_86, v_90_89, v_90_92, v_90_94, v_90_95, v_90_96, v_90_98, v_90_99, v_90_102, v_90_103, v_90_105, v_90_108, v_90_111, v_90_112, v_90_114, v_90_117, v_90_119, v_90_120, v_90_123, v_90_126, v_90_129, v_90_132, v_90_134, vgi_0, vgi_s, vga_0, vga_s, vset_0, vset_s, vtk_0, vtk_s, vrc_0, vsw_0, vsw_s, List.all_cons, List.all_nil, zc1_i, zc1_r, Bool.and_true, Bool.and_self, true_and, and_true, List.length_cons, List.length_nil, Nat.zero_le, Nat.reduceLeDiff, Nat.reduceAdd, Nat.reduceLT, Option.toList_some, List.cons_append, List.nil_append, tg_483]
          rw [if_neg (by decide)]
          refine twc.mono (go t3 (o2.tr (wk0 o3 (fun x hx => by rw [hx]; unfold wkS; omega))) (fun k h1 _ => by rw [o3.2.2 k (by unfold only; exact h1)]; exact r2 k) (by rw [o3.2.1 483 (by omega) (fun z => z)]; exact w2) (by rw [c3]; unfold crx; rw [if_pos e41]) hev hno) (fun r t4 hr4 => ?_)
          obtain ⟨g, rfl, p1, p2, p3, p4, p5, p6, p7⟩ := hr4
          simp only [v_90_0, v_90_1, v_90_2, v_90_5, v_90_8, v_90_9, v_90_12, v_90_13, v_90_14, v_90_15, v_90_16, v_90_17, v_90_19, v_90_20, v_90_21, v_90_23, v_90_24, v_90_26, v_90_27, v_90_30, v_90_33, v_90_35, v_90_36, v_90_37, v_90_39, v_90_40, v_90_42, h_90_42, v_90_44, v_90_45, v_90_48, v_90_51, v_90_54, v_90_56, v_90_57, v_90_59, v_90_60, v_90_62, v_90_63, v_90_66, v_90_67, v_90_68, v_90_69, v_90_70, v_90_73, v_90_76, v_90_77, v_90_80, v_90_83, v_90_84, v_90_86, v_90_89, v_90_92, v_90_94, v_90_95, v_90_96, v_90_98, v_90_99, v_90_102, v_90_103, v_90_105, v_90_108, v_90_111, v_90_112, v_90_114, v_90_117, v_90_119, v_90_120, v_90_123, v_90_126, v_90_129, v_90_132, v_90_134, vgi_0, vgi_s, vga_0, vga_s, vset_0, vset_s, vtk_0, vtk_s, vrc_0, vsw_0, vsw_s, List.all_cons, List.all_nil, zc1_i, zc1_r, Bool.and_true, Bool.and_self, true_and, and_true, List.length_cons, List.length_nil, Nat.zero_le, Nat.reduceLeDiff, Nat.reduceAdd, Nat.reduceLT, Option.toList_none, List.nil_append, tg_483]
          refine twc.mono (co t4 (.int (nI (140 + i))) g hev hno p1 p2 p3 p4 p5 p6 p7) (fun r t5 hr5 => ?_)
          rcases hr5 with ⟨rfl, hk⟩ | ⟨rfl, hk⟩
          · simp only [v_90_0, v_90_1, v_90_2, v_90_5, v_90_8, v_90_9, v_90_12, v_90_13, v_90_14, v_90_15, v_90_16, v_90_17, v_90_19, v_90_20, v_90_21, v_90_23, v_90_24, v_90_26, v_90_27, v_90_30, v_90_33, v_90_35, v_90_36, v_90_37, v_90_39, v_90_40, v_90_42, h_90_42, v_90_44, v_90_45, v_90_48, v_90_51, v_90_54, v_90_56, v_90_57, v_90_59, v_90_60, v_90_62, v_90_63, v_90_66, v_90_67, v_90_68, v_90_69, v_90_70, v_90_73, v_90_76, v_90_77, v_90_80, v_90_83, v_90_84, v_90_86, v_90_89, v_90_92, v_90_94, v_90_95, v_90_96, v_90_98, v_90_99, v_90_102, v_90_103, v_90_105, v_90_108, v_90_111, v_90_112, v_90_114, v_90_117, v_90_119, v_90_120, v_90_123, v_90_126, v_90_129, v_90_132, v_90_134, vgi_0, vgi_s, vga_0, vga_s, vset_0, vset_s, vtk_0, vtk_s, vrc_0, vsw_0, vsw_s, List.all_cons, List.all_nil, zc1_i, zc1_r, Bool.and_true, Bool.and_self, true_and, and_true, List.length_cons, List.length_nil, Nat.zero_le, Nat.reduceLeDiff, Nat.reduceAdd, Nat.reduceLT, Option.toList_some, List.cons_append, List.nil_append]
            rw [if_pos trivial, nI_1]
            exact hk
          · simp only [v_90_0, v_90_1, v_90_2, v_90_5, v_90_8, v_90_9, v_90_12, v_90_13, v_90_14, v_90_15, v_90_16, v_90_17, v_90_19, v_90_20, v_90_21, v_90_23, v_90_24, v_90_26, v_90_27, v_90_30, v_90_33, v_90_35, v_90_36, v_90_37, v_90_39, v_90_40, v_90_42, h_90_42, v_90_44, v_90_45, v_90_48, v_90_51, v_90_54, v_90_56, v_90_57, v_90_59, v_90_60, v_90_62, v_90_63, v_90_66, v_90_67, v_90_68, v_90_69, v_90_70, v_90_73, v_90_76, v_90_77, v_90_80, v_90_83, v_90_84, v_90_86, v_90_89, v_90_92, v_90_94, v_90_95, v_90_96, v_90_98, v_90_99, v_90_102, v_90_103, v_90_105, v_90_108, v_90_111, v_90_112, v_90_114, v_90_117, v_90_119, v_90_120, v_90_123, v_90_126, v_90_129, v_90_132, v_90_134, vgi_0, vgi_s, vga_0, vga_s, vset_0, vset_s, vtk_0, vtk_s, vrc_0, vsw_0, vsw_s, List.all_cons, List.all_nil, zc1_i, zc1_r, Bool.and_true, Bool.and_self, true_and, and_true, List.length_cons, List.length_nil, Nat.zero_le, Nat.reduceLeDiff, Nat.reduceAdd, Nat.reduceLT, Option.toList_some, List.cons_append, List.nil_append, tg_483]
            rw [if_neg (by decide)]
            simp (disch := omega) only [li140, nI_add]
            refine twc.mono hk (fun r t6 hr6 => ?_)
            obtain ⟨rfl, hk6⟩ := hr6
            simp only [v_90_0, v_90_1, v_90_2, v_90_5, v_90_8, v_90_9, v_90_12, v_90_13, v_90_14, v_90_15, v_90_16, v_90_17, v_90_19, v_90_20, v_90_21, v_90_23, v_90_24, v_90_26, v_90_27, v_90_30, v_90_33, v_90_35, v_90_36, v_90_37, v_90_39, v_90_40, v_90_42, h_90_42, v_90_44, v_90_45, v_90_48, v_90_51, v_90_54, v_90_56, v_90_57, v_90_59, v_90_60, v_90_62, v_90_63, v_90_66, v_90_67, v_90_68, v_90_69, v_90_70, v_90_73, v_90_76, v_90_77, v_90_80, v_90_83, v_90_84, v_90_86, v_90_89, v_90_92, v_90_94, v_90_95, v_90_96, v_90_98, v_90_99, v_90_102, v_90_103, v_90_105, v_90_108, v_90_111, v_90_112, v_90_114, v_90_117, v_90_119, v_90_120, v_90_123, v_90_126, v_90_129, v_90_132, v_90_134, vgi_0, vgi_s, vga_0, vga_s, vset_0, vset_s, vtk_0, vtk_s, vrc_0, vsw_0, vsw_s, List.all_cons, List.all_nil, zc1_i, zc1_r, Bool.and_true, Bool.and_self, true_and, and_true, List.length_cons, List.length_nil, Nat.zero_le, Nat.reduceLeDiff, Nat.reduceAdd, Nat.reduceLT, Option.toList_none, List.nil_append]
            rw [nI_1, nI_1]
            exact hk6
theorem wh_dec : ∀ a, a < 16 → ∀ b, b < 16 → ∀ c, c < 2 → nI (a + 16 * b + 256 * c) - nI (a + 16 * b + 256 * c) / 16 * 16 = nI a ∧ nI (a + 16 * b + 256 * c) / 16 - nI (a + 16 * b + 256 * c) / 16 / 16 * 16 = nI b := by decide +kernel
theorem c_90 {f : St} (hd : 12 ≤ d) (he : e < 8) (hs : s < 184) (hf : mS t s = f) (hwf : wfS f) (hr : rwf q m ru rc) (hE : ewf q m E) (hv : mvm t q m ru rc e E) (kf : MV q ru rc E f none → ∀ t', mW mEb wkS t t' → F (some (.int (-3))) t') (k1 : ∀ K, MV q ru rc E f (some K) → ∀ t', mW mEb wkS t t' → mL t' K → F (some (.int (nI K.length))) t') : twc d 90 [.ref 483, .int (nI e), .int (nI s)] t F := by
  have e4 : E 4 < 2 := hE.2.2.2.2.2.1
  have e28 := hE.2.2.1
  have e316 : E 3 < 16 := hE.2.2.2.2.1
  obtain ⟨w1, w2⟩ := wh_dec (E 2) (by omega) (E 3) e316 (E 4) e4
  refine ⟨by omega, ?_⟩
  rw [ze_90]
  refine vc_ok none zH_90 82 false _ 90 0 _ _ _ _ ?_
  simp only [v_90_0, v_90_1, v_90_2, v_90_5, v_90_8, v_90_9, v_90_12, v_90_13, v_90_14, v_90_15, v_90_16, v_90_17, v_90_19, v_90_20, v_90_21, v_90_23, v_90_24, v_90_26, v_90_27, v_90_30, v_90_33, v_90_35, v_90_36, v_90_37, v_90_39, v_90_40, v_90_42, h_90_42, v_90_44, v_90_45, v_90_48, v_90_51, v_90_54, v_90_56, v_90_57, v_90_59, v_90_60, v_90_62, v_90_63, v_90_66, v_90_67, v_90_68, v_90_69, v_90_70, v_90_73, v_90_76, v_90_77, v_90_80, v_90_83, v_90_84, v_90_86, v_90_89, v_90_92, v_90_94, v_90_95, v_90_96, v_90_98, v_90_99, v_90_102, v_90_103, v_90_105, v_90_108, v_90_111, v_90_112, v_90_114, v_90_117, v_90_119, v_90_120, v_90_123, v_90_126, v_90_129, v_90_132, v_90_134, vgi_0, vgi_s, vga_0, vga_s, vset_0, vset_s, vtk_0, vtk_s, vrc_0, vsw_0, vsw_s, List.all_cons, List.all_nil, zc1_i, zc1_r, Bool.and_true, Bool.and_self, true_and, and_true, List.length_cons, List.length_nil, Nat.zero_le, Nat.reduceLeDiff, Nat.reduceAdd, Nat.reduceLT, tg_483]
  refine c_44g (r := 140) (A := noA) (P := only 140) (by omega) hs (by omega) (by rw [hf]; exact hwf.b) rfl (fun t1 o1 e1 => ?_)
  have e1 := e1 140
  rw [if_pos rfl, hf] at e1
  have o1 : mW mEb wkS t t1 := wk0 o1 (fun x hx => by rw [hx]; unfold wkS; omega)
  have hv1 := hv.k o1
  have h498 := hv1.2.2.2.2.1
  simp only [v_90_0, v_90_1, v_90_2, v_90_5, v_90_8, v_90_9, v_90_12, v_90_13, v_90_14, v_90_15, v_90_16, v_90_17, v_90_19, v_90_20, v_90_21, v_90_23, v_90_24, v_90_26, v_90_27, v_90_30, v_90_33, v_90_35, v_90_36, v_90_37, v_90_39, v_90_40, v_90_42, h_90_42, v_90_44, v_90_45, v_90_48, v_90_51, v_90_54, v_90_56, v_90_57, v_90_59, v_90_60, v_90_62, v_90_63, v_90_66, v_90_67, v_90_68, v_90_69, v_90_70, v_90_73, v_90_76, v_90_77, v_90_80, v_90_83, v_90_84, v_90_86, v_90_89, v_90_92, v_90_94, v_90_95, v_90_96, v_90_98, v_90_99, v_90_102, v_90_103, v_90_105, v_90_108, v_90_111, v_90_112, v_90_114, v_90_117, v_90_119, v_90_120, v_90_123, v_90_126, v_90_129, v_90_132, v_90_134, vgi_0, vgi_s, vga_0, vga_s, vset_0, vset_s, vtk_0, vtk_s, vrc_0, vsw_0, vsw_s, List.all_cons, List.all_nil, zc1_i, zc1_r, Bool.and_true, Bool.and_self, true_and, and_true, List.length_cons, List.length_nil, Nat.zero_le, Nat.reduceLeDiff, Nat.reduceAdd, Nat.reduceLT, Option.toList_none, List.nil_append, tg_483, tf_483_17, tg_498, ln_498]
  simp (disch := omega) only [nI_clamp, vinb_n, h498, w1, w2]
  refine ⟨by omega, by decide, by decide, by decide, ?_⟩
  refine c_81 (by omega) e28 (fun h1 h2 => hE.2.2.2.1 h1 h2) e316 e1 hwf (fun p15 hF t2 o2 => ?_) (fun L hL t2 o2 m2 h26 => ?_)
  · simp only [v_90_0, v_90_1, v_90_2, v_90_5, v_90_8, v_90_9, v_90_12, v_90_13, v_90_14, v_90_15, v_90_16, v_90_17, v_90_19, v_90_20, v_90_21, v_90_23, v_90_24, v_90_26, v_90_27, v_90_30, v_90_33, v_90_35, v_90_36, v_90_37, v_90_39, v_90_40, v_90_42, h_90_42, v_90_44, v_90_45, v_90_48, v_90_51, v_90_54, v_90_56, v_90_57, v_90_59, v_90_60, v_90_62, v_90_63, v_90_66, v_90_67, v_90_68, v_90_69, v_90_70, v_90_73, v_90_76, v_90_77, v_90_80, v_90_83, v_90_84, v_90_86, v_90_89, v_90_92, v_90_94, v_90_95, v_90_96, v_90_98, v_90_99, v_90_102, v_90_103, v_90_105, v_90_108, v_90_111, v_90_112, v_90_114, v_90_117, v_90_119, v_90_120, v_90_123, v_90_126, v_90_129, v_90_132, v_90_134, vgi_0, vgi_s, vga_0, vga_s, vset_0, vset_s, vtk_0, vtk_s, vrc_0, vsw_0, vsw_s, List.all_cons, List.all_nil, zc1_i, zc1_r, Bool.and_true, Bool.and_self, true_and, and_true, List.length_cons, List.length_nil, Nat.zero_le, Nat.reduceLeDiff, Nat.reduceAdd, Nat.reduceLT, Option.toList_some, List.cons_append, List.nil_append]
    rw [if_pos trivial]
    exact kf ⟨none, Or.inr ⟨p15, hF⟩, Or.inl ⟨rfl, rfl⟩⟩ t2 (o1.tr (o2.mono (fun b h => h.elim) (fun x h => by unfold wkR at h; unfold wkS; omega)))
  · have o2 : mW mEb wkS t t2 := o1.tr (o2.mono (fun b h => h.elim) (fun x h => by unfold wkR at h; unfold wkS; omega))
    have h1f : ∀ x, x ∈ [f] → wfS x := fun x hx => by rw [List.mem_singleton.mp hx]; exact hwf
    have wL : (∀ x, x ∈ L → wfS x) ∧ L.length ≤ 40 := by
      rcases hL with ⟨-, rfl⟩ | ⟨h15, k, hk⟩
      · exact ⟨h1f, by simp⟩
      · exact FO_wf (by omega) (by omega) k _ _ L h1f (by simp) hk
    have mk : ∀ r, MVA q ru rc E L [] r → MV q ru rc E f r := fun r h => ⟨some L, by
      rcases hL with ⟨h15, rfl⟩ | h15
      · exact Or.inl ⟨h15, rfl⟩
      · exact Or.inr h15, Or.inr ⟨L, rfl, h⟩⟩
    simp only [v_90_0, v_90_1, v_90_2, v_90_5, v_90_8, v_90_9, v_90_12, v_90_13, v_90_14, v_90_15, v_90_16, v_90_17, v_90_19, v_90_20, v_90_21, v_90_23, v_90_24, v_90_26, v_90_27, v_90_30, v_90_33, v_90_35, v_90_36, v_90_37, v_90_39, v_90_40, v_90_42, h_90_42, v_90_44, v_90_45, v_90_48, v_90_51, v_90_54, v_90_56, v_90_57, v_90_59, v_90_60, v_90_62, v_90_63, v_90_66, v_90_67, v_90_68, v_90_69, v_90_70, v_90_73, v_90_76, v_90_77, v_90_80, v_90_83, v_90_84, v_90_86, v_90_89, v_90_92, v_90_94, v_90_95, v_90_96, v_90_98, v_90_99, v_90_102, v_90_103, v_90_105, v_90_108, v_90_111, v_90_112, v_90_114, v_90_117, v_90_119, v_90_120, v_90_123, v_90_126, v_90_129, v_90_132, v_90_134, vgi_0, vgi_s, vga_0, vga_s, vset_0, vset_s, vtk_0, vtk_s, vrc_0, vsw_0, vsw_s, List.all_cons, List.all_nil, zc1_i, zc1_r, Bool.and_true, Bool.and_self, true_and, and_true, List.length_cons, List.length_nil, Nat.zero_le, Nat.reduceLeDiff, Nat.reduceAdd, Nat.reduceLT, Option.toList_some, List.cons_append, List.nil_append]
    rw [if_neg (by decide)]
    exact l_90 (t := t2) (f := f) (m6 := .int 0) (by omega) he hr hE (hv.k o2) wL.2 wL.1 h26 (fun h t3 o3 => kf (mk _ h) t3 (o2.tr o3)) (fun K h t3 o3 m3 => k1 K (mk _ h) t3 (o2.tr o3) m3) L [] 0 t2 _ (by omega) (by simp) wL.1 mW.rf h26 (fun k hk => by simp at hk) (fun k hk => by rw [Nat.zero_add]; exact m2 k hk) (fun r h => h)
end MM2
