/-! The reference's closure: its loops. -/
section MCL
variable {d : Nat} {t : T} {F : Option Value → T → Prop} {n : Nat}
def oc (t t' : T) : Prop := t'.2 = t.2 ∧ ∀ b k, b ≠ 513 → t'.1 b k = t.1 b k
theorem oc.si {t' : T} (h : oc t t') {k : Nat} {v : Int32} : oc t (tsi t' 513 k v) := ⟨h.1, fun b j hb => by rw [tsi_ne (fun z => hb z.1)]; exact h.2 b j hb⟩
theorem sq_le {n : Nat} (hn : n ≤ 6) : n * n ≤ 36 := by
  calc n * n ≤ 6 * 6 := Nat.mul_le_mul hn hn
    _ = 36 := rfl
theorem l_63d {t' : T} {k : Nat} {mo : Int32} (hd : 3 ≤ d) (hn : n ≤ 6) (hk : k < n * n) (hmo : mo = 0 ∨ mo = 1) (h1 : ∀ j, j < n * n → tri (t'.1 513 j)) (h2 : ∀ j, j < n * n → tri (t'.1 512 j)) (h : ∀ (mo' : Int32) (j4 j5 : Value), (mo' = 0 ∨ mo' = 1) → (mo' = 0 ↔ (mo = 0 ∧ mac (t'.1 513) (t'.1 512) n k (t'.1 513 k) n = t'.1 513 k)) → twp none d 63 37 [.ref 483, .int (nI n), .int mo', .int (nI (k + 1)), j4, j5] [] (tsi t' 513 k (mac (t'.1 513) (t'.1 512) n k (t'.1 513 k) n)) F) : ∀ (j x : Nat) (v : Int32), x + j = n → v = mac (t'.1 513) (t'.1 512) n k (t'.1 513 k) x → twp none d 63 55 [.ref 483, .int (nI n), .int mo, .int (nI k), .int v, .int (nI x)] [] t' F := by
  have hsq := sq_le hn
  have hn0 : 0 < n := by
    apply Nat.pos_of_ne_zero
    intro z
    subst z
    omega
  have hkn : k / n < n := Nat.div_lt_of_lt_mul hk
  have hkm : k % n < n := Nat.mod_lt _ hn0
  intro j
  induction j with
  | zero =>
    intro x v hx hv
    have hx : x = n := by omega
    subst hx
    refine vc_ok none zH_63 97 false _ 63 55 _ _ _ _ ?_
    simp only [v_63_0, v_63_1, v_63_2, h_63_2, v_63_3, v_63_4, v_63_5, v_63_6, v_63_9, v_63_10, v_63_13, v_63_14, v_63_15, v_63_18, v_63_19, v_63_20, v_63_21, v_63_24, v_63_27, v_63_28, v_63_29, h_63_29, v_63_30, v_63_33, v_63_34, v_63_35, v_63_36, v_63_37, h_63_37, v_63_38, v_63_39, v_63_40, v_63_41, v_63_44, v_63_45, v_63_48, v_63_49, v_63_50, v_63_52, v_63_53, v_63_55, h_63_55, v_63_57, v_63_58, v_63_61, v_63_63, v_63_64, v_63_67, v_63_68, v_63_69, v_63_70, v_63_71, v_63_72, v_63_74, v_63_75, v_63_76, v_63_77, v_63_80, v_63_82, v_63_83, v_63_84, v_63_85, v_63_86, v_63_87, v_63_88, v_63_89, v_63_92, v_63_95, v_63_97, v_63_100, v_63_103, v_63_104, v_63_107, v_63_109, v_63_110, v_63_113, v_63_114, v_63_115, v_63_118, v_63_119, v_63_122, v_63_123, v_63_124, v_63_125, v_63_128, v_63_129, v_63_131, v_63_132, v_63_135, v_63_138, v_63_141, vgi_0, vgi_s, vga_0, vga_s, vset_0, vset_s, vtk_0, vtk_s, vrc_0, vsw_0, vsw_s, List.all_cons, List.all_nil, zc1_i, zc1_r, Bool.and_true, Bool.and_self, true_and, and_true, List.length_cons, List.length_nil, Nat.zero_le, Nat.reduceLeDiff, Nat.reduceAdd, tg_483, tf_483_34, tg_513, ln_513]
    simp (disch := omega) only [li1, nI_ltI, nI_clamp, vinb_n, nI_add, Nat.lt_irrefl, if_false]
    rcases hmo with rfl | rfl
    · rw [if_pos rfl]
      refine ⟨by omega, ?_⟩
      by_cases e : v = t'.1 513 k
      · rw [if_pos e]
        refine ⟨by omega, ?_⟩
        rw [hv] at e ⊢
        exact h 0 _ _ (Or.inl rfl) ⟨fun _ => ⟨rfl, e⟩, fun _ => rfl⟩
      · rw [if_neg e]
        refine ⟨by omega, ?_⟩
        rw [hv] at e ⊢
        exact h (nI 1) _ _ (Or.inr rfl) ⟨fun z => absurd z (by decide), fun z => absurd z.2 e⟩
    · rw [if_neg (by decide)]
      refine ⟨by omega, ?_⟩
      rw [hv]
      exact h (nI 1) _ _ (Or.inr rfl) ⟨fun z => absurd z (by decide), fun z => absurd z.1 (by decide)⟩
  | succ j ih =>
    intro x v hx hv
    have e1 : k / n * n + x < n * n := ix_lt hkn (by omega)
    have e2 : x * n + k % n < n * n := ix_lt (by omega) hkm
    have e3 : x * n < n * n := by omega
    have e4 : k / n * n ≤ k := Nat.div_mul_le_self k n
    have e5 : nI k - nI k / nI n * nI n = nI (k % n) := pk_rem (by omega) (by omega) (by omega)
    have e6 : nI k / nI n = nI (k / n) := pk_div (by omega) (by omega) (by omega)
    refine vc_ok none zH_63 97 false _ 63 55 _ _ _ _ ?_
    simp only [v_63_0, v_63_1, v_63_2, h_63_2, v_63_3, v_63_4, v_63_5, v_63_6, v_63_9, v_63_10, v_63_13, v_63_14, v_63_15, v_63_18, v_63_19, v_63_20, v_63_21, v_63_24, v_63_27, v_63_28, v_63_29, h_63_29, v_63_30, v_63_33, v_63_34, v_63_35, v_63_36, v_63_37, h_63_37, v_63_38, v_63_39, v_63_40, v_63_41, v_63_44, v_63_45, v_63_48, v_63_49, v_63_50, v_63_52, v_63_53, v_63_55, h_63_55, v_63_57, v_63_58, v_63_61, v_63_63, v_63_64, v_63_67, v_63_68, v_63_69, v_63_70, v_63_71, v_63_72, v_63_74, v_63_75, v_63_76, v_63_77, v_63_80, v_63_82, v_63_83, v_63_84, v_63_85, v_63_86, v_63_87, v_63_88, v_63_89, v_63_92, v_63_95, v_63_97, v_63_100, v_63_103, v_63_104, v_63_107, v_63_109, v_63_110, v_63_113, v_63_114, v_63_115, v_63_118, v_63_119, v_63_122, v_63_123, v_63_124, v_63_125, v_63_128, v_63_129, v_63_131, v_63_132, v_63_135, v_63_138, v_63_141, vgi_0, vgi_s, vga_0, vga_s, vset_0, vset_s, vtk_0, vtk_s, vrc_0, vsw_0, vsw_s, List.all_cons, List.all_nil, zc1_i, zc1_r, Bool.and_true, Bool.and_self, true_and, and_true, List.length_cons, List.length_nil, Nat.zero_le, Nat.reduceLeDiff, Nat.reduceAdd, tg_483, tf_483_34, tg_513, ln_513, tf_483_33, tg_512, ln_512]
    rw [if_pos (nI_lt (by omega) (by omega))]
    simp only [e5]
    simp only [e6, pk_mul, nI_add]
    simp (disch := omega) only [nI_clamp, vinb_n]
    obtain ⟨fv, hfv, hfe⟩ := h1 _ e1
    obtain ⟨gv, hgv, hge⟩ := h2 _ e2
    obtain ⟨vv, hvv, hve⟩ := mac_tri (h1 k hk) h1 h2 hk x (by omega)
    have hta := tand_v fv hfv gv hgv
    obtain ⟨av, hav, hae⟩ := hta
    refine ⟨nI_ne0 hn0 (by omega), by omega, nI_ne0 hn0 (by omega), by omega, ?_⟩
    rw [hfe, hge]
    refine c_34 (by omega) hfv hgv ?_
    simp only [v_63_0, v_63_1, v_63_2, h_63_2, v_63_3, v_63_4, v_63_5, v_63_6, v_63_9, v_63_10, v_63_13, v_63_14, v_63_15, v_63_18, v_63_19, v_63_20, v_63_21, v_63_24, v_63_27, v_63_28, v_63_29, h_63_29, v_63_30, v_63_33, v_63_34, v_63_35, v_63_36, v_63_37, h_63_37, v_63_38, v_63_39, v_63_40, v_63_41, v_63_44, v_63_45, v_63_48, v_63_49, v_63_50, v_63_52, v_63_53, v_63_55, h_63_55, v_63_57, v_63_58, v_63_61, v_63_63, v_63_64, v_63_67, v_63_68, v_63_69, v_63_70, v_63_71, v_63_72, v_63_74, v_63_75, v_63_76, v_63_77, v_63_80, v_63_82, v_63_83, v_63_84, v_63_85, v_63_86, v_63_87, v_63_88, v_63_89, v_63_92, v_63_95, v_63_97, v_63_100, v_63_103, v_63_104, v_63_107, v_63_109, v_63_110, v_63_113, v_63_114, v_63_115, v_63_118, v_63_119, v_63_122, v_63_123, v_63_124, v_63_125, v_63_128, v_63_129, v_63_131, v_63_132, v_63_135, v_63_138, v_63_141, vgi_0, vgi_s, vga_0, vga_s, vset_0, vset_s, vtk_0, vtk_s, vrc_0, vsw_0, vsw_s, List.all_cons, List.all_nil, zc1_i, zc1_r, Bool.and_true, Bool.and_self, true_and, and_true, List.length_cons, List.length_nil, Nat.zero_le, Nat.reduceLeDiff, Nat.reduceAdd, Option.toList_some, List.cons_append, List.nil_append]
    rw [hv, hve, hae]
    refine c_35 (by omega) hvv hav ?_
    simp only [v_63_0, v_63_1, v_63_2, h_63_2, v_63_3, v_63_4, v_63_5, v_63_6, v_63_9, v_63_10, v_63_13, v_63_14, v_63_15, v_63_18, v_63_19, v_63_20, v_63_21, v_63_24, v_63_27, v_63_28, v_63_29, h_63_29, v_63_30, v_63_33, v_63_34, v_63_35, v_63_36, v_63_37, h_63_37, v_63_38, v_63_39, v_63_40, v_63_41, v_63_44, v_63_45, v_63_48, v_63_49, v_63_50, v_63_52, v_63_53, v_63_55, h_63_55, v_63_57, v_63_58, v_63_61, v_63_63, v_63_64, v_63_67, v_63_68, v_63_69, v_63_70, v_63_71, v_63_72, v_63_74, v_63_75, v_63_76, v_63_77, v_63_80, v_63_82, v_63_83, v_63_84, v_63_85, v_63_86, v_63_87, v_63_88, v_63_89, v_63_92, v_63_95, v_63_97, v_63_100, v_63_103, v_63_104, v_63_107, v_63_109, v_63_110, v_63_113, v_63_114, v_63_115, v_63_118, v_63_119, v_63_122, v_63_123, v_63_124, v_63_125, v_63_128, v_63_129, v_63_131, v_63_132, v_63_135, v_63_138, v_63_141, vgi_0, vgi_s, vga_0, vga_s, vset_0, vset_s, vtk_0, vtk_s, vrc_0, vsw_0, vsw_s, List.all_cons, List.all_nil, zc1_i, zc1_r, Bool.and_true, Bool.and_self, true_and, and_true, List.length_cons, List.length_nil, Nat.zero_le, Nat.reduceLeDiff, Nat.reduceAdd, Option.toList_some, List.cons_append, List.nil_append]
    simp (disch := omega) only [li1, nI_add]
    refine ih (x + 1) _ (by omega) ?_
    show _ = tor (mac (t'.1 513) (t'.1 512) n k (t'.1 513 k) x) (tand (t'.1 513 (k / n * n + x)) (t'.1 512 (x * n + k % n)))
    rw [hve, hfe, hge, hae]
theorem l_63c {g0 : Nat → Int32} (hd : 3 ≤ d) (hn : n ≤ 6) (h2 : ∀ j, j < n * n → tri (t.1 512 j)) (h : ∀ (mo : Int32) (t2 : T) (j3 j4 j5 : Value), (mo = 0 ∨ mo = 1) → oc t t2 → mcI (t2.1 513) (t.1 512) n → (mo = 0 → ∀ k, k < n * n → mac (t2.1 513) (t.1 512) n k (t2.1 513 k) n = t2.1 513 k) → (mo ≠ 0 → mu3 g0 (n * n) < mu3 (t2.1 513) (n * n)) → twp none d 63 29 [.ref 483, .int (nI n), .int mo, j3, j4, j5] [] t2 F) : ∀ (j k : Nat) (t' : T) (mo : Int32) (j4 j5 : Value), k + j = n * n → (mo = 0 ∨ mo = 1) → oc t t' → mcI (t'.1 513) (t.1 512) n → (∀ i, i < n * n → rk3 (g0 i) ≤ rk3 (t'.1 513 i)) → (mo = 0 → (∀ i, i < n * n → t'.1 513 i = g0 i) ∧ ∀ i, i < k → mac (t'.1 513) (t.1 512) n i (t'.1 513 i) n = t'.1 513 i) → (mo ≠ 0 → ∃ i, i < n * n ∧ rk3 (g0 i) < rk3 (t'.1 513 i)) → twp none d 63 37 [.ref 483, .int (nI n), .int mo, .int (nI k), j4, j5] [] t' F := by
  have hsq := sq_le hn
  intro j
  induction j with
  | zero =>
    intro k t' mo j4 j5 hk hmo hoc hI hr h0 h1
    have hk : k = n * n := by omega
    subst hk
    refine vc_ok none zH_63 97 false _ 63 37 _ _ _ _ ?_
    simp only [v_63_0, v_63_1, v_63_2, h_63_2, v_63_3, v_63_4, v_63_5, v_63_6, v_63_9, v_63_10, v_63_13, v_63_14, v_63_15, v_63_18, v_63_19, v_63_20, v_63_21, v_63_24, v_63_27, v_63_28, v_63_29, h_63_29, v_63_30, v_63_33, v_63_34, v_63_35, v_63_36, v_63_37, h_63_37, v_63_38, v_63_39, v_63_40, v_63_41, v_63_44, v_63_45, v_63_48, v_63_49, v_63_50, v_63_52, v_63_53, v_63_55, h_63_55, v_63_57, v_63_58, v_63_61, v_63_63, v_63_64, v_63_67, v_63_68, v_63_69, v_63_70, v_63_71, v_63_72, v_63_74, v_63_75, v_63_76, v_63_77, v_63_80, v_63_82, v_63_83, v_63_84, v_63_85, v_63_86, v_63_87, v_63_88, v_63_89, v_63_92, v_63_95, v_63_97, v_63_100, v_63_103, v_63_104, v_63_107, v_63_109, v_63_110, v_63_113, v_63_114, v_63_115, v_63_118, v_63_119, v_63_122, v_63_123, v_63_124, v_63_125, v_63_128, v_63_129, v_63_131, v_63_132, v_63_135, v_63_138, v_63_141, vgi_0, vgi_s, vga_0, vga_s, vset_0, vset_s, vtk_0, vtk_s, vrc_0, vsw_0, vsw_s, List.all_cons, List.all_nil, zc1_i, zc1_r, Bool.and_true, Bool.and_self, true_and, and_true, List.length_cons, List.length_nil, Nat.zero_le, Nat.reduceLeDiff, Nat.reduceAdd]
    simp only [pk_mul]
    rw [if_neg (nI_nlt (Nat.le_refl _) (by omega))]
    exact h mo t' _ _ _ hmo hoc hI (fun z i hi => (h0 z).2 i hi) (fun z => by
      obtain ⟨i, hi, hlt⟩ := h1 z
      exact mu3_lt _ hi hr hlt)
  | succ j ih =>
    intro k t' mo j4 j5 hk hmo hoc hI hr h0 h1
    have hkn : k < n * n := by omega
    have e12 : t'.1 512 = t.1 512 := funext fun z => hoc.2 512 z (by omega)
    refine vc_ok none zH_63 97 false _ 63 37 _ _ _ _ ?_
    simp only [v_63_0, v_63_1, v_63_2, h_63_2, v_63_3, v_63_4, v_63_5, v_63_6, v_63_9, v_63_10, v_63_13, v_63_14, v_63_15, v_63_18, v_63_19, v_63_20, v_63_21, v_63_24, v_63_27, v_63_28, v_63_29, h_63_29, v_63_30, v_63_33, v_63_34, v_63_35, v_63_36, v_63_37, h_63_37, v_63_38, v_63_39, v_63_40, v_63_41, v_63_44, v_63_45, v_63_48, v_63_49, v_63_50, v_63_52, v_63_53, v_63_55, h_63_55, v_63_57, v_63_58, v_63_61, v_63_63, v_63_64, v_63_67, v_63_68, v_63_69, v_63_70, v_63_71, v_63_72, v_63_74, v_63_75, v_63_76, v_63_77, v_63_80, v_63_82, v_63_83, v_63_84, v_63_85, v_63_86, v_63_87, v_63_88, v_63_89, v_63_92, v_63_95, v_63_97, v_63_100, v_63_103, v_63_104, v_63_107, v_63_109, v_63_110, v_63_113, v_63_114, v_63_115, v_63_118, v_63_119, v_63_122, v_63_123, v_63_124, v_63_125, v_63_128, v_63_129, v_63_131, v_63_132, v_63_135, v_63_138, v_63_141, vgi_0, vgi_s, vga_0, vga_s, vset_0, vset_s, vtk_0, vtk_s, vrc_0, vsw_0, vsw_s, List.all_cons, List.all_nil, zc1_i, zc1_r, Bool.and_true, Bool.and_self, true_and, and_true, List.length_cons, List.length_nil, Nat.zero_le, Nat.reduceLeDiff, Nat.reduceAdd, tg_483, tf_483_34, tg_513, ln_513]
    simp only [pk_mul]
    rw [if_pos (nI_lt hkn (by omega))]
    simp (disch := omega) only [nI_clamp, vinb_n]
    refine ⟨by omega, ?_⟩
    refine l_63d hd hn hkn hmo hI.1 (by rw [e12]; exact h2) (fun mo' j4' j5' hmo' hiff => ?_) n 0 _ (by omega) rfl
    rw [e12] at hiff ⊢
    have hst := mcI_step (fa' := (tsi t' 513 k (mac (t'.1 513) (t.1 512) n k (t'.1 513 k) n)).1 513) hI h2 hkn tsi_eq (fun i _ hne => tsi_ne (fun z => hne z.2))
    refine ih (k + 1) _ mo' _ _ (by omega) hmo' hoc.si hst.1 (fun i hi => Nat.le_trans (hr i hi) (hst.2 i hi)) (fun z => ?_) (fun z => ?_)
    · obtain ⟨y1, y2⟩ := hiff.mp z
      have hsame : ∀ i, (tsi t' 513 k (mac (t'.1 513) (t.1 512) n k (t'.1 513 k) n)).1 513 i = t'.1 513 i := by
        intro i
        by_cases e : i = k
        · rw [e, tsi_eq]; exact y2
        · rw [tsi_ne (fun z => e z.2)]
      have hsf : (tsi t' 513 k (mac (t'.1 513) (t.1 512) n k (t'.1 513 k) n)).1 513 = t'.1 513 := funext hsame
      rw [hsf]
      refine ⟨(h0 y1).1, fun i hi => ?_⟩
      by_cases e : i = k
      · rw [e]; exact y2
      · exact (h0 y1).2 i (by omega)
    · by_cases hm0 : mo = 0
      · have hne : ¬ mac (t'.1 513) (t.1 512) n k (t'.1 513 k) n = t'.1 513 k := fun q => z (hiff.mpr ⟨hm0, q⟩)
        refine ⟨k, hkn, ?_⟩
        rw [tsi_eq, ← (h0 hm0).1 k hkn]
        have hle := hst.2 k hkn
        rw [tsi_eq] at hle
        have hne2 : rk3 (t'.1 513 k) ≠ rk3 (mac (t'.1 513) (t.1 512) n k (t'.1 513 k) n) := fun q => hne (rk3_inj (hI.1 k hkn) (mac_tri (hI.1 k hkn) hI.1 h2 hkn n (Nat.le_refl _)) q).symm
        omega
      · obtain ⟨i, hi, hlt⟩ := h1 hm0
        exact ⟨i, hi, Nat.lt_of_lt_of_le hlt (hst.2 i hi)⟩
theorem l_63b (hd : 3 ≤ d) (hn : n ≤ 6) (h2 : ∀ j, j < n * n → tri (t.1 512 j)) (h : ∀ t', oc t t' → (∀ i j, i < n → j < n → t'.1 513 (i * n + j) = clo n (fun u v => t.1 512 (u * n + v)) i j) → F none t') : ∀ (M : Nat) (t' : T) (mo : Int32) (j3 j4 j5 : Value), 2 * (n * n) - mu3 (t'.1 513) (n * n) < M → (mo = 0 ∨ mo = 1) → oc t t' → mcI (t'.1 513) (t.1 512) n → (mo = 0 → ∀ k, k < n * n → mac (t'.1 513) (t.1 512) n k (t'.1 513 k) n = t'.1 513 k) → twp none d 63 29 [.ref 483, .int (nI n), .int mo, j3, j4, j5] [] t' F := by
  intro M
  induction M with
  | zero => intro t' mo j3 j4 j5 hM; omega
  | succ M ih =>
    intro t' mo j3 j4 j5 hM hmo hoc hI h0
    refine vc_ok none zH_63 97 false _ 63 29 _ _ _ _ ?_
    simp only [v_63_0, v_63_1, v_63_2, h_63_2, v_63_3, v_63_4, v_63_5, v_63_6, v_63_9, v_63_10, v_63_13, v_63_14, v_63_15, v_63_18, v_63_19, v_63_20, v_63_21, v_63_24, v_63_27, v_63_28, v_63_29, h_63_29, v_63_30, v_63_33, v_63_34, v_63_35, v_63_36, v_63_37, h_63_37, v_63_38, v_63_39, v_63_40, v_63_41, v_63_44, v_63_45, v_63_48, v_63_49, v_63_50, v_63_52, v_63_53, v_63_55, h_63_55, v_63_57, v_63_58, v_63_61, v_63_63, v_63_64, v_63_67, v_63_68, v_63_69, v_63_70, v_63_71, v_63_72, v_63_74, v_63_75, v_63_76, v_63_77, v_63_80, v_63_82, v_63_83, v_63_84, v_63_85, v_63_86, v_63_87, v_63_88, v_63_89, v_63_92, v_63_95, v_63_97, v_63_100, v_63_103, v_63_104, v_63_107, v_63_109, v_63_110, v_63_113, v_63_114, v_63_115, v_63_118, v_63_119, v_63_122, v_63_123, v_63_124, v_63_125, v_63_128, v_63_129, v_63_131, v_63_132, v_63_135, v_63_138, v_63_141, vgi_0, vgi_s, vga_0, vga_s, vset_0, vset_s, vtk_0, vtk_s, vrc_0, vsw_0, vsw_s, List.all_cons, List.all_nil, zc1_i, zc1_r, Bool.and_true, Bool.and_self, true_and, and_true, List.length_cons, List.length_nil, Nat.zero_le, Nat.reduceLeDiff, Nat.reduceAdd]
    rcases hmo with rfl | rfl
    · rw [if_pos rfl]
      exact h t' hoc (fun i j hi hj => mcI_end hI h2 (h0 rfl) hi hj)
    · rw [if_neg (by decide)]
      refine l_63c (g0 := t'.1 513) hd hn h2 (fun mo2 t2 j3 j4 j5 hmo2 hoc2 hI2 hz hnz => ?_) (n * n) 0 t' 0 _ _ (by omega) (Or.inl rfl) hoc hI (fun i _ => Nat.le_refl _) (fun _ => ⟨fun _ _ => rfl, fun i hi => absurd hi (Nat.not_lt_zero _)⟩) (fun z => absurd rfl z)
      rcases hmo2 with rfl | rfl
      · refine vc_ok none zH_63 97 false _ 63 29 _ _ _ _ ?_
        simp only [v_63_0, v_63_1, v_63_2, h_63_2, v_63_3, v_63_4, v_63_5, v_63_6, v_63_9, v_63_10, v_63_13, v_63_14, v_63_15, v_63_18, v_63_19, v_63_20, v_63_21, v_63_24, v_63_27, v_63_28, v_63_29, h_63_29, v_63_30, v_63_33, v_63_34, v_63_35, v_63_36, v_63_37, h_63_37, v_63_38, v_63_39, v_63_40, v_63_41, v_63_44, v_63_45, v_63_48, v_63_49, v_63_50, v_63_52, v_63_53, v_63_55, h_63_55, v_63_57, v_63_58, v_63_61, v_63_63, v_63_64, v_63_67, v_63_68, v_63_69, v_63_70, v_63_71, v_63_72, v_63_74, v_63_75, v_63_76, v_63_77, v_63_80, v_63_82, v_63_83, v_63_84, v_63_85, v_63_86, v_63_87, v_63_88, v_63_89, v_63_92, v_63_95, v_63_97, v_63_100, v_63_103, v_63_104, v_63_107, v_63_109, v_63_110, v_63_113, v_63_114, v_63_115, v_63_118, v_63_119, v_63_122, v_63_123, v_63_124, v_63_125, v_63_128, v_63_129, v_63_131, v_63_132, v_63_135, v_63_138, v_63_141, vgi_0, vgi_s, vga_0, vga_s, vset_0, vset_s, vtk_0, vtk_s, vrc_0, vsw_0, vsw_s, List.all_cons, List.all_nil, zc1_i, zc1_r, Bool.and_true, Bool.and_self, true_and, and_true, List.length_cons, List.length_nil, Nat.zero_le, Nat.reduceLeDiff, Nat.reduceAdd]
        simp only [if_true]
        exact h t2 hoc2 (fun i j hi hj => mcI_end hI2 h2 (hz rfl) hi hj)
      · refine ih t2 1 _ _ _ ?_ (Or.inr rfl) hoc2 hI2 (fun z => absurd z (by decide))
        have := hnz (by decide)
        have := mu3_le (t2.1 513) (n * n)
        omega
theorem l_63a (hd : 3 ≤ d) (hn : n ≤ 6) (h2 : ∀ j, j < n * n → tri (t.1 512 j)) (h : ∀ t', oc t t' → (∀ i j, i < n → j < n → t'.1 513 (i * n + j) = clo n (fun u v => t.1 512 (u * n + v)) i j) → F none t') : ∀ (j k : Nat) (t' : T), k + j = n * n → oc t t' → (∀ i, i < k → t'.1 513 i = t.1 512 i) → twp none d 63 2 [.ref 483, .int (nI n), .int (nI k), .long 0, .long 0, .long 0] [] t' F := by
  have hsq := sq_le hn
  intro j
  induction j with
  | zero =>
    intro k t' hk hoc hc
    have hk : k = n * n := by omega
    subst hk
    refine vc_ok none zH_63 97 false _ 63 2 _ _ _ _ ?_
    simp only [v_63_0, v_63_1, v_63_2, h_63_2, v_63_3, v_63_4, v_63_5, v_63_6, v_63_9, v_63_10, v_63_13, v_63_14, v_63_15, v_63_18, v_63_19, v_63_20, v_63_21, v_63_24, v_63_27, v_63_28, v_63_29, h_63_29, v_63_30, v_63_33, v_63_34, v_63_35, v_63_36, v_63_37, h_63_37, v_63_38, v_63_39, v_63_40, v_63_41, v_63_44, v_63_45, v_63_48, v_63_49, v_63_50, v_63_52, v_63_53, v_63_55, h_63_55, v_63_57, v_63_58, v_63_61, v_63_63, v_63_64, v_63_67, v_63_68, v_63_69, v_63_70, v_63_71, v_63_72, v_63_74, v_63_75, v_63_76, v_63_77, v_63_80, v_63_82, v_63_83, v_63_84, v_63_85, v_63_86, v_63_87, v_63_88, v_63_89, v_63_92, v_63_95, v_63_97, v_63_100, v_63_103, v_63_104, v_63_107, v_63_109, v_63_110, v_63_113, v_63_114, v_63_115, v_63_118, v_63_119, v_63_122, v_63_123, v_63_124, v_63_125, v_63_128, v_63_129, v_63_131, v_63_132, v_63_135, v_63_138, v_63_141, vgi_0, vgi_s, vga_0, vga_s, vset_0, vset_s, vtk_0, vtk_s, vrc_0, vsw_0, vsw_s, List.all_cons, List.all_nil, zc1_i, zc1_r, Bool.and_true, Bool.and_self, true_and, and_true, List.length_cons, List.length_nil, Nat.zero_le, Nat.reduceLeDiff, Nat.reduceAdd]
    simp only [pk_mul]
    rw [if_neg (nI_nlt (Nat.le_refl _) (by omega))]
    refine l_63b hd hn h2 h (2 * (n * n) + 1) t' 1 _ _ _ (by omega) (Or.inr rfl) hoc ⟨fun i hi => by rw [hc i hi]; exact h2 i hi, fun i j hi hj => ?_⟩ (fun z => absurd z (by decide))
    rw [hc _ (ix_lt hi hj)]
    exact ⟨fun z => way_one hj z, fun z => way_one hj z, fun z => z, fun z => z⟩
  | succ j ih =>
    intro k t' hk hoc hc
    refine vc_ok none zH_63 97 false _ 63 2 _ _ _ _ ?_
    simp only [v_63_0, v_63_1, v_63_2, h_63_2, v_63_3, v_63_4, v_63_5, v_63_6, v_63_9, v_63_10, v_63_13, v_63_14, v_63_15, v_63_18, v_63_19, v_63_20, v_63_21, v_63_24, v_63_27, v_63_28, v_63_29, h_63_29, v_63_30, v_63_33, v_63_34, v_63_35, v_63_36, v_63_37, h_63_37, v_63_38, v_63_39, v_63_40, v_63_41, v_63_44, v_63_45, v_63_48, v_63_49, v_63_50, v_63_52, v_63_53, v_63_55, h_63_55, v_63_57, v_63_58, v_63_61, v_63_63, v_63_64, v_63_67, v_63_68, v_63_69, v_63_70, v_63_71, v_63_72, v_63_74, v_63_75, v_63_76, v_63_77, v_63_80, v_63_82, v_63_83, v_63_84, v_63_85, v_63_86, v_63_87, v_63_88, v_63_89, v_63_92, v_63_95, v_63_97, v_63_100, v_63_103, v_63_104, v_63_107, v_63_109, v_63_110, v_63_113, v_63_114, v_63_115, v_63_118, v_63_119, v_63_122, v_63_123, v_63_124, v_63_125, v_63_128, v_63_129, v_63_131, v_63_132, v_63_135, v_63_138, v_63_141, vgi_0, vgi_s, vga_0, vga_s, vset_0, vset_s, vtk_0, vtk_s, vrc_0, vsw_0, vsw_s, List.all_cons, List.all_nil, zc1_i, zc1_r, Bool.and_true, Bool.and_self, true_and, and_true, List.length_cons, List.length_nil, Nat.zero_le, Nat.reduceLeDiff, Nat.reduceAdd, tg_483, tf_483_34, tg_513, ln_513, tf_483_33, tg_512, ln_512]
    simp only [pk_mul]
    rw [if_pos (nI_lt (by omega) (by omega))]
    simp (disch := omega) only [li1, nI_clamp, vinb_n, nI_add]
    refine ⟨by omega, by omega, ?_⟩
    refine ih (k + 1) _ (by omega) hoc.si (fun i hi => ?_)
    by_cases e : i = k
    · rw [e, tsi_eq, hoc.2 512 k (by omega)]
    · rw [tsi_ne (fun z => e z.2)]
      exact hc i (by omega)
theorem c_63 (hd : 4 ≤ d) (hn : n ≤ 6) (h2 : ∀ j, j < n * n → tri (t.1 512 j)) (h : ∀ t', oc t t' → (∀ i j, i < n → j < n → t'.1 513 (i * n + j) = clo n (fun u v => t.1 512 (u * n + v)) i j) → F none t') : twc d 63 [.ref 483, .int (nI n)] t F := by
  refine ⟨by omega, ?_⟩
  rw [ze_63]
  refine vc_ok none zH_63 97 false _ 63 0 _ _ _ _ ?_
  simp only [v_63_0, v_63_1, v_63_2, h_63_2, v_63_3, v_63_4, v_63_5, v_63_6, v_63_9, v_63_10, v_63_13, v_63_14, v_63_15, v_63_18, v_63_19, v_63_20, v_63_21, v_63_24, v_63_27, v_63_28, v_63_29, h_63_29, v_63_30, v_63_33, v_63_34, v_63_35, v_63_36, v_63_37, h_63_37, v_63_38, v_63_39, v_63_40, v_63_41, v_63_44, v_63_45, v_63_48, v_63_49, v_63_50, v_63_52, v_63_53, v_63_55, h_63_55, v_63_57, v_63_58, v_63_61, v_63_63, v_63_64, v_63_67, v_63_68, v_63_69, v_63_70, v_63_71, v_63_72, v_63_74, v_63_75, v_63_76, v_63_77, v_63_80, v_63_82, v_63_83, v_63_84, v_63_85, v_63_86, v_63_87, v_63_88, v_63_89, v_63_92, v_63_95, v_63_97, v_63_100, v_63_103, v_63_104, v_63_107, v_63_109, v_63_110, v_63_113, v_63_114, v_63_115, v_63_118, v_63_119, v_63_122, v_63_123, v_63_124, v_63_125, v_63_128, v_63_129, v_63_131, v_63_132, v_63_135, v_63_138, v_63_141, vgi_0, vgi_s, vga_0, vga_s, vset_0, vset_s, vtk_0, vtk_s, vrc_0, vsw_0, vsw_s, List.all_cons, List.all_nil, zc1_i, zc1_r, Bool.and_true, Bool.and_self, true_and, and_true, List.length_cons, List.length_nil, Nat.zero_le, Nat.reduceLeDiff, Nat.reduceAdd]
  exact l_63a (by omega) hn h2 h (n * n) 0 t (by omega) ⟨rfl, fun _ _ _ => rfl⟩ (fun i hi => absurd hi (Nat.not_lt_zero _))
end MCL
