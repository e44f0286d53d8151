/-! The program focuses. -/
section CF2
variable {d b : Nat} {t : T} {F : Option Value → T → Prop} {p a : Nat}
theorem ed_dec : ∀ e, e < 8 → vtag (251 + 3 * e) = 11 ∧ vtag (252 + 3 * e) = 100 ∧ vlen (252 + 3 * e) = 4 ∧ vtag (253 + 3 * e) = 100 ∧ vlen (253 + 3 * e) = 4 ∧ tmut (251 + 3 * e) 7 = false ∧ tcr (251 + 3 * e) 7 = 252 + 3 * e ∧ tmut (251 + 3 * e) 8 = false ∧ tcr (251 + 3 * e) 8 = 253 + 3 * e := by decide +kernel
theorem ed_tag {e : Nat} (h : e < 8) : vtag (251 + 3 * e) = 11 := (ed_dec e h).1
theorem l_149 {s n : Nat} {f : St} (hd : 2 ≤ d) (hs : vtag s = 4) (hf : cS t s = f) (hn : f 0 = nI n) (hn6 : n ≤ 6) (hp6 : 6 ≤ p) (ha : 2 ≤ a) (ha6 : a < 6) (k1 : ∀ u, piv p a f n u → F (some (.int (nI u))) t) (k0 : nopiv p a f n → F (some (.int (-1))) t) : ∀ (j u : Nat), u + j = n → (∀ u', u' < u → ¬ isp a f u') → twp none d 149 2 [.ref s, .int (nI a), .int (nI u)] [] t F := by
  have hti : t.1 s 0 = nI n := by rw [← cS_i, hf]; exact hn
  intro j
  induction j with
  | zero =>
    intro u hu hI
    have hu : u = n := by omega
    subst hu
    refine vc_ok none zH_149 33 false _ 149 2 _ _ _ _ ?_
    simp only [v_149_0, v_149_1, v_149_2, h_149_2, v_149_3, v_149_4, v_149_7, v_149_10, v_149_11, v_149_12, v_149_13, v_149_14, v_149_17, v_149_18, v_149_21, v_149_22, v_149_23, v_149_26, v_149_29, v_149_30, v_149_31, v_149_34, v_149_37, v_149_38, vgi_0, vgi_s, vga_0, vga_s, vset_0, vset_s, vtk_0, vtk_s, vrc_0, vsw_0, vsw_s, List.all_cons, List.all_nil, zc1_i, zc1_r, Bool.and_true, Bool.and_self, true_and, and_true, List.length_cons, List.length_nil, Nat.zero_le, Nat.reduceLeDiff, Nat.reduceAdd, Nat.reduceLT, hs, hti]
    simp (disch := omega) only [nI_ltI, Nat.lt_irrefl, if_false]
    exact k0 ⟨hp6, hI⟩
  | succ j ih =>
    intro u hu hI
    have nx : ¬ isp a f u → twp none d 149 2 [.ref s, .int (nI a), .int (nI (u + 1))] [] t F := fun h => ih (u + 1) (by omega) (fun u' hu' => by
      by_cases e : u' = u
      · rw [e]; exact h
      · exact hI u' (by omega))
    refine vc_ok none zH_149 33 false _ 149 2 _ _ _ _ ?_
    simp only [v_149_0, v_149_1, v_149_2, h_149_2, v_149_3, v_149_4, v_149_7, v_149_10, v_149_11, v_149_12, v_149_13, v_149_14, v_149_17, v_149_18, v_149_21, v_149_22, v_149_23, v_149_26, v_149_29, v_149_30, v_149_31, v_149_34, v_149_37, v_149_38, vgi_0, vgi_s, vga_0, vga_s, vset_0, vset_s, vtk_0, vtk_s, vrc_0, vsw_0, vsw_s, List.all_cons, List.all_nil, zc1_i, zc1_r, Bool.and_true, Bool.and_self, true_and, and_true, List.length_cons, List.length_nil, Nat.zero_le, Nat.reduceLeDiff, Nat.reduceAdd, Nat.reduceLT, hs, hti]
    simp (disch := omega) only [nI_ltI]
    rw [if_pos (by omega)]
    refine c_162 (w := 0) (by omega) hs (by omega) (by omega) (by omega) ?_
    simp only [v_149_0, v_149_1, v_149_2, h_149_2, v_149_3, v_149_4, v_149_7, v_149_10, v_149_11, v_149_12, v_149_13, v_149_14, v_149_17, v_149_18, v_149_21, v_149_22, v_149_23, v_149_26, v_149_29, v_149_30, v_149_31, v_149_34, v_149_37, v_149_38, vgi_0, vgi_s, vga_0, vga_s, vset_0, vset_s, vtk_0, vtk_s, vrc_0, vsw_0, vsw_s, List.all_cons, List.all_nil, zc1_i, zc1_r, Bool.and_true, Bool.and_self, true_and, and_true, List.length_cons, List.length_nil, Nat.zero_le, Nat.reduceLeDiff, Nat.reduceAdd, Nat.reduceLT, Option.toList_some, List.cons_append, List.nil_append, hs]
    rw [hf, sg_cel (by omega), cel1 ha ha6]
    by_cases z : f (2 + 5 * u + a) = 1
    · rw [if_pos z]
      refine c_165 (by omega) hs (by omega) ?_
      simp only [v_149_0, v_149_1, v_149_2, h_149_2, v_149_3, v_149_4, v_149_7, v_149_10, v_149_11, v_149_12, v_149_13, v_149_14, v_149_17, v_149_18, v_149_21, v_149_22, v_149_23, v_149_26, v_149_29, v_149_30, v_149_31, v_149_34, v_149_37, v_149_38, vgi_0, vgi_s, vga_0, vga_s, vset_0, vset_s, vtk_0, vtk_s, vrc_0, vsw_0, vsw_s, List.all_cons, List.all_nil, zc1_i, zc1_r, Bool.and_true, Bool.and_self, true_and, and_true, List.length_cons, List.length_nil, Nat.zero_le, Nat.reduceLeDiff, Nat.reduceAdd, Nat.reduceLT, Option.toList_some, List.cons_append, List.nil_append]
      rw [hf]
      by_cases y : f (3 + 5 * u) = 1
      · rw [if_pos y, if_neg (by decide), nI_1]
        exact nx (fun h => h.2 y)
      · rw [if_neg y, if_pos rfl]
        exact k1 u (Or.inr ⟨hp6, by omega, ⟨z, y⟩, hI⟩)
    · rw [if_neg z, nI_1]
      exact nx (fun h => z h.1)
theorem c_149 {s n : Nat} {f : St} (hd : 3 ≤ d) (hs : vtag s = 4) (hf : cS t s = f) (hn : f 0 = nI n) (hn6 : n ≤ 6) (hp6 : 6 ≤ p) (ha : 2 ≤ a) (ha6 : a < 6) (k1 : ∀ u, piv p a f n u → F (some (.int (nI u))) t) (k0 : nopiv p a f n → F (some (.int (-1))) t) : twc d 149 [.ref s, .int (nI a)] t F := by
  refine ⟨by omega, ?_⟩
  rw [ze_149]
  refine vc_ok none zH_149 33 false _ 149 0 _ _ _ _ ?_
  simp only [v_149_0, v_149_1, v_149_2, h_149_2, v_149_3, v_149_4, v_149_7, v_149_10, v_149_11, v_149_12, v_149_13, v_149_14, v_149_17, v_149_18, v_149_21, v_149_22, v_149_23, v_149_26, v_149_29, v_149_30, v_149_31, v_149_34, v_149_37, v_149_38, vgi_0, vgi_s, vga_0, vga_s, vset_0, vset_s, vtk_0, vtk_s, vrc_0, vsw_0, vsw_s, List.all_cons, List.all_nil, zc1_i, zc1_r, Bool.and_true, Bool.and_self, true_and, and_true, List.length_cons, List.length_nil, Nat.zero_le, Nat.reduceLeDiff, Nat.reduceAdd, Nat.reduceLT]
  exact l_149 (by omega) hs hf hn hn6 hp6 ha ha6 k1 k0 n 0 (by omega) (fun u' hu' => by omega)
theorem piv_su {f : St} {n u w : Nat} {v : Int32} (hp2 : 2 ≤ p) (ha : 6 ≤ p → 2 ≤ a ∧ a < 6) (hn6 : n ≤ 6) (h : piv p a f n u) : piv p a (su f (fcl p u w) v) n u := by
  rcases h with h | ⟨h1, h2, h3, h4⟩
  · exact Or.inl h
  · have e : ∀ u', u' < 6 → (isp a (su f (fcl p u w) v) u' ↔ isp a f u') := fun u' hu' => by
      have := ha h1
      unfold isp su
      rw [fcl_2 h1, if_neg (by omega), if_neg (by omega)]
    exact Or.inr ⟨h1, h2, (e u (by omega)).mpr h3, fun u' hu' q => h4 u' hu' ((e u' (by omega)).mp q)⟩
theorem fcl_inj {u w w' : Nat} (h : fcl p u w = fcl p u w') : w = w' := by
  by_cases p6 : p < 6
  · rw [fcl_1 p6, fcl_1 p6] at h; omega
  · rw [fcl_2 (by omega), fcl_2 (by omega)] at h; omega
theorem l_148b {L0 : List St} {i e : Nat} {u : Nat} (hd : 6 ≤ d) (he : e < 8) (hp2 : 2 ≤ p) (hp8 : p < 8) (ha : 6 ≤ p → 2 ≤ a ∧ a < 6) (hb : b ∈ bags) (hbN : bN b = 40) (hb2 : b = 61 ∨ b = 161) (hbw : bwf t b) (hwk : t.2 58 3 = b) (hep : t.1 (251 + 3 * e) 2 = nI p) (hea : t.1 (251 + 3 * e) 3 = nI a) (kf : FOx p a L0 0 none → ∀ t', tQ (bgF b) t t' → F (some (.int 0)) t') (kn : ∀ (L : List St) (t' : T) (m3 m4 m5 m6 : Value), tQ (bgF b) t t' → bL t' b L → i < L.length → L.length ≤ 40 → (∀ x, x ∈ L → wfS x) → (∀ r, FOx p a L (i + 1) r → FOx p a L0 0 r) → twp none d 148 2 [.ref 58, .ref (251 + 3 * e), .int (nI (i + 1)), m3, m4, m5, m6] [] t' F) {n : Nat} (hn6 : n ≤ 6) (hu6 : u < 6) : ∀ (j x : Nat) (L : List St) (t' : T) (m6 : Value), x + j = n → tQ (bgF b) t t' → bL t' b L → i < L.length → L.length ≤ 40 → (∀ x, x ∈ L → wfS x) → L.getD i z0 0 = nI n → piv p a (L.getD i z0) n u → (∀ w, w < x → L.getD i z0 (fcl p u w) ≠ 2) → (∀ r, FOx p a L i r → FOx p a L0 0 r) → twp none d 148 55 [.ref 58, .ref (251 + 3 * e), .int (nI i), .ref (br t b i), .int (nI u), .int (nI x), m6] [] t' F := by
  have et := ed_tag he
  intro j
  induction j with
  | zero =>
    intro x L t' m6 hx hO hL hi h40 hwf hn hpv hI hbk
    have hx : x = n := by omega
    subst hx
    obtain ⟨i1, i2, i3⟩ := hbw.1 i (by omega)
    have hb1 := hbw.q hO.1
    have hti : t'.1 (br t b i) 0 = nI x := by
      rw [← cS_i, ← hb1.2 i]
      show bg t' b i 0 = _
      rw [hL.2 i hi]; exact hn
    refine vc_ok none zH_148 77 false _ 148 55 _ _ _ _ ?_
    simp only [v_148_0, v_148_1, v_148_2, h_148_2, v_148_3, v_148_5, v_148_8, v_148_9, v_148_10, v_148_13, v_148_16, v_148_19, v_148_20, v_148_23, v_148_26, v_148_27, v_148_28, v_148_29, v_148_30, v_148_33, v_148_35, v_148_38, v_148_39, v_148_42, v_148_43, v_148_44, v_148_47, v_148_50, v_148_52, v_148_53, v_148_55, h_148_55, v_148_57, v_148_58, v_148_61, v_148_64, v_148_66, v_148_69, v_148_70, v_148_73, v_148_74, v_148_77, v_148_79, v_148_81, v_148_84, v_148_85, v_148_86, v_148_89, v_148_90, v_148_93, v_148_94, v_148_96, v_148_98, v_148_101, v_148_102, v_148_103, v_148_104, v_148_107, v_148_109, v_148_111, v_148_114, v_148_117, v_148_118, v_148_119, v_148_122, v_148_125, v_148_128, v_148_131, v_148_132, vgi_0, vgi_s, vga_0, vga_s, vset_0, vset_s, vtk_0, vtk_s, vrc_0, vsw_0, vsw_s, List.all_cons, List.all_nil, zc1_i, zc1_r, Bool.and_true, Bool.and_self, true_and, and_true, List.length_cons, List.length_nil, Nat.zero_le, Nat.reduceLeDiff, Nat.reduceAdd, Nat.reduceLT, i3, hti]
    simp (disch := omega) only [nI_ltI, Nat.lt_irrefl, if_false]
    rw [nI_1]
    exact kn L t' _ _ _ _ hO hL hi h40 hwf (fun r hr => hbk r (FOx_next hi hn hn6 (Or.inr ⟨u, hpv, hI⟩) hr))
  | succ j ih =>
    intro x L t' m6 hx hO hL hi h40 hwf hn hpv hI hbk
    obtain ⟨i1, i2, i3⟩ := hbw.1 i (by omega)
    have hb1 := hbw.q hO.1
    have hbi := hb1.2 i
    have hti0 : cS t' (br t b i) = L.getD i z0 := by
      rw [← hb1.2 i]
      exact hL.2 i hi
    have hti : t'.1 (br t b i) 0 = nI n := by rw [← cS_i, hti0]; exact hn
    have hm := gd_mem hi
    have hwi := hwf _ hm
    have hep' : t'.1 (251 + 3 * e) 2 = nI p := by rw [hO.2 _ (by unfold bgF; omega)]; exact hep
    have hwk' : t'.2 58 3 = b := by rw [hO.1]; exact hwk
    have hcl : fcl p u x < 105 ∧ 0 < fcl p u x := by
      by_cases p6 : p < 6
      · rw [fcl_1 p6]; omega
      · rw [fcl_2 (by omega)]; omega
    have hrow : t'.1 (br t b i + 1) (fcl p u x - 1) = L.getD i z0 (fcl p u x) := by
      rw [← hti0, show fcl p u x = fcl p u x - 1 + 1 by omega, cS_c (by omega), show fcl p u x - 1 + 1 - 1 = fcl p u x - 1 by omega]
    refine vc_ok none zH_148 77 false _ 148 55 _ _ _ _ ?_
    simp only [v_148_0, v_148_1, v_148_2, h_148_2, v_148_3, v_148_5, v_148_8, v_148_9, v_148_10, v_148_13, v_148_16, v_148_19, v_148_20, v_148_23, v_148_26, v_148_27, v_148_28, v_148_29, v_148_30, v_148_33, v_148_35, v_148_38, v_148_39, v_148_42, v_148_43, v_148_44, v_148_47, v_148_50, v_148_52, v_148_53, v_148_55, h_148_55, v_148_57, v_148_58, v_148_61, v_148_64, v_148_66, v_148_69, v_148_70, v_148_73, v_148_74, v_148_77, v_148_79, v_148_81, v_148_84, v_148_85, v_148_86, v_148_89, v_148_90, v_148_93, v_148_94, v_148_96, v_148_98, v_148_101, v_148_102, v_148_103, v_148_104, v_148_107, v_148_109, v_148_111, v_148_114, v_148_117, v_148_118, v_148_119, v_148_122, v_148_125, v_148_128, v_148_131, v_148_132, vgi_0, vgi_s, vga_0, vga_s, vset_0, vset_s, vtk_0, vtk_s, vrc_0, vsw_0, vsw_s, List.all_cons, List.all_nil, zc1_i, zc1_r, Bool.and_true, Bool.and_self, true_and, and_true, List.length_cons, List.length_nil, Nat.zero_le, Nat.reduceLeDiff, Nat.reduceAdd, Nat.reduceLT, i3, hti, st_row _ i3, et, hep']
    simp (disch := omega) only [nI_ltI]
    rw [if_pos (by omega), if_neg (by rw [li0, nI_ltI (by omega) (by omega)]; omega)]
    refine c_150 (by omega) hp2 hp8 (by omega) (by omega) ?_
    simp only [v_148_0, v_148_1, v_148_2, h_148_2, v_148_3, v_148_5, v_148_8, v_148_9, v_148_10, v_148_13, v_148_16, v_148_19, v_148_20, v_148_23, v_148_26, v_148_27, v_148_28, v_148_29, v_148_30, v_148_33, v_148_35, v_148_38, v_148_39, v_148_42, v_148_43, v_148_44, v_148_47, v_148_50, v_148_52, v_148_53, v_148_55, h_148_55, v_148_57, v_148_58, v_148_61, v_148_64, v_148_66, v_148_69, v_148_70, v_148_73, v_148_74, v_148_77, v_148_79, v_148_81, v_148_84, v_148_85, v_148_86, v_148_89, v_148_90, v_148_93, v_148_94, v_148_96, v_148_98, v_148_101, v_148_102, v_148_103, v_148_104, v_148_107, v_148_109, v_148_111, v_148_114, v_148_117, v_148_118, v_148_119, v_148_122, v_148_125, v_148_128, v_148_131, v_148_132, vgi_0, vgi_s, vga_0, vga_s, vset_0, vset_s, vtk_0, vtk_s, vrc_0, vsw_0, vsw_s, List.all_cons, List.all_nil, zc1_i, zc1_r, Bool.and_true, Bool.and_self, true_and, and_true, List.length_cons, List.length_nil, Nat.zero_le, Nat.reduceLeDiff, Nat.reduceAdd, Nat.reduceLT, Option.toList_some, List.cons_append, List.nil_append, st_tag i3, st_len i3, et, hep', tg_58, i3]
    simp (disch := omega) only [nI_clamp, vinb_n, hrow]
    refine ⟨by omega, ?_⟩
    by_cases z : L.getD i z0 (fcl p u x) = 2
    · rw [if_pos z, if_neg (by decide)]
      have hdl : dul p u (L.getD i z0) n x := ⟨by omega, z, hI⟩
      have fin : ∀ (t2 : T) (L' : List St), brc p (L.getD i z0) n u x L i = some (L', i) → tQ (bgF b) t' t2 → bL t2 b L' → L'.getD i z0 = su (L.getD i z0) (fcl p u x) 0 → ∀ m6, twp none d 148 55 [.ref 58, .ref (251 + 3 * e), .int (nI i), .ref (br t b i), .int (nI u), .int (nI (x + 1)), m6] [] t2 F := by
        intro t2 L' hbr o2 hL2 hg m6
        have hw2 := brc_wf hp2 hp8 hwf hwi hn hn6 hpv hdl hbr
        refine ih (x + 1) L' t2 m6 (by omega) (hO.tr o2) hL2 (by omega) hw2.2.1 hw2.1 ?_ ?_ ?_ (fun r hr => hbk r (FOx_step hi hn hn6 hpv hdl hbr hr))
        · rw [hg]; unfold su; rw [if_neg (by omega)]; exact hn
        · rw [hg]; exact piv_su hp2 ha hn6 hpv
        · intro w hw
          rw [hg]; unfold su
          by_cases e1 : fcl p u w = fcl p u x
          · rw [if_pos e1]; decide
          · rw [if_neg e1]
            refine hI w ?_
            have : w ≠ x := fun q => e1 (by rw [q])
            omega
      have c151 : ∀ G : Option Value → T → Prop, _ → _ → _ → twc d 151 [.ref 58, .ref (br t b i), .int (nI p), .int (nI u), .int (nI x)] t' G := fun G g0 g1 g2 => by
        have := c_151 (F := G) (d := d) (b := b) (t := t') (p := p) (L := L) (i := i) (n := n) (u := u) (w := x) (f := L.getD i z0) (by omega) hb hbN hb1.1 hwk' hL hi h40 rfl hwi hn hn6 hp2 hp8 hu6 (by omega) (fun h6 => by
          rcases hpv with ⟨h, -⟩ | ⟨-, h1, h2, -⟩
          · omega
          · exact ⟨h1, h2.2⟩) g0 g1 g2
        rw [hbi] at this
        exact this
      refine c151 _ (fun hx => ?_) (fun y c1 t2 o2 l2 => ?_) (fun y n6 c2 t2 o2 l2 => ?_)
      · simp only [v_148_0, v_148_1, v_148_2, h_148_2, v_148_3, v_148_5, v_148_8, v_148_9, v_148_10, v_148_13, v_148_16, v_148_19, v_148_20, v_148_23, v_148_26, v_148_27, v_148_28, v_148_29, v_148_30, v_148_33, v_148_35, v_148_38, v_148_39, v_148_42, v_148_43, v_148_44, v_148_47, v_148_50, v_148_52, v_148_53, v_148_55, h_148_55, v_148_57, v_148_58, v_148_61, v_148_64, v_148_66, v_148_69, v_148_70, v_148_73, v_148_74, v_148_77, v_148_79, v_148_81, v_148_84, v_148_85, v_148_86, v_148_89, v_148_90, v_148_93, v_148_94, v_148_96, v_148_98, v_148_101, v_148_102, v_148_103, v_148_104, v_148_107, v_148_109, v_148_111, v_148_114, v_148_117, v_148_118, v_148_119, v_148_122, v_148_125, v_148_128, v_148_131, v_148_132, vgi_0, vgi_s, vga_0, vga_s, vset_0, vset_s, vtk_0, vtk_s, vrc_0, vsw_0, vsw_s, List.all_cons, List.all_nil, zc1_i, zc1_r, Bool.and_true, Bool.and_self, true_and, and_true, List.length_cons, List.length_nil, Nat.zero_le, Nat.reduceLeDiff, Nat.reduceAdd, Nat.reduceLT, Option.toList_some, List.cons_append, List.nil_append]
        rw [if_pos trivial]
        exact ⟨Or.inl trivial, kf (hbk _ (FOx_fail hi hn hn6 hpv hdl (brc_none hx))) t' hO⟩
      · simp only [v_148_0, v_148_1, v_148_2, h_148_2, v_148_3, v_148_5, v_148_8, v_148_9, v_148_10, v_148_13, v_148_16, v_148_19, v_148_20, v_148_23, v_148_26, v_148_27, v_148_28, v_148_29, v_148_30, v_148_33, v_148_35, v_148_38, v_148_39, v_148_42, v_148_43, v_148_44, v_148_47, v_148_50, v_148_52, v_148_53, v_148_55, h_148_55, v_148_57, v_148_58, v_148_61, v_148_64, v_148_66, v_148_69, v_148_70, v_148_73, v_148_74, v_148_77, v_148_79, v_148_81, v_148_84, v_148_85, v_148_86, v_148_89, v_148_90, v_148_93, v_148_94, v_148_96, v_148_98, v_148_101, v_148_102, v_148_103, v_148_104, v_148_107, v_148_109, v_148_111, v_148_114, v_148_117, v_148_118, v_148_119, v_148_122, v_148_125, v_148_128, v_148_131, v_148_132, vgi_0, vgi_s, vga_0, vga_s, vset_0, vset_s, vtk_0, vtk_s, vrc_0, vsw_0, vsw_s, List.all_cons, List.all_nil, zc1_i, zc1_r, Bool.and_true, Bool.and_self, true_and, and_true, List.length_cons, List.length_nil, Nat.zero_le, Nat.reduceLeDiff, Nat.reduceAdd, Nat.reduceLT, Option.toList_some, List.cons_append, List.nil_append]
        rw [if_neg (by decide), nI_1]
        exact fin t2 _ (brc_1 y c1) o2 l2 (by rw [gd_app_lt (by rw [List.length_set]; exact hi), gd_set_eq hi]) _
      · simp only [v_148_0, v_148_1, v_148_2, h_148_2, v_148_3, v_148_5, v_148_8, v_148_9, v_148_10, v_148_13, v_148_16, v_148_19, v_148_20, v_148_23, v_148_26, v_148_27, v_148_28, v_148_29, v_148_30, v_148_33, v_148_35, v_148_38, v_148_39, v_148_42, v_148_43, v_148_44, v_148_47, v_148_50, v_148_52, v_148_53, v_148_55, h_148_55, v_148_57, v_148_58, v_148_61, v_148_64, v_148_66, v_148_69, v_148_70, v_148_73, v_148_74, v_148_77, v_148_79, v_148_81, v_148_84, v_148_85, v_148_86, v_148_89, v_148_90, v_148_93, v_148_94, v_148_96, v_148_98, v_148_101, v_148_102, v_148_103, v_148_104, v_148_107, v_148_109, v_148_111, v_148_114, v_148_117, v_148_118, v_148_119, v_148_122, v_148_125, v_148_128, v_148_131, v_148_132, vgi_0, vgi_s, vga_0, vga_s, vset_0, vset_s, vtk_0, vtk_s, vrc_0, vsw_0, vsw_s, List.all_cons, List.all_nil, zc1_i, zc1_r, Bool.and_true, Bool.and_self, true_and, and_true, List.length_cons, List.length_nil, Nat.zero_le, Nat.reduceLeDiff, Nat.reduceAdd, Nat.reduceLT, Option.toList_some, List.cons_append, List.nil_append]
        rw [if_neg (by decide), nI_1]
        exact fin t2 _ (brc_2 y n6 c2) o2 l2 (by rw [gd_app_lt (by rw [List.length_set]; exact hi), gd_set_eq hi]) _
    · rw [if_neg z, if_pos trivial, nI_1]
      refine ih (x + 1) L t' _ (by omega) hO hL hi h40 hwf hn hpv (fun w hw => ?_) hbk
      by_cases e1 : w = x
      · rw [e1]; exact z
      · exact hI w (by omega)
theorem l_148a {L0 : List St} {e : Nat} (hd : 6 ≤ d) (he : e < 8) (hp2 : 2 ≤ p) (hp8 : p < 8) (ha : 6 ≤ p → 2 ≤ a ∧ a < 6) (hb : b ∈ bags) (hbN : bN b = 40) (hb2 : b = 61 ∨ b = 161) (hbw : bwf t b) (hwk : t.2 58 3 = b) (hep : t.1 (251 + 3 * e) 2 = nI p) (hea : t.1 (251 + 3 * e) 3 = nI a) (kf : FOx p a L0 0 none → ∀ t', tQ (bgF b) t t' → F (some (.int 0)) t') (k1 : ∀ L, FOx p a L0 0 (some L) → ∀ t', tQ (bgF b) t t' → bL t' b L → F (some (.int 1)) t') : ∀ (j i : Nat) (L : List St) (t' : T) (m3 m4 m5 m6 : Value), i + j = 40 → tQ (bgF b) t t' → bL t' b L → L.length ≤ 40 → (∀ x, x ∈ L → wfS x) → (∀ r, FOx p a L i r → FOx p a L0 0 r) → twp none d 148 2 [.ref 58, .ref (251 + 3 * e), .int (nI i), m3, m4, m5, m6] [] t' F := by
  have et := ed_tag he
  have hbd := bag_all b hb
  have tb : vtag b = 8 := hbd.2.2.2.2.2.1
  intro j
  induction j with
  | zero =>
    intro i L t' m3 m4 m5 m6 hi hO hL h40 hwf hbk
    have hi : i = 40 := by omega
    subst hi
    refine vc_ok none zH_148 77 false _ 148 2 _ _ _ _ ?_
    simp only [v_148_0, v_148_1, v_148_2, h_148_2, v_148_3, v_148_5, v_148_8, v_148_9, v_148_10, v_148_13, v_148_16, v_148_19, v_148_20, v_148_23, v_148_26, v_148_27, v_148_28, v_148_29, v_148_30, v_148_33, v_148_35, v_148_38, v_148_39, v_148_42, v_148_43, v_148_44, v_148_47, v_148_50, v_148_52, v_148_53, v_148_55, h_148_55, v_148_57, v_148_58, v_148_61, v_148_64, v_148_66, v_148_69, v_148_70, v_148_73, v_148_74, v_148_77, v_148_79, v_148_81, v_148_84, v_148_85, v_148_86, v_148_89, v_148_90, v_148_93, v_148_94, v_148_96, v_148_98, v_148_101, v_148_102, v_148_103, v_148_104, v_148_107, v_148_109, v_148_111, v_148_114, v_148_117, v_148_118, v_148_119, v_148_122, v_148_125, v_148_128, v_148_131, v_148_132, vgi_0, vgi_s, vga_0, vga_s, vset_0, vset_s, vtk_0, vtk_s, vrc_0, vsw_0, vsw_s, List.all_cons, List.all_nil, zc1_i, zc1_r, Bool.and_true, Bool.and_self, true_and, and_true, List.length_cons, List.length_nil, Nat.zero_le, Nat.reduceLeDiff, Nat.reduceAdd, Nat.reduceLT]
    rw [if_neg (by decide)]
    exact ⟨Or.inr trivial, k1 L (hbk _ (FOx_end (by omega))) t' hO hL⟩
  | succ j ih =>
    intro i L t' m3 m4 m5 m6 hi hO hL h40 hwf hbk
    have hwk' : t'.2 58 3 = b := by rw [hO.1]; exact hwk
    have hep' : t'.1 (251 + 3 * e) 2 = nI p := by rw [hO.2 _ (by unfold bgF; omega)]; exact hep
    have hea' : t'.1 (251 + 3 * e) 3 = nI a := by rw [hO.2 _ (by unfold bgF; omega)]; exact hea
    have hb1 := hbw.q hO.1
    by_cases il : i < L.length
    · obtain ⟨i1, i2, i3⟩ := hbw.1 i (by omega)
      have hti0 : cS t' (br t b i) = L.getD i z0 := by
        rw [← hb1.2 i]
        exact hL.2 i il
      have hm := gd_mem il
      have hwi := hwf _ hm
      obtain ⟨hn, hn6⟩ := hwi.n
      have hti : t'.1 (br t b i) 0 = nI (sn (L.getD i z0)) := by rw [← cS_i, hti0]; exact hn
      have hbi : t'.2 (b + 1) i = br t b i := hb1.2 i
      refine vc_ok none zH_148 77 false _ 148 2 _ _ _ _ ?_
      simp only [v_148_0, v_148_1, v_148_2, h_148_2, v_148_3, v_148_5, v_148_8, v_148_9, v_148_10, v_148_13, v_148_16, v_148_19, v_148_20, v_148_23, v_148_26, v_148_27, v_148_28, v_148_29, v_148_30, v_148_33, v_148_35, v_148_38, v_148_39, v_148_42, v_148_43, v_148_44, v_148_47, v_148_50, v_148_52, v_148_53, v_148_55, h_148_55, v_148_57, v_148_58, v_148_61, v_148_64, v_148_66, v_148_69, v_148_70, v_148_73, v_148_74, v_148_77, v_148_79, v_148_81, v_148_84, v_148_85, v_148_86, v_148_89, v_148_90, v_148_93, v_148_94, v_148_96, v_148_98, v_148_101, v_148_102, v_148_103, v_148_104, v_148_107, v_148_109, v_148_111, v_148_114, v_148_117, v_148_118, v_148_119, v_148_122, v_148_125, v_148_128, v_148_131, v_148_132, vgi_0, vgi_s, vga_0, vga_s, vset_0, vset_s, vtk_0, vtk_s, vrc_0, vsw_0, vsw_s, List.all_cons, List.all_nil, zc1_i, zc1_r, Bool.and_true, Bool.and_self, true_and, and_true, List.length_cons, List.length_nil, Nat.zero_le, Nat.reduceLeDiff, Nat.reduceAdd, Nat.reduceLT, tg_58, tf_58_3, hwk', tb, hL.1, bag_arr _ hb]
      rw [li40, if_pos (nI_lt (by omega) (by omega))]
      simp (disch := omega) only [nI_ltI, nI_clamp, vinb_n, hbd.2.2.1, bag_ref _ hb, hbi]
      rw [if_pos il]
      refine ⟨by omega, by omega, by show i < bN b; omega, ?_⟩
      simp only [v_148_0, v_148_1, v_148_2, h_148_2, v_148_3, v_148_5, v_148_8, v_148_9, v_148_10, v_148_13, v_148_16, v_148_19, v_148_20, v_148_23, v_148_26, v_148_27, v_148_28, v_148_29, v_148_30, v_148_33, v_148_35, v_148_38, v_148_39, v_148_42, v_148_43, v_148_44, v_148_47, v_148_50, v_148_52, v_148_53, v_148_55, h_148_55, v_148_57, v_148_58, v_148_61, v_148_64, v_148_66, v_148_69, v_148_70, v_148_73, v_148_74, v_148_77, v_148_79, v_148_81, v_148_84, v_148_85, v_148_86, v_148_89, v_148_90, v_148_93, v_148_94, v_148_96, v_148_98, v_148_101, v_148_102, v_148_103, v_148_104, v_148_107, v_148_109, v_148_111, v_148_114, v_148_117, v_148_118, v_148_119, v_148_122, v_148_125, v_148_128, v_148_131, v_148_132, vgi_0, vgi_s, vga_0, vga_s, vset_0, vset_s, vtk_0, vtk_s, vrc_0, vsw_0, vsw_s, List.all_cons, List.all_nil, zc1_i, zc1_r, Bool.and_true, Bool.and_self, true_and, and_true, List.length_cons, List.length_nil, Nat.zero_le, Nat.reduceLeDiff, Nat.reduceAdd, Nat.reduceLT, et, hep', hea']
      simp (disch := omega) only [li6, nI_ltI]
      by_cases p6 : p < 6
      · rw [if_pos p6]
        exact l_148b (t := t) (u := 0) hd he hp2 hp8 ha hb hbN hb2 hbw hwk hep hea kf (fun L2 t2 k3 k4 k5 k6 o2 l2 _ c2 w2 b2 => ih (i + 1) L2 t2 k3 k4 k5 k6 (by omega) o2 l2 c2 w2 b2) hn6 (by omega) (sn (L.getD i z0)) 0 L t' _ (by omega) hO hL il h40 hwf hn (Or.inl ⟨p6, rfl⟩) (fun w hw => by omega) hbk
      · rw [if_neg p6]
        refine c_149 (p := p) (by omega) i3 hti0 hn hn6 (by omega) (ha (by omega)).1 (ha (by omega)).2 (fun u hpv => ?_) (fun hnp => ?_)
        · simp only [v_148_0, v_148_1, v_148_2, h_148_2, v_148_3, v_148_5, v_148_8, v_148_9, v_148_10, v_148_13, v_148_16, v_148_19, v_148_20, v_148_23, v_148_26, v_148_27, v_148_28, v_148_29, v_148_30, v_148_33, v_148_35, v_148_38, v_148_39, v_148_42, v_148_43, v_148_44, v_148_47, v_148_50, v_148_52, v_148_53, v_148_55, h_148_55, v_148_57, v_148_58, v_148_61, v_148_64, v_148_66, v_148_69, v_148_70, v_148_73, v_148_74, v_148_77, v_148_79, v_148_81, v_148_84, v_148_85, v_148_86, v_148_89, v_148_90, v_148_93, v_148_94, v_148_96, v_148_98, v_148_101, v_148_102, v_148_103, v_148_104, v_148_107, v_148_109, v_148_111, v_148_114, v_148_117, v_148_118, v_148_119, v_148_122, v_148_125, v_148_128, v_148_131, v_148_132, vgi_0, vgi_s, vga_0, vga_s, vset_0, vset_s, vtk_0, vtk_s, vrc_0, vsw_0, vsw_s, List.all_cons, List.all_nil, zc1_i, zc1_r, Bool.and_true, Bool.and_self, true_and, and_true, List.length_cons, List.length_nil, Nat.zero_le, Nat.reduceLeDiff, Nat.reduceAdd, Nat.reduceLT, Option.toList_some, List.cons_append, List.nil_append]
          have hul := piv_lt hpv (by omega)
          exact l_148b (t := t) (u := u) hd he hp2 hp8 ha hb hbN hb2 hbw hwk hep hea kf (fun L2 t2 k3 k4 k5 k6 o2 l2 _ c2 w2 b2 => ih (i + 1) L2 t2 k3 k4 k5 k6 (by omega) o2 l2 c2 w2 b2) hn6 (by omega) (sn (L.getD i z0)) 0 L t' _ (by omega) hO hL il h40 hwf hn hpv (fun w hw => by omega) hbk
        · simp only [v_148_0, v_148_1, v_148_2, h_148_2, v_148_3, v_148_5, v_148_8, v_148_9, v_148_10, v_148_13, v_148_16, v_148_19, v_148_20, v_148_23, v_148_26, v_148_27, v_148_28, v_148_29, v_148_30, v_148_33, v_148_35, v_148_38, v_148_39, v_148_42, v_148_43, v_148_44, v_148_47, v_148_50, v_148_52, v_148_53, v_148_55, h_148_55, v_148_57, v_148_58, v_148_61, v_148_64, v_148_66, v_148_69, v_148_70, v_148_73, v_148_74, v_148_77, v_148_79, v_148_81, v_148_84, v_148_85, v_148_86, v_148_89, v_148_90, v_148_93, v_148_94, v_148_96, v_148_98, v_148_101, v_148_102, v_148_103, v_148_104, v_148_107, v_148_109, v_148_111, v_148_114, v_148_117, v_148_118, v_148_119, v_148_122, v_148_125, v_148_128, v_148_131, v_148_132, vgi_0, vgi_s, vga_0, vga_s, vset_0, vset_s, vtk_0, vtk_s, vrc_0, vsw_0, vsw_s, List.all_cons, List.all_nil, zc1_i, zc1_r, Bool.and_true, Bool.and_self, true_and, and_true, List.length_cons, List.length_nil, Nat.zero_le, Nat.reduceLeDiff, Nat.reduceAdd, Nat.reduceLT, Option.toList_some, List.cons_append, List.nil_append]
          have fin : ∀ m5, twp none d 148 2 [.ref 58, .ref (251 + 3 * e), .int (nI (i + 1)), .ref (br t b i), .int (-1), m5, m6] [] t' F := fun m5 => ih (i + 1) L t' _ _ _ _ (by omega) hO hL h40 hwf (fun r hr => hbk r (FOx_next il hn hn6 (Or.inl hnp) hr))
          refine vc_ok none zH_148 77 false _ 148 55 _ _ _ _ ?_
          simp only [v_148_0, v_148_1, v_148_2, h_148_2, v_148_3, v_148_5, v_148_8, v_148_9, v_148_10, v_148_13, v_148_16, v_148_19, v_148_20, v_148_23, v_148_26, v_148_27, v_148_28, v_148_29, v_148_30, v_148_33, v_148_35, v_148_38, v_148_39, v_148_42, v_148_43, v_148_44, v_148_47, v_148_50, v_148_52, v_148_53, v_148_55, h_148_55, v_148_57, v_148_58, v_148_61, v_148_64, v_148_66, v_148_69, v_148_70, v_148_73, v_148_74, v_148_77, v_148_79, v_148_81, v_148_84, v_148_85, v_148_86, v_148_89, v_148_90, v_148_93, v_148_94, v_148_96, v_148_98, v_148_101, v_148_102, v_148_103, v_148_104, v_148_107, v_148_109, v_148_111, v_148_114, v_148_117, v_148_118, v_148_119, v_148_122, v_148_125, v_148_128, v_148_131, v_148_132, vgi_0, vgi_s, vga_0, vga_s, vset_0, vset_s, vtk_0, vtk_s, vrc_0, vsw_0, vsw_s, List.all_cons, List.all_nil, zc1_i, zc1_r, Bool.and_true, Bool.and_self, true_and, and_true, List.length_cons, List.length_nil, Nat.zero_le, Nat.reduceLeDiff, Nat.reduceAdd, Nat.reduceLT, i3, hti]
          by_cases y : (0 : Int32) < nI (sn (L.getD i z0))
          · rw [if_pos y, if_pos (by decide), nI_1]
            exact fin _
          · rw [if_neg y, nI_1]
            exact fin _
    · refine vc_ok none zH_148 77 false _ 148 2 _ _ _ _ ?_
      simp only [v_148_0, v_148_1, v_148_2, h_148_2, v_148_3, v_148_5, v_148_8, v_148_9, v_148_10, v_148_13, v_148_16, v_148_19, v_148_20, v_148_23, v_148_26, v_148_27, v_148_28, v_148_29, v_148_30, v_148_33, v_148_35, v_148_38, v_148_39, v_148_42, v_148_43, v_148_44, v_148_47, v_148_50, v_148_52, v_148_53, v_148_55, h_148_55, v_148_57, v_148_58, v_148_61, v_148_64, v_148_66, v_148_69, v_148_70, v_148_73, v_148_74, v_148_77, v_148_79, v_148_81, v_148_84, v_148_85, v_148_86, v_148_89, v_148_90, v_148_93, v_148_94, v_148_96, v_148_98, v_148_101, v_148_102, v_148_103, v_148_104, v_148_107, v_148_109, v_148_111, v_148_114, v_148_117, v_148_118, v_148_119, v_148_122, v_148_125, v_148_128, v_148_131, v_148_132, vgi_0, vgi_s, vga_0, vga_s, vset_0, vset_s, vtk_0, vtk_s, vrc_0, vsw_0, vsw_s, List.all_cons, List.all_nil, zc1_i, zc1_r, Bool.and_true, Bool.and_self, true_and, and_true, List.length_cons, List.length_nil, Nat.zero_le, Nat.reduceLeDiff, Nat.reduceAdd, Nat.reduceLT, tg_58, tf_58_3, hwk', tb, hL.1]
      rw [li40, if_pos (nI_lt (by omega) (by omega))]
      simp (disch := omega) only [nI_ltI]
      rw [if_neg il]
      exact ⟨Or.inr trivial, k1 L (hbk _ (FOx_end (by omega))) t' hO hL⟩
theorem c_148 {L0 : List St} {e : Nat} (hd : 7 ≤ d) (he : e < 8) (hp2 : 2 ≤ p) (hp8 : p < 8) (ha : 6 ≤ p → 2 ≤ a ∧ a < 6) (hb : b ∈ bags) (hbN : bN b = 40) (hb2 : b = 61 ∨ b = 161) (hbw : bwf t b) (hwk : t.2 58 3 = b) (hep : t.1 (251 + 3 * e) 2 = nI p) (hea : t.1 (251 + 3 * e) 3 = nI a) (hL : bL t b L0) (h40 : L0.length ≤ 40) (hwf : ∀ x, x ∈ L0 → wfS x) (kf : FOx p a L0 0 none → ∀ t', tQ (bgF b) t t' → F (some (.int 0)) t') (k1 : ∀ L, FOx p a L0 0 (some L) → ∀ t', tQ (bgF b) t t' → bL t' b L → F (some (.int 1)) t') : twc d 148 [.ref 58, .ref (251 + 3 * e)] t F := by
  refine ⟨by omega, ?_⟩
  rw [ze_148]
  refine vc_ok none zH_148 77 false _ 148 0 _ _ _ _ ?_
  simp only [v_148_0, v_148_1, v_148_2, h_148_2, v_148_3, v_148_5, v_148_8, v_148_9, v_148_10, v_148_13, v_148_16, v_148_19, v_148_20, v_148_23, v_148_26, v_148_27, v_148_28, v_148_29, v_148_30, v_148_33, v_148_35, v_148_38, v_148_39, v_148_42, v_148_43, v_148_44, v_148_47, v_148_50, v_148_52, v_148_53, v_148_55, h_148_55, v_148_57, v_148_58, v_148_61, v_148_64, v_148_66, v_148_69, v_148_70, v_148_73, v_148_74, v_148_77, v_148_79, v_148_81, v_148_84, v_148_85, v_148_86, v_148_89, v_148_90, v_148_93, v_148_94, v_148_96, v_148_98, v_148_101, v_148_102, v_148_103, v_148_104, v_148_107, v_148_109, v_148_111, v_148_114, v_148_117, v_148_118, v_148_119, v_148_122, v_148_125, v_148_128, v_148_131, v_148_132, vgi_0, vgi_s, vga_0, vga_s, vset_0, vset_s, vtk_0, vtk_s, vrc_0, vsw_0, vsw_s, List.all_cons, List.all_nil, zc1_i, zc1_r, Bool.and_true, Bool.and_self, true_and, and_true, List.length_cons, List.length_nil, Nat.zero_le, Nat.reduceLeDiff, Nat.reduceAdd, Nat.reduceLT]
  exact l_148a (by omega) he hp2 hp8 ha hb hbN hb2 hbw hwk hep hea kf k1 40 0 L0 t _ _ _ _ (by omega) tQ.rf hL h40 hwf (fun r h => h)
end CF2
