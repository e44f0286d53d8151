/-! apply. -/
section OP13
variable {d b : Nat} {t t' : T} {F : Option Value → T → Prop}
/-- all but the pile -/
def INVn (t : T) : Prop := ∃ q m ru rc ec Es, slI t 4 ∧ foI t q m ∧ ruI t q m ru rc ∧ edI t q m ec Es ∧ bgI t ∧ wkI t ∧ reI t ∧ saI t
theorem INV.ap (h : INV t) (hb : t.2 58 3 = b) (i : ∀ x k, ¬ mvF b x → t'.1 x k = t.1 x k) (r : ∀ x k, ¬ mvF b x → x ≠ 0 → x ≠ 58 → t'.2 x k = t.2 x k) (w : wkI t') (bw : bwf t' b) : INVn t' := by
  obtain ⟨q, m, ru, rc, ec, Es, h1, h2, h3, h4, h5, h6, h7, h8, h9⟩ := h
  have wk : b = 61 ∨ b = 161 := by rw [← hb]; exact h6.elim (fun z => Or.inl z.2) (fun z => Or.inr z.2)
  have b61 := bag_w.2.2.1
  have b161 := bag_w.2.2.2
  have bn : bN b = 40 := by rcases wk with e | e <;> rw [e]; exact b61; exact b161
  have far : ∀ x k, 243 ≤ x ∨ x ≤ 43 ∨ (49 ≤ x ∧ x ≤ 58) → t'.1 x k = t.1 x k := fun x k hx => i x k (by unfold mvF bgF; omega)
  have mr : ∀ s, mS t' s = mS t s := fun s => by
    funext k
    unfold mS
    rw [far _ _ (by omega)]
  refine ⟨q, m, ru, rc, ec, Es, h1.k (fun x k a c => far x k (by omega)) (fun s _ => mr s), h2.k (fun x k a => far x k (by omega)) (far _ _ (by omega)), h3.k (fun x k a => far x k (by omega)) (far _ _ (by omega)), h4.k (fun x k a => far x k (by omega)) (far _ _ (by omega)) (far _ _ (by omega)), fun x hx => ?_, w, ?_, ?_⟩
  · by_cases e : x = b
    · rw [e]; exact bw
    · have hb3 : ∀ b, b ∈ bags → 61 ≤ b := by decide +kernel
      have := hb3 x hx
      have hd := bag_dis x hx b (show b ∈ bags by rcases wk with e | e <;> rw [e]; exact bag_w.1; exact bag_w.2.1) e
      have hn := (bag_all x hx).2.2.2.1
      exact ((h5 x hx).k (t' := t') (fun k => r _ _ (by unfold mvF bgF; omega) (by omega) (by omega))).1
  · exact h8.k h5 (fun p hp => ⟨fun x k a c => far x k (by omega), fun k => r _ _ (by unfold mvF bgF; omega) (by omega) (by omega)⟩) (fun k => far _ _ (by omega)) (fun s _ _ => mr s)
  · exact h9.k h5 (fun p hp => ⟨fun x k a c => far x k (by omega), fun k => r _ _ (by unfold mvF bgF; omega) (by omega) (by omega)⟩) (fun k => far _ _ (by omega)) (fun s _ _ => mr s)
theorem INVn.fin (h : INVn t) (i : ∀ b k, b < 505 → b ≠ 483 → b ≠ 484 → t'.1 b k = t.1 b k) (f : ∀ k, k ≠ 26 → k ≠ 22 → t'.1 483 k = t.1 483 k) (r2 : t'.2 = t.2) (mr : ∀ s, s < 100 → mS t' s = mS t s) (p : piI t') : INV t' := by
  obtain ⟨q, m, ru, rc, ec, Es, h1, h2, h3, h4, h5, h6, h8, h9⟩ := h
  refine ⟨q, m, ru, rc, ec, Es, h1.k (fun b k a c => i b k (by omega) (by omega) (by omega)) (fun s hs => mr s (by omega)), h2.k (fun b k a => i b k (by omega) (by omega) (by omega)) (f 1 (by omega) (by omega)), h3.k (fun b k a => i b k (by omega) (by omega) (by omega)) (f 10 (by omega) (by omega)), h4.k (fun b k a => i b k (by omega) (by omega) (by omega)) (f 14 (by omega) (by omega)) (i 0 13 (by omega) (by omega) (by omega)), fun b hb => ((h5 b hb).k (t' := t') (fun k => by rw [r2])).1, ?_, p, ?_, ?_⟩
  · unfold wkI; rw [r2]; exact h6
  · exact h8.k h5 (fun p hp => ⟨fun x k a c => i x k (by omega) (by omega) (by omega), fun k => by rw [r2]⟩) (fun k => i 503 k (by omega) (by omega) (by omega)) (fun s _ hs => mr s (by omega))
  · exact h9.k h5 (fun p hp => ⟨fun x k a c => i x k (by omega) (by omega) (by omega), fun k => by rw [r2]⟩) (fun k => i 504 k (by omega) (by omega) (by omega)) (fun s _ hs => mr s (by omega))
theorem lst_get {g : Nat → St} : ∀ (n k : Nat), k < n → (lst g n).getD k z0 = g k
  | 0, k, h => by omega
  | n + 1, k, h => by
    have e : lst g (n + 1) = lst g n ++ [g n] := rfl
    rw [e]
    by_cases z : k < n
    · rw [gd_app_lt (by rw [lst_len]; exact z)]; exact lst_get n k z
    · have : k = n := by omega
      subst this
      rw [gd_app_ge (by rw [lst_len]; omega), lst_len, Nat.sub_self]; rfl
theorem ext_gd {L M : List St} (hl : L.length = M.length) (h : ∀ k, k < L.length → L.getD k z0 = M.getD k z0) : L = M := by
  apply List.ext_getElem hl
  intro n h1 h2
  have := h n h1
  rw [List.getD_eq_getElem?_getD, List.getD_eq_getElem?_getD, List.getElem?_eq_getElem h1, List.getElem?_eq_getElem h2] at this
  exact this
theorem lst_gd {L : List St} {g : Nat → St} (h : ∀ k, k < L.length → g k = L.getD k z0) : lst g L.length = L :=
  ext_gd (lst_len _ _) (fun k hk => by
    rw [lst_len] at hk
    rw [lst_get _ k hk]; exact h k hk)
theorem l_91 {n : Nat} {K : List St} {j0 j1 : Value} (hd : 4 ≤ d) (hK : K.length ≤ 40) (hw : ∀ x, x ∈ K → wfS x) (hm : mL t K) (h : ∀ t', mG noA (fun s => 100 ≤ s ∧ s < 140) t t' → (∀ k, k < K.length → mS t' (100 + k) = K.getD k z0) → twp none d 91 37 [.ref 483, j0, j1, .int (nI K.length), .int (nI K.length)] [] t' F) : ∀ (j i : Nat) (t' : T), i + j = K.length → mG noA (fun s => 100 ≤ s ∧ s < 140) t t' → (∀ k, k < i → mS t' (100 + k) = K.getD k z0) → twp none d 91 37 [.ref 483, j0, j1, .int (nI K.length), .int (nI i)] [] t' F := by
  intro j
  induction j with
  | zero =>
    intro i t' hi hO hI
    have hi : i = K.length := by omega
    subst hi
    exact h t' hO hI
  | succ j ih =>
    intro i t' hi hO hI
    have il : i < K.length := by omega
    have r1 : mS t' (140 + i) = K.getD i z0 := by rw [hO.2.2 _ (by omega)]; exact hm i il
    refine vc_ok none zH_91 54 false _ 91 37 _ _ _ _ ?_
    simp only [v_91_0, v_91_1, v_91_4, v_91_5, v_91_6, v_91_9, v_91_12, v_91_13, v_91_16, v_91_19, v_91_20, v_91_21, v_91_22, v_91_23, v_91_24, v_91_27, v_91_28, v_91_29, v_91_32, v_91_33, v_91_34, v_91_35, v_91_37, h_91_37, v_91_39, v_91_40, v_91_43, v_91_44, v_91_47, v_91_49, v_91_50, v_91_52, v_91_54, v_91_55, v_91_58, v_91_61, v_91_64, v_91_65, v_91_67, v_91_68, v_91_71, v_91_72, v_91_73, v_91_76, v_91_77, vgi_0, vgi_s, vga_0, vga_s, vset_0, vset_s, vtk_0, vtk_s, vrc_0, vsw_0, vsw_s, List.all_cons, List.all_nil, zc1_i, zc1_r, Bool.and_true, Bool.and_self, true_and, and_true, List.length_cons, List.length_nil, Nat.zero_le, Nat.reduceLeDiff, Nat.reduceAdd, Nat.reduceLT, tg_483]
    simp (disch := omega) only [nI_ltI, li140, li100, nI_add]
    rw [if_pos il]
    refine c_44g (A := noA) (P := fun s => 100 ≤ s ∧ s < 140) (by omega) (by omega) (by omega) (by rw [r1]; exact (hw _ (gd_mem il)).b) (by omega) (fun t2 o2 e2 => ?_)
    simp only [v_91_0, v_91_1, v_91_4, v_91_5, v_91_6, v_91_9, v_91_12, v_91_13, v_91_16, v_91_19, v_91_20, v_91_21, v_91_22, v_91_23, v_91_24, v_91_27, v_91_28, v_91_29, v_91_32, v_91_33, v_91_34, v_91_35, v_91_37, h_91_37, v_91_39, v_91_40, v_91_43, v_91_44, v_91_47, v_91_49, v_91_50, v_91_52, v_91_54, v_91_55, v_91_58, v_91_61, v_91_64, v_91_65, v_91_67, v_91_68, v_91_71, v_91_72, v_91_73, v_91_76, v_91_77, vgi_0, vgi_s, vga_0, vga_s, vset_0, vset_s, vtk_0, vtk_s, vrc_0, vsw_0, vsw_s, List.all_cons, List.all_nil, zc1_i, zc1_r, Bool.and_true, Bool.and_self, true_and, and_true, List.length_cons, List.length_nil, Nat.zero_le, Nat.reduceLeDiff, Nat.reduceAdd, Nat.reduceLT, Option.toList_none, List.nil_append]
    rw [nI_1]
    refine ih (i + 1) t2 (by omega) (hO.tr o2) (fun k hk => ?_)
    rw [e2]
    by_cases z : k = i
    · rw [if_pos (by omega), r1, z]
    · rw [if_neg (by omega)]; exact hI k (by omega)
theorem op_apply (ev sv : Int32) : OP 15 91 [.int ev, .int sv] := by
  intro d t hd hI
  obtain ⟨q, m, ru, rc, ec, Es, h1, h2, h3, h4, h5, h6, h7, h8, h9⟩ := id hI
  obtain ⟨e8, e013, e4814, eEs, eNo⟩ := id h4
  have bad : (∀ e s, e < ec → s < 4 → ev = nI e → sv ≠ nI s) → twc d 91 [.ref 483, .int ev, .int sv] t (fun r' t2 => ∃ v, some (Value.int (-1)) = some (Value.int v) ∧ r' = some (Value.int v) ∧ INV t2) := by
    intro hno
    refine ⟨by omega, ?_⟩
    rw [ze_91]
    refine vc_ok none zH_91 54 false _ 91 0 _ _ _ _ ?_
    simp only [v_91_0, v_91_1, v_91_4, v_91_5, v_91_6, v_91_9, v_91_12, v_91_13, v_91_16, v_91_19, v_91_20, v_91_21, v_91_22, v_91_23, v_91_24, v_91_27, v_91_28, v_91_29, v_91_32, v_91_33, v_91_34, v_91_35, v_91_37, h_91_37, v_91_39, v_91_40, v_91_43, v_91_44, v_91_47, v_91_49, v_91_50, v_91_52, v_91_54, v_91_55, v_91_58, v_91_61, v_91_64, v_91_65, v_91_67, v_91_68, v_91_71, v_91_72, v_91_73, v_91_76, v_91_77, vgi_0, vgi_s, vga_0, vga_s, vset_0, vset_s, vtk_0, vtk_s, vrc_0, vsw_0, vsw_s, List.all_cons, List.all_nil, zc1_i, zc1_r, Bool.and_true, Bool.and_self, true_and, and_true, List.length_cons, List.length_nil, Nat.zero_le, Nat.reduceLeDiff, Nat.reduceAdd, Nat.reduceLT, tg_483, e4814]
    rcases in_cases ev (show ec < 2 ^ 31 by omega) with ⟨e, he, rfl⟩ | ⟨ho, hn⟩
    · rw [if_neg (by rw [li0, nI_ltI (by omega) (by omega)]; omega), if_pos (nI_lt he (by omega))]
      refine c_47 (by omega) (fun s hs es => absurd es (hno e s he hs rfl)) (fun _ => ?_)
      simp only [v_91_0, v_91_1, v_91_4, v_91_5, v_91_6, v_91_9, v_91_12, v_91_13, v_91_16, v_91_19, v_91_20, v_91_21, v_91_22, v_91_23, v_91_24, v_91_27, v_91_28, v_91_29, v_91_32, v_91_33, v_91_34, v_91_35, v_91_37, h_91_37, v_91_39, v_91_40, v_91_43, v_91_44, v_91_47, v_91_49, v_91_50, v_91_52, v_91_54, v_91_55, v_91_58, v_91_61, v_91_64, v_91_65, v_91_67, v_91_68, v_91_71, v_91_72, v_91_73, v_91_76, v_91_77, vgi_0, vgi_s, vga_0, vga_s, vset_0, vset_s, vtk_0, vtk_s, vrc_0, vsw_0, vsw_s, List.all_cons, List.all_nil, zc1_i, zc1_r, Bool.and_true, Bool.and_self, true_and, and_true, List.length_cons, List.length_nil, Nat.zero_le, Nat.reduceLeDiff, Nat.reduceAdd, Nat.reduceLT, Option.toList_some, List.cons_append, List.nil_append]
      rw [if_pos trivial]
      exact ⟨_, rfl, rfl, hI⟩
    · by_cases z : ev < 0
      · rw [if_pos z]
        exact ⟨_, rfl, rfl, hI⟩
      · rw [if_neg z]
        have z2 : ¬ ev < nI ec := by
          rcases ho with ho | ho
          · exact absurd ho z
          · exact Int32.not_lt.mpr ho
        rw [if_neg z2]
        exact ⟨_, rfl, rfl, hI⟩
  refine ⟨by omega, ?_⟩
  rw [ze_15]
  refine vc_ok none zH_15 54 false _ 15 0 _ _ _ _ ?_
  simp only [v_15_0, v_15_1, v_15_2, v_15_5, v_15_8, v_15_11, v_15_12, v_15_13, v_15_16, v_15_19, v_15_20, v_15_21, v_15_22, v_15_25, v_15_26, v_15_29, v_15_30, v_15_31, v_15_32, v_15_35, v_15_36, v_15_37, v_15_40, v_15_43, v_15_45, v_15_46, v_15_47, v_15_50, v_15_53, v_15_54, v_15_55, v_15_58, v_15_59, v_15_62, v_15_65, v_15_66, v_15_67, v_15_70, v_15_71, v_15_74, v_15_77, v_15_78, v_15_81, v_15_84, vgi_0, vgi_s, vga_0, vga_s, vset_0, vset_s, vtk_0, vtk_s, vrc_0, vsw_0, vsw_s, List.all_cons, List.all_nil, zc1_i, zc1_r, Bool.and_true, Bool.and_self, true_and, and_true, List.length_cons, List.length_nil, Nat.zero_le, Nat.reduceLeDiff, Nat.reduceAdd, Nat.reduceLT, tg_0, e013]
  refine c_22 (by omega) (by omega) (fun e he ee => ?_) (fun hno => ?_)
  · simp only [v_15_0, v_15_1, v_15_2, v_15_5, v_15_8, v_15_11, v_15_12, v_15_13, v_15_16, v_15_19, v_15_20, v_15_21, v_15_22, v_15_25, v_15_26, v_15_29, v_15_30, v_15_31, v_15_32, v_15_35, v_15_36, v_15_37, v_15_40, v_15_43, v_15_45, v_15_46, v_15_47, v_15_50, v_15_53, v_15_54, v_15_55, v_15_58, v_15_59, v_15_62, v_15_65, v_15_66, v_15_67, v_15_70, v_15_71, v_15_74, v_15_77, v_15_78, v_15_81, v_15_84, vgi_0, vgi_s, vga_0, vga_s, vset_0, vset_s, vtk_0, vtk_s, vrc_0, vsw_0, vsw_s, List.all_cons, List.all_nil, zc1_i, zc1_r, Bool.and_true, Bool.and_self, true_and, and_true, List.length_cons, List.length_nil, Nat.zero_le, Nat.reduceLeDiff, Nat.reduceAdd, Nat.reduceLT, Option.toList_some, List.cons_append, List.nil_append]
    rw [if_neg (by decide)]
    refine c_22 (L := 4) (by omega) (by omega) (fun s hs es => ?_) (fun hno => ?_)
    · subst ee
      subst es
      obtain ⟨w1, w2, w3⟩ := eEs e he
      obtain ⟨g1, g2, g3, g4⟩ := hI.sl hs
      have st := sl_dec s hs
      have et := ed_tag (show e < 8 by omega)
      obtain ⟨bw, bb⟩ := hI.bw
      have bq : t.2 58 3 ∈ bags ∧ bN (t.2 58 3) = 40 ∧ (t.2 58 3 = 61 ∨ t.2 58 3 = 161) := by
        rcases bb with ⟨x1, x2, x3⟩ | ⟨x1, x2, x3⟩
        · exact ⟨x3, x2, Or.inl x1⟩
        · exact ⟨x3, x2, Or.inr x1⟩
      have tb : vtag (t.2 58 3) = 8 := (bag_all _ bq.1).2.2.2.2.2.1
      have mod : ∀ (t1 : T) (G : Option Value → T → Prop), (∀ x k, 243 ≤ x → t1.1 x k = t.1 x k) → (MV q ru rc (Es e) (mS t s) none → ∀ t2, mW mEb wkS t1 t2 → G (some (.int (-3))) t2) → (∀ K, MV q ru rc (Es e) (mS t s) (some K) → ∀ t2 t3, mW mEb wkS t1 t2 → mL t2 K → mG noA (fun s => 100 ≤ s ∧ s < 140) t2 t3 → (∀ k, k < K.length → mS t3 (100 + k) = K.getD k z0) → ∀ t4, sM t3 t4 100 K.length → srt (fun k => mS t4 (100 + k)) K.length → G (some (.int (nI K.length))) (tsi t4 483 22 (nI K.length))) → twc d 91 [.ref 483, .int (nI e), .int (nI s)] t1 G := by
        intro t1 G i1 k0 k1
        have m1 : ∀ r, mS t1 r = mS t r := fun r => by
          funext k; unfold mS; rw [i1 _ _ (by omega)]
        have x14 : t1.1 483 14 = nI ec := by rw [i1 _ _ (by omega)]; exact e4814
        have hv : mvm t1 q m ru rc e (Es e) := ⟨h2.2.1.k (fun b k p1 p2 => i1 b k (by omega)), h3.2.2.k (fun b k p1 p2 => i1 b k (by omega)) (i1 _ _ (by omega)), w3.k (fun b k p1 p2 => i1 b k (by omega))⟩
        refine ⟨by omega, ?_⟩
        rw [ze_91]
        refine vc_ok none zH_91 54 false _ 91 0 _ _ _ _ ?_
        simp only [v_91_0, v_91_1, v_91_4, v_91_5, v_91_6, v_91_9, v_91_12, v_91_13, v_91_16, v_91_19, v_91_20, v_91_21, v_91_22, v_91_23, v_91_24, v_91_27, v_91_28, v_91_29, v_91_32, v_91_33, v_91_34, v_91_35, v_91_37, h_91_37, v_91_39, v_91_40, v_91_43, v_91_44, v_91_47, v_91_49, v_91_50, v_91_52, v_91_54, v_91_55, v_91_58, v_91_61, v_91_64, v_91_65, v_91_67, v_91_68, v_91_71, v_91_72, v_91_73, v_91_76, v_91_77, vgi_0, vgi_s, vga_0, vga_s, vset_0, vset_s, vtk_0, vtk_s, vrc_0, vsw_0, vsw_s, List.all_cons, List.all_nil, zc1_i, zc1_r, Bool.and_true, Bool.and_self, true_and, and_true, List.length_cons, List.length_nil, Nat.zero_le, Nat.reduceLeDiff, Nat.reduceAdd, Nat.reduceLT, tg_483, x14]
        rw [if_neg (by rw [li0, nI_ltI (by omega) (by omega)]; omega), if_pos (nI_lt he (by omega))]
        refine c_47 (by omega) (fun s' _ _ => ?_) (fun hno => absurd rfl (hno s hs))
        simp only [v_91_0, v_91_1, v_91_4, v_91_5, v_91_6, v_91_9, v_91_12, v_91_13, v_91_16, v_91_19, v_91_20, v_91_21, v_91_22, v_91_23, v_91_24, v_91_27, v_91_28, v_91_29, v_91_32, v_91_33, v_91_34, v_91_35, v_91_37, h_91_37, v_91_39, v_91_40, v_91_43, v_91_44, v_91_47, v_91_49, v_91_50, v_91_52, v_91_54, v_91_55, v_91_58, v_91_61, v_91_64, v_91_65, v_91_67, v_91_68, v_91_71, v_91_72, v_91_73, v_91_76, v_91_77, vgi_0, vgi_s, vga_0, vga_s, vset_0, vset_s, vtk_0, vtk_s, vrc_0, vsw_0, vsw_s, List.all_cons, List.all_nil, zc1_i, zc1_r, Bool.and_true, Bool.and_self, true_and, and_true, List.length_cons, List.length_nil, Nat.zero_le, Nat.reduceLeDiff, Nat.reduceAdd, Nat.reduceLT, Option.toList_some, List.cons_append, List.nil_append, tg_483]
        rw [if_neg (by decide)]
        refine c_90 (by omega) (by omega) (by omega) (m1 s) g2 h3.1 w1 hv (fun hM t2 o2 => ?_) (fun K hM t2 o2 l2 => ?_)
        · simp only [v_91_0, v_91_1, v_91_4, v_91_5, v_91_6, v_91_9, v_91_12, v_91_13, v_91_16, v_91_19, v_91_20, v_91_21, v_91_22, v_91_23, v_91_24, v_91_27, v_91_28, v_91_29, v_91_32, v_91_33, v_91_34, v_91_35, v_91_37, h_91_37, v_91_39, v_91_40, v_91_43, v_91_44, v_91_47, v_91_49, v_91_50, v_91_52, v_91_54, v_91_55, v_91_58, v_91_61, v_91_64, v_91_65, v_91_67, v_91_68, v_91_71, v_91_72, v_91_73, v_91_76, v_91_77, vgi_0, vgi_s, vga_0, vga_s, vset_0, vset_s, vtk_0, vtk_s, vrc_0, vsw_0, vsw_s, List.all_cons, List.all_nil, zc1_i, zc1_r, Bool.and_true, Bool.and_self, true_and, and_true, List.length_cons, List.length_nil, Nat.zero_le, Nat.reduceLeDiff, Nat.reduceAdd, Nat.reduceLT, Option.toList_some, List.cons_append, List.nil_append]
          rw [if_pos (by decide)]
          exact k0 hM t2 o2
        · have wK := MV_wf h2.1.2.1 h3.1 w1 g2 hM
          have wK2 := wK.2
          simp only [v_91_0, v_91_1, v_91_4, v_91_5, v_91_6, v_91_9, v_91_12, v_91_13, v_91_16, v_91_19, v_91_20, v_91_21, v_91_22, v_91_23, v_91_24, v_91_27, v_91_28, v_91_29, v_91_32, v_91_33, v_91_34, v_91_35, v_91_37, h_91_37, v_91_39, v_91_40, v_91_43, v_91_44, v_91_47, v_91_49, v_91_50, v_91_52, v_91_54, v_91_55, v_91_58, v_91_61, v_91_64, v_91_65, v_91_67, v_91_68, v_91_71, v_91_72, v_91_73, v_91_76, v_91_77, vgi_0, vgi_s, vga_0, vga_s, vset_0, vset_s, vtk_0, vtk_s, vrc_0, vsw_0, vsw_s, List.all_cons, List.all_nil, zc1_i, zc1_r, Bool.and_true, Bool.and_self, true_and, and_true, List.length_cons, List.length_nil, Nat.zero_le, Nat.reduceLeDiff, Nat.reduceAdd, Nat.reduceLT, Option.toList_some, List.cons_append, List.nil_append]
          rw [if_neg (by rw [li0, nI_ltI (by omega) (by omega)]; omega)]
          refine l_91 (t := t2) (n := 0) (by omega) wK.2 wK.1 l2 (fun t3 o3 e3 => ?_) K.length 0 t2 (by omega) mG.rf (fun k hk => by omega)
          refine vc_ok none zH_91 54 false _ 91 37 _ _ _ _ ?_
          simp only [v_91_0, v_91_1, v_91_4, v_91_5, v_91_6, v_91_9, v_91_12, v_91_13, v_91_16, v_91_19, v_91_20, v_91_21, v_91_22, v_91_23, v_91_24, v_91_27, v_91_28, v_91_29, v_91_32, v_91_33, v_91_34, v_91_35, v_91_37, h_91_37, v_91_39, v_91_40, v_91_43, v_91_44, v_91_47, v_91_49, v_91_50, v_91_52, v_91_54, v_91_55, v_91_58, v_91_61, v_91_64, v_91_65, v_91_67, v_91_68, v_91_71, v_91_72, v_91_73, v_91_76, v_91_77, vgi_0, vgi_s, vga_0, vga_s, vset_0, vset_s, vtk_0, vtk_s, vrc_0, vsw_0, vsw_s, List.all_cons, List.all_nil, zc1_i, zc1_r, Bool.and_true, Bool.and_self, true_and, and_true, List.length_cons, List.length_nil, Nat.zero_le, Nat.reduceLeDiff, Nat.reduceAdd, Nat.reduceLT, tg_483]
          simp (disch := omega) only [nI_ltI, Nat.lt_irrefl, if_false, li100]
          refine c_46 (by omega) (by omega) (fun k hk => by rw [e3 k hk]; exact wK.1 _ (gd_mem hk)) (fun t4 o4 s4 => ?_)
          simp only [v_91_0, v_91_1, v_91_4, v_91_5, v_91_6, v_91_9, v_91_12, v_91_13, v_91_16, v_91_19, v_91_20, v_91_21, v_91_22, v_91_23, v_91_24, v_91_27, v_91_28, v_91_29, v_91_32, v_91_33, v_91_34, v_91_35, v_91_37, h_91_37, v_91_39, v_91_40, v_91_43, v_91_44, v_91_47, v_91_49, v_91_50, v_91_52, v_91_54, v_91_55, v_91_58, v_91_61, v_91_64, v_91_65, v_91_67, v_91_68, v_91_71, v_91_72, v_91_73, v_91_76, v_91_77, vgi_0, vgi_s, vga_0, vga_s, vset_0, vset_s, vtk_0, vtk_s, vrc_0, vsw_0, vsw_s, List.all_cons, List.all_nil, zc1_i, zc1_r, Bool.and_true, Bool.and_self, true_and, and_true, List.length_cons, List.length_nil, Nat.zero_le, Nat.reduceLeDiff, Nat.reduceAdd, Nat.reduceLT, Option.toList_none, List.nil_append, tg_483]
          exact k1 K hM t2 t3 o2 l2 o3 e3 t4 o4 s4
      simp only [v_15_0, v_15_1, v_15_2, v_15_5, v_15_8, v_15_11, v_15_12, v_15_13, v_15_16, v_15_19, v_15_20, v_15_21, v_15_22, v_15_25, v_15_26, v_15_29, v_15_30, v_15_31, v_15_32, v_15_35, v_15_36, v_15_37, v_15_40, v_15_43, v_15_45, v_15_46, v_15_47, v_15_50, v_15_53, v_15_54, v_15_55, v_15_58, v_15_59, v_15_62, v_15_65, v_15_66, v_15_67, v_15_70, v_15_71, v_15_74, v_15_77, v_15_78, v_15_81, v_15_84, vgi_0, vgi_s, vga_0, vga_s, vset_0, vset_s, vtk_0, vtk_s, vrc_0, vsw_0, vsw_s, List.all_cons, List.all_nil, zc1_i, zc1_r, Bool.and_true, Bool.and_self, true_and, and_true, List.length_cons, List.length_nil, Nat.zero_le, Nat.reduceLeDiff, Nat.reduceAdd, Nat.reduceLT, Option.toList_some, List.cons_append, List.nil_append, tg_0, tf_0_5, tg_58, tf_0_4, tg_57, ln_57, tf_0_0, tg_1, ln_1]
      rw [if_neg (by decide)]
      simp (disch := omega) only [nI_clamp, vinb_n, tf_57, tf_1]
      refine ⟨by omega, hs, ?_⟩
      refine c_147 (b := t.2 58 3) (by omega) (by omega) bq.1 bq.2.1 bq.2.2 bw h3.1 w1 ⟨h2.1, h3.2.1, w2⟩ rfl st (by unfold bgF; omega) g1 g2 (fun hM t1 o1 bw1 => ?_) (fun K hM t1 o1 bw1 l1 => ?_)
      · have nf : ∀ x, 243 ≤ x → ¬ mvF (t.2 58 3) x := fun x hx => by
          have := bq.2.1
          have := bq.2.2
          unfold mvF bgF; omega
        have I1 : INV t1 := INVx.c hI o1 (fun x hx => by
          rcases hx with z | z | z
          · exact Or.inr (Or.inr (Or.inr (Or.inr z)))
          · exact Or.inl (by omega)
          · exact Or.inr (Or.inl (by omega))) bw1
        simp only [v_15_0, v_15_1, v_15_2, v_15_5, v_15_8, v_15_11, v_15_12, v_15_13, v_15_16, v_15_19, v_15_20, v_15_21, v_15_22, v_15_25, v_15_26, v_15_29, v_15_30, v_15_31, v_15_32, v_15_35, v_15_36, v_15_37, v_15_40, v_15_43, v_15_45, v_15_46, v_15_47, v_15_50, v_15_53, v_15_54, v_15_55, v_15_58, v_15_59, v_15_62, v_15_65, v_15_66, v_15_67, v_15_70, v_15_71, v_15_74, v_15_77, v_15_78, v_15_81, v_15_84, vgi_0, vgi_s, vga_0, vga_s, vset_0, vset_s, vtk_0, vtk_s, vrc_0, vsw_0, vsw_s, List.all_cons, List.all_nil, zc1_i, zc1_r, Bool.and_true, Bool.and_self, true_and, and_true, List.length_cons, List.length_nil, Nat.zero_le, Nat.reduceLeDiff, Nat.reduceAdd, Nat.reduceLT, Option.toList_some, List.cons_append, List.nil_append]
        rw [if_pos trivial]
        refine mod t1 _ (fun x k hx => (o1 x (nf x hx)).1 k) (fun _ t2 o2 => ⟨_, rfl, rfl, INVx.r I1 o2 (fun b z => by have := z.1; omega) (fun s z => z.1)⟩) (fun K hK => ?_)
        have := MV_uniq h2.1.2.1 h3.1 w1 g2 hM hK
        cases this
      · have nf : ∀ x, 243 ≤ x ∨ x = 58 ∨ x = 0 ∨ x = 57 ∨ x = 1 → ¬ mvF (t.2 58 3) x := fun x hx => by
          have := bq.2.1
          have := bq.2.2
          unfold mvF bgF; omega
        have wk1 : t1.2 58 3 = t.2 58 3 := (o1 58 (nf 58 (by omega))).2 3
        have pb1 : t1.2 0 12 = t.2 0 12 := (o1 0 (nf 0 (by omega))).2 12
        have wK := MV_wf h2.1.2.1 h3.1 w1 g2 hM
        simp only [v_15_0, v_15_1, v_15_2, v_15_5, v_15_8, v_15_11, v_15_12, v_15_13, v_15_16, v_15_19, v_15_20, v_15_21, v_15_22, v_15_25, v_15_26, v_15_29, v_15_30, v_15_31, v_15_32, v_15_35, v_15_36, v_15_37, v_15_40, v_15_43, v_15_45, v_15_46, v_15_47, v_15_50, v_15_53, v_15_54, v_15_55, v_15_58, v_15_59, v_15_62, v_15_65, v_15_66, v_15_67, v_15_70, v_15_71, v_15_74, v_15_77, v_15_78, v_15_81, v_15_84, vgi_0, vgi_s, vga_0, vga_s, vset_0, vset_s, vtk_0, vtk_s, vrc_0, vsw_0, vsw_s, List.all_cons, List.all_nil, zc1_i, zc1_r, Bool.and_true, Bool.and_self, true_and, and_true, List.length_cons, List.length_nil, Nat.zero_le, Nat.reduceLeDiff, Nat.reduceAdd, Nat.reduceLT, Option.toList_some, List.cons_append, List.nil_append, tg_0, tf_0_5, tg_58, tf_58_3, tm_58_3, tf_0_12, tm_0_12, wk1, pb1]
        rw [if_neg (by decide)]
        obtain ⟨T2, hT⟩ : ∃ T2, T2 = tsr (tsr t1 58 3 (t.2 0 12)) 0 12 (t.2 58 3) := ⟨_, rfl⟩
        rw [← hT]
        have p2 : T2.2 0 12 = t.2 58 3 := by rw [hT, tsr_eq]
        have q2 : T2.2 58 3 = t.2 0 12 := by rw [hT, tsr_ne (by omega), tsr_eq]
        have i2 : T2.1 = t1.1 := by rw [hT]; rfl
        have r2 : ∀ x k, x ≠ 0 → x ≠ 58 → T2.2 x k = t1.2 x k := fun x k z1 z2 => by rw [hT, tsr_ne (by omega), tsr_ne (by omega)]
        have bne : t.2 58 3 + 1 ≠ 0 ∧ t.2 58 3 + 1 ≠ 58 := by have := bq.2.2; omega
        have bw2 := bw1.k (t' := T2) (fun k => r2 _ _ bne.1 bne.2)
        have bg2 : ∀ k, bg T2 (t.2 58 3) k = bg t1 (t.2 58 3) k := fun k => by
          unfold bg; rw [bw2.2]
          exact cS_of (fun j => by rw [i2]) (fun j => by rw [i2])
        have l2 : ∀ k, k < K.length → bg T2 (t.2 58 3) k = K.getD k z0 := fun k hk => by rw [bg2]; exact l1.2 k hk
        rw [p2]
        refine ⟨tb, ?_⟩
        refine c_109 (c := K.length) (by omega) bq.1 bw2.1 (by rw [i2]; exact l1.1) (by rw [bq.2.1]; exact wK.2) (fun k hk => by rw [l2 k hk]; exact wK.1 _ (gd_mem hk)) (fun t3 hs3 srt3 => ?_)
        obtain ⟨s1, s2, s3, s4⟩ := hs3
        have p3 : t3.2 0 12 = t.2 58 3 := by rw [s2 _ _ (by omega)]; exact p2
        have q3 : t3.2 58 3 = t.2 0 12 := by rw [s2 _ _ (by omega)]; exact q2
        have c3 : t3.1 (t.2 58 3) 1 = nI K.length := by rw [s1, i2]; exact l1.1
        rw [p3, c3]
        refine ⟨tb, ?_⟩
        simp only [v_15_0, v_15_1, v_15_2, v_15_5, v_15_8, v_15_11, v_15_12, v_15_13, v_15_16, v_15_19, v_15_20, v_15_21, v_15_22, v_15_25, v_15_26, v_15_29, v_15_30, v_15_31, v_15_32, v_15_35, v_15_36, v_15_37, v_15_40, v_15_43, v_15_45, v_15_46, v_15_47, v_15_50, v_15_53, v_15_54, v_15_55, v_15_58, v_15_59, v_15_62, v_15_65, v_15_66, v_15_67, v_15_70, v_15_71, v_15_74, v_15_77, v_15_78, v_15_81, v_15_84, vgi_0, vgi_s, vga_0, vga_s, vset_0, vset_s, vtk_0, vtk_s, vrc_0, vsw_0, vsw_s, List.all_cons, List.all_nil, zc1_i, zc1_r, Bool.and_true, Bool.and_self, true_and, and_true, List.length_cons, List.length_nil, Nat.zero_le, Nat.reduceLeDiff, Nat.reduceAdd, Nat.reduceLT, Option.toList_none, List.nil_append]
        have fx : ∀ x k, ¬ mvF (t.2 58 3) x → t3.1 x k = t.1 x k := fun x k hx => by rw [s1, i2]; exact (o1 x hx).1 k
        have wk3 : wkI t3 := by
          unfold wkI
          rw [p3, q3]
          exact h6.elim (fun z => Or.inr ⟨z.2, z.1⟩) (fun z => Or.inl ⟨z.2, z.1⟩)
        have N3 : INVn t3 := INV.ap hI rfl fx (fun x k hx z1 z2 => by
          rw [s2 _ _ (fun z => hx (Or.inl (by unfold bgF; have := bq.2.1; omega))), r2 _ _ z1 z2]; exact (o1 x hx).2 k) wk3 s3
        refine mod t3 _ (fun x k hx => fx x k (nf x (Or.inl hx))) (fun hN => ?_) (fun K' hK' t4 t5 o4 l4 o5 e5 t6 o6 srt6 => ?_)
        · have := MV_uniq h2.1.2.1 h3.1 w1 g2 hM hN
          cases this
        · have := MV_uniq h2.1.2.1 h3.1 w1 g2 hM hK'
          cases this
          have k40 := wK.2
          have perm3 : (lst (bg t3 (t.2 58 3)) K.length).Perm K := by
            have := s4
            rw [lst_gd l2] at this
            exact this
          have perm6 : (lst (fun k => mS t6 (100 + k)) K.length).Perm K := by
            have := o6.2
            rw [lst_gd e5] at this
            exact this
          have wfg : ∀ k, k < K.length → wfS (bg t3 (t.2 58 3) k) := fun k hk => wK.1 _ (perm3.mem_iff.mp (lst_mem.mpr ⟨k, hk, rfl⟩))
          have eq := (srt_uniq srt3 srt6 wfg (perm3.trans perm6.symm)).2
          have ci : ∀ b k, b < 483 → t6.1 b k = t3.1 b k := fun b k hb => by
            rw [o6.1.2.1 b (by omega) (fun z => z), o5.2.1 b (by omega) (fun z => z), o4.1.2.1 b (by omega) (fun z => by rcases z with z | z; have := z.1; omega; omega)]
          have cr : t6.2 = t3.2 := by rw [o6.1.1, o5.1, o4.1.1]
          refine ⟨_, rfl, rfl, N3.fin (fun b k b1 b2 b3 => ?_) (fun k z1 z2 => ?_) cr (fun r hr => ?_) ⟨lst (bg t3 (t.2 58 3)) K.length, ?_, ⟨⟨?_, fun k hk => ?_⟩, fun x hx => ?_⟩, ?_, fun k hk => ?_⟩⟩
          · rw [tsi_ne (by omega), o6.1.2.1 b b3 (fun z => z), o5.2.1 b b3 (fun z => z), o4.1.2.1 b b3 (fun z => by rcases z with z | z; have := z.1; omega; omega)]
          · rw [tsi_ne (by omega), o6.1.2.1 483 (by omega) (fun z => z), o5.2.1 483 (by omega) (fun z => z)]; exact o4.2 k z1
          · rw [ms_si, o6.1.2.2 r (by unfold sP; omega), o5.2.2 r (by omega), o4.1.2.2 r (fun z => by have := z.1; omega)]
          · rw [lst_len]; exact wK.2
          · show (tsi t6 483 22 (nI K.length)).1 ((tsi t6 483 22 (nI K.length)).2 0 12) 1 = _
            have e12 : (tsi t6 483 22 (nI K.length)).2 0 12 = t.2 58 3 := by show t6.2 0 12 = _; rw [cr]; exact p3
            rw [e12, lst_len, tsi_ne (by have := bq.2.2; omega), ci _ _ (by have := bq.2.2; omega)]; exact c3
          · have e12 : (tsi t6 483 22 (nI K.length)).2 0 12 = t.2 58 3 := by show t6.2 0 12 = _; rw [cr]; exact p3
            rw [e12]
            rw [lst_len] at hk
            rw [lst_get _ k hk]
            obtain ⟨i1, j2, j3⟩ := s3.1 k (by rw [bq.2.1]; omega)
            unfold bg
            have eb : br (tsi t6 483 22 (nI K.length)) (t.2 58 3) k = br t3 (t.2 58 3) k := by show t6.2 _ _ = _; rw [cr]; rfl
            have := bq.2.1
            have := bq.2.2
            rw [eb]
            exact cS_of (fun j => by rw [tsi_ne (by omega)]; exact ci _ _ (by omega)) (fun j => by rw [tsi_ne (by omega)]; exact ci _ _ (by omega))
          · exact wK.1 x (perm3.mem_iff.mp hx)
          · rw [tsi_eq, lst_len]
          · rw [lst_len] at hk
            rw [ms_si, lst_get _ k hk]; exact (eq k hk).symm
    · simp only [v_15_0, v_15_1, v_15_2, v_15_5, v_15_8, v_15_11, v_15_12, v_15_13, v_15_16, v_15_19, v_15_20, v_15_21, v_15_22, v_15_25, v_15_26, v_15_29, v_15_30, v_15_31, v_15_32, v_15_35, v_15_36, v_15_37, v_15_40, v_15_43, v_15_45, v_15_46, v_15_47, v_15_50, v_15_53, v_15_54, v_15_55, v_15_58, v_15_59, v_15_62, v_15_65, v_15_66, v_15_67, v_15_70, v_15_71, v_15_74, v_15_77, v_15_78, v_15_81, v_15_84, vgi_0, vgi_s, vga_0, vga_s, vset_0, vset_s, vtk_0, vtk_s, vrc_0, vsw_0, vsw_s, List.all_cons, List.all_nil, zc1_i, zc1_r, Bool.and_true, Bool.and_self, true_and, and_true, List.length_cons, List.length_nil, Nat.zero_le, Nat.reduceLeDiff, Nat.reduceAdd, Nat.reduceLT, Option.toList_some, List.cons_append, List.nil_append]
      rw [if_pos trivial]
      exact bad (fun e s _ hs _ => hno s hs)
  · simp only [v_15_0, v_15_1, v_15_2, v_15_5, v_15_8, v_15_11, v_15_12, v_15_13, v_15_16, v_15_19, v_15_20, v_15_21, v_15_22, v_15_25, v_15_26, v_15_29, v_15_30, v_15_31, v_15_32, v_15_35, v_15_36, v_15_37, v_15_40, v_15_43, v_15_45, v_15_46, v_15_47, v_15_50, v_15_53, v_15_54, v_15_55, v_15_58, v_15_59, v_15_62, v_15_65, v_15_66, v_15_67, v_15_70, v_15_71, v_15_74, v_15_77, v_15_78, v_15_81, v_15_84, vgi_0, vgi_s, vga_0, vga_s, vset_0, vset_s, vtk_0, vtk_s, vrc_0, vsw_0, vsw_s, List.all_cons, List.all_nil, zc1_i, zc1_r, Bool.and_true, Bool.and_self, true_and, and_true, List.length_cons, List.length_nil, Nat.zero_le, Nat.reduceLeDiff, Nat.reduceAdd, Nat.reduceLT, Option.toList_some, List.cons_append, List.nil_append]
    rw [if_pos trivial]
    exact bad (fun e s he _ ee => absurd ee (hno e he))
end OP13
