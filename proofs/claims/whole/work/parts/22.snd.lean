/-! The computed condition is enough. -/
theorem zrun_fuel : ∀ (n : Nat) (xs : Option (List Int32)) (d mi pc : Nat) (ml st : List Value) (M : zM) (u : Option Value × zM), zrun n xs d mi pc ml st M = some u → zrun (n + 1) xs d mi pc ml st M = some u := by
  intro n
  induction n with
  | zero => intro xs d mi pc ml st M u h; cases h
  | succ n ih =>
    intro xs d mi pc ml st M u h
    rw [zrun] at h ⊢
    cases hq : zrow mi pc with
    | none => simp only [hq] at h; cases h
    | some q =>
      simp only [hq] at h ⊢
      cases hz : zstep xs mi q.1 q.2.2.1 q.2.2.2 pc ml st M with
      | none => simp only [hz] at h; cases h
      | some z =>
        simp only [hz] at h ⊢
        rcases z with z | z | v
        · exact ih _ _ _ _ _ _ _ _ h
        · cases d with
          | zero => cases h
          | succ d' =>
            dsimp only at h ⊢
            cases hw : zrun n none d' z.1 0 (zent z.1 z.2.1) [] M with
            | none => simp only [hw] at h; cases h
            | some w =>
              simp only [hw] at h
              simp only [ih _ _ _ _ _ _ _ _ hw]
              exact ih _ _ _ _ _ _ _ _ h
        · exact h
theorem zrun_more {n m : Nat} (h : n ≤ m) {xs : Option (List Int32)} {d mi pc : Nat} {ml st : List Value} {M : zM} {u : Option Value × zM} (h1 : zrun n xs d mi pc ml st M = some u) : zrun m xs d mi pc ml st M = some u := by
  induction m with
  | zero => have : n = 0 := by omega
            subst this; exact h1
  | succ m ih =>
    by_cases hm : n = m + 1
    · subst hm; exact h1
    · exact zrun_fuel _ _ _ _ _ _ _ _ _ (ih (by omega))
theorem zS1_len : zS1.length = 517 := by decide +kernel
theorem vtag_lt {a x : Nat} (h : vtag a = x) (hx : x < 900) : a < 517 := by
  unfold vtag tsh at h
  by_cases ha : a < 517
  · exact ha
  · rw [List.getD_eq_getElem?_getD, List.getElem?_eq_none (by rw [zS1_len]; omega)] at h
    have h : (999 : Nat) = x := h
    omega
theorem z_scr {a : Nat} (h : a < 517) : a ≠ zSCR := by unfold zSCR; omega
theorem zS1_at {a : Nat} (h : a < 517) : zS1[a]? = some (vtag a, vlen a) := by
  have hl : a < zS1.length := by rw [zS1_len]; exact h
  unfold vtag vlen tsh
  rw [List.getD_eq_getElem?_getD, List.getElem?_eq_getElem hl]
  rfl
theorem zT.at {M : zM} {t : T} (h : zT M t) {a : Nat} (ha : a < 517) : M.1[a]? = some (vtag a, vlen a) := by rw [h.1]; exact zS1_at ha
theorem zT.obj {M : zM} {t : T} (h : zT M t) {a x : Nat} (ha : vtag a = x) (hx : x < 13) : M.1[a]? = some (x, zFN x) := by
  have hl := vtag_lt ha (by omega)
  rw [h.at hl, ← ha, (z_shp a hl).1 (by omega)]
theorem zT_wi {M : zM} {t : T} (h : zT M t) {a k : Nat} {x : Int32} (hi : tint a k = true) : zT (zwr M a k (.int x)) (tsi t a k x) := by
  refine ⟨h.1, fun a' k' ha => ⟨fun h1 h2 => ?_, fun h1 h2 => ?_⟩⟩
  · rw [zrd_wr]
    unfold tsi
    dsimp only
    split
    · rfl
    · exact (h.2 a' k' ha).1 h1 h2
  · rw [zrd_wr, if_neg]
    · exact (h.2 a' k' ha).2 h1 h2
    · rintro ⟨rfl, rfl⟩
      rw [hi] at h1; cases h1
theorem zT_wr {M : zM} {t : T} (h : zT M t) {a k v : Nat} (hi : tint a k = false) (hm : tmut a k = true) : zT (zwr M a k (.ref v)) (tsr t a k v) := by
  refine ⟨h.1, fun a' k' ha => ⟨fun h1 h2 => ?_, fun h1 h2 => ?_⟩⟩
  · rw [zrd_wr, if_neg]
    · exact (h.2 a' k' ha).1 h1 h2
    · rintro ⟨rfl, rfl⟩
      rw [hi] at h1; cases h1
  · rw [zrd_wr]
    by_cases hc : a' = a ∧ k' = k
    · rw [if_pos hc]
      obtain ⟨rfl, rfl⟩ := hc
      unfold tref tsr
      simp [hm]
    · rw [if_neg hc, (h.2 a' k' ha).2 h1 h2]
      unfold tref tsr
      simp only [if_neg hc]
theorem tint_arr {a : Nat} (k : Nat) (h1 : 100 ≤ vtag a) : tint a k = decide (vtag a < 103) := by
  unfold tint
  rw [if_neg (by omega)]
theorem zT_cp {M : zM} {t : T} (h : zT M t) {a b sp dp n : Nat} (ha : vtag a = 100) (hb : vtag b = 100) : zT (zcp M a sp b dp n) (tcp t a sp b dp n) := by
  have hal := vtag_lt ha (by omega)
  refine ⟨h.1, fun a' k' ha' => ⟨fun h1 h2 => ?_, fun h1 h2 => ?_⟩⟩
  · rw [zrd_cp]
    unfold tcp
    dsimp only
    by_cases hc : a' = b ∧ dp ≤ k' ∧ k' < dp + n
    · rw [if_pos hc, if_pos hc]
      exact (h.2 a _ hal).1 (by rw [tint_arr _ (by omega), ha]; rfl) (Or.inr (by omega))
    · rw [if_neg hc, if_neg hc]
      exact (h.2 a' k' ha').1 h1 h2
  · rw [zrd_cp, if_neg]
    · exact (h.2 a' k' ha').2 h1 h2
    · rintro ⟨rfl, -⟩
      rw [tint_arr _ (by omega), hb] at h1
      cases h1
theorem tw_go {xs : Option (List Int32)} {d mi pc : Nat} {ml st : List Value} {t : T} {Q : Option Value → T → Prop} {q : zIn} {pc' : Nat} {ml' st' : List Value} {t' : T} (hq : zrow mi pc = some q) (hs : ∀ M, zT M t → ∃ M1, zstep xs mi q.1 q.2.2.1 q.2.2.2 pc ml st M = some (.inl (pc', ml', st', M1)) ∧ zT M1 t') (k : twp xs d mi pc' ml' st' t' Q) : twp xs d mi pc ml st t Q := by
  intro M hM
  obtain ⟨M1, h1, h2⟩ := hs M hM
  obtain ⟨n, r, M', t2, h3, h4, h5⟩ := k M1 h2
  refine ⟨n + 1, r, M', t2, ?_, h4, h5⟩
  unfold zrun
  rw [hq]
  dsimp only
  rw [h1]
  exact h3
theorem tw_call {xs : Option (List Int32)} {d mi pc : Nat} {ml st : List Value} {t : T} {Q : Option Value → T → Prop} {q : zIn} {x : Nat} {as rest : List Value} (hq : zrow mi pc = some q) (hs : ∀ M, zT M t → zstep xs mi q.1 q.2.2.1 q.2.2.2 pc ml st M = some (.inr (.inl (x, as, rest)))) (k : twc d x as t (fun r t' => twp xs d mi (pc + 3) ml (r.toList ++ rest) t' Q)) : twp xs d mi pc ml st t Q := by
  intro M hM
  obtain ⟨hd, k⟩ := k
  obtain ⟨d', rfl⟩ : ∃ d', d = d' + 1 := ⟨d - 1, by omega⟩
  obtain ⟨n, r, M', t2, h3, h4, h5⟩ := k M hM
  obtain ⟨n2, r2, M2, t3, h6, h7, h8⟩ := h5 M' h4
  refine ⟨n + n2 + 1, r2, M2, t3, ?_, h7, h8⟩
  unfold zrun
  rw [hq]
  dsimp only
  rw [hs M hM]
  dsimp only
  have h3 : zrun n none d' x 0 (zent x as) [] M = some (r, M') := h3
  rw [zrun_more (Nat.le_add_right n n2) h3]
  exact zrun_more (Nat.le_add_left n2 n) h6
theorem tw_ret {xs : Option (List Int32)} {d mi pc : Nat} {ml st : List Value} {t : T} {Q : Option Value → T → Prop} {q : zIn} {r : Option Value} (hq : zrow mi pc = some q) (hs : ∀ M, zstep xs mi q.1 q.2.2.1 q.2.2.2 pc ml st M = some (.inr (.inr r))) (k : Q r t) : twp xs d mi pc ml st t Q := by
  intro M hM
  refine ⟨1, r, M, t, ?_, hM, k⟩
  unfold zrun
  rw [hq]
  dsimp only
  rw [hs M]
theorem vgi_ok {F : Int32 → Prop} : ∀ (ml : List Value) (x : Nat), vgi ml x F → ∃ v, ml[x]? = some (.int v) ∧ F v
  | [], _, h => h.elim
  | v :: _, 0, h => by
    cases v <;> first | exact h.elim | exact ⟨_, rfl, h⟩
  | _ :: l, n + 1, h => vgi_ok l n h
theorem vga_ok {F : Nat → Prop} : ∀ (ml : List Value) (x : Nat), vga ml x F → ∃ v, ml[x]? = some (.ref v) ∧ F v
  | [], _, h => h.elim
  | v :: _, 0, h => by
    cases v <;> first | exact h.elim | exact ⟨_, rfl, h⟩
  | _ :: l, n + 1, h => vga_ok l n h
theorem vset_ok : ∀ (ml : List Value) (x : Nat) (v : Value) (F : List Value → Prop), vset ml x v F → x < ml.length ∧ F (ml.set x v)
  | [], _, _, _, h => h.elim
  | _ :: _, 0, _, _, h => ⟨by simp, h⟩
  | w :: l, n + 1, v, F, h => by
    obtain ⟨h1, h2⟩ := vset_ok l n v _ h
    exact ⟨by simpa using h1, h2⟩
theorem vtk_ok : ∀ (n : Nat) (st acc : List Value) (F : List Value → List Value → Prop), vtk n st acc F → n ≤ st.length ∧ F ((st.take n).reverse ++ acc) (st.drop n)
  | 0, _, _, _, h => ⟨Nat.zero_le _, h⟩
  | n + 1, v :: st, acc, F, h => by
    obtain ⟨h1, h2⟩ := vtk_ok n st (v :: acc) F h
    refine ⟨by simpa using h1, ?_⟩
    simpa using h2
  | _ + 1, [], _, _, h => h.elim
theorem vbr_ok {y : Jvm.ClassFile.Cond} {a b : Int32} {A B : Prop} (h : vbr (vcn y) a b A B) : if zcmp y a b = true then A else B := by
  cases y <;> simp only [vbr, vcn, zcmp, decide_eq_true_eq] at h ⊢
  · exact h
  · split at h
    · rename_i e; rw [if_neg (fun q => q e)]; exact h
    · rename_i e; rw [if_pos e]; exact h
  · exact h
  · split at h
    · rename_i e; rw [if_neg (Int32.not_le.mpr e)]; exact h
    · rename_i e; rw [if_pos (Int32.not_lt.mp e)]; exact h
  · exact h
  · split at h
    · rename_i e; rw [if_neg (Int32.not_le.mpr e)]; exact h
    · rename_i e; rw [if_pos (Int32.not_lt.mp e)]; exact h
theorem vtg_ok {pc x : Nat} {o : Int} (h : vtg pc o = some x) : 0 ≤ (pc : Int) + o ∧ ((pc : Int) + o).toNat = x := by
  unfold vtg at h
  split at h
  · rename_i h0
    exact ⟨h0, Option.some.inj h⟩
  · cases h
theorem vinb_ok {i : Int32} {n : Nat} (h : vinb i n) : zin i n = true := by
  unfold zin
  simp only [Bool.not_eq_true', Bool.or_eq_false_iff, decide_eq_false_iff_not]
  have h2 := h.2
  exact ⟨h.1, by omega⟩
theorem vsw_ok {K : Nat → Prop} {v : Int32} {pc : Nat} : ∀ (os : List Int) (k : Nat) (l : List (Int32 × Nat)) (e : Nat), k + os.length < 200 → vsl pc (Int32.ofNat k) os = some l → vsw K v l e → (∃ j o, os[j]? = some o ∧ v = Int32.ofNat (k + j) ∧ 0 ≤ (pc : Int) + o ∧ K ((pc : Int) + o).toNat) ∨ ((∀ j, j < os.length → v ≠ Int32.ofNat (k + j)) ∧ K e)
  | [], k, l, e, _, h, hv => by
    cases h
    exact Or.inr ⟨fun j hj => absurd hj (Nat.not_lt_zero _), hv⟩
  | o :: os, k, l, e, hk, h, hv => by
    unfold vsl at h
    split at h
    · rename_i t l' h1 h2
      cases h
      obtain ⟨g1, g2⟩ := vtg_ok h1
      unfold vsw at hv
      split at hv
      · rename_i hvk
        exact Or.inl ⟨0, o, rfl, hvk, g1, by rw [g2]; exact hv⟩
      · rename_i hvk
        have e1 : Int32.ofNat k + 1 = Int32.ofNat (k + 1) := nI_1 k
        rw [e1] at h2
        rcases vsw_ok os (k + 1) l' e (by simp at hk; omega) h2 hv with ⟨j, o', a1, a2, a3, a4⟩ | ⟨a1, a2⟩
        · exact Or.inl ⟨j + 1, o', by simpa using a1, by rw [a2]; congr 1; omega, a3, a4⟩
        · refine Or.inr ⟨fun j hj => ?_, a2⟩
          cases j with
          | zero => exact hvk
          | succ j =>
            have := a1 j (by simpa using hj)
            intro q
            apply this
            rw [q]
            congr 1
            omega
    · cases h
section VS
variable {xs : Option (List Int32)} {d mi pc : Nat} {ml st : List Value} {t : T} {Q : Option Value → T → Prop} {K : Nat → List Value → List Value → T → Prop}
theorem vstep_ok {i : Instr} {n x y : Nat} {o : vOp} (hq : zrow mi pc = some (i, n, x, y)) (hv : vnorm mi pc (i, n, x, y) = some o) (hK : ∀ pc' ml' st' t', K pc' ml' st' t' → twp xs d mi pc' ml' st' t' Q) (h : vstep xs d o pc ml st t Q K) : twp xs d mi pc ml st t Q := by
  cases i with
  | iconst k =>
    cases hv
    exact tw_go hq (fun M hM => ⟨M, rfl, hM⟩) (hK _ _ _ _ h)
  | bipush k =>
    cases hv
    exact tw_go hq (fun M hM => ⟨M, rfl, hM⟩) (hK _ _ _ _ h)
  | sipush k =>
    cases hv
    exact tw_go hq (fun M hM => ⟨M, rfl, hM⟩) (hK _ _ _ _ h)
  | iload_n k =>
    cases hv
    obtain ⟨v, h1, h2⟩ := vgi_ok _ _ h
    exact tw_go hq (fun M hM => ⟨M, by simp only [zstep, zldi, h1]; rfl, hM⟩) (hK _ _ _ _ h2)
  | iload k =>
    cases hv
    obtain ⟨v, h1, h2⟩ := vgi_ok _ _ h
    exact tw_go hq (fun M hM => ⟨M, by simp only [zstep, zldi, h1]; rfl, hM⟩) (hK _ _ _ _ h2)
  | aload_n k =>
    cases hv
    obtain ⟨v, h1, h2⟩ := vga_ok _ _ h
    exact tw_go hq (fun M hM => ⟨M, by simp only [zstep, zlda, h1]; rfl, hM⟩) (hK _ _ _ _ h2)
  | aload k =>
    cases hv
    obtain ⟨v, h1, h2⟩ := vga_ok _ _ h
    exact tw_go hq (fun M hM => ⟨M, by simp only [zstep, zlda, h1]; rfl, hM⟩) (hK _ _ _ _ h2)
  | istore_n k =>
    cases hv
    simp only [vs_0, vs_1, vs_2, vs_3, vs_4, vs_5, vs_6, vs_7, vs_8, vs_9, vs_10, vs_11, vs_12, vs_13, vs_14, vs_15, vs_16, vs_17, vs_18, vs_19, vs_20, vs_21, vs_22, vs_23, vs_24, vs_25, vs_26, vs_27, vs_28, vs_29, vs_30, vs_31, vs_32, vs_33, vs_34, vs_35, vs_36, vs_37, vs_38, vs_39, vs_40, vs_41, vs_42, vs_43, vs_44, vs_45] at h
    split at h
    · obtain ⟨h1, h2⟩ := vset_ok _ _ _ _ h
      exact tw_go hq (fun M hM => ⟨M, by simp only [zstep, zsti, if_pos h1]; rfl, hM⟩) (hK _ _ _ _ h2)
    · exact h.elim
  | istore k =>
    cases hv
    simp only [vs_0, vs_1, vs_2, vs_3, vs_4, vs_5, vs_6, vs_7, vs_8, vs_9, vs_10, vs_11, vs_12, vs_13, vs_14, vs_15, vs_16, vs_17, vs_18, vs_19, vs_20, vs_21, vs_22, vs_23, vs_24, vs_25, vs_26, vs_27, vs_28, vs_29, vs_30, vs_31, vs_32, vs_33, vs_34, vs_35, vs_36, vs_37, vs_38, vs_39, vs_40, vs_41, vs_42, vs_43, vs_44, vs_45] at h
    split at h
    · obtain ⟨h1, h2⟩ := vset_ok _ _ _ _ h
      exact tw_go hq (fun M hM => ⟨M, by simp only [zstep, zsti, if_pos h1]; rfl, hM⟩) (hK _ _ _ _ h2)
    · exact h.elim
  | astore_n k =>
    cases hv
    simp only [vs_0, vs_1, vs_2, vs_3, vs_4, vs_5, vs_6, vs_7, vs_8, vs_9, vs_10, vs_11, vs_12, vs_13, vs_14, vs_15, vs_16, vs_17, vs_18, vs_19, vs_20, vs_21, vs_22, vs_23, vs_24, vs_25, vs_26, vs_27, vs_28, vs_29, vs_30, vs_31, vs_32, vs_33, vs_34, vs_35, vs_36, vs_37, vs_38, vs_39, vs_40, vs_41, vs_42, vs_43, vs_44, vs_45] at h
    split at h
    · obtain ⟨h1, h2⟩ := vset_ok _ _ _ _ h
      exact tw_go hq (fun M hM => ⟨M, by simp only [zstep, zsta, if_pos h1]; rfl, hM⟩) (hK _ _ _ _ h2)
    · exact h.elim
  | astore k =>
    cases hv
    simp only [vs_0, vs_1, vs_2, vs_3, vs_4, vs_5, vs_6, vs_7, vs_8, vs_9, vs_10, vs_11, vs_12, vs_13, vs_14, vs_15, vs_16, vs_17, vs_18, vs_19, vs_20, vs_21, vs_22, vs_23, vs_24, vs_25, vs_26, vs_27, vs_28, vs_29, vs_30, vs_31, vs_32, vs_33, vs_34, vs_35, vs_36, vs_37, vs_38, vs_39, vs_40, vs_41, vs_42, vs_43, vs_44, vs_45] at h
    split at h
    · obtain ⟨h1, h2⟩ := vset_ok _ _ _ _ h
      exact tw_go hq (fun M hM => ⟨M, by simp only [zstep, zsta, if_pos h1]; rfl, hM⟩) (hK _ _ _ _ h2)
    · exact h.elim
  | iinc k j =>
    cases hv
    obtain ⟨v, h1, h2⟩ := vgi_ok _ _ h
    obtain ⟨h3, h4⟩ := vset_ok _ _ _ _ h2
    exact tw_go hq (fun M hM => ⟨M, by simp only [zstep, h1]; rfl, hM⟩) (hK _ _ _ _ h4)
  | iadd =>
    cases hv
    simp only [vs_0, vs_1, vs_2, vs_3, vs_4, vs_5, vs_6, vs_7, vs_8, vs_9, vs_10, vs_11, vs_12, vs_13, vs_14, vs_15, vs_16, vs_17, vs_18, vs_19, vs_20, vs_21, vs_22, vs_23, vs_24, vs_25, vs_26, vs_27, vs_28, vs_29, vs_30, vs_31, vs_32, vs_33, vs_34, vs_35, vs_36, vs_37, vs_38, vs_39, vs_40, vs_41, vs_42, vs_43, vs_44, vs_45] at h
    split at h
    · exact tw_go hq (fun M hM => ⟨M, rfl, hM⟩) (hK _ _ _ _ h)
    · exact h.elim
  | isub =>
    cases hv
    simp only [vs_0, vs_1, vs_2, vs_3, vs_4, vs_5, vs_6, vs_7, vs_8, vs_9, vs_10, vs_11, vs_12, vs_13, vs_14, vs_15, vs_16, vs_17, vs_18, vs_19, vs_20, vs_21, vs_22, vs_23, vs_24, vs_25, vs_26, vs_27, vs_28, vs_29, vs_30, vs_31, vs_32, vs_33, vs_34, vs_35, vs_36, vs_37, vs_38, vs_39, vs_40, vs_41, vs_42, vs_43, vs_44, vs_45] at h
    split at h
    · exact tw_go hq (fun M hM => ⟨M, rfl, hM⟩) (hK _ _ _ _ h)
    · exact h.elim
  | imul =>
    cases hv
    simp only [vs_0, vs_1, vs_2, vs_3, vs_4, vs_5, vs_6, vs_7, vs_8, vs_9, vs_10, vs_11, vs_12, vs_13, vs_14, vs_15, vs_16, vs_17, vs_18, vs_19, vs_20, vs_21, vs_22, vs_23, vs_24, vs_25, vs_26, vs_27, vs_28, vs_29, vs_30, vs_31, vs_32, vs_33, vs_34, vs_35, vs_36, vs_37, vs_38, vs_39, vs_40, vs_41, vs_42, vs_43, vs_44, vs_45] at h
    split at h
    · exact tw_go hq (fun M hM => ⟨M, rfl, hM⟩) (hK _ _ _ _ h)
    · exact h.elim
  | iand =>
    cases hv
    simp only [vs_0, vs_1, vs_2, vs_3, vs_4, vs_5, vs_6, vs_7, vs_8, vs_9, vs_10, vs_11, vs_12, vs_13, vs_14, vs_15, vs_16, vs_17, vs_18, vs_19, vs_20, vs_21, vs_22, vs_23, vs_24, vs_25, vs_26, vs_27, vs_28, vs_29, vs_30, vs_31, vs_32, vs_33, vs_34, vs_35, vs_36, vs_37, vs_38, vs_39, vs_40, vs_41, vs_42, vs_43, vs_44, vs_45] at h
    split at h
    · exact tw_go hq (fun M hM => ⟨M, rfl, hM⟩) (hK _ _ _ _ h)
    · exact h.elim
  | ior =>
    cases hv
    simp only [vs_0, vs_1, vs_2, vs_3, vs_4, vs_5, vs_6, vs_7, vs_8, vs_9, vs_10, vs_11, vs_12, vs_13, vs_14, vs_15, vs_16, vs_17, vs_18, vs_19, vs_20, vs_21, vs_22, vs_23, vs_24, vs_25, vs_26, vs_27, vs_28, vs_29, vs_30, vs_31, vs_32, vs_33, vs_34, vs_35, vs_36, vs_37, vs_38, vs_39, vs_40, vs_41, vs_42, vs_43, vs_44, vs_45] at h
    split at h
    · exact tw_go hq (fun M hM => ⟨M, rfl, hM⟩) (hK _ _ _ _ h)
    · exact h.elim
  | ixor =>
    cases hv
    simp only [vs_0, vs_1, vs_2, vs_3, vs_4, vs_5, vs_6, vs_7, vs_8, vs_9, vs_10, vs_11, vs_12, vs_13, vs_14, vs_15, vs_16, vs_17, vs_18, vs_19, vs_20, vs_21, vs_22, vs_23, vs_24, vs_25, vs_26, vs_27, vs_28, vs_29, vs_30, vs_31, vs_32, vs_33, vs_34, vs_35, vs_36, vs_37, vs_38, vs_39, vs_40, vs_41, vs_42, vs_43, vs_44, vs_45] at h
    split at h
    · exact tw_go hq (fun M hM => ⟨M, rfl, hM⟩) (hK _ _ _ _ h)
    · exact h.elim
  | ishl =>
    cases hv
    simp only [vs_0, vs_1, vs_2, vs_3, vs_4, vs_5, vs_6, vs_7, vs_8, vs_9, vs_10, vs_11, vs_12, vs_13, vs_14, vs_15, vs_16, vs_17, vs_18, vs_19, vs_20, vs_21, vs_22, vs_23, vs_24, vs_25, vs_26, vs_27, vs_28, vs_29, vs_30, vs_31, vs_32, vs_33, vs_34, vs_35, vs_36, vs_37, vs_38, vs_39, vs_40, vs_41, vs_42, vs_43, vs_44, vs_45] at h
    split at h
    · exact tw_go hq (fun M hM => ⟨M, rfl, hM⟩) (hK _ _ _ _ h)
    · exact h.elim
  | ishr =>
    cases hv
    simp only [vs_0, vs_1, vs_2, vs_3, vs_4, vs_5, vs_6, vs_7, vs_8, vs_9, vs_10, vs_11, vs_12, vs_13, vs_14, vs_15, vs_16, vs_17, vs_18, vs_19, vs_20, vs_21, vs_22, vs_23, vs_24, vs_25, vs_26, vs_27, vs_28, vs_29, vs_30, vs_31, vs_32, vs_33, vs_34, vs_35, vs_36, vs_37, vs_38, vs_39, vs_40, vs_41, vs_42, vs_43, vs_44, vs_45] at h
    split at h
    · exact tw_go hq (fun M hM => ⟨M, rfl, hM⟩) (hK _ _ _ _ h)
    · exact h.elim
  | i2b =>
    cases hv
    simp only [vs_0, vs_1, vs_2, vs_3, vs_4, vs_5, vs_6, vs_7, vs_8, vs_9, vs_10, vs_11, vs_12, vs_13, vs_14, vs_15, vs_16, vs_17, vs_18, vs_19, vs_20, vs_21, vs_22, vs_23, vs_24, vs_25, vs_26, vs_27, vs_28, vs_29, vs_30, vs_31, vs_32, vs_33, vs_34, vs_35, vs_36, vs_37, vs_38, vs_39, vs_40, vs_41, vs_42, vs_43, vs_44, vs_45] at h
    split at h
    · exact tw_go hq (fun M hM => ⟨M, rfl, hM⟩) (hK _ _ _ _ h)
    · exact h.elim
  | idiv =>
    cases hv
    simp only [vs_0, vs_1, vs_2, vs_3, vs_4, vs_5, vs_6, vs_7, vs_8, vs_9, vs_10, vs_11, vs_12, vs_13, vs_14, vs_15, vs_16, vs_17, vs_18, vs_19, vs_20, vs_21, vs_22, vs_23, vs_24, vs_25, vs_26, vs_27, vs_28, vs_29, vs_30, vs_31, vs_32, vs_33, vs_34, vs_35, vs_36, vs_37, vs_38, vs_39, vs_40, vs_41, vs_42, vs_43, vs_44, vs_45] at h
    split at h
    · exact tw_go hq (fun M hM => ⟨M, by simp only [zstep, if_neg h.1]; rfl, hM⟩) (hK _ _ _ _ h.2)
    · exact h.elim
  | irem =>
    cases hv
    simp only [vs_0, vs_1, vs_2, vs_3, vs_4, vs_5, vs_6, vs_7, vs_8, vs_9, vs_10, vs_11, vs_12, vs_13, vs_14, vs_15, vs_16, vs_17, vs_18, vs_19, vs_20, vs_21, vs_22, vs_23, vs_24, vs_25, vs_26, vs_27, vs_28, vs_29, vs_30, vs_31, vs_32, vs_33, vs_34, vs_35, vs_36, vs_37, vs_38, vs_39, vs_40, vs_41, vs_42, vs_43, vs_44, vs_45] at h
    split at h
    · exact tw_go hq (fun M hM => ⟨M, by simp only [zstep, if_neg h.1]; rfl, hM⟩) (hK _ _ _ _ h.2)
    · exact h.elim
  | dup =>
    cases hv
    simp only [vs_0, vs_1, vs_2, vs_3, vs_4, vs_5, vs_6, vs_7, vs_8, vs_9, vs_10, vs_11, vs_12, vs_13, vs_14, vs_15, vs_16, vs_17, vs_18, vs_19, vs_20, vs_21, vs_22, vs_23, vs_24, vs_25, vs_26, vs_27, vs_28, vs_29, vs_30, vs_31, vs_32, vs_33, vs_34, vs_35, vs_36, vs_37, vs_38, vs_39, vs_40, vs_41, vs_42, vs_43, vs_44, vs_45] at h
    split at h
    · exact tw_go hq (fun M hM => ⟨M, rfl, hM⟩) (hK _ _ _ _ h)
    · exact tw_go hq (fun M hM => ⟨M, rfl, hM⟩) (hK _ _ _ _ h)
    · exact h.elim
  | dup2 =>
    cases hv
    simp only [vs_0, vs_1, vs_2, vs_3, vs_4, vs_5, vs_6, vs_7, vs_8, vs_9, vs_10, vs_11, vs_12, vs_13, vs_14, vs_15, vs_16, vs_17, vs_18, vs_19, vs_20, vs_21, vs_22, vs_23, vs_24, vs_25, vs_26, vs_27, vs_28, vs_29, vs_30, vs_31, vs_32, vs_33, vs_34, vs_35, vs_36, vs_37, vs_38, vs_39, vs_40, vs_41, vs_42, vs_43, vs_44, vs_45] at h
    split at h
    · exact tw_go hq (fun M hM => ⟨M, rfl, hM⟩) (hK _ _ _ _ h)
    · exact h.elim
  | pop =>
    cases hv
    simp only [vs_0, vs_1, vs_2, vs_3, vs_4, vs_5, vs_6, vs_7, vs_8, vs_9, vs_10, vs_11, vs_12, vs_13, vs_14, vs_15, vs_16, vs_17, vs_18, vs_19, vs_20, vs_21, vs_22, vs_23, vs_24, vs_25, vs_26, vs_27, vs_28, vs_29, vs_30, vs_31, vs_32, vs_33, vs_34, vs_35, vs_36, vs_37, vs_38, vs_39, vs_40, vs_41, vs_42, vs_43, vs_44, vs_45] at h
    split at h
    · exact tw_go hq (fun M hM => ⟨M, rfl, hM⟩) (hK _ _ _ _ h)
    · exact tw_go hq (fun M hM => ⟨M, rfl, hM⟩) (hK _ _ _ _ h)
    · exact h.elim
  | if_icmp cd o9 =>
    dsimp only [vnorm] at hv
    cases hg : vtg pc o9 with
    | none => rw [hg] at hv; cases hv
    | some x9 =>
      rw [hg] at hv
      cases hv
      obtain ⟨g1, g2⟩ := vtg_ok hg
      simp only [vs_0, vs_1, vs_2, vs_3, vs_4, vs_5, vs_6, vs_7, vs_8, vs_9, vs_10, vs_11, vs_12, vs_13, vs_14, vs_15, vs_16, vs_17, vs_18, vs_19, vs_20, vs_21, vs_22, vs_23, vs_24, vs_25, vs_26, vs_27, vs_28, vs_29, vs_30, vs_31, vs_32, vs_33, vs_34, vs_35, vs_36, vs_37, vs_38, vs_39, vs_40, vs_41, vs_42, vs_43, vs_44, vs_45] at h
      split at h
      · have h2 := vbr_ok h
        split at h2
        · rename_i hc
          exact tw_go hq (fun M hM => ⟨M, by simp only [zstep, zbr, if_pos g1, hc, if_true, g2]; rfl, hM⟩) (hK _ _ _ _ h2)
        · rename_i hc
          exact tw_go hq (fun M hM => ⟨M, by simp only [zstep, zbr, if_pos g1, hc, if_false, Bool.false_eq_true]; rfl, hM⟩) (hK _ _ _ _ h2)
      · exact h.elim
  | ifCond cd o9 =>
    dsimp only [vnorm] at hv
    cases hg : vtg pc o9 with
    | none => rw [hg] at hv; cases hv
    | some x9 =>
      rw [hg] at hv
      cases hv
      obtain ⟨g1, g2⟩ := vtg_ok hg
      simp only [vs_0, vs_1, vs_2, vs_3, vs_4, vs_5, vs_6, vs_7, vs_8, vs_9, vs_10, vs_11, vs_12, vs_13, vs_14, vs_15, vs_16, vs_17, vs_18, vs_19, vs_20, vs_21, vs_22, vs_23, vs_24, vs_25, vs_26, vs_27, vs_28, vs_29, vs_30, vs_31, vs_32, vs_33, vs_34, vs_35, vs_36, vs_37, vs_38, vs_39, vs_40, vs_41, vs_42, vs_43, vs_44, vs_45] at h
      split at h
      · have h2 := vbr_ok h
        split at h2
        · rename_i hc
          exact tw_go hq (fun M hM => ⟨M, by simp only [zstep, zbr, if_pos g1, hc, if_true, g2]; rfl, hM⟩) (hK _ _ _ _ h2)
        · rename_i hc
          exact tw_go hq (fun M hM => ⟨M, by simp only [zstep, zbr, if_pos g1, hc, if_false, Bool.false_eq_true]; rfl, hM⟩) (hK _ _ _ _ h2)
      · exact h.elim
  | goto o9 =>
    dsimp only [vnorm] at hv
    cases hg : vtg pc o9 with
    | none => rw [hg] at hv; cases hv
    | some x9 =>
      rw [hg] at hv
      cases hv
      obtain ⟨g1, g2⟩ := vtg_ok hg
      exact tw_go hq (fun M hM => ⟨M, by simp only [zstep, zbr, if_pos g1, if_true, g2]; rfl, hM⟩) (hK _ _ _ _ h)
  | tableswitch dd lo hi offs =>
    dsimp only [vnorm] at hv
    split at hv
    · rename_i hh
      obtain ⟨rfl, hhi, hsz⟩ := hh
      split at hv
      · rename_i x9 l9 hg hl
        cases hv
        obtain ⟨g1, g2⟩ := vtg_ok hg
        simp only [vs_0, vs_1, vs_2, vs_3, vs_4, vs_5, vs_6, vs_7, vs_8, vs_9, vs_10, vs_11, vs_12, vs_13, vs_14, vs_15, vs_16, vs_17, vs_18, vs_19, vs_20, vs_21, vs_22, vs_23, vs_24, vs_25, vs_26, vs_27, vs_28, vs_29, vs_30, vs_31, vs_32, vs_33, vs_34, vs_35, vs_36, vs_37, vs_38, vs_39, vs_40, vs_41, vs_42, vs_43, vs_44, vs_45] at h
        split at h
        · rename_i a r
          have hlen : offs.toList.length = offs.size := by simp
          rcases vsw_ok offs.toList 0 l9 x9 (by rw [hlen]; omega) hl h with ⟨j, o9, a1, a2, a3, a4⟩ | ⟨a1, a2⟩
          · have hj : j < offs.size := by
              have := (List.getElem?_eq_some_iff.mp a1).1
              rw [hlen] at this; exact this
            have hti : a.toInt = (j : Int) := by
              rw [a2, Nat.zero_add]
              exact nI_toInt (by omega)
            refine tw_go hq (fun M hM => ⟨M, ?_, hM⟩) (hK _ _ _ _ a4)
            simp only [zstep, zsw]
            rw [if_neg (by omega)]
            have e1 : (a.toInt - 0).toNat = j := by omega
            rw [e1, ← Array.getElem?_toList, a1]
            simp only [if_pos a3]
            rfl
          · refine tw_go hq (fun M hM => ⟨M, ?_, hM⟩) (hK _ _ _ _ a2)
            simp only [zstep, zsw]
            rw [if_pos, if_pos g1, g2]
            · rfl
            · by_cases h0 : a.toInt < 0
              · exact Or.inl h0
              · right
                apply Int.not_le.mp
                intro h1
                apply a1 a.toInt.toNat (by rw [hlen]; omega)
                rw [Nat.zero_add]
                apply Int32.toInt_inj.mp
                have : (Int32.ofNat a.toInt.toNat).toInt = ((a.toInt.toNat : Nat) : Int) := nI_toInt (by omega)
                rw [this]
                omega
        · exact h.elim
      · cases hv
    · cases hv
  | getfield k =>
    dsimp only [vnorm] at hv
    split at hv
    · rename_i hh
      obtain ⟨hx, hy⟩ := hh
      have key : ∀ a r w, st = .ref a :: r → vtag a = x → (∀ M, zT M t → zrd M a y = w) → twp xs d mi (pc + 3) ml (w :: r) t Q → twp xs d mi pc ml st t Q := by
        intro a r w e1 e2 e3 e4
        subst e1
        have hal := vtag_lt e2 (by omega)
        refine tw_go hq (fun M hM => ⟨M, ?_, hM⟩) e4
        simp only [zstep, zget]
        rw [if_pos ⟨z_scr hal, hM.obj e2 hx, hy, hx⟩, e3 M hM]
        rfl
      split at hv
      · rename_i hf
        cases hv
        simp only [vs_0, vs_1, vs_2, vs_3, vs_4, vs_5, vs_6, vs_7, vs_8, vs_9, vs_10, vs_11, vs_12, vs_13, vs_14, vs_15, vs_16, vs_17, vs_18, vs_19, vs_20, vs_21, vs_22, vs_23, vs_24, vs_25, vs_26, vs_27, vs_28, vs_29, vs_30, vs_31, vs_32, vs_33, vs_34, vs_35, vs_36, vs_37, vs_38, vs_39, vs_40, vs_41, vs_42, vs_43, vs_44, vs_45] at h
        split at h
        · rename_i a r
          have hal := vtag_lt h.1 (by omega)
          refine key a r _ rfl h.1 (fun M hM => ((hM.2 a y hal).1 ?_ ?_)) (hK _ _ _ _ h.2)
          · unfold tint; rw [if_pos (by omega), h.1, hf]
          · left; rw [(z_shp a hal).1 (by omega), h.1]; exact hy
        · exact h.elim
      · rename_i hf
        cases hv
        simp only [vs_0, vs_1, vs_2, vs_3, vs_4, vs_5, vs_6, vs_7, vs_8, vs_9, vs_10, vs_11, vs_12, vs_13, vs_14, vs_15, vs_16, vs_17, vs_18, vs_19, vs_20, vs_21, vs_22, vs_23, vs_24, vs_25, vs_26, vs_27, vs_28, vs_29, vs_30, vs_31, vs_32, vs_33, vs_34, vs_35, vs_36, vs_37, vs_38, vs_39, vs_40, vs_41, vs_42, vs_43, vs_44, vs_45] at h
        split at h
        · rename_i a r
          have hal := vtag_lt h.1 (by omega)
          refine key a r _ rfl h.1 (fun M hM => ((hM.2 a y hal).1 ?_ ?_)) (hK _ _ _ _ h.2)
          · unfold tint; rw [if_pos (by omega), h.1, hf]
          · left; rw [(z_shp a hal).1 (by omega), h.1]; exact hy
        · exact h.elim
      · rename_i hf1 hf2
        cases hv
        simp only [vs_0, vs_1, vs_2, vs_3, vs_4, vs_5, vs_6, vs_7, vs_8, vs_9, vs_10, vs_11, vs_12, vs_13, vs_14, vs_15, vs_16, vs_17, vs_18, vs_19, vs_20, vs_21, vs_22, vs_23, vs_24, vs_25, vs_26, vs_27, vs_28, vs_29, vs_30, vs_31, vs_32, vs_33, vs_34, vs_35, vs_36, vs_37, vs_38, vs_39, vs_40, vs_41, vs_42, vs_43, vs_44, vs_45] at h
        split at h
        · rename_i a r
          have hal := vtag_lt h.1 (by omega)
          refine key a r _ rfl h.1 (fun M hM => ((hM.2 a y hal).2 ?_ ?_)) (hK _ _ _ _ h.2)
          · unfold tint; rw [if_pos (by omega), h.1]
            split
            · rename_i q; exact absurd q hf1
            · rename_i q; exact absurd q hf2
            · rfl
          · rw [(z_shp a hal).1 (by omega), h.1]; exact hy
        · exact h.elim
    · cases hv
  | putfield k =>
    dsimp only [vnorm] at hv
    split at hv
    · rename_i hh
      obtain ⟨hx, hy, hfin⟩ := hh
      have key : ∀ (v : Value) (a : Nat) (r : List Value) (t' : T), st = v :: .ref a :: r → vtag a = x → narrow (zFy x y) v = v → fits (zFy x y) v = true → (∀ M, zT M t → zT (zwr M a y v) t') → twp xs d mi (pc + 3) ml r t' Q → twp xs d mi pc ml st t Q := by
        intro v a r t' e1 e2 e3 e4 e5 e6
        subst e1
        have hal := vtag_lt e2 (by omega)
        refine tw_go hq (fun M hM => ⟨zwr M a y v, ?_, e5 M hM⟩) e6
        simp only [zstep, zput]
        rw [if_pos ⟨z_scr hal, hM.obj e2 hx, hy, hx, e3, e4, fun q => by rw [hfin] at q; cases q⟩]
        rfl
      split at hv
      · rename_i hf
        cases hv
        simp only [vs_0, vs_1, vs_2, vs_3, vs_4, vs_5, vs_6, vs_7, vs_8, vs_9, vs_10, vs_11, vs_12, vs_13, vs_14, vs_15, vs_16, vs_17, vs_18, vs_19, vs_20, vs_21, vs_22, vs_23, vs_24, vs_25, vs_26, vs_27, vs_28, vs_29, vs_30, vs_31, vs_32, vs_33, vs_34, vs_35, vs_36, vs_37, vs_38, vs_39, vs_40, vs_41, vs_42, vs_43, vs_44, vs_45] at h
        split at h
        · rename_i v a r
          refine key _ a r _ rfl h.1 (by rw [hf]; rfl) (by rw [hf]; rfl) (fun M hM => zT_wi hM ?_) (hK _ _ _ _ h.2)
          unfold tint; rw [if_pos (by rw [h.1]; omega), h.1, hf]
        · exact h.elim
      · rename_i hf
        cases hv
        simp only [vs_0, vs_1, vs_2, vs_3, vs_4, vs_5, vs_6, vs_7, vs_8, vs_9, vs_10, vs_11, vs_12, vs_13, vs_14, vs_15, vs_16, vs_17, vs_18, vs_19, vs_20, vs_21, vs_22, vs_23, vs_24, vs_25, vs_26, vs_27, vs_28, vs_29, vs_30, vs_31, vs_32, vs_33, vs_34, vs_35, vs_36, vs_37, vs_38, vs_39, vs_40, vs_41, vs_42, vs_43, vs_44, vs_45] at h
        split at h
        · rename_i v a r
          refine key _ a r _ rfl h.1 ?_ ?_ (fun M hM => zT_wi hM ?_) (hK _ _ _ _ h.2.2)
          · rw [hf]; rcases h.2.1 with rfl | rfl <;> rfl
          · rw [hf]; rcases h.2.1 with rfl | rfl <;> rfl
          · unfold tint; rw [if_pos (by rw [h.1]; omega), h.1, hf]
        · exact h.elim
      · rename_i C hf
        cases hv
        simp only [vs_0, vs_1, vs_2, vs_3, vs_4, vs_5, vs_6, vs_7, vs_8, vs_9, vs_10, vs_11, vs_12, vs_13, vs_14, vs_15, vs_16, vs_17, vs_18, vs_19, vs_20, vs_21, vs_22, vs_23, vs_24, vs_25, vs_26, vs_27, vs_28, vs_29, vs_30, vs_31, vs_32, vs_33, vs_34, vs_35, vs_36, vs_37, vs_38, vs_39, vs_40, vs_41, vs_42, vs_43, vs_44, vs_45] at h
        split at h
        · rename_i v a r
          refine key _ a r _ rfl h.1 (by rw [hf]; rfl) (by rw [hf]; rfl) (fun M hM => zT_wr hM ?_ h.2.1) (hK _ _ _ _ h.2.2)
          unfold tint; rw [if_pos (by rw [h.1]; omega), h.1, hf]
        · exact h.elim
      · cases hv
    · cases hv
  | iaload =>
    dsimp only [vnorm] at hv
    split at hv
    · cases hv
      simp only [vs_0, vs_1, vs_2, vs_3, vs_4, vs_5, vs_6, vs_7, vs_8, vs_9, vs_10, vs_11, vs_12, vs_13, vs_14, vs_15, vs_16, vs_17, vs_18, vs_19, vs_20, vs_21, vs_22, vs_23, vs_24, vs_25, vs_26, vs_27, vs_28, vs_29, vs_30, vs_31, vs_32, vs_33, vs_34, vs_35, vs_36, vs_37, vs_38, vs_39, vs_40, vs_41, vs_42, vs_43, vs_44, vs_45] at h
      split at h
      · rename_i i a r
        obtain ⟨rfl, h⟩ := h
        split at h
        · rename_i l
          exact tw_go hq (fun M hM => ⟨M, by simp only [zstep, ziald, if_true, vinb_ok h.1]; rfl, hM⟩) (hK _ _ _ _ h.2)
        · exact h.elim
      · exact h.elim
    · cases hv
      simp only [vs_0, vs_1, vs_2, vs_3, vs_4, vs_5, vs_6, vs_7, vs_8, vs_9, vs_10, vs_11, vs_12, vs_13, vs_14, vs_15, vs_16, vs_17, vs_18, vs_19, vs_20, vs_21, vs_22, vs_23, vs_24, vs_25, vs_26, vs_27, vs_28, vs_29, vs_30, vs_31, vs_32, vs_33, vs_34, vs_35, vs_36, vs_37, vs_38, vs_39, vs_40, vs_41, vs_42, vs_43, vs_44, vs_45] at h
      split at h
      · rename_i i a r
        obtain ⟨h1, h2, h3⟩ := h
        have hal := vtag_lt h1 (by omega)
        refine tw_go hq (fun M hM => ⟨M, ?_, hM⟩) (hK _ _ _ _ h3)
        have e1 := (hM.2 a i.toNatClampNeg hal).1 (by rw [tint_arr _ (by omega), h1]; rfl) (Or.inr (by omega))
        have e2 := hM.at hal
        rw [h1] at e2
        simp only [zstep, ziald, if_neg (z_scr hal), e1, e2, vinb_ok h2, if_true]
        rfl
      · exact h.elim
  | baload =>
    cases hv
    simp only [vs_0, vs_1, vs_2, vs_3, vs_4, vs_5, vs_6, vs_7, vs_8, vs_9, vs_10, vs_11, vs_12, vs_13, vs_14, vs_15, vs_16, vs_17, vs_18, vs_19, vs_20, vs_21, vs_22, vs_23, vs_24, vs_25, vs_26, vs_27, vs_28, vs_29, vs_30, vs_31, vs_32, vs_33, vs_34, vs_35, vs_36, vs_37, vs_38, vs_39, vs_40, vs_41, vs_42, vs_43, vs_44, vs_45] at h
    split at h
    · rename_i i a r
      obtain ⟨h1, h2, h3⟩ := h
      have hal : a < 517 := by rcases h1 with h1 | h1 <;> exact vtag_lt h1 (by omega)
      refine tw_go hq (fun M hM => ⟨M, ?_, hM⟩) (hK _ _ _ _ h3)
      have e1 := (hM.2 a i.toNatClampNeg hal).1 (by rw [tint_arr _ (by omega)]; simp; omega) (Or.inr (by omega))
      have e2 := hM.at hal
      simp only [zstep, zbald, if_neg (z_scr hal), e1, e2]
      rw [if_pos ⟨h1, vinb_ok h2⟩]
      rfl
    · exact h.elim
  | aaload =>
    cases hv
    simp only [vs_0, vs_1, vs_2, vs_3, vs_4, vs_5, vs_6, vs_7, vs_8, vs_9, vs_10, vs_11, vs_12, vs_13, vs_14, vs_15, vs_16, vs_17, vs_18, vs_19, vs_20, vs_21, vs_22, vs_23, vs_24, vs_25, vs_26, vs_27, vs_28, vs_29, vs_30, vs_31, vs_32, vs_33, vs_34, vs_35, vs_36, vs_37, vs_38, vs_39, vs_40, vs_41, vs_42, vs_43, vs_44, vs_45] at h
    split at h
    · rename_i i a r
      obtain ⟨h1, h1b, h2, h3⟩ := h
      have hal : a < 517 := vtag_lt (x := vtag a) rfl (by omega)
      refine tw_go hq (fun M hM => ⟨M, ?_, hM⟩) (hK _ _ _ _ h3)
      have e1 := (hM.2 a i.toNatClampNeg hal).2 (by rw [tint_arr _ (by omega)]; simp; omega) h2.2
      have e2 := hM.at hal
      simp only [zstep, zaald, if_neg (z_scr hal), e1, e2]
      rw [if_pos ⟨h1, h1b, vinb_ok h2⟩]
      rfl
    · exact h.elim
  | iastore =>
    cases hv
    simp only [vs_0, vs_1, vs_2, vs_3, vs_4, vs_5, vs_6, vs_7, vs_8, vs_9, vs_10, vs_11, vs_12, vs_13, vs_14, vs_15, vs_16, vs_17, vs_18, vs_19, vs_20, vs_21, vs_22, vs_23, vs_24, vs_25, vs_26, vs_27, vs_28, vs_29, vs_30, vs_31, vs_32, vs_33, vs_34, vs_35, vs_36, vs_37, vs_38, vs_39, vs_40, vs_41, vs_42, vs_43, vs_44, vs_45] at h
    split at h
    · rename_i v i a r
      obtain ⟨h1, h2, h3⟩ := h
      have hal := vtag_lt h1 (by omega)
      refine tw_go hq (fun M hM => ⟨_, ?_, zT_wi hM (by rw [tint_arr _ (by omega), h1]; rfl)⟩) (hK _ _ _ _ h3)
      have e2 := hM.at hal
      simp only [zstep, ziast, if_neg (z_scr hal), e2]
      rw [if_pos ⟨h1, vinb_ok h2⟩]
      rfl
    · exact h.elim
  | bastore =>
    cases hv
    simp only [vs_0, vs_1, vs_2, vs_3, vs_4, vs_5, vs_6, vs_7, vs_8, vs_9, vs_10, vs_11, vs_12, vs_13, vs_14, vs_15, vs_16, vs_17, vs_18, vs_19, vs_20, vs_21, vs_22, vs_23, vs_24, vs_25, vs_26, vs_27, vs_28, vs_29, vs_30, vs_31, vs_32, vs_33, vs_34, vs_35, vs_36, vs_37, vs_38, vs_39, vs_40, vs_41, vs_42, vs_43, vs_44, vs_45] at h
    split at h
    · rename_i v i a r
      obtain ⟨h2, h3⟩ := h
      split at h3
      · rename_i h1
        have hal := vtag_lt h1 (by omega)
        refine tw_go hq (fun M hM => ⟨_, ?_, zT_wi hM (by rw [tint_arr _ (by omega), h1]; rfl)⟩) (hK _ _ _ _ h3)
        have e2 := hM.at hal
        simp only [zstep, zbast, if_neg (z_scr hal), e2]
        rw [if_pos ⟨h1, vinb_ok h2⟩]
        rfl
      · rename_i h0
        obtain ⟨h1, hv1, h3⟩ := h3
        have hal := vtag_lt h1 (by omega)
        refine tw_go hq (fun M hM => ⟨_, ?_, zT_wi hM (by rw [tint_arr _ (by omega), h1]; rfl)⟩) (hK _ _ _ _ h3)
        have e2 := hM.at hal
        simp only [zstep, zbast, if_neg (z_scr hal), e2]
        rw [if_neg (fun q => h0 q.1), if_pos ⟨h1, vinb_ok h2, hv1⟩]
        rfl
    · exact h.elim
  | aastore =>
    cases hv
    simp only [vs_0, vs_1, vs_2, vs_3, vs_4, vs_5, vs_6, vs_7, vs_8, vs_9, vs_10, vs_11, vs_12, vs_13, vs_14, vs_15, vs_16, vs_17, vs_18, vs_19, vs_20, vs_21, vs_22, vs_23, vs_24, vs_25, vs_26, vs_27, vs_28, vs_29, vs_30, vs_31, vs_32, vs_33, vs_34, vs_35, vs_36, vs_37, vs_38, vs_39, vs_40, vs_41, vs_42, vs_43, vs_44, vs_45] at h
    split at h
    · rename_i v i a r
      obtain ⟨h1, h1b, hv1, h2, hm, h3⟩ := h
      have hal : a < 517 := vtag_lt (x := vtag a) rfl (by omega)
      have hoc : zoc (vtag a) < 13 := by unfold zoc; repeat (split <;> try omega)
      have hvl : v < 517 := vtag_lt hv1 (by omega)
      refine tw_go hq (fun M hM => ⟨_, ?_, zT_wr hM (by rw [tint_arr _ (by omega)]; simp; omega) hm⟩) (hK _ _ _ _ h3)
      have e2 := hM.at hal
      have e3 := hM.at hvl
      simp only [zstep, zaast, e2, e3]
      rw [if_neg (by rintro (q | q); exact z_scr hal q; exact z_scr hvl q), if_pos ⟨h1, h1b, hv1, vinb_ok h2⟩]
      rfl
    · exact h.elim
  | arraylength =>
    dsimp only [vnorm] at hv
    split at hv
    · cases hv
      simp only [vs_0, vs_1, vs_2, vs_3, vs_4, vs_5, vs_6, vs_7, vs_8, vs_9, vs_10, vs_11, vs_12, vs_13, vs_14, vs_15, vs_16, vs_17, vs_18, vs_19, vs_20, vs_21, vs_22, vs_23, vs_24, vs_25, vs_26, vs_27, vs_28, vs_29, vs_30, vs_31, vs_32, vs_33, vs_34, vs_35, vs_36, vs_37, vs_38, vs_39, vs_40, vs_41, vs_42, vs_43, vs_44, vs_45] at h
      split at h
      · rename_i a r
        obtain ⟨rfl, h⟩ := h
        split at h
        · rename_i l
          exact tw_go hq (fun M hM => ⟨M, by simp only [zstep, zalen, if_true]; rfl, hM⟩) (hK _ _ _ _ h)
        · exact h.elim
      · exact h.elim
    · cases hv
      simp only [vs_0, vs_1, vs_2, vs_3, vs_4, vs_5, vs_6, vs_7, vs_8, vs_9, vs_10, vs_11, vs_12, vs_13, vs_14, vs_15, vs_16, vs_17, vs_18, vs_19, vs_20, vs_21, vs_22, vs_23, vs_24, vs_25, vs_26, vs_27, vs_28, vs_29, vs_30, vs_31, vs_32, vs_33, vs_34, vs_35, vs_36, vs_37, vs_38, vs_39, vs_40, vs_41, vs_42, vs_43, vs_44, vs_45] at h
      split at h
      · rename_i a r
        obtain ⟨h1, h2, h3⟩ := h
        have hal : a < 517 := vtag_lt (x := vtag a) rfl (by omega)
        refine tw_go hq (fun M hM => ⟨M, ?_, hM⟩) (hK _ _ _ _ h3)
        have e2 := hM.at hal
        simp only [zstep, zalen, if_neg (z_scr hal), e2]
        rw [if_pos ⟨h1, h2⟩]
        rfl
      · exact h.elim
  | invokevirtual k =>
    dsimp only [vnorm] at hv
    split at hv
    · rename_i hh
      obtain ⟨hx, hmc, hkd, hml⟩ := hh
      cases hv
      simp only [vs_0, vs_1, vs_2, vs_3, vs_4, vs_5, vs_6, vs_7, vs_8, vs_9, vs_10, vs_11, vs_12, vs_13, vs_14, vs_15, vs_16, vs_17, vs_18, vs_19, vs_20, vs_21, vs_22, vs_23, vs_24, vs_25, vs_26, vs_27, vs_28, vs_29, vs_30, vs_31, vs_32, vs_33, vs_34, vs_35, vs_36, vs_37, vs_38, vs_39, vs_40, vs_41, vs_42, vs_43, vs_44, vs_45] at h
      obtain ⟨ha, h⟩ := h
      obtain ⟨h1, h2, h3⟩ := vtk_ok _ _ _ _ h
      rw [List.append_nil] at h3
      unfold vrc at h3
      split at h3
      · rename_i a l9 hl9
        have hga : st[zna x]? = some (.ref a) := by
          have : st.take (zna x + 1) = (.ref a :: l9).reverse := by rw [← hl9, List.reverse_reverse]
          have e9 : (st.take (zna x + 1))[zna x]? = st[zna x]? := by rw [List.getElem?_take_of_lt (by omega)]
          rw [← e9, this]
          have hlen : l9.length = zna x := by
            have := congrArg List.length hl9
            simp at this
            omega
          rw [List.reverse_cons, List.getElem?_append_right (by simp; omega)]
          simp [hlen]
        have hal := vtag_lt h3.1 (by omega)
        refine tw_call hq (fun M hM => ?_) (x := x) (as := (st.take (zna x + 1)).reverse) (rest := st.drop (zna x + 1)) ?_
        · simp only [zstep, hga]
          rw [if_pos ⟨z_scr hal, hx, hM.obj h3.1 hmc, hmc, hkd⟩]
          unfold zcall
          rw [if_pos ⟨h1, h2, ha, hml⟩]
        · refine ⟨h3.2.1, fun M hM => ?_⟩
          obtain ⟨n1, r1, M1, t1, g1, g2, g3⟩ := h3.2.2 M hM
          exact ⟨n1, r1, M1, t1, g1, g2, hK _ _ _ _ g3⟩
      · exact h3.elim
    · cases hv
  | invokestatic k =>
    dsimp only [vnorm] at hv
    split at hv
    · rename_i hy
      subst hy
      cases hv
      simp only [vs_0, vs_1, vs_2, vs_3, vs_4, vs_5, vs_6, vs_7, vs_8, vs_9, vs_10, vs_11, vs_12, vs_13, vs_14, vs_15, vs_16, vs_17, vs_18, vs_19, vs_20, vs_21, vs_22, vs_23, vs_24, vs_25, vs_26, vs_27, vs_28, vs_29, vs_30, vs_31, vs_32, vs_33, vs_34, vs_35, vs_36, vs_37, vs_38, vs_39, vs_40, vs_41, vs_42, vs_43, vs_44, vs_45] at h
      split at h
      · rename_i n9 dp b9 sp a r
        obtain ⟨h1, h2, h3, h4, h5, h6, h7, h8, h9, hk⟩ := h
        have hal := vtag_lt h1 (by omega)
        have hbl := vtag_lt h2 (by omega)
        refine tw_go hq (fun M hM => ⟨_, ?_, zT_cp hM h1 h2⟩) (hK _ _ _ _ hk)
        have e2 := hM.at hal
        have e3 := hM.at hbl
        simp only [zstep, zacp, if_true]
        rw [if_pos ⟨z_scr hal, z_scr hbl, h3, h4, h5, h8, h9⟩]
        simp only [e2, e3]
        have hall : (List.range n9.toNatClampNeg).all (fun i => zisI (zrd M a (sp.toNatClampNeg + i))) = true := by
          rw [List.all_eq_true]
          intro i9 _
          rw [(hM.2 a (sp.toNatClampNeg + i9) hal).1 (by rw [tint_arr _ (by omega), h1]; rfl) (Or.inr (by omega))]
          rfl
        rw [if_pos ⟨h1, h2, h6, h7, hall⟩]
        rfl
      · exact h.elim
    · rename_i hy6
      split at hv
      · rename_i hy
        subst hy
        cases hv
        simp only [vs_0, vs_1, vs_2, vs_3, vs_4, vs_5, vs_6, vs_7, vs_8, vs_9, vs_10, vs_11, vs_12, vs_13, vs_14, vs_15, vs_16, vs_17, vs_18, vs_19, vs_20, vs_21, vs_22, vs_23, vs_24, vs_25, vs_26, vs_27, vs_28, vs_29, vs_30, vs_31, vs_32, vs_33, vs_34, vs_35, vs_36, vs_37, vs_38, vs_39, vs_40, vs_41, vs_42, vs_43, vs_44, vs_45] at h
        split at h
        · refine tw_go hq (fun M hM => ⟨M, ?_, hM⟩) (hK _ _ _ _ h.2.2)
          simp only [zstep]
          rw [if_neg (by omega), if_pos trivial, if_pos ⟨h.1, h.2.1⟩]
          rfl
        · exact h.elim
      · rename_i hy7
        split at hv
        · rename_i hh
          obtain ⟨hy, hx, hkd, hml⟩ := hh
          cases hv
          simp only [vs_0, vs_1, vs_2, vs_3, vs_4, vs_5, vs_6, vs_7, vs_8, vs_9, vs_10, vs_11, vs_12, vs_13, vs_14, vs_15, vs_16, vs_17, vs_18, vs_19, vs_20, vs_21, vs_22, vs_23, vs_24, vs_25, vs_26, vs_27, vs_28, vs_29, vs_30, vs_31, vs_32, vs_33, vs_34, vs_35, vs_36, vs_37, vs_38, vs_39, vs_40, vs_41, vs_42, vs_43, vs_44, vs_45] at h
          obtain ⟨ha, h⟩ := h
          obtain ⟨h1, h2, h3⟩ := vtk_ok _ _ _ _ h
          rw [List.append_nil] at h3
          refine tw_call hq (fun M hM => ?_) (x := x) (as := (st.take (zna x)).reverse) (rest := st.drop (zna x)) ?_
          · simp only [zstep]
            rw [if_neg hy6, if_neg hy7, if_pos ⟨hy, hx, hkd⟩]
            unfold zcall
            rw [if_pos ⟨h1, h2, ha, hml⟩]
          · refine ⟨h3.1, fun M hM => ?_⟩
            obtain ⟨n1, r1, M1, t1, g1, g2, g3⟩ := h3.2 M hM
            exact ⟨n1, r1, M1, t1, g1, g2, hK _ _ _ _ g3⟩
        · cases hv
  | ireturn =>
    dsimp only [vnorm] at hv
    split at hv
    · rename_i hr
      cases hv
      simp only [vs_0, vs_1, vs_2, vs_3, vs_4, vs_5, vs_6, vs_7, vs_8, vs_9, vs_10, vs_11, vs_12, vs_13, vs_14, vs_15, vs_16, vs_17, vs_18, vs_19, vs_20, vs_21, vs_22, vs_23, vs_24, vs_25, vs_26, vs_27, vs_28, vs_29, vs_30, vs_31, vs_32, vs_33, vs_34, vs_35, vs_36, vs_37, vs_38, vs_39, vs_40, vs_41, vs_42, vs_43, vs_44, vs_45] at h
      split at h
      · exact tw_ret hq (fun M => by simp only [zstep, zret]; rw [if_pos (Or.inl hr)]) h
      · exact h.elim
    · split at hv
      · rename_i hr
        cases hv
        simp only [vs_0, vs_1, vs_2, vs_3, vs_4, vs_5, vs_6, vs_7, vs_8, vs_9, vs_10, vs_11, vs_12, vs_13, vs_14, vs_15, vs_16, vs_17, vs_18, vs_19, vs_20, vs_21, vs_22, vs_23, vs_24, vs_25, vs_26, vs_27, vs_28, vs_29, vs_30, vs_31, vs_32, vs_33, vs_34, vs_35, vs_36, vs_37, vs_38, vs_39, vs_40, vs_41, vs_42, vs_43, vs_44, vs_45] at h
        split at h
        · exact tw_ret hq (fun M => by simp only [zstep, zret]; rw [if_pos (Or.inr ⟨hr, h.1⟩)]) h.2
        · exact h.elim
      · cases hv
  | areturn =>
    dsimp only [vnorm] at hv
    split at hv
    · rename_i C hr
      cases hv
      simp only [vs_0, vs_1, vs_2, vs_3, vs_4, vs_5, vs_6, vs_7, vs_8, vs_9, vs_10, vs_11, vs_12, vs_13, vs_14, vs_15, vs_16, vs_17, vs_18, vs_19, vs_20, vs_21, vs_22, vs_23, vs_24, vs_25, vs_26, vs_27, vs_28, vs_29, vs_30, vs_31, vs_32, vs_33, vs_34, vs_35, vs_36, vs_37, vs_38, vs_39, vs_40, vs_41, vs_42, vs_43, vs_44, vs_45] at h
      split at h
      · exact tw_ret hq (fun M => by simp only [zstep, zareq, hr]) h
      · exact h.elim
    · cases hv
  | return_ =>
    dsimp only [vnorm] at hv
    split at hv
    · rename_i hr
      cases hv
      simp only [vs_0, vs_1, vs_2, vs_3, vs_4, vs_5, vs_6, vs_7, vs_8, vs_9, vs_10, vs_11, vs_12, vs_13, vs_14, vs_15, vs_16, vs_17, vs_18, vs_19, vs_20, vs_21, vs_22, vs_23, vs_24, vs_25, vs_26, vs_27, vs_28, vs_29, vs_30, vs_31, vs_32, vs_33, vs_34, vs_35, vs_36, vs_37, vs_38, vs_39, vs_40, vs_41, vs_42, vs_43, vs_44, vs_45] at h
      split at h
      · exact tw_ret hq (fun M => by simp only [zstep, zvret, hr]) h
      · exact h.elim
    · cases hv
  | _ => cases hv
end VS
theorem vc_ok (xs : Option (List Int32)) (S : List Nat) : ∀ (n : Nat) (b : Bool) (d mi pc : Nat) (ml st : List Value) (t : T) (Q : Option Value → T → Prop), vc xs S n b d mi pc ml st t Q → twp xs d mi pc ml st t Q := by
  intro n
  induction n with
  | zero => intro b d mi pc ml st t Q h; exact h
  | succ n ih =>
    intro b d mi pc ml st t Q h
    unfold vc at h
    split at h
    · exact h
    · split at h
      · exact h.elim
      · rename_i o ho
        unfold vrow at ho
        cases hq : zrow mi pc with
        | none => rw [hq] at ho; cases ho
        | some q =>
          rw [hq] at ho
          obtain ⟨i, n9, x, y⟩ := q
          exact vstep_ok hq ho (fun _ _ _ _ hk => ih _ _ _ _ _ _ _ _ hk) h
