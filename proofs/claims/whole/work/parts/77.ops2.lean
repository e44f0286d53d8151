/-! The calls on slots: both sides. -/
section OP2
variable {d : Nat} {t t' : T}
theorem INVx.cs {x s : Nat} (h : INVx t x) (hs : s < 4) (hx : x = 4 ∨ x = s) (hO : tO [243 + 2 * s, 243 + 2 * s + 1] t t') : INVx t' s := by
  obtain ⟨q, m, ru, rc, ec, Es, h1, h2, h3, h4, h5, h6, h7, h8, h9⟩ := h
  have i : ∀ b k, b < 243 ∨ 251 ≤ b → t'.1 b k = t.1 b k := fun b k hb => hO.2 b (by simp; omega) k
  have r2 := hO.1
  have mr : ∀ r, mS t' r = mS t r := fun r => hO.ms (by simp; omega) r
  refine ⟨q, m, ru, rc, ec, Es, fun s' hs' hx' => ?_, h2.k (fun b k a => i b k (by omega)) (i _ _ (by omega)), h3.k (fun b k a => i b k (by omega)) (i _ _ (by omega)), h4.k (fun b k a => i b k (by omega)) (i _ _ (by omega)) (i _ _ (by omega)), fun b hb => ((h5 b hb).k (t' := t') (fun k => by rw [r2])).1, ?_, ?_, ?_, ?_⟩
  · rw [mr, hO.str (by simp; omega) (by simp; omega)]
    exact h1 s' hs' (by omega)
  · unfold wkI; rw [r2]; exact h6
  · have hpw : t.2 0 12 = 61 ∨ t.2 0 12 = 161 := by rcases h6 with z | z; exact Or.inr z.1; exact Or.inl z.1
    have b61 := bag_w.2.2.1
    have b161 := bag_w.2.2.2
    refine h7.k h5 h6 (by rw [r2]) (fun x k hx => i x k ?_) (fun k => by rw [r2]) (i _ _ (by omega)) (fun s _ _ => mr s)
    unfold bgF at hx; rcases hpw with e | e <;> rw [e] at hx <;> omega
  · exact h8.k h5 (fun p hp => ⟨fun x k a c => i x k (by omega), fun k => by rw [r2]⟩) (fun k => i 503 k (by omega)) (fun s _ _ => mr s)
  · exact h9.k h5 (fun p hp => ⟨fun x k a c => i x k (by omega), fun k => by rw [r2]⟩) (fun k => i 504 k (by omega)) (fun s _ _ => mr s)
theorem INVx.ms {s : Nat} {A R : Nat → Prop} (h : INVx t s) (hs : s < 4) (hO : mW A R t t') (hA : ∀ b, A b → 505 ≤ b) (hR : ∀ r, R r → r = s ∨ 140 ≤ r) (e : cS t (243 + 2 * s) = mS t' s) (hw : wfS (mS t' s)) : INV t' := by
  obtain ⟨q, m, ru, rc, ec, Es, h1, h2, h3, h4, h5, h6, h7, h8, h9⟩ := h
  have i : ∀ b k, b < 505 → b ≠ 483 → b ≠ 484 → t'.1 b k = t.1 b k := fun b k a c e => hO.1.2.1 b e (fun z => by
    rcases z with z | z
    · have := hA b z; omega
    · exact c z) k
  have f : ∀ k, k ≠ 26 → t'.1 483 k = t.1 483 k := hO.2
  have r2 := hO.1.1
  have mr : ∀ r, r < 140 → r ≠ s → mS t' r = mS t r := fun r hr hne => hO.1.2.2 r (fun z => by have := hR r z; omega)
  refine ⟨q, m, ru, rc, ec, Es, fun s' hs' hx' => ?_, h2.k (fun b k a => i b k (by omega) (by omega) (by omega)) (f 1 (by omega)), h3.k (fun b k a => i b k (by omega) (by omega) (by omega)) (f 10 (by omega)), h4.k (fun b k a => i b k (by omega) (by omega) (by omega)) (f 14 (by omega)) (i 0 13 (by omega) (by omega) (by omega)), fun b hb => ((h5 b hb).k (t' := t') (fun k => by rw [r2])).1, ?_, ?_, ?_, ?_⟩
  · have ec : ∀ s', s' < 4 → cS t' (243 + 2 * s') = cS t (243 + 2 * s') := fun s' h' => cS_of (fun k => i _ k (by omega) (by omega) (by omega)) (fun k => i _ k (by omega) (by omega) (by omega))
    by_cases z : s' = s
    · subst z; rw [ec s' hs']; exact ⟨e, hw⟩
    · rw [ec s' hs', mr s' (by omega) z]; exact h1 s' hs' z
  · unfold wkI; rw [r2]; exact h6
  · have hpw : t.2 0 12 = 61 ∨ t.2 0 12 = 161 := by rcases h6 with z | z; exact Or.inr z.1; exact Or.inl z.1
    have b61 := bag_w.2.2.1
    have b161 := bag_w.2.2.2
    refine h7.k h5 h6 (by rw [r2]) (fun x k hx => i x k ?_ ?_ ?_) (fun k => by rw [r2]) (f 22 (by omega)) (fun r h1 h2 => mr r h2 (by omega))
    all_goals (unfold bgF at hx; rcases hpw with e | e <;> rw [e] at hx <;> omega)
  · exact h8.k h5 (fun p hp => ⟨fun x k a c => i x k (by omega) (by omega) (by omega), fun k => by rw [r2]⟩) (fun k => i 503 k (by omega) (by omega) (by omega)) (fun r h1 h2 => mr r (by omega) (by omega))
  · exact h9.k h5 (fun p hp => ⟨fun x k a c => i x k (by omega) (by omega) (by omega), fun k => by rw [r2]⟩) (fun k => i 504 k (by omega) (by omega) (by omega)) (fun r h1 h2 => mr r (by omega) (by omega))
theorem INVx.ms0 {s : Nat} {R : Nat → Prop} (h : INVx t s) (hs : s < 4) (hO : mG noA R t t') (hR : ∀ r, R r → r = s ∨ 140 ≤ r) (e : cS t (243 + 2 * s) = mS t' s) (hw : wfS (mS t' s)) : INV t' := h.ms hs (mW.of (B := noA) (R := R) hO (fun z => z) (fun b z => z) (fun b z => z)) (fun b z => z.elim) hR e hw
theorem INV.sl {s : Nat} (h : INV t) (hs : s < 4) : cS t (243 + 2 * s) = mS t s ∧ wfS (mS t s) ∧ mS t s 0 = nI (sn (mS t s)) ∧ sn (mS t s) ≤ 6 := by
  obtain ⟨q, m, ru, rc, ec, Es, h1, -⟩ := h
  have := h1 s hs (by omega)
  exact ⟨this.1, this.2, this.2.n⟩
/-- the same call on both sides answers alike, and all that holds goes on to hold -/
def OP (cm mm : Nat) (vs : List Value) : Prop := ∀ (d : Nat) (t : T), 60 ≤ d → INV t → twc d cm (.ref 0 :: vs) t (fun r t1 => twc d mm (.ref 483 :: vs) t1 (fun r' t2 => ∃ v, r = some (.int v) ∧ r' = some (.int v) ∧ INV t2))
theorem op_size (sv : Int32) : OP 5 54 [.int sv] := by
  intro d t hd hI
  refine ⟨by omega, ?_⟩
  rw [ze_5]
  refine vc_ok none zH_5 22 false _ 5 0 _ _ _ _ ?_
  simp only [v_5_0, v_5_1, v_5_2, v_5_5, v_5_8, v_5_9, v_5_12, v_5_13, v_5_14, v_5_17, v_5_20, v_5_21, vgi_0, vgi_s, vga_0, vga_s, vset_0, vset_s, vtk_0, vtk_s, vrc_0, vsw_0, vsw_s, List.all_cons, List.all_nil, zc1_i, zc1_r, Bool.and_true, Bool.and_self, true_and, and_true, List.length_cons, List.length_nil, Nat.zero_le, Nat.reduceLeDiff, Nat.reduceAdd, Nat.reduceLT]
  refine c_22 (L := 4) (by omega) (by omega) (fun s hs es => ?_) (fun hno => ?_)
  · subst es
    obtain ⟨h1, h2, h3, h4⟩ := hI.sl hs
    have st := sl_dec s hs
    have h30 : t.1 (243 + 2 * s) 0 = nI (sn (mS t s)) := by rw [← cS_i, h1]; exact h3
    simp only [v_5_0, v_5_1, v_5_2, v_5_5, v_5_8, v_5_9, v_5_12, v_5_13, v_5_14, v_5_17, v_5_20, v_5_21, vgi_0, vgi_s, vga_0, vga_s, vset_0, vset_s, vtk_0, vtk_s, vrc_0, vsw_0, vsw_s, List.all_cons, List.all_nil, zc1_i, zc1_r, Bool.and_true, Bool.and_self, true_and, and_true, List.length_cons, List.length_nil, Nat.zero_le, Nat.reduceLeDiff, Nat.reduceAdd, Nat.reduceLT, Option.toList_some, List.cons_append, List.nil_append, tg_0, tf_0_0, tg_1, ln_1]
    rw [if_neg (by decide)]
    simp (disch := omega) only [nI_clamp, vinb_n, tf_1, st, h30]
    refine ⟨hs, trivial, by omega, ?_⟩
    rw [ze_54]
    refine vc_ok none zH_54 19 false _ 54 0 _ _ _ _ ?_
    simp only [v_54_0, v_54_1, v_54_4, v_54_7, v_54_8, v_54_9, v_54_12, v_54_15, v_54_16, vgi_0, vgi_s, vga_0, vga_s, vset_0, vset_s, vtk_0, vtk_s, vrc_0, vsw_0, vsw_s, List.all_cons, List.all_nil, zc1_i, zc1_r, Bool.and_true, Bool.and_self, true_and, and_true, List.length_cons, List.length_nil, Nat.zero_le, Nat.reduceLeDiff, Nat.reduceAdd, Nat.reduceLT]
    refine c_47 (by omega) (fun s' hs' es' => ?_) (fun hno => absurd rfl (hno s hs))
    simp only [v_54_0, v_54_1, v_54_4, v_54_7, v_54_8, v_54_9, v_54_12, v_54_15, v_54_16, vgi_0, vgi_s, vga_0, vga_s, vset_0, vset_s, vtk_0, vtk_s, vrc_0, vsw_0, vsw_s, List.all_cons, List.all_nil, zc1_i, zc1_r, Bool.and_true, Bool.and_self, true_and, and_true, List.length_cons, List.length_nil, Nat.zero_le, Nat.reduceLeDiff, Nat.reduceAdd, Nat.reduceLT, Option.toList_some, List.cons_append, List.nil_append, tg_483]
    rw [if_neg (by decide)]
    refine c_40 (by omega) (by omega) ?_
    simp only [v_54_0, v_54_1, v_54_4, v_54_7, v_54_8, v_54_9, v_54_12, v_54_15, v_54_16, vgi_0, vgi_s, vga_0, vga_s, vset_0, vset_s, vtk_0, vtk_s, vrc_0, vsw_0, vsw_s, List.all_cons, List.all_nil, zc1_i, zc1_r, Bool.and_true, Bool.and_self, true_and, and_true, List.length_cons, List.length_nil, Nat.zero_le, Nat.reduceLeDiff, Nat.reduceAdd, Nat.reduceLT, Option.toList_some, List.cons_append, List.nil_append]
    exact ⟨_, rfl, by rw [h3], hI⟩
  · simp only [v_5_0, v_5_1, v_5_2, v_5_5, v_5_8, v_5_9, v_5_12, v_5_13, v_5_14, v_5_17, v_5_20, v_5_21, vgi_0, vgi_s, vga_0, vga_s, vset_0, vset_s, vtk_0, vtk_s, vrc_0, vsw_0, vsw_s, List.all_cons, List.all_nil, zc1_i, zc1_r, Bool.and_true, Bool.and_self, true_and, and_true, List.length_cons, List.length_nil, Nat.zero_le, Nat.reduceLeDiff, Nat.reduceAdd, Nat.reduceLT, Option.toList_some, List.cons_append, List.nil_append]
    rw [if_pos trivial]
    refine ⟨by omega, ?_⟩
    rw [ze_54]
    refine vc_ok none zH_54 19 false _ 54 0 _ _ _ _ ?_
    simp only [v_54_0, v_54_1, v_54_4, v_54_7, v_54_8, v_54_9, v_54_12, v_54_15, v_54_16, vgi_0, vgi_s, vga_0, vga_s, vset_0, vset_s, vtk_0, vtk_s, vrc_0, vsw_0, vsw_s, List.all_cons, List.all_nil, zc1_i, zc1_r, Bool.and_true, Bool.and_self, true_and, and_true, List.length_cons, List.length_nil, Nat.zero_le, Nat.reduceLeDiff, Nat.reduceAdd, Nat.reduceLT]
    refine c_47 (by omega) (fun s hs es => absurd es (hno s hs)) (fun _ => ?_)
    simp only [v_54_0, v_54_1, v_54_4, v_54_7, v_54_8, v_54_9, v_54_12, v_54_15, v_54_16, vgi_0, vgi_s, vga_0, vga_s, vset_0, vset_s, vtk_0, vtk_s, vrc_0, vsw_0, vsw_s, List.all_cons, List.all_nil, zc1_i, zc1_r, Bool.and_true, Bool.and_self, true_and, and_true, List.length_cons, List.length_nil, Nat.zero_le, Nat.reduceLeDiff, Nat.reduceAdd, Nat.reduceLT, Option.toList_some, List.cons_append, List.nil_append]
    rw [if_pos trivial]
    exact ⟨_, rfl, rfl, hI⟩
end OP2
