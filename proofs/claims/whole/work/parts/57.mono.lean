/-! The value of a formula: alike for what it looks at, and sharper for what is sharper. -/
def rl (S : Prop) (x y : Int32) : Prop := x = y ∨ (S ∧ x = 2)
theorem rl_rf {S : Prop} {x : Int32} : rl S x x := Or.inl rfl
theorem rl_not {S : Prop} {x y : Int32} (h : rl S x y) : rl S (tnot x) (tnot y) := by
  rcases h with rfl | ⟨s, rfl⟩
  · exact Or.inl rfl
  · exact Or.inr ⟨s, rfl⟩
theorem k_and : ∀ i, i < 3 → ∀ j, j < 3 → ∀ k, k < 3 → ∀ l, l < 3 → (nI i = nI k ∨ nI i = 2) → (nI j = nI l ∨ nI j = 2) → tand (nI i) (nI j) = tand (nI k) (nI l) ∨ tand (nI i) (nI j) = 2 := by
  intro i hi j hj k hk l hl
  have e1 : i = 0 ∨ i = 1 ∨ i = 2 := by omega
  have e2 : j = 0 ∨ j = 1 ∨ j = 2 := by omega
  have e3 : k = 0 ∨ k = 1 ∨ k = 2 := by omega
  have e4 : l = 0 ∨ l = 1 ∨ l = 2 := by omega
  rcases e1 with rfl | rfl | rfl <;> rcases e2 with rfl | rfl | rfl <;> rcases e3 with rfl | rfl | rfl <;> rcases e4 with rfl | rfl | rfl <;> decide
theorem k_or : ∀ i, i < 3 → ∀ j, j < 3 → ∀ k, k < 3 → ∀ l, l < 3 → (nI i = nI k ∨ nI i = 2) → (nI j = nI l ∨ nI j = 2) → tor (nI i) (nI j) = tor (nI k) (nI l) ∨ tor (nI i) (nI j) = 2 := by
  intro i hi j hj k hk l hl
  have e1 : i = 0 ∨ i = 1 ∨ i = 2 := by omega
  have e2 : j = 0 ∨ j = 1 ∨ j = 2 := by omega
  have e3 : k = 0 ∨ k = 1 ∨ k = 2 := by omega
  have e4 : l = 0 ∨ l = 1 ∨ l = 2 := by omega
  rcases e1 with rfl | rfl | rfl <;> rcases e2 with rfl | rfl | rfl <;> rcases e3 with rfl | rfl | rfl <;> rcases e4 with rfl | rfl | rfl <;> decide
theorem rl_w {S : Prop} {x y : Int32} (h : rl S x y) : x = y ∨ x = 2 := h.imp id (fun q => q.2)
theorem rl_2 {S : Prop} {g : Int32 → Int32 → Int32} (kk : ∀ i, i < 3 → ∀ j, j < 3 → ∀ k, k < 3 → ∀ l, l < 3 → (nI i = nI k ∨ nI i = 2) → (nI j = nI l ∨ nI j = 2) → g (nI i) (nI j) = g (nI k) (nI l) ∨ g (nI i) (nI j) = 2) {x y x' y' : Int32} (tx : tri x) (ty : tri y) (tx' : tri x') (ty' : tri y') (h : rl S x x') (h' : rl S y y') : rl S (g x y) (g x' y') := by
  obtain ⟨i, hi, rfl⟩ := tx
  obtain ⟨j, hj, rfl⟩ := ty
  obtain ⟨k, hk, rfl⟩ := tx'
  obtain ⟨l, hl, rfl⟩ := ty'
  by_cases s : S
  · rcases kk i hi j hj k hk l hl (rl_w h) (rl_w h') with q | q
    · exact Or.inl q
    · exact Or.inr ⟨s, q⟩
  · rcases h with h | ⟨q, -⟩
    · rcases h' with h' | ⟨q, -⟩
      · rw [h, h']; exact rl_rf
      · exact absurd q s
    · exact absurd q s
theorem rl_orN {S : Prop} {g g' : Nat → Int32} : ∀ n, (∀ u, u < n → tri (g u) ∧ tri (g' u) ∧ rl S (g u) (g' u)) → rl S (orN g n) (orN g' n)
  | 0, _ => rl_rf
  | n + 1, h => rl_2 k_or (tri_orN n (fun u hu => (h u (by omega)).1)) (h n (by omega)).1 (tri_orN n (fun u hu => (h u (by omega)).2.1)) (h n (by omega)).2.1 (rl_orN n (fun u hu => h u (by omega))) (h n (by omega)).2.2
theorem rl_andN {S : Prop} {g g' : Nat → Int32} : ∀ n, (∀ u, u < n → tri (g u) ∧ tri (g' u) ∧ rl S (g u) (g' u)) → rl S (andN g n) (andN g' n)
  | 0, _ => rl_rf
  | n + 1, h => rl_2 k_and (tri_andN n (fun u hu => (h u (by omega)).1)) (h n (by omega)).1 (tri_andN n (fun u hu => (h u (by omega)).2.1)) (h n (by omega)).2.1 (rl_andN n (fun u hu => h u (by omega))) (h n (by omega)).2.2
theorem rl_clo {S : Prop} {n : Nat} {g g' : Nat → Nat → Int32} {x y : Nat} (h : ∀ u v, u < n → v < n → rl S (g u v) (g' u v)) (hx : x < n) : rl S (clo n g x y) (clo n g' x y) := by
  by_cases s : S
  · by_cases w1 : way n (fun u v => g u v = 1) x y
    · rw [clo_1 w1, clo_1 (way_mono (fun u v hu hv q => ?_) hx w1)]
      · exact rl_rf
      · rcases h u v hu hv with e | ⟨-, e⟩
        · rw [← e]; exact q
        · rw [e] at q; exact absurd q (by decide)
    · by_cases w2 : way n (fun u v => g u v ≠ 0) x y
      · rw [clo_2 w1 w2]; exact Or.inr ⟨s, rfl⟩
      · rw [clo_0 w1 w2, clo_0 (fun q => w2 (way_mono (fun u v hu hv q => ?_) hx q)) (fun q => w2 (way_mono (fun u v hu hv q => ?_) hx q))]
        · exact rl_rf
        · rcases h u v hu hv with e | ⟨-, e⟩
          · rw [e, q]; decide
          · rw [e]; decide
        · rcases h u v hu hv with e | ⟨-, e⟩
          · rw [e]; exact q
          · rw [e]; decide
  · rw [clo_congr (fun u v hu hv => ?_) hx]
    · exact rl_rf
    · rcases h u v hu hv with e | ⟨q, -⟩
      · exact e
      · exact absurd q s
def shp (S : Prop) (f g : St) (n : Nat) : Prop := (∀ p, p < 2 → rl S (f (p + 1)) (g (p + 1))) ∧ (∀ p u, 2 ≤ p → p < 6 → u < n → rl S (sg f p u 0) (sg g p u 0)) ∧ ∀ p u w, 6 ≤ p → p < 9 → u < n → w < n → rl S (sg f p u w) (sg g p u w)
theorem shp_rf {S : Prop} {f : St} {n : Nat} : shp S f f n := ⟨fun _ _ => rl_rf, fun _ _ _ _ _ => rl_rf, fun _ _ _ _ _ _ _ => rl_rf⟩
theorem sg_lo {f : St} {p u w : Nat} (hp : p < 2) : sg f p u w = f (p + 1) := by
  unfold sg cel
  rw [if_neg (by omega), if_pos hp]
theorem sg_mid {f : St} {p u w : Nat} (hp : p < 6) : sg f p u w = sg f p u 0 := by
  rw [sg_cel (by omega), sg_cel (by omega)]
  by_cases q : p < 2
  · unfold cel; rw [if_pos q, if_pos q]
  · rw [cel1 (by omega) hp, cel1 (by omega) hp]
/-- two tables say the same of a formula -/
def tgr (q q' : FT) (i : Nat) : Prop := kd q i = kd q' i ∧ (kd q i = 0 → q i 1 = q' i 1) ∧ (kd q i = 1 → va q i = va q' i ∧ (2 ≤ va q i → vb q i = vb q' i) ∧ (6 ≤ va q i → pc q i = pc q' i)) ∧ (kd q i = 2 → vb q i = vb q' i ∧ pc q i = pc q' i) ∧ (3 ≤ kd q i → pc q i = pc q' i) ∧ (kd q i = 4 ∨ kd q i = 5 → pd q i = pd q' i) ∧ (kd q i = 6 ∨ kd q i = 7 → va q i = va q' i) ∧ (kd q i = 8 → va q i = va q' i ∧ vb q i = vb q' i) ∧ fr q i = fr q' i
theorem tgr_rf {q : FT} {i : Nat} : tgr q q i := ⟨rfl, fun _ => rfl, fun _ => ⟨rfl, fun _ => rfl, fun _ => rfl⟩, fun _ => ⟨rfl, rfl⟩, fun _ => rfl, fun _ => rfl, fun _ => rfl, fun _ => ⟨rfl, rfl⟩, rfl⟩
theorem EV_rl {S : Prop} {q q' : FT} {f g : St} {n m : Nat} (hw : ∀ i, i < m → fwf q i) (hw' : ∀ i, i < m → fwf q' i) (hq : ∀ i, i < m → tgr q q' i) (hf : wfS f) (hg : wfS g) (hn : n ≤ 6) (hs : shp S f g n) : ∀ (i : Nat), i < m → ∀ (e e' : Nat → Nat), (∀ v, fb q i v → e v < n ∧ e' v = e v) → rl S (EV q f n i e) (EV q' g n i e') := by
  intro i
  induction i using Nat.strongRecOn with
  | ind i ih =>
    intro hi e e' he
    have tr : ∀ c, c < m → ∀ e e' : Nat → Nat, (∀ v, fb q c v → e v < n ∧ e' v = e v) → tri (EV q f n c e) ∧ tri (EV q' g n c e') := fun c hc e e' he => by
      refine ⟨EV_tri hw hf hn c hc e (fun v hv => (he v hv).1), EV_tri hw' hg hn c hc e' (fun v hv => ?_)⟩
      have hv' : fb q c v := by unfold fb at hv ⊢; rw [(hq c hc).2.2.2.2.2.2.2.2]; exact hv
      rw [(he v hv').2]; exact (he v hv').1
    obtain ⟨a0, a1, a2, a3, a4, a5, a6, a7, -⟩ := hq i hi
    obtain ⟨-, h9, -, -, -, -, -, -, h0, h1, h2, h3, h3b, h45, h67, h8⟩ := hw i hi
    have : kd q i = 0 ∨ kd q i = 1 ∨ kd q i = 2 ∨ kd q i = 3 ∨ kd q i = 4 ∨ kd q i = 5 ∨ kd q i = 6 ∨ kd q i = 7 ∨ kd q i = 8 := by omega
    rcases this with h | h | h | h | h | h | h | h | h
    · rw [EV_0 h, EV_0 (a0 ▸ h), a1 h]; exact rl_rf
    · rw [EV_1 h, EV_1 (a0 ▸ h)]
      obtain ⟨-, g1, g2, g3⟩ := h1 h
      obtain ⟨b1, b2, b3⟩ := a2 h
      rw [← b1]
      by_cases p2 : va q i < 2
      · rw [sg_lo p2, sg_lo p2]; exact hs.1 _ p2
      · obtain ⟨-, -, c1⟩ := g2 (by omega)
        obtain ⟨c2, c3⟩ := he _ c1
        rw [← b2 (by omega), c3]
        by_cases p6 : va q i < 6
        · rw [sg_mid p6, sg_mid (w := e' (pc q' i)) p6]
          exact hs.2.1 _ _ (by omega) p6 c2
        · obtain ⟨-, -, d1⟩ := g3 (by omega)
          obtain ⟨d2, d3⟩ := he _ d1
          rw [← b3 (by omega), d3]
          exact hs.2.2 _ _ _ (by omega) (by omega) c2 d2
    · rw [EV_2 h, EV_2 (a0 ▸ h)]
      obtain ⟨-, -, c1, -, -, d1⟩ := h2 h
      obtain ⟨b1, b2⟩ := a3 h
      obtain ⟨c2, c3⟩ := he _ c1
      obtain ⟨d2, d3⟩ := he _ d1
      rw [← b1, ← b2, c3, d3]
      exact hs.2.2 _ _ _ (by omega) (by omega) c2 d2
    · rw [EV_3 hw hi h, EV_3 hw' hi (a0 ▸ h), ← a4 (by omega)]
      obtain ⟨-, g1, -⟩ := h3 (by omega)
      exact rl_not (ih _ g1 (by omega) e e' (fun v hv => he v (h3b h v hv)))
    · rw [EV_4 hw hi h, EV_4 hw' hi (a0 ▸ h), ← a4 (by omega), ← a5 (Or.inl h)]
      obtain ⟨-, g1, -⟩ := h3 (by omega)
      obtain ⟨-, g2, -, -, g3, g4⟩ := h45 (Or.inl h)
      have t1 := tr _ (show pc q i < m by omega) e e' (fun v hv => he v (g3 v hv))
      have t2 := tr _ (show pd q i < m by omega) e e' (fun v hv => he v (g4 v hv))
      exact rl_2 k_and t1.1 t2.1 t1.2 t2.2 (ih _ g1 (by omega) e e' (fun v hv => he v (g3 v hv))) (ih _ g2 (by omega) e e' (fun v hv => he v (g4 v hv)))
    · rw [EV_5 hw hi h, EV_5 hw' hi (a0 ▸ h), ← a4 (by omega), ← a5 (Or.inr h)]
      obtain ⟨-, g1, -⟩ := h3 (by omega)
      obtain ⟨-, g2, -, -, g3, g4⟩ := h45 (Or.inr h)
      have t1 := tr _ (show pc q i < m by omega) e e' (fun v hv => he v (g3 v hv))
      have t2 := tr _ (show pd q i < m by omega) e e' (fun v hv => he v (g4 v hv))
      exact rl_2 k_or t1.1 t2.1 t1.2 t2.2 (ih _ g1 (by omega) e e' (fun v hv => he v (g3 v hv))) (ih _ g2 (by omega) e e' (fun v hv => he v (g4 v hv)))
    · rw [EV_6 hw hi h, EV_6 hw' hi (a0 ▸ h), ← a4 (by omega), ← a6 (Or.inl h)]
      obtain ⟨-, g1, -⟩ := h3 (by omega)
      obtain ⟨-, -, g2⟩ := h67 (Or.inl h)
      have ok : ∀ u, u < n → ∀ v, fb q (pc q i) v → eu e (va q i) u v < n ∧ eu e' (va q i) u v = eu e (va q i) u v := fun u hu v hv => by
        unfold eu
        by_cases z : v = va q i
        · rw [if_pos z, if_pos z]; exact ⟨hu, rfl⟩
        · rw [if_neg z, if_neg z]
          rcases g2 v hv with q1 | q1
          · exact absurd q1 z
          · exact he v q1
      refine rl_orN n (fun u hu => ?_)
      have t1 := tr _ (show pc q i < m by omega) _ _ (ok u hu)
      exact ⟨t1.1, t1.2, ih _ g1 (by omega) _ _ (ok u hu)⟩
    · rw [EV_7 hw hi h, EV_7 hw' hi (a0 ▸ h), ← a4 (by omega), ← a6 (Or.inr h)]
      obtain ⟨-, g1, -⟩ := h3 (by omega)
      obtain ⟨-, -, g2⟩ := h67 (Or.inr h)
      have ok : ∀ u, u < n → ∀ v, fb q (pc q i) v → eu e (va q i) u v < n ∧ eu e' (va q i) u v = eu e (va q i) u v := fun u hu v hv => by
        unfold eu
        by_cases z : v = va q i
        · rw [if_pos z, if_pos z]; exact ⟨hu, rfl⟩
        · rw [if_neg z, if_neg z]
          rcases g2 v hv with q1 | q1
          · exact absurd q1 z
          · exact he v q1
      refine rl_andN n (fun u hu => ?_)
      have t1 := tr _ (show pc q i < m by omega) _ _ (ok u hu)
      exact ⟨t1.1, t1.2, ih _ g1 (by omega) _ _ (ok u hu)⟩
    · rw [EV_8 hw hi h, EV_8 hw' hi (a0 ▸ h), ← a4 (by omega), ← (a7 h).1, ← (a7 h).2]
      obtain ⟨-, g1, -⟩ := h3 (by omega)
      obtain ⟨-, -, -, -, c1, d1, -, -, g2⟩ := h8 h
      rw [(he _ c1).2, (he _ d1).2]
      refine rl_clo (fun x y hx hy => ih _ g1 (by omega) _ _ (fun v hv => ?_)) (he _ c1).1
      unfold eu
      by_cases z5 : v = 5
      · rw [if_pos z5, if_pos z5]; exact ⟨hy, rfl⟩
      · rw [if_neg z5, if_neg z5]
        by_cases z4 : v = 4
        · rw [if_pos z4, if_pos z4]; exact ⟨hx, rfl⟩
        · rw [if_neg z4, if_neg z4]
          rcases g2 v hv with q1 | q1 | q1
          · exact absurd q1 z4
          · exact absurd q1 z5
          · exact he v q1
/-- what is 1 or 0 stays so -/
theorem EV_sharp {q : FT} {f g : St} {n m i : Nat} {e : Nat → Nat} (hw : ∀ i, i < m → fwf q i) (hf : wfS f) (hg : wfS g) (hn : n ≤ 6) (hs : shp True f g n) (hi : i < m) (he : ∀ v, fb q i v → e v < n) (h1 : EV q f n i e = 1) : EV q g n i e = 1 := by
  rcases EV_rl hw hw (fun _ _ => tgr_rf) hf hg hn hs i hi e e (fun v hv => ⟨he v hv, rfl⟩) with z | ⟨-, z⟩
  · rw [← z]; exact h1
  · rw [h1] at z; exact absurd z (by decide)
theorem EV_env {q : FT} {f : St} {n m i : Nat} {e e' : Nat → Nat} (hw : ∀ i, i < m → fwf q i) (hf : wfS f) (hn : n ≤ 6) (hi : i < m) (he : ∀ v, fb q i v → e v < n ∧ e' v = e v) : EV q f n i e = EV q f n i e' := by
  rcases EV_rl (S := False) hw hw (fun _ _ => tgr_rf) hf hf hn shp_rf i hi e e' he with z | ⟨z, -⟩
  · exact z
  · exact z.elim
