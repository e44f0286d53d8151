/-! One individual more: split, created. -/
def spx (n w u : Nat) : Nat := if u = n then w else u
def spi (n w k : Nat) : Nat := if k < 3 then k else if k < 33 then 3 + 5 * spx n w ((k - 3) / 5) + (k - 3) % 5 else 33 + 12 * spx n w ((k - 33) / 12) + 2 * spx n w ((k - 33) % 12 / 2) + (k - 33) % 2
def spl (f : St) (n w : Nat) : St := fun k => if k = 0 then nI (n + 1) else if k < 105 then f (spi n w k) else 0
theorem spi_pair {n w p a b : Nat} (hp : 6 ≤ p) (hp2 : p < 8) (hb : b < 6) : spi n w (27 + 12 * a + 2 * b + p) = 27 + 12 * spx n w a + 2 * spx n w b + p := by
  unfold spi
  rw [if_neg (by omega), if_neg (by omega), show (27 + 12 * a + 2 * b + p - 33) / 12 = a by omega, show (27 + 12 * a + 2 * b + p - 33) % 12 / 2 = b by omega, show (27 + 12 * a + 2 * b + p - 33) % 2 = p - 6 by omega]
  omega
theorem spi_mark {n w a j : Nat} (ha : a < 6) (hj : j < 5) : spi n w (3 + 5 * a + j) = 3 + 5 * spx n w a + j := by
  unfold spi
  rw [if_neg (by omega), if_pos (by omega), show (3 + 5 * a + j - 3) / 5 = a by omega, show (3 + 5 * a + j - 3) % 5 = j by omega]
theorem cel2 {p u w : Nat} (hp : 6 ≤ p) : cel p u w + 1 = 27 + 12 * u + 2 * w + p := by
  unfold cel
  rw [if_neg (by omega), if_neg (by omega)]
  omega
theorem cel1 {p u w : Nat} (hp : 2 ≤ p) (hp2 : p < 6) : cel p u w + 1 = 2 + 5 * u + p := by
  unfold cel
  rw [if_neg (by omega), if_pos (by omega)]
  omega
theorem sg2 {f : St} {p u w : Nat} (hp : 6 ≤ p) (hp2 : p < 8) : sg f p u w = f (27 + 12 * u + 2 * w + p) := by
  unfold sg
  rw [if_neg (by omega), cel2 hp]
def spI (f : St) (n w : Nat) (D : Nat → Prop) (g : St) : Prop := g 0 = nI (n + 1) ∧ (∀ k, 105 ≤ k → g k = 0) ∧ ∀ k, 0 < k → k < 105 → (g k = f k ∨ g k = spl f n w k) ∧ (D k → g k = spl f n w k)
theorem spI_mono {f g : St} {n w : Nat} {D D' : Nat → Prop} (h : spI f n w D g) (h2 : ∀ k, D' k → D k) : spI f n w D' g := ⟨h.1, h.2.1, fun k h0 h1 => ⟨(h.2.2 k h0 h1).1, fun z => (h.2.2 k h0 h1).2 (h2 k z)⟩⟩
theorem spI_set {f g : St} {n w k : Nat} {D : Nat → Prop} {v : Int32} (h : spI f n w D g) (h0 : 0 < k) (hk : k < 105) (hv : v = f (spi n w k)) : spI f n w (fun j => D j ∨ j = k) (su g k v) := by
  have hs : spl f n w k = v := by
    unfold spl
    rw [if_neg (by omega), if_pos hk, hv]
  refine ⟨?_, fun j hj => ?_, fun j hj hj2 => ?_⟩
  · unfold su; rw [if_neg (by omega)]; exact h.1
  · unfold su; rw [if_neg (by omega)]; exact h.2.1 j hj
  · unfold su
    by_cases z : j = k
    · rw [if_pos z, z, hs]
      exact ⟨Or.inr rfl, fun _ => rfl⟩
    · rw [if_neg z]
      refine ⟨(h.2.2 j hj hj2).1, fun y => (h.2.2 j hj hj2).2 ?_⟩
      rcases y with y | y
      · exact y
      · exact absurd y z
theorem spI_rd {f g : St} {n w k : Nat} {D : Nat → Prop} (h : spI f n w D g) (h0 : 0 < k) (hk : k < 105) (he : spi n w k = k) : g k = f k := by
  rcases (h.2.2 k h0 hk).1 with z | z
  · exact z
  · rw [z]; unfold spl; rw [if_neg (by omega), if_pos hk, he]
/-- the pairs that are done: those of predicates below p, and of p with the first x -/
def spD (n p x : Nat) : Nat → Prop := fun k => (3 + 5 * n ≤ k ∧ k < 8 + 5 * n) ∨ ∃ p' a b, k = 27 + 12 * a + 2 * b + p' ∧ 6 ≤ p' ∧ p' < 8 ∧ a ≤ n ∧ b ≤ n ∧ (a = n ∨ b = n) ∧ (p' < p ∨ (p' = p ∧ ((a = n ∧ b < x) ∨ (b = n ∧ a < x))))
theorem spD_s {n p x : Nat} : ∀ k, spD n p (x + 1) k → (spD n p x k ∨ k = 27 + 12 * n + 2 * x + p) ∨ k = 27 + 12 * x + 2 * n + p := by
  rintro k (h | ⟨p', a, b, h1, h2, h3, h4, h5, h6, h7⟩)
  · exact Or.inl (Or.inl (Or.inl h))
  · rcases h7 with h7 | ⟨h7, h8⟩
    · exact Or.inl (Or.inl (Or.inr ⟨p', a, b, h1, h2, h3, h4, h5, h6, Or.inl h7⟩))
    · rcases h8 with ⟨h8, h9⟩ | ⟨h8, h9⟩
      · by_cases z : b = x
        · left; right; rw [h1, h7, h8, z]
        · exact Or.inl (Or.inl (Or.inr ⟨p', a, b, h1, h2, h3, h4, h5, h6, Or.inr ⟨h7, Or.inl ⟨h8, by omega⟩⟩⟩))
      · by_cases z : a = x
        · right; rw [h1, h7, h8, z]
        · exact Or.inl (Or.inl (Or.inr ⟨p', a, b, h1, h2, h3, h4, h5, h6, Or.inr ⟨h7, Or.inr ⟨h8, by omega⟩⟩⟩))
theorem spD_n {n p : Nat} : ∀ k, spD n (p + 1) 0 k → spD n p n k ∨ k = 27 + 12 * n + 2 * n + p := by
  rintro k (h | ⟨p', a, b, h1, h2, h3, h4, h5, h6, h7⟩)
  · exact Or.inl (Or.inl h)
  · rcases h7 with h7 | ⟨h7, h8⟩
    · by_cases z : p' = p
      · by_cases y : a = n ∧ b = n
        · right; rw [h1, y.1, y.2, z]
        · exact Or.inl (Or.inr ⟨p', a, b, h1, h2, h3, h4, h5, h6, Or.inr ⟨z, by omega⟩⟩)
      · exact Or.inl (Or.inr ⟨p', a, b, h1, h2, h3, h4, h5, h6, Or.inl (by omega)⟩)
    · omega
theorem spI_end {f g : St} {n w : Nat} (hf : wfS f) (hn : f 0 = nI n) (hn6 : n < 6) (hw : w < n) (h : spI f n w (spD n 8 0) g) : g = spl f n w := by
  obtain ⟨⟨n', a1, a2, a3, a4, a5⟩, -, -, b4⟩ := hf
  have hnn : n' = n := (nI_eq (by omega) (by omega)).mp (a2.symm.trans hn)
  subst hnn
  funext k
  by_cases k0 : k = 0
  · rw [k0, h.1]; rfl
  by_cases k1 : k < 105
  · have hk := h.2.2 k (by omega) k1
    obtain ⟨j, rfl⟩ : ∃ j, k = j + 1 := ⟨k - 1, by omega⟩
    have hsp : ∀ i, spi n' w (j + 1) = i → spl f n' w (j + 1) = f i := fun i hi => by unfold spl; rw [if_neg (by omega), if_pos k1, hi]
    have heq : ∀ v, f (j + 1) = v → spl f n' w (j + 1) = v → g (j + 1) = spl f n' w (j + 1) := fun v e1 e2 => by
      rcases hk.1 with z | z
      · rw [z, e1, e2]
      · exact z
    rcases row_cases j (by omega) with q | ⟨u, q1, q2⟩ | ⟨p, u, q1, q2, q3, q4⟩ | ⟨p, u, v, q1, q2, q3, q4, q5⟩
    · exact heq _ rfl (hsp _ (by unfold spi; rw [if_pos (by omega)]))
    · by_cases z : u = n'
      · exact hk.2 (Or.inl ⟨by omega, by omega⟩)
      · refine heq _ rfl (hsp _ ?_)
        rw [show j + 1 = 3 + 5 * u + 0 by omega, spi_mark q1 (by omega)]
        unfold spx; rw [if_neg z]
    · by_cases z : u = n'
      · exact hk.2 (Or.inl ⟨by omega, by omega⟩)
      · refine heq _ rfl (hsp _ ?_)
        rw [show j + 1 = 3 + 5 * u + (p - 1) by omega, spi_mark q3 (by omega)]
        unfold spx; rw [if_neg z]
    · have ek : j + 1 = 27 + 12 * u + 2 * v + p := by omega
      by_cases z : u ≤ n' ∧ v ≤ n' ∧ (u = n' ∨ v = n')
      · exact hk.2 (Or.inr ⟨p, u, v, ek, q1, q2, z.1, z.2.1, z.2.2, Or.inl q2⟩)
      · by_cases y : u < n' ∧ v < n'
        · refine heq _ rfl (hsp _ ?_)
          rw [ek, spi_pair q1 q2 q4]
          unfold spx; rw [if_neg (by omega), if_neg (by omega)]
        · have hz : ∀ u' v', u' < 6 → v' < 6 → (n' ≤ u' ∨ n' ≤ v') → f (27 + 12 * u' + 2 * v' + p) = 0 := fun u' v' h1 h2 h3 => by
            have := a5 p u' v' q1 q2 h1 h2 h3
            rw [cel2 q1] at this
            exact this
          refine heq 0 ?_ ?_
          · rw [ek]; exact hz u v q3 q4 (by omega)
          · rw [hsp _ (by rw [ek, spi_pair q1 q2 q4])]
            unfold spx
            by_cases y1 : u = n'
            · rw [if_pos y1, if_neg (by omega)]; exact hz w v (by omega) q4 (by omega)
            · rw [if_neg y1]
              by_cases y2 : v = n'
              · rw [if_pos y2]; exact hz u w q3 (by omega) (by omega)
              · rw [if_neg y2]; exact hz u v q3 q4 (by omega)
  · rw [h.2.1 k (by omega)]
    unfold spl
    rw [if_neg k0, if_neg k1]
theorem spx_le {n w u : Nat} (hw : w < n) (hu : u ≤ n) : spx n w u < n := by
  unfold spx
  split <;> omega
theorem spx_o {n w u : Nat} (hu : u < n) : spx n w u = u := by
  unfold spx
  rw [if_neg (by omega)]
theorem spx_n {n w : Nat} : spx n w n = w := by
  unfold spx
  rw [if_pos rfl]
theorem spl_wf {f : St} {n w : Nat} (hf : wfS f) (hn : f 0 = nI n) (hn6 : n < 6) (hw : w < n) : wfS (spl f n w) := by
  obtain ⟨⟨n', a1, a2, a3, a4, a5⟩, b2, b3, b4⟩ := hf
  have hnn : n' = n := (nI_eq (by omega) (by omega)).mp (a2.symm.trans hn)
  subst hnn
  have hsp : ∀ k i, 0 < k → k < 105 → spi n' w k = i → spl f n' w k = f i := fun k i h0 h1 hi => by unfold spl; rw [if_neg (by omega), if_pos h1, hi]
  have hx : ∀ u, u < 6 → spx n' w u < 6 ∧ (n' + 1 ≤ u → n' ≤ spx n' w u) := fun u hu => by
    unfold spx
    split <;> omega
  refine ⟨⟨n' + 1, by omega, rfl, fun u h1 h2 => ?_, fun p u h1 h2 h3 h4 => ?_, fun p u v h1 h2 h3 h4 h5 => ?_⟩, fun k h0 h1 => ?_, fun u hu => ?_, fun k hk => ?_⟩
  · rw [hsp (3 + 5 * u) (3 + 5 * spx n' w u) (by omega) (by omega) (spi_mark (j := 0) h2 (by omega))]
    exact a3 _ ((hx u h2).2 h1) (hx u h2).1
  · rw [cel1 h1 h2, hsp (2 + 5 * u + p) (3 + 5 * spx n' w u + (p - 1)) (by omega) (by omega) (by rw [show 2 + 5 * u + p = 3 + 5 * u + (p - 1) by omega]; exact spi_mark h4 (by omega))]
    have := a4 p _ h1 h2 ((hx u h4).2 h3) (hx u h4).1
    rw [cel1 h1 h2] at this
    rw [show 3 + 5 * spx n' w u + (p - 1) = 2 + 5 * spx n' w u + p by omega]
    exact this
  · rw [cel2 h1, hsp (27 + 12 * u + 2 * v + p) (27 + 12 * spx n' w u + 2 * spx n' w v + p) (by omega) (by omega) (spi_pair h1 h2 h4)]
    have := a5 p (spx n' w u) (spx n' w v) h1 h2 (hx u h3).1 (hx v h4).1 (by have := (hx u h3).2; have := (hx v h4).2; omega)
    rw [cel2 h1] at this
    exact this
  · obtain ⟨j, rfl⟩ : ∃ j, k = j + 1 := ⟨k - 1, by omega⟩
    rcases row_cases j (by omega) with q | ⟨u, q1, q2⟩ | ⟨p, u, q1, q2, q3, q4⟩ | ⟨p, u, v, q1, q2, q3, q4, q5⟩
    · rw [hsp _ (j + 1) h0 h1 (by unfold spi; rw [if_pos (by omega)])]; exact b2 _ h0 h1
    · rw [hsp _ (3 + 5 * spx n' w u + 0) h0 h1 (by rw [show j + 1 = 3 + 5 * u + 0 by omega]; exact spi_mark q1 (by omega))]
      exact b2 _ (by omega) (by have := (hx u q1).1; omega)
    · rw [hsp _ (3 + 5 * spx n' w u + (p - 1)) h0 h1 (by rw [show j + 1 = 3 + 5 * u + (p - 1) by omega]; exact spi_mark q3 (by omega))]
      exact b2 _ (by omega) (by have := (hx u q3).1; omega)
    · rw [hsp _ (27 + 12 * spx n' w u + 2 * spx n' w v + p) h0 h1 (by rw [show j + 1 = 27 + 12 * u + 2 * v + p by omega]; exact spi_pair q1 q2 q4)]
      exact b2 _ (by omega) (by have := (hx u q3).1; have := (hx v q4).1; omega)
  · rw [hsp (3 + 5 * u) (3 + 5 * spx n' w u) (by omega) (by omega) (spi_mark (j := 0) hu (by omega))]
    exact b3 _ (hx u hu).1
  · unfold spl
    rw [if_neg (by omega), if_neg (by omega)]
def crt (f : St) (n : Nat) : St := fun k => if k = 0 then nI (n + 1) else if k = 7 + 5 * n then 1 else if 7 ≤ k ∧ k < 7 + 5 * n ∧ k % 5 = 2 then 0 else f k
theorem crt_wf {f : St} {n : Nat} (hf : wfS f) (hn : f 0 = nI n) (hn6 : n < 6) : wfS (crt f n) := by
  obtain ⟨⟨n', a1, a2, a3, a4, a5⟩, b2, b3, b4⟩ := hf
  have hnn : n' = n := (nI_eq (by omega) (by omega)).mp (a2.symm.trans hn)
  subst hnn
  have hc : ∀ k, crt f n' k = if k = 0 then nI (n' + 1) else if k = 7 + 5 * n' then 1 else if 7 ≤ k ∧ k < 7 + 5 * n' ∧ k % 5 = 2 then 0 else f k := fun _ => rfl
  refine ⟨⟨n' + 1, by omega, rfl, fun u h1 h2 => ?_, fun p u h1 h2 h3 h4 => ?_, fun p u v h1 h2 h3 h4 h5 => ?_⟩, fun k h0 h1 => ?_, fun u hu => ?_, fun k hk => ?_⟩
  · rw [hc, if_neg (by omega), if_neg (by omega), if_neg (by omega)]
    exact a3 u (by omega) h2
  · rw [cel1 h1 h2, hc, if_neg (by omega), if_neg (by omega), if_neg (by omega)]
    have := a4 p u h1 h2 (by omega) h4
    rw [cel1 h1 h2] at this
    exact this
  · rw [cel2 h1, hc, if_neg (by omega), if_neg (by omega), if_neg (by omega)]
    have := a5 p u v h1 h2 h3 h4 (by omega)
    rw [cel2 h1] at this
    exact this
  · rw [hc, if_neg (by omega)]
    by_cases z : k = 7 + 5 * n'
    · rw [if_pos z]; exact ⟨1, by omega, rfl⟩
    · rw [if_neg z]
      by_cases y : 7 ≤ k ∧ k < 7 + 5 * n' ∧ k % 5 = 2
      · rw [if_pos y]; exact ⟨0, by omega, rfl⟩
      · rw [if_neg y]; exact b2 k h0 h1
  · rw [hc, if_neg (by omega), if_neg (by omega), if_neg (by omega)]
    exact b3 u hu
  · rw [hc, if_neg (by omega), if_neg (by omega), if_neg (by omega)]
    exact b4 k hk
