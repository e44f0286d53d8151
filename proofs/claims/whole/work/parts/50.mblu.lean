/-! The reference blurs: what it keeps. -/
section MBP
variable {f : St} {n : Nat}
theorem SJb_0 {p x y : Nat} (z : Int32) : ¬ SJb f n p x y 0 0 z := by
  rintro ⟨u', w', -, -, hb, -⟩
  unfold bd at hb
  omega
theorem SJb_n {p x y u : Nat} (z : Int32) : SJb f n p x y (u + 1) 0 z ↔ SJb f n p x y u n z := by
  constructor
  · rintro ⟨u', w', h1, h2, hb, h3⟩
    exact ⟨u', w', h1, h2, by unfold bd at hb ⊢; omega, h3⟩
  · rintro ⟨u', w', h1, h2, hb, h3⟩
    exact ⟨u', w', h1, h2, by unfold bd at hb ⊢; omega, h3⟩
theorem SJb_end {p x y : Nat} (hp : 6 ≤ p) (hp2 : p < 8) (z : Int32) : SJ f n p x y z ↔ SJb f n p x y n 0 z := by
  constructor
  · rintro ⟨u', w', h1, h2, h3, h4, h5⟩
    exact ⟨u', w', h1, h2, by unfold bd; omega, h3, h4, by rw [h5, sg2 hp hp2]⟩
  · rintro ⟨u', w', h1, h2, hb, h3, h4, h5⟩
    exact ⟨u', w', h1, h2, h3, h4, by rw [h5, sg2 hp hp2]⟩
/-- the values seen so far, joined -/
def jI (f : St) (n p x y u w : Nat) (v : Int32) : Prop := (v = -1 ∧ ∀ z, ¬ SJb f n p x y u w z) ∨ (tri v ∧ isJ (SJb f n p x y u w) v)
theorem jI_skip {p x y u w : Nat} {v : Int32} (hu : u < n) (hw : w < n) (h : jI f n p x y u w v) (hn : ¬ (PL f n u = x ∧ PL f n w = y)) : jI f n p x y u (w + 1) v := by
  have e : ∀ z, SJb f n p x y u (w + 1) z ↔ SJb f n p x y u w z := fun z => by
    rw [SJb_s hu hw]
    constructor
    · rintro (q | ⟨q1, q2, -⟩)
      · exact q
      · exact absurd ⟨q1, q2⟩ hn
    · exact Or.inl
  rcases h with ⟨h1, h2⟩ | ⟨h1, h2⟩
  · exact Or.inl ⟨h1, fun z q => h2 z ((e z).mp q)⟩
  · exact Or.inr ⟨h1, isJ_congr h2 e⟩
theorem jI_one {p x y u w : Nat} {v : Int32} (hf : wfS f) (hn6 : n ≤ 6) (hp : 6 ≤ p) (hp2 : p < 8) (hu : u < n) (hw : w < n) (h : jI f n p x y u w v) (h1 : PL f n u = x) (h2 : PL f n w = y) (hv : v = -1) : jI f n p x y u (w + 1) (f (27 + 12 * u + 2 * w + p)) := by
  refine Or.inr ⟨hf.tri (by omega) (by omega), isJ_congr isJ_one (fun z => ?_)⟩
  rw [SJb_s hu hw]
  constructor
  · rintro (q | ⟨-, -, q⟩)
    · rcases h with ⟨-, h4⟩ | ⟨h3, -⟩
      · exact absurd q (h4 z)
      · subst hv
        obtain ⟨a, ha, e⟩ := h3
        exact absurd e (by revert a; decide)
    · exact q
  · intro q
    exact Or.inr ⟨h1, h2, q⟩
theorem jI_add {p x y u w : Nat} {v : Int32} (hf : wfS f) (hn6 : n ≤ 6) (hp : 6 ≤ p) (hp2 : p < 8) (hu : u < n) (hw : w < n) (h : jI f n p x y u w v) (h1 : PL f n u = x) (h2 : PL f n w = y) (hv : v ≠ -1) : jI f n p x y u (w + 1) (tjoin v (f (27 + 12 * u + 2 * w + p))) := by
  rcases h with ⟨h3, -⟩ | ⟨h3, h4⟩
  · exact absurd h3 hv
  · refine Or.inr ⟨?_, isJ_add h4 (fun z => ?_)⟩
    · obtain ⟨a, ha, rfl⟩ := h3
      obtain ⟨b, hb, e⟩ := hf.tri (k := 27 + 12 * u + 2 * w + p) (by omega) (by omega)
      rw [e]
      exact tjoin_v a ha b hb
    · rw [SJb_s hu hw]
      constructor
      · rintro (q | ⟨-, -, q⟩)
        · exact Or.inl q
        · exact Or.inr q
      · rintro (q | q)
        · exact Or.inl q
        · exact Or.inr ⟨h1, h2, q⟩
theorem jI_end {p x y : Nat} {v : Int32} (hp : 6 ≤ p) (hp2 : p < 8) (hx : x < GR f n) (hy : y < GR f n) (h : jI f n p x y n 0 v) : tri v ∧ isJ (SJ f n p x y) v := by
  rcases h with ⟨-, h2⟩ | ⟨h1, h2⟩
  · obtain ⟨u, hu, rfl⟩ := PL_sur hx
    obtain ⟨w, hw, rfl⟩ := PL_sur hy
    exact absurd ⟨u, w, hu, hw, Or.inl hu, rfl, rfl, rfl⟩ (h2 (f (27 + 12 * u + 2 * w + p)))
  · exact ⟨h1, isJ_congr h2 (SJb_end hp hp2)⟩
noncomputable def mc (f : St) (n g : Nat) : Nat → Nat
  | 0 => 0
  | U + 1 => mc f n g U + (if PL f n U = g then (if f (3 + 5 * U) = 1 then 2 else 1) else 0)
theorem mc_n {g U : Nat} (h : ¬ PL f n U = g) : mc f n g (U + 1) = mc f n g U := by
  show _ + _ = _
  rw [if_neg h]; rfl
theorem mc_2 {g U : Nat} (h : PL f n U = g) (h2 : f (3 + 5 * U) = 1) : mc f n g (U + 1) = mc f n g U + 2 := by
  show _ + _ = _
  rw [if_pos h, if_pos h2]
theorem mc_1 {g U : Nat} (h : PL f n U = g) (h2 : ¬ f (3 + 5 * U) = 1) : mc f n g (U + 1) = mc f n g U + 1 := by
  show _ + _ = _
  rw [if_pos h, if_neg h2]
theorem mc_p {g : Nat} : ∀ U, U ≤ n → mc f n g U ≤ 2 * U ∧ (mc f n g U = 0 ↔ ∀ u, u < U → PL f n u ≠ g) ∧ (1 < mc f n g U ↔ mulb f n U g)
  | 0, _ => by
    refine ⟨Nat.le_refl _, ⟨fun _ u hu => by omega, fun _ => rfl⟩, ⟨fun h => ?_, ?_⟩⟩
    · exact absurd h (by show ¬ 1 < 0; omega)
    · rintro ⟨u, hu, -⟩; omega
  | U + 1, hU => by
    obtain ⟨h1, h2, h3⟩ := mc_p (g := g) U (by omega)
    by_cases hm : PL f n U = g
    · have nz : ¬ ∀ u, u < U + 1 → PL f n u ≠ g := fun q => q U (by omega) hm
      by_cases hs : f (3 + 5 * U) = 1
      · rw [mc_2 hm hs]
        refine ⟨by omega, ⟨fun q => by omega, fun q => absurd q nz⟩, ⟨fun _ => ⟨U, by omega, by omega, hm, Or.inl hs⟩, fun _ => by omega⟩⟩
      · rw [mc_1 hm hs]
        refine ⟨by omega, ⟨fun q => by omega, fun q => absurd q nz⟩, ⟨fun q => ?_, ?_⟩⟩
        · refine ⟨U, by omega, by omega, hm, Or.inr (fun q2 => ?_)⟩
          have : mc f n g U = 0 := h2.mpr (fun u hu e => q2 u hu ((PL_inj (by omega) (by omega)).mp (e.trans hm.symm)))
          omega
        · rintro ⟨u, hu, hn, he, hc⟩
          by_cases e : u = U
          · subst e
            rcases hc with hc | hc
            · exact absurd hc hs
            · have : mc f n g u ≠ 0 := fun q => hc (fun v hv e2 => h2.mp q v hv (((PL_inj (by omega) (by omega)).mpr e2).trans hm))
              omega
          · have := h3.mpr ⟨u, by omega, hn, he, hc⟩
            omega
    · rw [mc_n hm]
      refine ⟨by omega, ⟨fun q u hu => ?_, fun q => h2.mpr (fun u hu => q u (by omega))⟩, ⟨fun q => ?_, ?_⟩⟩
      · by_cases e : u = U
        · rw [e]; exact hm
        · exact h2.mp q u (by omega)
      · obtain ⟨u, hu, r⟩ := h3.mp q
        exact ⟨u, by omega, r⟩
      · rintro ⟨u, hu, hn, he, hc⟩
        have : u ≠ U := fun z => hm (z ▸ he)
        exact h3.mpr ⟨u, by omega, hn, he, hc⟩
theorem mc_mul {g : Nat} : 1 < mc f n g n ↔ mul f n g := by
  rw [(mc_p n (Nat.le_refl _)).2.2]
  constructor
  · rintro ⟨u, -, r⟩; exact ⟨u, r⟩
  · rintro ⟨u, hu, r⟩; exact ⟨u, hu, hu, r⟩
/-- the places before g are done -/
def PB (f : St) (n g : Nat) (h : St) : Prop := h 0 = nI (GR f n) ∧ (∀ k, 0 < k → k < 3 → h k = f k) ∧ (∀ k, 105 ≤ k → h k = 0) ∧ (∀ x, x < g → mul f n x → h (3 + 5 * x) = 1) ∧ (∀ x, x < g → ¬ mul f n x → h (3 + 5 * x) = 0) ∧ (∀ p u, 2 ≤ p → p < 6 → u < n → PL f n u < g → h (2 + 5 * PL f n u + p) = f (2 + 5 * u + p)) ∧ (∀ p x y, 6 ≤ p → p < 8 → x < g → y < GR f n → isJ (SJ f n p x y) (h (27 + 12 * x + 2 * y + p))) ∧ (∀ k, 3 + 5 * g ≤ k → k < 33 → h k = 0) ∧ (∀ p x y, 6 ≤ p → p < 8 → x < 6 → y < 6 → (g ≤ x ∨ GR f n ≤ y) → h (27 + 12 * x + 2 * y + p) = 0)
theorem PB_end {h : St} (hf : wfS f) (hn : n ≤ 6) (hB : PB f n (GR f n) h) : BLU f n h := by
  obtain ⟨h0, h1, h2, h3, h4, h5, h6, h7, h8⟩ := hB
  refine ⟨h0, h1, h2, h3, h4, fun x hx hx6 => h7 _ (by omega) (by omega), fun p u hp hp2 hu => h5 p u hp hp2 hu (PL_lt hf hn hu), fun p x hp hp2 hx hx6 => h7 _ (by omega) (by omega), h6, h8⟩
theorem PB_s {g : Nat} {h h' : St} (hf : wfS f) (hn : n ≤ 6) (hg : g < GR f n) (hB : PB f n g h) (ha : ∀ k, ¬ (3 + 5 * g ≤ k ∧ k < 8 + 5 * g) → (∀ p y, 6 ≤ p → p < 8 → y < GR f n → k ≠ 27 + 12 * g + 2 * y + p) → h' k = h k) (hb : ∀ p u, 2 ≤ p → p < 6 → u < n → PL f n u = g → h' (2 + 5 * g + p) = f (2 + 5 * u + p)) (hc1 : mul f n g → h' (3 + 5 * g) = 1) (hc0 : ¬ mul f n g → h' (3 + 5 * g) = 0) (hj : ∀ p y, 6 ≤ p → p < 8 → y < GR f n → isJ (SJ f n p g y) (h' (27 + 12 * g + 2 * y + p))) : PB f n (g + 1) h' := by
  have hG := GR_le hf n hn
  obtain ⟨h0, h1, h2, h3, h4, h5, h6, h7, h8⟩ := hB
  have lo : ∀ k, k < 33 → ¬ (3 + 5 * g ≤ k ∧ k < 8 + 5 * g) → h' k = h k := fun k hk hk2 => ha k hk2 (fun p y _ _ _ => by omega)
  refine ⟨?_, fun k k0 k3 => ?_, fun k hk => ?_, fun x hx hm => ?_, fun x hx hm => ?_, fun p u hp hp2 hu hl => ?_, fun p x y hp hp2 hx hy => ?_, fun k k0 k1 => ?_, fun p x y hp hp2 hx hy hxy => ?_⟩
  · rw [lo 0 (by omega) (by omega)]; exact h0
  · rw [lo k (by omega) (by omega)]; exact h1 k k0 k3
  · rw [ha k (by omega) (fun p y _ _ _ => by omega)]; exact h2 k hk
  · by_cases e : x = g
    · subst e; exact hc1 hm
    · rw [lo _ (by omega) (by omega)]; exact h3 x (by omega) hm
  · by_cases e : x = g
    · subst e; exact hc0 hm
    · rw [lo _ (by omega) (by omega)]; exact h4 x (by omega) hm
  · by_cases e : PL f n u = g
    · rw [e]; exact hb p u hp hp2 hu e
    · rw [lo _ (by omega) (by omega)]; exact h5 p u hp hp2 hu (by omega)
  · by_cases e : x = g
    · subst e; exact hj p y hp hp2 hy
    · rw [ha _ (by omega) (fun p' y' _ _ _ => by omega)]; exact h6 p x y hp hp2 (by omega) hy
  · rw [lo _ (by omega) (by omega)]; exact h7 k (by omega) k1
  · rw [ha _ (by omega) (fun p' y' _ _ _ => by omega)]
    exact h8 p x y hp hp2 hx hy (by omega)
end MBP
