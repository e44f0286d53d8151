/-! The reference's closure. -/
/-- one place of the table, looked at with x intermediates -/
def mac (fa na : Nat → Int32) (n k : Nat) (v : Int32) : Nat → Int32
  | 0 => v
  | x + 1 => tor (mac fa na n k v x) (tand (fa (k / n * n + x)) (na (x * n + k % n)))
theorem mac_tri {fa na : Nat → Int32} {n k : Nat} {v : Int32} (hv : tri v) (h1 : ∀ j, j < n * n → tri (fa j)) (h2 : ∀ j, j < n * n → tri (na j)) (hk : k < n * n) : ∀ x, x ≤ n → tri (mac fa na n k v x) := by
  intro x
  induction x with
  | zero => intro _; exact hv
  | succ x ih =>
    intro hx
    have hn : 0 < n := by omega
    have hkn : k / n < n := Nat.div_lt_of_lt_mul hk
    have hkm : k % n < n := Nat.mod_lt _ hn
    refine tri_or (ih (by omega)) (tri_and (h1 _ ?_) (h2 _ ?_))
    · calc k / n * n + x < k / n * n + n := by omega
        _ = (k / n + 1) * n := by rw [Nat.add_mul, Nat.one_mul]
        _ ≤ n * n := Nat.mul_le_mul_right n hkn
    · calc x * n + k % n < x * n + n := by omega
        _ = (x + 1) * n := by rw [Nat.add_mul, Nat.one_mul]
        _ ≤ n * n := Nat.mul_le_mul_right n hx
theorem ix_lt {n i j : Nat} (hi : i < n) (hj : j < n) : i * n + j < n * n := by
  calc i * n + j < i * n + n := by omega
    _ = (i + 1) * n := by rw [Nat.add_mul, Nat.one_mul]
    _ ≤ n * n := Nat.mul_le_mul_right n hi
theorem ix_div {n i j : Nat} (hj : j < n) : (i * n + j) / n = i := by
  rw [Nat.add_comm, Nat.add_mul_div_right _ _ (by omega), Nat.div_eq_of_lt hj, Nat.zero_add]
theorem ix_mod {n i j : Nat} (hj : j < n) : (i * n + j) % n = j := by
  rw [Nat.add_comm, Nat.add_mul_mod_self_right, Nat.mod_eq_of_lt hj]
theorem mac_1 {fa na : Nat → Int32} {n i j : Nat} {v : Int32} (hv : tri v) (h1 : ∀ j, j < n * n → tri (fa j)) (h2 : ∀ j, j < n * n → tri (na j)) (hi : i < n) (hj : j < n) : ∀ x, x ≤ n → (mac fa na n (i * n + j) v x = 1 ↔ (v = 1 ∨ ∃ y, y < x ∧ fa (i * n + y) = 1 ∧ na (y * n + j) = 1)) := by
  intro x
  induction x with
  | zero =>
    intro _
    constructor
    · exact Or.inl
    · rintro (a | ⟨y, hy, -⟩)
      · exact a
      · omega
  | succ x ih =>
    intro hx
    show tor (mac fa na n (i * n + j) v x) (tand (fa ((i * n + j) / n * n + x)) (na (x * n + (i * n + j) % n))) = 1 ↔ _
    rw [ix_div hj, ix_mod hj]
    have t1 := h1 (i * n + x) (ix_lt hi (by omega))
    have t2 := h2 (x * n + j) (ix_lt (by omega) hj)
    rw [tor_1 (mac_tri hv h1 h2 (ix_lt hi hj) x (by omega)) (tri_and t1 t2), ih (by omega), tand_1 t1 t2]
    constructor
    · rintro ((a | ⟨y, b⟩) | a)
      · exact Or.inl a
      · exact Or.inr ⟨y, by omega, b.2⟩
      · exact Or.inr ⟨x, by omega, a⟩
    · rintro (a | ⟨y, b1, b2⟩)
      · exact Or.inl (Or.inl a)
      · by_cases e : y = x
        · subst e; exact Or.inr b2
        · exact Or.inl (Or.inr ⟨y, by omega, b2⟩)
theorem mac_0 {fa na : Nat → Int32} {n i j : Nat} {v : Int32} (hv : tri v) (h1 : ∀ j, j < n * n → tri (fa j)) (h2 : ∀ j, j < n * n → tri (na j)) (hi : i < n) (hj : j < n) : ∀ x, x ≤ n → (mac fa na n (i * n + j) v x ≠ 0 ↔ (v ≠ 0 ∨ ∃ y, y < x ∧ fa (i * n + y) ≠ 0 ∧ na (y * n + j) ≠ 0)) := by
  intro x
  induction x with
  | zero =>
    intro _
    constructor
    · exact Or.inl
    · rintro (a | ⟨y, hy, -⟩)
      · exact a
      · omega
  | succ x ih =>
    intro hx
    show tor (mac fa na n (i * n + j) v x) (tand (fa ((i * n + j) / n * n + x)) (na (x * n + (i * n + j) % n))) ≠ 0 ↔ _
    rw [ix_div hj, ix_mod hj]
    have t1 := h1 (i * n + x) (ix_lt hi (by omega))
    have t2 := h2 (x * n + j) (ix_lt (by omega) hj)
    have ih := ih (by omega)
    rw [Ne, tor_0 (mac_tri hv h1 h2 (ix_lt hi hj) x (by omega)) (tri_and t1 t2), tand_0 t1 t2]
    constructor
    · intro hz
      by_cases a : mac fa na n (i * n + j) v x = 0
      · have : ¬ (fa (i * n + x) = 0 ∨ na (x * n + j) = 0) := fun b => hz ⟨a, b⟩
        exact Or.inr ⟨x, by omega, fun b => this (Or.inl b), fun b => this (Or.inr b)⟩
      · rcases ih.mp a with b | ⟨y, b1, b2⟩
        · exact Or.inl b
        · exact Or.inr ⟨y, by omega, b2⟩
    · rintro (a | ⟨y, b1, b2⟩) ⟨c1, c2⟩
      · exact ih.mpr (Or.inl a) c1
      · by_cases e : y = x
        · subst e
          rcases c2 with c2 | c2
          · exact b2.1 c2
          · exact b2.2 c2
        · exact ih.mpr (Or.inr ⟨y, by omega, b2⟩) c1
def rk3 (x : Int32) : Nat := if x = 1 then 2 else if x = 0 then 0 else 1
def mu3 (fa : Nat → Int32) : Nat → Nat
  | 0 => 0
  | k + 1 => mu3 fa k + rk3 (fa k)
theorem mu3_le (fa : Nat → Int32) : ∀ k, mu3 fa k ≤ 2 * k
  | 0 => Nat.le_refl _
  | k + 1 => by
    have := mu3_le fa k
    show mu3 fa k + rk3 (fa k) ≤ _
    have h2 : rk3 (fa k) ≤ 2 := by unfold rk3; split; omega; split <;> omega
    omega
theorem mu3_mono {fa ga : Nat → Int32} : ∀ k, (∀ j, j < k → rk3 (fa j) ≤ rk3 (ga j)) → mu3 fa k ≤ mu3 ga k
  | 0, _ => Nat.le_refl _
  | k + 1, h => by
    show mu3 fa k + rk3 (fa k) ≤ mu3 ga k + rk3 (ga k)
    have := mu3_mono k (fun j hj => h j (by omega))
    have := h k (by omega)
    omega
theorem mu3_lt {fa ga : Nat → Int32} {i : Nat} : ∀ k, i < k → (∀ j, j < k → rk3 (fa j) ≤ rk3 (ga j)) → rk3 (fa i) < rk3 (ga i) → mu3 fa k < mu3 ga k
  | 0, h, _, _ => absurd h (Nat.not_lt_zero _)
  | k + 1, h, h1, h2 => by
    show mu3 fa k + rk3 (fa k) < mu3 ga k + rk3 (ga k)
    by_cases e : i = k
    · subst e
      have := mu3_mono (fa := fa) (ga := ga) i (fun j hj => h1 j (by omega))
      omega
    · have := mu3_lt k (by omega) (fun j hj => h1 j (by omega)) h2
      have := h1 k (by omega)
      omega
theorem rk3_le {x y : Int32} (h1 : x = 1 → y = 1) (h2 : x ≠ 0 → y ≠ 0) : rk3 x ≤ rk3 y := by
  unfold rk3
  by_cases a : x = 1
  · rw [if_pos a, if_pos (h1 a)]; exact Nat.le_refl _
  · rw [if_neg a]
    by_cases b : x = 0
    · rw [if_pos b]; exact Nat.zero_le _
    · rw [if_neg b]
      split
      · omega
      · rw [if_neg (h2 b)]; exact Nat.le_refl _
theorem rk3_inj {x y : Int32} (hx : tri x) (hy : tri y) (h : rk3 x = rk3 y) : x = y := by
  obtain ⟨i, hi, rfl⟩ := hx
  obtain ⟨j, hj, rfl⟩ := hy
  have key : ∀ i, i < 3 → ∀ j, j < 3 → rk3 (nI i) = rk3 (nI j) → nI i = nI j := by decide
  exact key i hi j hj h
/-- the table between rounds: sound, and at least the steps -/
def mcI (fa na : Nat → Int32) (n : Nat) : Prop := (∀ k, k < n * n → tri (fa k)) ∧ ∀ i j, i < n → j < n → (fa (i * n + j) = 1 → way n (fun u v => na (u * n + v) = 1) i j) ∧ (fa (i * n + j) ≠ 0 → way n (fun u v => na (u * n + v) ≠ 0) i j) ∧ (na (i * n + j) = 1 → fa (i * n + j) = 1) ∧ (na (i * n + j) ≠ 0 → fa (i * n + j) ≠ 0)
theorem mcI_step {fa na fa' : Nat → Int32} {n k : Nat} (h : mcI fa na n) (hna : ∀ j, j < n * n → tri (na j)) (hk : k < n * n) (h1 : fa' k = mac fa na n k (fa k) n) (h2 : ∀ j, j < n * n → j ≠ k → fa' j = fa j) : mcI fa' na n ∧ ∀ j, j < n * n → rk3 (fa j) ≤ rk3 (fa' j) := by
  have hn : 0 < n := by
    apply Nat.pos_of_ne_zero
    intro z
    subst z
    omega
  have hki : k = k / n * n + k % n := (Nat.div_add_mod' k n).symm
  have hi0 : k / n < n := Nat.div_lt_of_lt_mul hk
  have hj0 : k % n < n := Nat.mod_lt _ hn
  have m1 := mac_1 (h.1 k hk) h.1 hna hi0 hj0 n (Nat.le_refl _)
  have m0 := mac_0 (h.1 k hk) h.1 hna hi0 hj0 n (Nat.le_refl _)
  rw [← hki] at m1 m0
  have a1 : fa k = 1 → fa' k = 1 := fun z => by rw [h1]; exact m1.mpr (Or.inl z)
  have a0 : fa k ≠ 0 → fa' k ≠ 0 := fun z => by rw [h1]; exact m0.mpr (Or.inl z)
  refine ⟨⟨fun j hj => ?_, fun i j hi hj => ?_⟩, fun j hj => ?_⟩
  · by_cases e : j = k
    · subst e
      rw [h1]
      exact mac_tri (h.1 j hj) h.1 hna hj n (Nat.le_refl _)
    · rw [h2 j hj e]; exact h.1 j hj
  · obtain ⟨b1, b2, b3, b4⟩ := h.2 i j hi hj
    by_cases e : i * n + j = k
    · have ei : k / n = i := by rw [← e]; exact ix_div hj
      have ej : k % n = j := by rw [← e]; exact ix_mod hj
      rw [e] at b1 b2 b3 b4 ⊢
      rw [ei, ej] at m1 m0
      refine ⟨fun z => ?_, fun z => ?_, fun z => a1 (b3 z), fun z => a0 (b4 z)⟩
      · rw [h1] at z
        rcases m1.mp z with c | ⟨y, c1, c2, c3⟩
        · exact b1 c
        · exact way_snoc ((h.2 i y hi c1).1 c2) hj c3
      · rw [h1] at z
        rcases m0.mp z with c | ⟨y, c1, c2, c3⟩
        · exact b2 c
        · exact way_snoc ((h.2 i y hi c1).2.1 c2) hj c3
    · rw [h2 _ (ix_lt hi hj) e]
      exact ⟨b1, b2, b3, b4⟩
  · by_cases e : j = k
    · subst e; exact rk3_le a1 a0
    · rw [h2 j hj e]; exact Nat.le_refl _
/-- a table that a round leaves as it is, is the closure -/
theorem mcI_end {fa na : Nat → Int32} {n : Nat} (h : mcI fa na n) (hna : ∀ j, j < n * n → tri (na j)) (hs : ∀ k, k < n * n → mac fa na n k (fa k) n = fa k) {i j : Nat} (hi : i < n) (hj : j < n) : fa (i * n + j) = clo n (fun u v => na (u * n + v)) i j := by
  obtain ⟨b1, b2, -, -⟩ := h.2 i j hi hj
  refine clo_of (r := fun v => fa (i * n + v)) (h.1 _ (ix_lt hi hj)) b1 b2 (fun hw => ?_) (fun hw => ?_)
  · refine (way_ind (P := fun v => fa (i * n + v) = 1) (fun v hv hg => (h.2 i v hi hv).2.2.1 hg) (fun u v hu hu1 hv hg => ?_) hw).1
    have m1 := mac_1 (h.1 _ (ix_lt hi hv)) h.1 hna hi hv n (Nat.le_refl _)
    rw [hs _ (ix_lt hi hv)] at m1
    exact m1.mpr (Or.inr ⟨u, hu, hu1, hg⟩)
  · refine (way_ind (P := fun v => fa (i * n + v) ≠ 0) (fun v hv hg => (h.2 i v hi hv).2.2.2 hg) (fun u v hu hu1 hv hg => ?_) hw).1
    have m0 := mac_0 (h.1 _ (ix_lt hi hv)) h.1 hna hi hv n (Nat.le_refl _)
    rw [hs _ (ix_lt hi hv)] at m0
    exact m0.mpr (Or.inr ⟨u, hu, hu1, hg⟩)
