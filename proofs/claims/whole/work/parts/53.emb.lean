/-! To embed: what it is. -/
def cvd (x y : Int32) : Prop := x = y ∨ y = 2
def eM (g : St) (h : Nat → Nat) (u w : Nat) : Prop := w = u ∨ h w ≠ h u ∨ g (3 + 5 * h u) = 1
def eP (f g : St) (h : Nat → Nat) (u w p : Nat) : Prop := cvd (sg f p u w) (sg g p (h u) (h w)) ∧ cvd (sg f p w u) (sg g p (h w) (h u))
def okE (f g : St) (h : Nat → Nat) (u : Nat) : Prop := (f (3 + 5 * u) = 1 → g (3 + 5 * h u) = 1) ∧ (∀ p, 2 ≤ p → p < 6 → cvd (sg f p u 0) (sg g p (h u) 0)) ∧ ∀ w, w ≤ u → eM g h u w ∧ ∀ p, 6 ≤ p → p < 8 → eP f g h u w p
theorem okE_congr {f g : St} {h h' : Nat → Nat} {u : Nat} (e : ∀ v, v ≤ u → h v = h' v) (o : okE f g h u) : okE f g h' u := by
  have eu := e u (Nat.le_refl _)
  refine ⟨fun q => ?_, fun p hp hp2 => ?_, fun w hw => ⟨?_, fun p hp hp2 => ?_⟩⟩
  · rw [← eu]; exact o.1 q
  · rw [← eu]; exact o.2.1 p hp hp2
  · have := (o.2.2 w hw).1
    unfold eM at this ⊢
    rw [← eu, ← e w hw]; exact this
  · have := (o.2.2 w hw).2 p hp hp2
    unfold eP at this ⊢
    rw [← eu, ← e w hw]; exact this
def sol (f : St) (n : Nat) (g : St) (m : Nat) (h : Nat → Nat) : Prop := (∀ u, u < n → h u < m ∧ okE f g h u) ∧ ∀ a, a < m → ∃ u, u < n ∧ h u = a
def EMB (f : St) (n : Nat) (g : St) (m : Nat) : Prop := cvd (f 1) (g 1) ∧ cvd (f 2) (g 2) ∧ ∃ h, sol f n g m h
/-- how many are not reached by the first u -/
noncomputable def cmi (h : Nat → Nat) (u : Nat) : Nat → Nat
  | 0 => 0
  | m + 1 => cmi h u m + @ite _ (∃ v, v < u ∧ h v = m) (Classical.propDecidable _) 0 1
theorem cmi_t {h : Nat → Nat} {u m : Nat} (q : ∃ v, v < u ∧ h v = m) : cmi h u (m + 1) = cmi h u m := by
  show _ + _ = _
  rw [if_pos q]; rfl
theorem cmi_f {h : Nat → Nat} {u m : Nat} (q : ¬ ∃ v, v < u ∧ h v = m) : cmi h u (m + 1) = cmi h u m + 1 := by
  show _ + _ = _
  rw [if_neg q]
theorem cmi_0 {h : Nat → Nat} : ∀ m, cmi h 0 m = m
  | 0 => rfl
  | m + 1 => by rw [cmi_f (by rintro ⟨v, hv, -⟩; omega), cmi_0 m]
theorem cmi_congr {h h' : Nat → Nat} {u : Nat} (e : ∀ v, v < u → h v = h' v) : ∀ m, cmi h u m = cmi h' u m
  | 0 => rfl
  | m + 1 => by
    by_cases q : ∃ v, v < u ∧ h v = m
    · rw [cmi_t q, cmi_t (by obtain ⟨v, h1, h2⟩ := q; exact ⟨v, h1, by rw [← e v h1]; exact h2⟩), cmi_congr e m]
    · rw [cmi_f q, cmi_f (by rintro ⟨v, h1, h2⟩; exact q ⟨v, h1, by rw [e v h1]; exact h2⟩), cmi_congr e m]
/-- one more, at a place reached before: nothing changes; at a new place: one less -/
theorem cmi_s {h : Nat → Nat} {u : Nat} : ∀ m, ((∃ v, v < u ∧ h v = h u) → cmi h (u + 1) m = cmi h u m) ∧ ((¬ ∃ v, v < u ∧ h v = h u) → cmi h (u + 1) m + (if h u < m then 1 else 0) = cmi h u m)
  | 0 => ⟨fun _ => rfl, fun _ => rfl⟩
  | m + 1 => by
    have ih := cmi_s (h := h) (u := u) m
    constructor
    · intro q
      by_cases z : ∃ v, v < u ∧ h v = m
      · rw [cmi_t z, cmi_t (by obtain ⟨v, h1, h2⟩ := z; exact ⟨v, by omega, h2⟩), ih.1 q]
      · rw [cmi_f z, cmi_f (by
          rintro ⟨v, h1, h2⟩
          by_cases e : v = u
          · subst e
            obtain ⟨w, h3, h4⟩ := q
            exact z ⟨w, h3, h4.trans h2⟩
          · exact z ⟨v, by omega, h2⟩), ih.1 q]
    · intro q
      have ih := ih.2 q
      by_cases e : h u = m
      · have z : ¬ ∃ v, v < u ∧ h v = m := by rw [← e]; exact q
        rw [cmi_f z, cmi_t ⟨u, by omega, e⟩]
        rw [if_neg (by omega)] at ih
        rw [if_pos (by omega)]
        omega
      · have hl : (if h u < m + 1 then 1 else 0) = (if h u < m then 1 else 0) := by
          by_cases y : h u < m
          · rw [if_pos y, if_pos (by omega)]
          · rw [if_neg y, if_neg (by omega)]
        rw [hl]
        by_cases z : ∃ v, v < u ∧ h v = m
        · rw [cmi_t z, cmi_t (by obtain ⟨v, h1, h2⟩ := z; exact ⟨v, by omega, h2⟩)]
          exact ih
        · rw [cmi_f z, cmi_f (by
            rintro ⟨v, h1, h2⟩
            by_cases e2 : v = u
            · subst e2; exact e h2
            · exact z ⟨v, by omega, h2⟩)]
          omega
theorem cmi_1 {h : Nat → Nat} {u m : Nat} : cmi h u m ≤ cmi h (u + 1) m + 1 := by
  have := cmi_s (h := h) (u := u) m
  by_cases q : ∃ v, v < u ∧ h v = h u
  · rw [this.1 q]; omega
  · have := this.2 q
    by_cases z : h u < m
    · rw [if_pos z] at this; omega
    · rw [if_neg z] at this; omega
theorem cmi_le {h : Nat → Nat} {u m : Nat} : ∀ k, cmi h u m ≤ cmi h (u + k) m + k
  | 0 => Nat.le_refl _
  | k + 1 => by
    have h1 := cmi_le (h := h) (u := u) (m := m) k
    have h2 := cmi_1 (h := h) (u := u + k) (m := m)
    rw [show u + (k + 1) = u + k + 1 by omega]
    omega
theorem cmi_z {h : Nat → Nat} {u : Nat} : ∀ m, cmi h u m = 0 ↔ ∀ a, a < m → ∃ v, v < u ∧ h v = a
  | 0 => ⟨fun _ a ha => by omega, fun _ => rfl⟩
  | m + 1 => by
    by_cases q : ∃ v, v < u ∧ h v = m
    · rw [cmi_t q, cmi_z m]
      constructor
      · intro z a ha
        by_cases e : a = m
        · rw [e]; exact q
        · exact z a (by omega)
      · intro z a ha
        exact z a (by omega)
    · rw [cmi_f q]
      constructor
      · intro z; omega
      · intro z; exact absurd (z m (by omega)) q
theorem cmi_m {h : Nat → Nat} {u : Nat} : ∀ m, cmi h u m ≤ m
  | 0 => Nat.le_refl _
  | m + 1 => by
    have := cmi_m (h := h) (u := u) m
    by_cases q : ∃ v, v < u ∧ h v = m
    · rw [cmi_t q]; omega
    · rw [cmi_f q]; omega
/-- how often a is reached by the first u -/
def hit (h : Nat → Nat) (a : Nat) : Nat → Nat
  | 0 => 0
  | u + 1 => hit h a u + if h u = a then 1 else 0
theorem hit_congr {h h' : Nat → Nat} {a : Nat} : ∀ u, (∀ v, v < u → h v = h' v) → hit h a u = hit h' a u
  | 0, _ => rfl
  | u + 1, e => by
    show _ + _ = _ + _
    rw [hit_congr u (fun v hv => e v (by omega)), e u (by omega)]
theorem hit_z {h : Nat → Nat} {a : Nat} : ∀ u, hit h a u = 0 ↔ ∀ v, v < u → h v ≠ a
  | 0 => ⟨fun _ v hv => by omega, fun _ => rfl⟩
  | u + 1 => by
    have ih := hit_z (h := h) (a := a) u
    show _ + _ = _ ↔ _
    by_cases e : h u = a
    · rw [if_pos e]
      exact ⟨fun q => by omega, fun q => absurd e (q u (by omega))⟩
    · rw [if_neg e]
      constructor
      · intro q v hv
        by_cases e2 : v = u
        · rw [e2]; exact e
        · exact ih.mp q v (by omega)
      · intro q
        exact ih.mpr (fun v hv => q v (by omega))
theorem hit_le {h : Nat → Nat} {a : Nat} : ∀ u, hit h a u ≤ u
  | 0 => Nat.le_refl _
  | u + 1 => by
    have ih := hit_le (h := h) (a := a) u
    show _ + _ ≤ _
    by_cases e : h u = a
    · rw [if_pos e]; omega
    · rw [if_neg e]; omega
/-- a truth value that says whether P -/
def bo (v : Int32) (P : Prop) : Prop := (v = 1 ∧ P) ∨ (v = 0 ∧ ¬ P)
theorem bo.iff {v : Int32} {P Q : Prop} (h : bo v P) (e : P ↔ Q) : bo v Q := by
  rcases h with ⟨h1, h2⟩ | ⟨h1, h2⟩
  · exact Or.inl ⟨h1, e.mp h2⟩
  · exact Or.inr ⟨h1, fun q => h2 (e.mpr q)⟩
theorem bo.b {v : Int32} {P : Prop} (h : bo v P) : v = 0 ∨ v = 1 := by
  rcases h with ⟨h1, -⟩ | ⟨h1, -⟩
  · exact Or.inr h1
  · exact Or.inl h1
