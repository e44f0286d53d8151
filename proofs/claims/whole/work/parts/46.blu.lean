/-! To blur: what it is. -/
noncomputable def plc (P : Nat → Prop) : Nat → Nat
  | 0 => 0
  | x + 1 => plc P x + @ite _ (P x) (Classical.propDecidable _) 1 0
theorem plc_t {P : Nat → Prop} {x : Nat} (h : P x) : plc P (x + 1) = plc P x + 1 := by
  show plc P x + _ = _
  rw [if_pos h]
theorem plc_f {P : Nat → Prop} {x : Nat} (h : ¬ P x) : plc P (x + 1) = plc P x := by
  show plc P x + _ = _
  rw [if_neg h]
  rfl
theorem plc_le {P : Nat → Prop} {x : Nat} : ∀ j, plc P x ≤ plc P (x + j)
  | 0 => Nat.le_refl _
  | j + 1 => by
    have := plc_le (P := P) (x := x) j
    by_cases h : P (x + j)
    · rw [show x + (j + 1) = (x + j) + 1 by omega, plc_t h]; omega
    · rw [show x + (j + 1) = (x + j) + 1 by omega, plc_f h]; omega
theorem plc_lt {P : Nat → Prop} {x y : Nat} (h : x < y) (hp : P x) : plc P x < plc P y := by
  have := plc_le (P := P) (x := x + 1) (y - (x + 1))
  rw [show x + 1 + (y - (x + 1)) = y by omega, plc_t hp] at this
  omega
theorem plc_mono {P : Nat → Prop} {x y : Nat} (h : x ≤ y) : plc P x ≤ plc P y := by
  have := plc_le (P := P) (x := x) (y - x)
  rw [show x + (y - x) = y by omega] at this
  exact this
theorem plc_inj {P : Nat → Prop} {x y : Nat} (hx : P x) (hy : P y) (h : plc P x = plc P y) : x = y := by
  rcases Nat.lt_trichotomy x y with z | z | z
  · have := plc_lt z hx; omega
  · exact z
  · have := plc_lt z hy; omega
theorem plc_sur {P : Nat → Prop} {z : Nat} : ∀ x, z < plc P x → ∃ y, y < x ∧ P y ∧ plc P y = z
  | 0, h => by cases h
  | x + 1, h => by
    by_cases hp : P x
    · rw [plc_t hp] at h
      by_cases e : z = plc P x
      · exact ⟨x, by omega, hp, e.symm⟩
      · obtain ⟨y, h1, h2⟩ := plc_sur (P := P) (z := z) x (by omega)
        exact ⟨y, by omega, h2⟩
    · rw [plc_f hp] at h
      obtain ⟨y, h1, h2⟩ := plc_sur x h
      exact ⟨y, by omega, h2⟩
theorem plc_congr {P Q : Nat → Prop} : ∀ x, (∀ y, y < x → (P y ↔ Q y)) → plc P x = plc Q x
  | 0, _ => rfl
  | x + 1, h => by
    have := plc_congr x (fun y hy => h y (by omega))
    by_cases hp : P x
    · rw [plc_t hp, plc_t ((h x (by omega)).mp hp), this]
    · rw [plc_f hp, plc_f (fun z => hp ((h x (by omega)).mpr z)), this]
/-- one name more -/
theorem plc_add {P : Nat → Prop} {a : Nat} (h : ¬ P a) : ∀ x, plc (fun y => P y ∨ y = a) x = plc P x + if a < x then 1 else 0
  | 0 => by rw [if_neg (by omega)]; rfl
  | x + 1 => by
    have ih := plc_add h x
    by_cases e : x = a
    · subst e
      rw [plc_t (Or.inr rfl), plc_f h, ih, if_neg (by omega), if_pos (by omega)]
    · by_cases hp : P x
      · rw [plc_t (Or.inl hp), plc_t hp, ih]
        by_cases z : a < x
        · rw [if_pos z, if_pos (by omega)]
        · rw [if_neg z, if_neg (by omega)]
      · rw [plc_f (by rintro (q | q); exact hp q; exact e q), plc_f hp, ih]
        by_cases z : a < x
        · rw [if_pos z, if_pos (by omega)]
        · rw [if_neg z, if_neg (by omega)]
def nm (f : St) (u : Nat) : Nat := nn (f (4 + 5 * u)) * 27 + nn (f (5 + 5 * u)) * 9 + nn (f (6 + 5 * u)) * 3 + nn (f (7 + 5 * u))
def prs (f : St) (n : Nat) : Nat → Prop := fun x => ∃ u, u < n ∧ nm f u = x
noncomputable def PL (f : St) (n u : Nat) : Nat := plc (prs f n) (nm f u)
noncomputable def GR (f : St) (n : Nat) : Nat := plc (prs f n) 81
theorem nm_lt {f : St} (h : wfS f) {u : Nat} (hu : u < 6) : nm f u < 81 := by
  have h1 : ∀ k, 0 < k → k < 105 → nn (f k) < 3 := fun k h0 h1 => by
    obtain ⟨v, hv, e⟩ := h.2.1 k h0 h1
    rw [e, nn_nI (by omega)]
    exact hv
  have a1 := h1 (4 + 5 * u) (by omega) (by omega)
  have a2 := h1 (5 + 5 * u) (by omega) (by omega)
  have a3 := h1 (6 + 5 * u) (by omega) (by omega)
  have a4 := h1 (7 + 5 * u) (by omega) (by omega)
  unfold nm
  omega
theorem nm_eq {f : St} (h : wfS f) {u v : Nat} (hu : u < 6) (hv : v < 6) (he : nm f u = nm f v) {p : Nat} (hp : 2 ≤ p) (hp2 : p < 6) : f (2 + 5 * u + p) = f (2 + 5 * v + p) := by
  have h1 : ∀ k, 0 < k → k < 105 → nn (f k) < 3 ∧ f k = nI (nn (f k)) := fun k h0 h1 => by
    obtain ⟨v, hv, e⟩ := h.2.1 k h0 h1
    rw [e, nn_nI (by omega)]
    exact ⟨hv, rfl⟩
  have a1 := h1 (4 + 5 * u) (by omega) (by omega)
  have a2 := h1 (5 + 5 * u) (by omega) (by omega)
  have a3 := h1 (6 + 5 * u) (by omega) (by omega)
  have a4 := h1 (7 + 5 * u) (by omega) (by omega)
  have b1 := h1 (4 + 5 * v) (by omega) (by omega)
  have b2 := h1 (5 + 5 * v) (by omega) (by omega)
  have b3 := h1 (6 + 5 * v) (by omega) (by omega)
  have b4 := h1 (7 + 5 * v) (by omega) (by omega)
  unfold nm at he
  have e1 : nn (f (4 + 5 * u)) = nn (f (4 + 5 * v)) := by omega
  have e2 : nn (f (5 + 5 * u)) = nn (f (5 + 5 * v)) := by omega
  have e3 : nn (f (6 + 5 * u)) = nn (f (6 + 5 * v)) := by omega
  have e4 : nn (f (7 + 5 * u)) = nn (f (7 + 5 * v)) := by omega
  have : p = 2 ∨ p = 3 ∨ p = 4 ∨ p = 5 := by omega
  rcases this with rfl | rfl | rfl | rfl
  · rw [show 2 + 5 * u + 2 = 4 + 5 * u by omega, show 2 + 5 * v + 2 = 4 + 5 * v by omega, a1.2, b1.2, e1]
  · rw [show 2 + 5 * u + 3 = 5 + 5 * u by omega, show 2 + 5 * v + 3 = 5 + 5 * v by omega, a2.2, b2.2, e2]
  · rw [show 2 + 5 * u + 4 = 6 + 5 * u by omega, show 2 + 5 * v + 4 = 6 + 5 * v by omega, a3.2, b3.2, e3]
  · rw [show 2 + 5 * u + 5 = 7 + 5 * u by omega, show 2 + 5 * v + 5 = 7 + 5 * v by omega, a4.2, b4.2, e4]
section PLG
variable {f : St} {n : Nat}
theorem PL_lt (hf : wfS f) (hn : n ≤ 6) {u : Nat} (hu : u < n) : PL f n u < GR f n := plc_lt (nm_lt hf (by omega)) ⟨u, hu, rfl⟩
theorem PL_inj {u v : Nat} (hu : u < n) (hv : v < n) : PL f n u = PL f n v ↔ nm f u = nm f v := ⟨fun h => plc_inj ⟨u, hu, rfl⟩ ⟨v, hv, rfl⟩ h, fun h => by unfold PL; rw [h]⟩
theorem PL_sur {x : Nat} (hx : x < GR f n) : ∃ u, u < n ∧ PL f n u = x := by
  obtain ⟨y, -, ⟨u, hu, e⟩, h2⟩ := plc_sur 81 hx
  exact ⟨u, hu, by unfold PL; rw [e]; exact h2⟩
/-- the first of its name -/
def fst1 (f : St) (u : Nat) : Prop := ∀ v, v < u → nm f v ≠ nm f u
noncomputable def cnf (f : St) (c : Nat) : Nat → Nat
  | 0 => 0
  | n + 1 => cnf f c n + @ite _ (fst1 f n ∧ nm f n < c) (Classical.propDecidable _) 1 0
theorem cnf_t {c : Nat} (h : fst1 f n ∧ nm f n < c) : cnf f c (n + 1) = cnf f c n + 1 := by
  show cnf f c n + _ = _
  rw [if_pos h]
theorem cnf_f {c : Nat} (h : ¬ (fst1 f n ∧ nm f n < c)) : cnf f c (n + 1) = cnf f c n := by
  show cnf f c n + _ = _
  rw [if_neg h]
  rfl
theorem cnf_plc (c : Nat) : ∀ n, cnf f c n = plc (prs f n) c
  | 0 => by
    have : ∀ x, plc (prs f 0) x = 0 := by
      intro x
      induction x with
      | zero => rfl
      | succ x ih => rw [plc_f (by rintro ⟨u, hu, -⟩; omega), ih]
    rw [this]
    rfl
  | n + 1 => by
    have ih := cnf_plc c n
    have hp : ∀ y, prs f (n + 1) y ↔ (prs f n y ∨ y = nm f n) := fun y => by
      constructor
      · rintro ⟨u, hu, e⟩
        by_cases z : u = n
        · exact Or.inr (by rw [← e, z])
        · exact Or.inl ⟨u, by omega, e⟩
      · rintro (⟨u, hu, e⟩ | e)
        · exact ⟨u, by omega, e⟩
        · exact ⟨n, by omega, e.symm⟩
    by_cases hf : fst1 f n
    · have hno : ¬ prs f n (nm f n) := by
        rintro ⟨u, hu, e⟩
        exact hf u hu e
      rw [plc_congr c (fun y _ => hp y), plc_add hno]
      by_cases z : nm f n < c
      · rw [cnf_t ⟨hf, z⟩, if_pos z, ih]
      · rw [cnf_f (fun q => z q.2), if_neg z, ih]; rfl
    · have hyes : prs f n (nm f n) := by
        apply Classical.byContradiction
        intro q
        exact hf (fun v hv e => q ⟨v, hv, e⟩)
      rw [cnf_f (fun q => hf q.1), ih]
      refine plc_congr c (fun y _ => ?_)
      rw [hp y]
      constructor
      · exact Or.inl
      · rintro (q | q)
        · exact q
        · rw [q]; exact hyes
theorem GR_le (hf : wfS f) : ∀ n, n ≤ 6 → GR f n ≤ n := by
  intro n
  induction n with
  | zero =>
    intro _
    have := cnf_plc (f := f) 81 0
    unfold GR
    rw [← this]
    exact Nat.le_refl _
  | succ n ih =>
    intro h
    have h1 := cnf_plc (f := f) 81 (n + 1)
    have h2 := cnf_plc (f := f) 81 n
    have h3 := ih (by omega)
    unfold GR at h3 ⊢
    rw [← h2] at h3
    rw [← h1]
    by_cases z : fst1 f n ∧ nm f n < 81
    · rw [cnf_t z]; omega
    · rw [cnf_f z]; omega
end PLG
/-- the join of some values -/
def isJ (S : Int32 → Prop) (v : Int32) : Prop := (S v ∧ ∀ x, S x → x = v) ∨ (v = 2 ∧ ∃ x y, S x ∧ S y ∧ x ≠ y)
theorem isJ_uniq {S : Int32 → Prop} {v w : Int32} (h1 : isJ S v) (h2 : isJ S w) : v = w := by
  rcases h1 with ⟨a, b⟩ | ⟨a, x, y, b, c, e⟩
  · rcases h2 with ⟨a', b'⟩ | ⟨a', x, y, b', c', e'⟩
    · exact b' v a
    · exact absurd ((b x b').trans (b y c').symm) e'
  · rcases h2 with ⟨a', b'⟩ | ⟨a', x, y, b', c', e'⟩
    · exact absurd ((b' x b).trans (b' y c).symm) e
    · rw [a, a']
theorem isJ_one {x : Int32} : isJ (fun z => z = x) x := Or.inl ⟨rfl, fun _ h => h⟩
theorem isJ_add {S S' : Int32 → Prop} {v x : Int32} (h : isJ S v) (hS : ∀ z, S' z ↔ (S z ∨ z = x)) : isJ S' (tjoin v x) := by
  unfold tjoin
  rcases h with ⟨a, b⟩ | ⟨a, y, z, b, c, e⟩
  · by_cases q : v = x
    · rw [if_pos q]
      refine Or.inl ⟨(hS v).mpr (Or.inl a), fun z hz => ?_⟩
      rcases (hS z).mp hz with y | y
      · exact b z y
      · rw [y, q]
    · rw [if_neg q]
      exact Or.inr ⟨rfl, v, x, (hS v).mpr (Or.inl a), (hS x).mpr (Or.inr rfl), q⟩
  · have : (if v = x then v else 2) = 2 := by
      split
      · exact a
      · rfl
    rw [this]
    exact Or.inr ⟨rfl, y, z, (hS y).mpr (Or.inl b), (hS z).mpr (Or.inl c), e⟩
theorem isJ_congr {S S' : Int32 → Prop} {v : Int32} (h : isJ S v) (hS : ∀ z, S' z ↔ S z) : isJ S' v := by
  rcases h with ⟨a, b⟩ | ⟨a, y, z, b, c, e⟩
  · exact Or.inl ⟨(hS v).mpr a, fun z hz => b z ((hS z).mp hz)⟩
  · exact Or.inr ⟨a, y, z, (hS y).mpr b, (hS z).mpr c, e⟩
theorem isJ_tri {S : Int32 → Prop} {v : Int32} (h : isJ S v) (hS : ∀ z, S z → tri z) : tri v := by
  rcases h with ⟨a, -⟩ | ⟨a, -⟩
  · exact hS v a
  · rw [a]; exact tri_2
def mul (f : St) (n x : Nat) : Prop := ∃ u, u < n ∧ PL f n u = x ∧ (f (3 + 5 * u) = 1 ∨ ¬ fst1 f u)
def SJ (f : St) (n p x y : Nat) : Int32 → Prop := fun z => ∃ u w, u < n ∧ w < n ∧ PL f n u = x ∧ PL f n w = y ∧ z = sg f p u w
def BLU (f : St) (n : Nat) (g : St) : Prop :=
  (g 0 = nI (GR f n)) ∧
  (∀ k, 0 < k → k < 3 → g k = f k) ∧
  (∀ k, 105 ≤ k → g k = 0) ∧
  (∀ x, x < GR f n → mul f n x → g (3 + 5 * x) = 1) ∧
  (∀ x, x < GR f n → ¬ mul f n x → g (3 + 5 * x) = 0) ∧
  (∀ x, GR f n ≤ x → x < 6 → g (3 + 5 * x) = 0) ∧
  (∀ p u, 2 ≤ p → p < 6 → u < n → g (2 + 5 * PL f n u + p) = f (2 + 5 * u + p)) ∧
  (∀ p x, 2 ≤ p → p < 6 → GR f n ≤ x → x < 6 → g (2 + 5 * x + p) = 0) ∧
  (∀ p x y, 6 ≤ p → p < 8 → x < GR f n → y < GR f n → isJ (SJ f n p x y) (g (27 + 12 * x + 2 * y + p))) ∧
  (∀ p x y, 6 ≤ p → p < 8 → x < 6 → y < 6 → (GR f n ≤ x ∨ GR f n ≤ y) → g (27 + 12 * x + 2 * y + p) = 0)
theorem BLU.b0 {f g : St} {n : Nat} (h : BLU f n g) : g 0 = nI (GR f n) := h.1
theorem BLU.b1 {f g : St} {n : Nat} (h : BLU f n g) : ∀ k, 0 < k → k < 3 → g k = f k := h.2.1
theorem BLU.hi {f g : St} {n : Nat} (h : BLU f n g) : ∀ k, 105 ≤ k → g k = 0 := h.2.2.1
theorem BLU.m1 {f g : St} {n : Nat} (h : BLU f n g) : ∀ x, x < GR f n → mul f n x → g (3 + 5 * x) = 1 := h.2.2.2.1
theorem BLU.m0 {f g : St} {n : Nat} (h : BLU f n g) : ∀ x, x < GR f n → ¬ mul f n x → g (3 + 5 * x) = 0 := h.2.2.2.2.1
theorem BLU.mz {f g : St} {n : Nat} (h : BLU f n g) : ∀ x, GR f n ≤ x → x < 6 → g (3 + 5 * x) = 0 := h.2.2.2.2.2.1
theorem BLU.o1 {f g : St} {n : Nat} (h : BLU f n g) : ∀ p u, 2 ≤ p → p < 6 → u < n → g (2 + 5 * PL f n u + p) = f (2 + 5 * u + p) := h.2.2.2.2.2.2.1
theorem BLU.oz {f g : St} {n : Nat} (h : BLU f n g) : ∀ p x, 2 ≤ p → p < 6 → GR f n ≤ x → x < 6 → g (2 + 5 * x + p) = 0 := h.2.2.2.2.2.2.2.1
theorem BLU.j1 {f g : St} {n : Nat} (h : BLU f n g) : ∀ p x y, 6 ≤ p → p < 8 → x < GR f n → y < GR f n → isJ (SJ f n p x y) (g (27 + 12 * x + 2 * y + p)) := h.2.2.2.2.2.2.2.2.1
theorem BLU.jz {f g : St} {n : Nat} (h : BLU f n g) : ∀ p x y, 6 ≤ p → p < 8 → x < 6 → y < 6 → (GR f n ≤ x ∨ GR f n ≤ y) → g (27 + 12 * x + 2 * y + p) = 0 := h.2.2.2.2.2.2.2.2.2
theorem BLU.uniq {f g g' : St} {n : Nat} (h : BLU f n g) (h' : BLU f n g') : g = g' := by
  funext k
  by_cases k0 : k = 0
  · rw [k0, h.b0, h'.b0]
  by_cases k1 : k < 105
  · obtain ⟨j, rfl⟩ : ∃ j, k = j + 1 := ⟨k - 1, by omega⟩
    rcases row_cases j (by omega) with q | ⟨u, q1, q2⟩ | ⟨p, u, q1, q2, q3, q4⟩ | ⟨p, u, v, q1, q2, q3, q4, q5⟩
    · rw [h.b1 _ (by omega) (by omega), h'.b1 _ (by omega) (by omega)]
    · rw [show j + 1 = 3 + 5 * u by omega]
      by_cases z : u < GR f n
      · by_cases y : mul f n u
        · rw [h.m1 u z y, h'.m1 u z y]
        · rw [h.m0 u z y, h'.m0 u z y]
      · rw [h.mz u (by omega) q1, h'.mz u (by omega) q1]
    · rw [show j + 1 = 2 + 5 * u + p by omega]
      by_cases z : u < GR f n
      · obtain ⟨v, hv, e⟩ := PL_sur z
        rw [← e, h.o1 p v q1 q2 hv, h'.o1 p v q1 q2 hv]
      · rw [h.oz p u q1 q2 (by omega) q3, h'.oz p u q1 q2 (by omega) q3]
    · rw [show j + 1 = 27 + 12 * u + 2 * v + p by omega]
      by_cases z : u < GR f n ∧ v < GR f n
      · exact isJ_uniq (h.j1 p u v q1 q2 z.1 z.2) (h'.j1 p u v q1 q2 z.1 z.2)
      · rw [h.jz p u v q1 q2 q3 q4 (by omega), h'.jz p u v q1 q2 q3 q4 (by omega)]
  · rw [h.hi k (by omega), h'.hi k (by omega)]
theorem BLU.wf {f g : St} {n : Nat} (h : BLU f n g) (hf : wfS f) (hn : n ≤ 6) : wfS g := by
  have hG := GR_le hf n hn
  have ht : ∀ k, 0 < k → k < 105 → tri (g k) := by
    intro k h0 h1
    obtain ⟨j, rfl⟩ : ∃ j, k = j + 1 := ⟨k - 1, by omega⟩
    rcases row_cases j (by omega) with q | ⟨u, q1, q2⟩ | ⟨p, u, q1, q2, q3, q4⟩ | ⟨p, u, v, q1, q2, q3, q4, q5⟩
    · rw [h.b1 _ (by omega) (by omega)]; exact hf.tri (by omega) (by omega)
    · rw [show j + 1 = 3 + 5 * u by omega]
      by_cases z : u < GR f n
      · by_cases y : mul f n u
        · rw [h.m1 u z y]; exact tri_1
        · rw [h.m0 u z y]; exact tri_0
      · rw [h.mz u (by omega) q1]; exact tri_0
    · rw [show j + 1 = 2 + 5 * u + p by omega]
      by_cases z : u < GR f n
      · obtain ⟨v, hv, e⟩ := PL_sur z
        rw [← e, h.o1 p v q1 q2 hv]; exact hf.tri (by omega) (by omega)
      · rw [h.oz p u q1 q2 (by omega) q3]; exact tri_0
    · rw [show j + 1 = 27 + 12 * u + 2 * v + p by omega]
      by_cases z : u < GR f n ∧ v < GR f n
      · refine isJ_tri (h.j1 p u v q1 q2 z.1 z.2) ?_
        rintro x ⟨a, b, ha, hb, -, -, e⟩
        rw [e]
        exact tri_sg hf (by omega) (by omega) (by omega)
      · rw [h.jz p u v q1 q2 q3 q4 (by omega)]; exact tri_0
  refine ⟨⟨GR f n, by omega, h.b0, fun u h1 h2 => h.mz u h1 h2, fun p u h1 h2 h3 h4 => ?_, fun p u w h1 h2 h3 h4 h5 => ?_⟩, fun k h0 h1 => ht k h0 h1, fun u hu => ?_, h.hi⟩
  · rw [cel1 h1 h2]; exact h.oz p u h1 h2 h3 h4
  · rw [cel2 h1]; exact h.jz p u w h1 h2 h3 h4 h5
  · by_cases z : u < GR f n
    · by_cases y : mul f n u
      · exact Or.inr (h.m1 u z y)
      · exact Or.inl (h.m0 u z y)
    · exact Or.inl (h.mz u (by omega) hu)
