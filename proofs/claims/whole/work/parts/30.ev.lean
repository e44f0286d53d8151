/-! Formulas and their values. -/
def nn (x : Int32) : Nat := x.toNatClampNeg
theorem nn_nI {n : Nat} (h : n < 2 ^ 31) : nn (nI n) = n := nI_clamp h
def orN (g : Nat → Int32) : Nat → Int32
  | 0 => 0
  | m + 1 => tor (orN g m) (g m)
def andN (g : Nat → Int32) : Nat → Int32
  | 0 => 1
  | m + 1 => tand (andN g m) (g m)
/-- a way of one step or more, through individuals below n, each step as R says -/
def way (n : Nat) (R : Nat → Nat → Prop) (x y : Nat) : Prop := ∃ (l : List Nat), (∀ z ∈ l, z < n) ∧ ∃ (k : Nat), l.length = k + 1 ∧ R x (l.getD 0 0) ∧ (∀ i, i < k → R (l.getD i 0) (l.getD (i + 1) 0)) ∧ l.getD k 0 = y
noncomputable def clo (n : Nat) (g : Nat → Nat → Int32) (x y : Nat) : Int32 := @ite _ (way n (fun u v => g u v = 1) x y) (Classical.propDecidable _) 1 (@ite _ (way n (fun u v => g u v ≠ 0) x y) (Classical.propDecidable _) 2 0)
def eu (e : Nat → Nat) (a u : Nat) : Nat → Nat := fun v => if v = a then u else e v
abbrev FT : Type := Nat → Nat → Int32
def kd (q : FT) (i : Nat) : Nat := nn (q i 0)
def va (q : FT) (i : Nat) : Nat := nn (q i 1)
def vb (q : FT) (i : Nat) : Nat := nn (q i 2)
def pc (q : FT) (i : Nat) : Nat := nn (q i 3)
def pd (q : FT) (i : Nat) : Nat := nn (q i 4)
def dp (q : FT) (i : Nat) : Nat := nn (q i 5)
def fr (q : FT) (i : Nat) : Nat := nn (q i 6)
def cl (q : FT) (i : Nat) : Nat := nn (q i 7)
def fb (q : FT) (i v : Nat) : Prop := (fr q i).testBit v = true
noncomputable def ev (q : FT) (f : St) (n : Nat) : Nat → Nat → (Nat → Nat) → Int32
  | 0, _, _ => 0
  | k + 1, i, e => if kd q i = 0 then q i 1
    else if kd q i = 1 then sg f (va q i) (e (vb q i)) (e (pc q i))
    else if kd q i = 2 then sg f 8 (e (vb q i)) (e (pc q i))
    else if kd q i = 3 then tnot (ev q f n k (pc q i) e)
    else if kd q i = 4 then tand (ev q f n k (pc q i) e) (ev q f n k (pd q i) e)
    else if kd q i = 5 then tor (ev q f n k (pc q i) e) (ev q f n k (pd q i) e)
    else if kd q i = 6 then orN (fun u => ev q f n k (pc q i) (eu e (va q i) u)) n
    else if kd q i = 7 then andN (fun u => ev q f n k (pc q i) (eu e (va q i) u)) n
    else clo n (fun x y => ev q f n k (pc q i) (eu (eu e 4 x) 5 y)) (e (va q i)) (e (vb q i))
/-- a formula as it is kept, on both sides -/
def fwf (q : FT) (i : Nat) : Prop :=
  q i 0 = nI (kd q i) ∧ kd q i < 9 ∧ q i 5 = nI (dp q i) ∧ dp q i ≤ 4 ∧ q i 6 = nI (fr q i) ∧ fr q i < 64 ∧ q i 7 = nI (cl q i) ∧ cl q i < 2 ∧
  (kd q i = 0 → q i 1 = nI (va q i) ∧ va q i < 3) ∧
  (kd q i = 1 → q i 1 = nI (va q i) ∧ va q i < 8 ∧ (2 ≤ va q i → q i 2 = nI (vb q i) ∧ vb q i < 6 ∧ fb q i (vb q i)) ∧ (6 ≤ va q i → q i 3 = nI (pc q i) ∧ pc q i < 6 ∧ fb q i (pc q i))) ∧
  (kd q i = 2 → q i 2 = nI (vb q i) ∧ vb q i < 6 ∧ fb q i (vb q i) ∧ q i 3 = nI (pc q i) ∧ pc q i < 6 ∧ fb q i (pc q i)) ∧
  (3 ≤ kd q i → q i 3 = nI (pc q i) ∧ pc q i < i ∧ dp q (pc q i) < dp q i ∧ (kd q i < 8 → cl q i = 0 → cl q (pc q i) = 0)) ∧
  (kd q i = 3 → ∀ v, fb q (pc q i) v → fb q i v) ∧
  (kd q i = 4 ∨ kd q i = 5 → q i 4 = nI (pd q i) ∧ pd q i < i ∧ dp q (pd q i) < dp q i ∧ (cl q i = 0 → cl q (pd q i) = 0) ∧ (∀ v, fb q (pc q i) v → fb q i v) ∧ (∀ v, fb q (pd q i) v → fb q i v)) ∧
  (kd q i = 6 ∨ kd q i = 7 → q i 1 = nI (va q i) ∧ va q i < 6 ∧ ∀ v, fb q (pc q i) v → v = va q i ∨ fb q i v) ∧
  (kd q i = 8 → q i 1 = nI (va q i) ∧ va q i < 6 ∧ q i 2 = nI (vb q i) ∧ vb q i < 6 ∧ fb q i (va q i) ∧ fb q i (vb q i) ∧ cl q i = 1 ∧ cl q (pc q i) = 0 ∧ ∀ v, fb q (pc q i) v → v = 4 ∨ v = 5 ∨ fb q i v)
theorem fb_lt {q : FT} {i v : Nat} (h : fwf q i) (hv : fb q i v) : v < 6 := by
  have h1 : fr q i < 64 := h.2.2.2.2.2.1
  apply Nat.lt_of_not_le
  intro h2
  have : (fr q i).testBit v = false := Nat.testBit_lt_two_pow (Nat.lt_of_lt_of_le h1 (by exact Nat.pow_le_pow_right (n := 2) (by omega) h2 : 2 ^ 6 ≤ 2 ^ v))
  unfold fb at hv
  rw [this] at hv
  cases hv
theorem ev_fuel {q : FT} {f : St} {n m : Nat} (hw : ∀ i, i < m → fwf q i) : ∀ (i : Nat), i < m → ∀ (k k' : Nat) (e : Nat → Nat), i < k → i < k' → ev q f n k i e = ev q f n k' i e := by
  intro i
  induction i using Nat.strongRecOn with
  | ind i ih =>
    intro hi k k' e hk hk'
    obtain ⟨k, rfl⟩ : ∃ z, k = z + 1 := ⟨k - 1, by omega⟩
    obtain ⟨k', rfl⟩ : ∃ z, k' = z + 1 := ⟨k' - 1, by omega⟩
    obtain ⟨-, h9, -, -, -, -, -, -, -, -, -, h3, -, h45, -⟩ := hw i hi
    unfold ev
    by_cases hk3 : kd q i < 3
    · have : kd q i = 0 ∨ kd q i = 1 ∨ kd q i = 2 := by omega
      rcases this with h | h | h <;> simp [h]
    · obtain ⟨-, g1, -, -⟩ := h3 (by omega)
      have e1 : ∀ e', ev q f n k (pc q i) e' = ev q f n k' (pc q i) e' := fun e' => ih _ g1 (by omega) k k' e' (by omega) (by omega)
      have : kd q i = 3 ∨ kd q i = 4 ∨ kd q i = 5 ∨ kd q i = 6 ∨ kd q i = 7 ∨ kd q i = 8 := by omega
      rcases this with h | h | h | h | h | h
      · simp [h, e1]
      · have e2 := ih _ (h45 (Or.inl h)).2.1 (by have := (h45 (Or.inl h)).2.1; omega) k k' e (by have := (h45 (Or.inl h)).2.1; omega) (by have := (h45 (Or.inl h)).2.1; omega)
        simp [h, e1, e2]
      · have e2 := ih _ (h45 (Or.inr h)).2.1 (by have := (h45 (Or.inr h)).2.1; omega) k k' e (by have := (h45 (Or.inr h)).2.1; omega) (by have := (h45 (Or.inr h)).2.1; omega)
        simp [h, e1, e2]
      · simp [h, e1]
      · simp [h, e1]
      · simp [h, e1]
noncomputable def EV (q : FT) (f : St) (n i : Nat) (e : Nat → Nat) : Int32 := ev q f n (i + 1) i e
theorem EV_part {q : FT} {f : St} {n m i c : Nat} (hw : ∀ i, i < m → fwf q i) (hi : i < m) (hc : c < i) (e : Nat → Nat) : ev q f n i c e = EV q f n c e := ev_fuel hw c (by omega) i (c + 1) e hc (by omega)
/-- a value: 0, 1 or 2 -/
def tri (x : Int32) : Prop := ∃ v, v < 3 ∧ x = nI v
theorem tri_and {x y : Int32} (h1 : tri x) (h2 : tri y) : tri (tand x y) := by
  obtain ⟨i, hi, rfl⟩ := h1
  obtain ⟨j, hj, rfl⟩ := h2
  exact tand_v i hi j hj
theorem tri_or {x y : Int32} (h1 : tri x) (h2 : tri y) : tri (tor x y) := by
  obtain ⟨i, hi, rfl⟩ := h1
  obtain ⟨j, hj, rfl⟩ := h2
  exact tor_v i hi j hj
theorem tri_not {x : Int32} (h1 : tri x) : tri (tnot x) := by
  obtain ⟨i, hi, rfl⟩ := h1
  exact tnot_v i hi
theorem tri_0 : tri 0 := ⟨0, by omega, rfl⟩
theorem tri_1 : tri 1 := ⟨1, by omega, rfl⟩
theorem tri_2 : tri 2 := ⟨2, by omega, rfl⟩
theorem tri_orN {g : Nat → Int32} : ∀ n, (∀ u, u < n → tri (g u)) → tri (orN g n)
  | 0, _ => tri_0
  | n + 1, h => tri_or (tri_orN n (fun u hu => h u (by omega))) (h n (by omega))
theorem tri_andN {g : Nat → Int32} : ∀ n, (∀ u, u < n → tri (g u)) → tri (andN g n)
  | 0, _ => tri_1
  | n + 1, h => tri_and (tri_andN n (fun u hu => h u (by omega))) (h n (by omega))
theorem tri_clo {n : Nat} {g : Nat → Nat → Int32} {x y : Nat} : tri (clo n g x y) := by
  unfold clo
  split
  · exact tri_1
  · split
    · exact tri_2
    · exact tri_0
theorem tri_sg {f : St} (h : wfS f) {p u w : Nat} (hp : p < 9) (hu : u < 6) (hw : w < 6) : tri (sg f p u w) := by
  unfold sg
  split
  · split
    · split
      · exact tri_2
      · exact tri_1
    · exact tri_0
  · have := cel_lt (p := p) (by omega) hu hw
    exact h.2.1 _ (by omega) (by omega)

section EVK
variable {q : FT} {f : St} {n m i : Nat} {e : Nat → Nat}
theorem EV_0 (h : kd q i = 0) : EV q f n i e = q i 1 := by
  unfold EV ev
  simp [h]
theorem EV_1 (h : kd q i = 1) : EV q f n i e = sg f (va q i) (e (vb q i)) (e (pc q i)) := by
  unfold EV ev
  simp [h]
theorem EV_2 (h : kd q i = 2) : EV q f n i e = sg f 8 (e (vb q i)) (e (pc q i)) := by
  unfold EV ev
  simp [h]
theorem EV_3 (hw : ∀ i, i < m → fwf q i) (hi : i < m) (h : kd q i = 3) : EV q f n i e = tnot (EV q f n (pc q i) e) := by
  have hp := (hw i hi).2.2.2.2.2.2.2.2.2.2.2.1 (by omega)
  rw [EV, ev]
  simp only [h]
  rw [EV_part hw hi hp.2.1]
  simp
theorem EV_4 (hw : ∀ i, i < m → fwf q i) (hi : i < m) (h : kd q i = 4) : EV q f n i e = tand (EV q f n (pc q i) e) (EV q f n (pd q i) e) := by
  have hp := (hw i hi).2.2.2.2.2.2.2.2.2.2.2.1 (by omega)
  have hp2 := (hw i hi).2.2.2.2.2.2.2.2.2.2.2.2.2.1 (Or.inl h)
  rw [EV, ev]
  simp only [h]
  rw [EV_part hw hi hp.2.1, EV_part hw hi hp2.2.1]
  simp
theorem EV_5 (hw : ∀ i, i < m → fwf q i) (hi : i < m) (h : kd q i = 5) : EV q f n i e = tor (EV q f n (pc q i) e) (EV q f n (pd q i) e) := by
  have hp := (hw i hi).2.2.2.2.2.2.2.2.2.2.2.1 (by omega)
  have hp2 := (hw i hi).2.2.2.2.2.2.2.2.2.2.2.2.2.1 (Or.inr h)
  rw [EV, ev]
  simp only [h]
  rw [EV_part hw hi hp.2.1, EV_part hw hi hp2.2.1]
  simp
theorem EV_6 (hw : ∀ i, i < m → fwf q i) (hi : i < m) (h : kd q i = 6) : EV q f n i e = orN (fun u => EV q f n (pc q i) (eu e (va q i) u)) n := by
  have hp := (hw i hi).2.2.2.2.2.2.2.2.2.2.2.1 (by omega)
  rw [EV, ev]
  simp only [h, EV_part hw hi hp.2.1]
  simp
theorem EV_7 (hw : ∀ i, i < m → fwf q i) (hi : i < m) (h : kd q i = 7) : EV q f n i e = andN (fun u => EV q f n (pc q i) (eu e (va q i) u)) n := by
  have hp := (hw i hi).2.2.2.2.2.2.2.2.2.2.2.1 (by omega)
  rw [EV, ev]
  simp only [h, EV_part hw hi hp.2.1]
  simp
theorem EV_8 (hw : ∀ i, i < m → fwf q i) (hi : i < m) (h : kd q i = 8) : EV q f n i e = clo n (fun x y => EV q f n (pc q i) (eu (eu e 4 x) 5 y)) (e (va q i)) (e (vb q i)) := by
  have hp := (hw i hi).2.2.2.2.2.2.2.2.2.2.2.1 (by omega)
  rw [EV, ev]
  simp only [h, EV_part hw hi hp.2.1]
  simp
end EVK
theorem EV_tri {q : FT} {f : St} {n m : Nat} (hw : ∀ i, i < m → fwf q i) (hf : wfS f) (hn : n ≤ 6) : ∀ (i : Nat), i < m → ∀ (e : Nat → Nat), (∀ v, fb q i v → e v < n) → tri (EV q f n i e) := by
  intro i
  induction i using Nat.strongRecOn with
  | ind i ih =>
    intro hi e he
    have hwi := hw i hi
    obtain ⟨-, h9, -, -, -, -, -, -, h0, h1, h2, h3, h3b, h45, h67, h8⟩ := hwi
    have : kd q i = 0 ∨ kd q i = 1 ∨ kd q i = 2 ∨ kd q i = 3 ∨ kd q i = 4 ∨ kd q i = 5 ∨ kd q i = 6 ∨ kd q i = 7 ∨ kd q i = 8 := by omega
    rcases this with h | h | h | h | h | h | h | h | h
    · rw [EV_0 h]; exact ⟨_, (h0 h).2, (h0 h).1⟩
    · rw [EV_1 h]
      obtain ⟨-, g1, g2, g3⟩ := h1 h
      by_cases p2 : va q i < 2
      · unfold sg
        rw [if_neg (by omega)]
        unfold cel
        rw [if_pos p2]
        exact hf.2.1 _ (by omega) (by omega)
      · obtain ⟨-, -, b1⟩ := g2 (by omega)
        have b2 := he _ b1
        by_cases p6 : va q i < 6
        · unfold sg
          rw [if_neg (by omega)]
          unfold cel
          rw [if_neg p2, if_pos p6]
          exact hf.2.1 _ (by omega) (by omega)
        · obtain ⟨-, -, c1⟩ := g3 (by omega)
          have c2 := he _ c1
          exact tri_sg hf (by omega) (by omega) (by omega)
    · rw [EV_2 h]
      obtain ⟨-, -, b1, -, -, c1⟩ := h2 h
      have b2 := he _ b1
      have c2 := he _ c1
      exact tri_sg hf (by omega) (by omega) (by omega)
    · rw [EV_3 hw hi h]
      obtain ⟨-, g1, -⟩ := h3 (by omega)
      exact tri_not (ih _ g1 (by omega) e (fun v hv => he v (h3b h v hv)))
    · rw [EV_4 hw hi h]
      obtain ⟨-, g1, -⟩ := h3 (by omega)
      obtain ⟨-, g2, -, -, g3, g4⟩ := h45 (Or.inl h)
      exact tri_and (ih _ g1 (by omega) e (fun v hv => he v (g3 v hv))) (ih _ g2 (by omega) e (fun v hv => he v (g4 v hv)))
    · rw [EV_5 hw hi h]
      obtain ⟨-, g1, -⟩ := h3 (by omega)
      obtain ⟨-, g2, -, -, g3, g4⟩ := h45 (Or.inr h)
      exact tri_or (ih _ g1 (by omega) e (fun v hv => he v (g3 v hv))) (ih _ g2 (by omega) e (fun v hv => he v (g4 v hv)))
    · rw [EV_6 hw hi h]
      obtain ⟨-, g1, -⟩ := h3 (by omega)
      obtain ⟨-, -, g2⟩ := h67 (Or.inl h)
      refine tri_orN n (fun u hu => ih _ g1 (by omega) _ (fun v hv => ?_))
      unfold eu
      split
      · exact hu
      · rename_i hne
        rcases g2 v hv with q1 | q1
        · exact absurd q1 hne
        · exact he v q1
    · rw [EV_7 hw hi h]
      obtain ⟨-, g1, -⟩ := h3 (by omega)
      obtain ⟨-, -, g2⟩ := h67 (Or.inr h)
      refine tri_andN n (fun u hu => ih _ g1 (by omega) _ (fun v hv => ?_))
      unfold eu
      split
      · exact hu
      · rename_i hne
        rcases g2 v hv with q1 | q1
        · exact absurd q1 hne
        · exact he v q1
    · rw [EV_8 hw hi h]
      exact tri_clo
