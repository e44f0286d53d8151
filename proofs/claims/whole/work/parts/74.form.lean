/-! A new formula: what is kept of it. -/
section NF
variable {q q' : FT} {m : Nat}
theorem fwf_congr {i : Nat} (h : ∀ j, j ≤ i → q' j = q j) (hw : fwf q i) : fwf q' i := by
  have hi := h i (Nat.le_refl _)
  have e0 : kd q' i = kd q i := by unfold kd; rw [hi]
  have e1 : va q' i = va q i := by unfold va; rw [hi]
  have e2 : vb q' i = vb q i := by unfold vb; rw [hi]
  have e3 : pc q' i = pc q i := by unfold pc; rw [hi]
  have e4 : pd q' i = pd q i := by unfold pd; rw [hi]
  have e5 : dp q' i = dp q i := by unfold dp; rw [hi]
  have e6 : fr q' i = fr q i := by unfold fr; rw [hi]
  have e7 : cl q' i = cl q i := by unfold cl; rw [hi]
  have f5 : ∀ j, j < i → dp q' j = dp q j := fun j hj => by unfold dp; rw [h j (by omega)]
  have f7 : ∀ j, j < i → cl q' j = cl q j := fun j hj => by unfold cl; rw [h j (by omega)]
  have fbi : ∀ v, fb q' i v ↔ fb q i v := fun v => by unfold fb; rw [e6]
  have fbj : ∀ j v, j < i → (fb q' j v ↔ fb q j v) := fun j v hj => by unfold fb fr; rw [h j (by omega)]
  obtain ⟨h0, h9, g5, d4, g6, u6, g7, c7, a0, a1, a2, a3, a3b, a45, a67, a8⟩ := hw
  refine ⟨by rw [hi, e0]; exact h0, by rw [e0]; exact h9, by rw [hi, e5]; exact g5, by rw [e5]; exact d4, by rw [hi, e6]; exact g6, by rw [e6]; exact u6, by rw [hi, e7]; exact g7, by rw [e7]; exact c7, fun k => ?_, fun k => ?_, fun k => ?_, fun k => ?_, fun k => ?_, fun k => ?_, fun k => ?_, fun k => ?_⟩
  · rw [e0] at k; rw [hi, e1]; exact a0 k
  · rw [e0] at k
    obtain ⟨b1, b2, b3, b4⟩ := a1 k
    rw [hi, e1, e2, e3]
    exact ⟨b1, b2, fun z => ⟨(b3 z).1, (b3 z).2.1, (fbi _).mpr (b3 z).2.2⟩, fun z => ⟨(b4 z).1, (b4 z).2.1, (fbi _).mpr (b4 z).2.2⟩⟩
  · rw [e0] at k
    obtain ⟨b1, b2, b3, b4, b5, b6⟩ := a2 k
    rw [hi, e2, e3]
    exact ⟨b1, b2, (fbi _).mpr b3, b4, b5, (fbi _).mpr b6⟩
  · rw [e0] at k
    obtain ⟨b1, b2, b3, b4⟩ := a3 k
    rw [hi, e3, e5, e0, e7, f5 _ b2, f7 _ b2]
    exact ⟨b1, b2, b3, b4⟩
  · rw [e0] at k
    obtain ⟨-, b2, -⟩ := a3 (by omega)
    intro v hv
    rw [e3] at hv
    exact (fbi v).mpr (a3b k v ((fbj _ v b2).mp hv))
  · rw [e0] at k
    obtain ⟨-, b2, -⟩ := a3 (by omega)
    obtain ⟨c1, c2, c3, c4, c5, c6⟩ := a45 k
    rw [hi, e3, e4, e5, e7, f5 _ c2, f7 _ c2]
    exact ⟨c1, c2, c3, c4, fun v hv => (fbi v).mpr (c5 v ((fbj _ v b2).mp hv)), fun v hv => (fbi v).mpr (c6 v ((fbj _ v c2).mp hv))⟩
  · rw [e0] at k
    obtain ⟨-, b2, -⟩ := a3 (by omega)
    obtain ⟨c1, c2, c3⟩ := a67 k
    rw [hi, e1, e3]
    refine ⟨c1, c2, fun v hv => ?_⟩
    rcases c3 v ((fbj _ v b2).mp hv) with z | z
    · exact Or.inl z
    · exact Or.inr ((fbi v).mpr z)
  · rw [e0] at k
    obtain ⟨-, b2, -⟩ := a3 (by omega)
    obtain ⟨c1, c2, c3, c4, c5, c6, c7, c8, c9⟩ := a8 k
    rw [hi, e1, e2, e3, e7, f7 _ b2]
    refine ⟨c1, c2, c3, c4, (fbi _).mpr c5, (fbi _).mpr c6, c7, c8, fun v hv => ?_⟩
    rcases c9 v ((fbj _ v b2).mp hv) with z | z | z
    · exact Or.inl z
    · exact Or.inr (Or.inl z)
    · exact Or.inr (Or.inr ((fbi v).mpr z))
/-- what a new formula's parts must be -/
def mkb (q : FT) (m k : Nat) (a b c d : Int32) : Prop := (k = 0 ∧ ∃ x, x < 3 ∧ a = nI x) ∨ (k = 1 ∧ ∃ x, x < 8 ∧ a = nI x ∧ (2 ≤ x → ∃ y, y < 6 ∧ b = nI y) ∧ (6 ≤ x → ∃ y, y < 6 ∧ c = nI y)) ∨ (k = 2 ∧ (∃ y, y < 6 ∧ b = nI y) ∧ ∃ y, y < 6 ∧ c = nI y) ∨ (k = 3 ∧ ∃ y, y < m ∧ c = nI y ∧ dp q y < 4) ∨ ((k = 4 ∨ k = 5) ∧ (∃ y, y < m ∧ c = nI y ∧ dp q y < 4) ∧ ∃ y, y < m ∧ d = nI y ∧ dp q y < 4) ∨ ((k = 6 ∨ k = 7) ∧ (∃ y, y < 6 ∧ a = nI y) ∧ ∃ y, y < m ∧ c = nI y ∧ dp q y < 4) ∨ (k = 8 ∧ (∃ y, y < 6 ∧ a = nI y) ∧ (∃ y, y < 6 ∧ b = nI y) ∧ ∃ y, y < m ∧ c = nI y ∧ dp q y < 4 ∧ cl q y = 0)
def nD (q : FT) (k c d : Nat) : Nat := if k < 3 then 0 else if k = 4 ∨ k = 5 then 1 + max (dp q c) (dp q d) else 1 + dp q c
def nU (q : FT) (k a b c d : Nat) : Nat := if k = 0 then 0 else if k = 1 then (if a < 2 then 0 else if a < 6 then 2 ^ b else 2 ^ b ||| 2 ^ c) else if k = 2 then 2 ^ b ||| 2 ^ c else if k = 3 then fr q c else if k = 4 ∨ k = 5 then fr q c ||| fr q d else if k = 8 then (fr q c &&& 15) ||| 2 ^ a ||| 2 ^ b else fr q c &&& (63 - 2 ^ a)
def nC (q : FT) (k c d : Nat) : Nat := if k = 8 then 1 else if k = 4 ∨ k = 5 then (if cl q c = 1 ∨ cl q d = 1 then 1 else 0) else if 3 ≤ k then cl q c else 0
/-- the row of a new formula -/
def nro (q : FT) (k : Nat) (a b c d : Int32) : Nat → Int32 := fun j => if j = 0 then nI k else if j = 1 then a else if j = 2 then b else if j = 3 then c else if j = 4 then d else if j = 5 then nI (nD q k (nn c) (nn d)) else if j = 6 then nI (nU q k (nn a) (nn b) (nn c) (nn d)) else nI (nC q k (nn c) (nn d))
def qad (q : FT) (m : Nat) (r : Nat → Int32) : FT := fun i => if i = m then r else q i
theorem qad_m {r : Nat → Int32} : qad q m r m = r := if_pos rfl
theorem qad_o {r : Nat → Int32} {i : Nat} (h : i ≠ m) : qad q m r i = q i := if_neg h
theorem bt1 : ∀ x, x < 64 → ∀ a, a < 6 → ∀ v, v < 6 → (x &&& (63 - 2 ^ a)).testBit v = (x.testBit v && decide (v ≠ a)) := by decide +kernel
theorem bt2 : ∀ x, x < 64 → ∀ v, v < 4 → (x &&& 15).testBit v = x.testBit v := by decide +kernel
theorem bt3 : ∀ x, x < 64 → ∀ a, a < 6 → (x &&& (63 - 2 ^ a)) < 64 := by decide +kernel
theorem bt4 : ∀ x, x < 64 → ∀ a, a < 6 → ∀ b, b < 6 → ((x &&& 15) ||| 2 ^ a ||| 2 ^ b) < 64 := by decide +kernel
theorem bt5 : ∀ b, b < 6 → ∀ c, c < 6 → (2 ^ b ||| 2 ^ c) < 64 := by decide +kernel
theorem bt6 : ∀ x, x < 64 → ∀ y, y < 64 → (x ||| y) < 64 := by decide +kernel
theorem bt7 (x y v : Nat) : (x ||| y).testBit v = (x.testBit v || y.testBit v) := Nat.testBit_or x y v
theorem bt8 (x : Nat) : (2 ^ x).testBit x = true := Nat.testBit_two_pow_self
theorem nro_kd {k : Nat} {a b c d : Int32} (hk : k < 9) : kd (qad q m (nro q k a b c d)) m = k := by unfold kd; rw [qad_m]; exact nn_nI (by omega)
theorem fwf_mk {q1 : FT} {i k D U C : Nat} (hi : i < 100) (h0 : q1 i 0 = nI k) (hk : k < 9) (h5 : q1 i 5 = nI D) (hD : D ≤ 4) (h6 : q1 i 6 = nI U) (hU : U < 64) (h7 : q1 i 7 = nI C) (hC : C < 2) (c0 : k = 0 → ∃ x, x < 3 ∧ q1 i 1 = nI x) (c1 : k = 1 → ∃ x, x < 8 ∧ q1 i 1 = nI x ∧ (2 ≤ x → ∃ y, y < 6 ∧ q1 i 2 = nI y ∧ U.testBit y = true) ∧ (6 ≤ x → ∃ y, y < 6 ∧ q1 i 3 = nI y ∧ U.testBit y = true)) (c2 : k = 2 → (∃ y, y < 6 ∧ q1 i 2 = nI y ∧ U.testBit y = true) ∧ ∃ y, y < 6 ∧ q1 i 3 = nI y ∧ U.testBit y = true) (c3 : 3 ≤ k → ∃ y, y < i ∧ q1 i 3 = nI y ∧ dp q1 y < D ∧ (k < 8 → C = 0 → cl q1 y = 0) ∧ (k = 3 ∨ k = 4 ∨ k = 5 → ∀ v, fb q1 y v → U.testBit v = true) ∧ (k = 6 ∨ k = 7 → ∃ x, x < 6 ∧ q1 i 1 = nI x ∧ ∀ v, fb q1 y v → v = x ∨ U.testBit v = true) ∧ (k = 8 → ∃ x z, x < 6 ∧ z < 6 ∧ q1 i 1 = nI x ∧ q1 i 2 = nI z ∧ U.testBit x = true ∧ U.testBit z = true ∧ C = 1 ∧ cl q1 y = 0 ∧ ∀ v, fb q1 y v → v = 4 ∨ v = 5 ∨ U.testBit v = true)) (c4 : k = 4 ∨ k = 5 → ∃ y, y < i ∧ q1 i 4 = nI y ∧ dp q1 y < D ∧ (C = 0 → cl q1 y = 0) ∧ ∀ v, fb q1 y v → U.testBit v = true) : fwf q1 i := by
  have ek : kd q1 i = k := by unfold kd; rw [h0]; exact nn_nI (by omega)
  have eD : dp q1 i = D := by unfold dp; rw [h5]; exact nn_nI (by omega)
  have eU : fr q1 i = U := by unfold fr; rw [h6]; exact nn_nI (by omega)
  have eC : cl q1 i = C := by unfold cl; rw [h7]; exact nn_nI (by omega)
  have eb : ∀ v, fb q1 i v ↔ U.testBit v = true := fun v => by unfold fb; rw [eU]
  have n1 : ∀ x, x < 100 → q1 i 1 = nI x → va q1 i = x := fun x hx e => by unfold va; rw [e]; exact nn_nI (by omega)
  have n2 : ∀ x, x < 100 → q1 i 2 = nI x → vb q1 i = x := fun x hx e => by unfold vb; rw [e]; exact nn_nI (by omega)
  have n3 : ∀ x, x < 100 → q1 i 3 = nI x → pc q1 i = x := fun x hx e => by unfold pc; rw [e]; exact nn_nI (by omega)
  have n4 : ∀ x, x < 100 → q1 i 4 = nI x → pd q1 i = x := fun x hx e => by unfold pd; rw [e]; exact nn_nI (by omega)
  refine ⟨by rw [ek]; exact h0, by rw [ek]; exact hk, by rw [eD]; exact h5, by rw [eD]; exact hD, by rw [eU]; exact h6, by rw [eU]; exact hU, by rw [eC]; exact h7, by rw [eC]; exact hC, fun z => ?_, fun z => ?_, fun z => ?_, fun z => ?_, fun z => ?_, fun z => ?_, fun z => ?_, fun z => ?_⟩
  all_goals rw [ek] at z
  · obtain ⟨x, hx, e⟩ := c0 z
    rw [n1 x (by omega) e]; exact ⟨e, hx⟩
  · obtain ⟨x, hx, e, f1, f2⟩ := c1 z
    rw [n1 x (by omega) e]
    refine ⟨e, hx, fun y => ?_, fun y => ?_⟩
    · obtain ⟨b, hb, e2, tb⟩ := f1 y
      rw [n2 b (by omega) e2]; exact ⟨e2, hb, (eb b).mpr tb⟩
    · obtain ⟨b, hb, e2, tb⟩ := f2 y
      rw [n3 b (by omega) e2]; exact ⟨e2, hb, (eb b).mpr tb⟩
  · obtain ⟨⟨x, hx, e, f1⟩, ⟨y, hy, e2, f2⟩⟩ := c2 z
    rw [n2 x (by omega) e, n3 y (by omega) e2]
    exact ⟨e, hx, (eb x).mpr f1, e2, hy, (eb y).mpr f2⟩
  · obtain ⟨y, hy, e, g1, g2, -⟩ := c3 z
    rw [n3 y (by omega) e, eD, ek, eC]
    exact ⟨e, hy, g1, g2⟩
  · obtain ⟨y, hy, e, g1, g2, g3, -⟩ := c3 (by omega)
    rw [n3 y (by omega) e]
    exact fun v hv => (eb v).mpr (g3 (Or.inl z) v hv)
  · obtain ⟨y, hy, e, g1, g2, g3, -⟩ := c3 (by omega)
    obtain ⟨y', hy', e', g1', g2', g3'⟩ := c4 z
    rw [n3 y (by omega) e, n4 y' (by omega) e', eD, eC]
    exact ⟨e', hy', g1', g2', fun v hv => (eb v).mpr (g3 (Or.inr z) v hv), fun v hv => (eb v).mpr (g3' v hv)⟩
  · obtain ⟨y, hy, e, g1, g2, g3, g4, -⟩ := c3 (by omega)
    obtain ⟨x, hx, e1, g5⟩ := g4 z
    rw [n3 y (by omega) e, n1 x (by omega) e1]
    exact ⟨e1, hx, fun v hv => (g5 v hv).imp id (eb v).mpr⟩
  · obtain ⟨y, hy, e, g1, g2, g3, g4, g5⟩ := c3 (by omega)
    obtain ⟨x, w, hx, hw, e1, e2, b1, b2, b3, b4, b5⟩ := g5 z
    rw [n3 y (by omega) e, n1 x (by omega) e1, n2 w (by omega) e2, eC]
    exact ⟨e1, hx, e2, hw, (eb x).mpr b1, (eb w).mpr b2, b3, b4, fun v hv => (b5 v hv).imp id (fun h => h.imp id (eb v).mpr)⟩
theorem nro_wf {k : Nat} {a b c d : Int32} (hw : ∀ i, i < m → fwf q i) (hm : m < 40) (h : mkb q m k a b c d) : k < 9 ∧ fwf (qad q m (nro q k a b c d)) m := by
  have od : ∀ y, y < m → dp (qad q m (nro q k a b c d)) y = dp q y := fun y hy => by unfold dp; rw [qad_o (by omega)]
  have oc : ∀ y, y < m → cl (qad q m (nro q k a b c d)) y = cl q y := fun y hy => by unfold cl; rw [qad_o (by omega)]
  have ob : ∀ y v, y < m → fb (qad q m (nro q k a b c d)) y v → (fr q y).testBit v = true ∧ v < 6 := fun y v hy hv => by
    have h2 : fb q y v := by unfold fb fr at hv ⊢; rw [qad_o (by omega)] at hv; exact hv
    exact ⟨h2, fb_lt (hw y hy) h2⟩
  have wf : ∀ y, y < m → fr q y < 64 ∧ cl q y < 2 := fun y hy => ⟨(hw y hy).2.2.2.2.2.1, (hw y hy).2.2.2.2.2.2.2.1⟩
  have mkf : k < 9 → nD q k (nn c) (nn d) ≤ 4 → nU q k (nn a) (nn b) (nn c) (nn d) < 64 → nC q k (nn c) (nn d) < 2 → _ := fun g1 g2 g3 g4 => fwf_mk (q1 := qad q m (nro q k a b c d)) (i := m) (k := k) (D := nD q k (nn c) (nn d)) (U := nU q k (nn a) (nn b) (nn c) (nn d)) (C := nC q k (nn c) (nn d)) (by omega) (by rw [qad_m]; rfl) g1 (by rw [qad_m]; rfl) g2 (by rw [qad_m]; rfl) g3 (by rw [qad_m]; rfl) g4
  have r1 : qad q m (nro q k a b c d) m 1 = a := by rw [qad_m]; rfl
  have r2 : qad q m (nro q k a b c d) m 2 = b := by rw [qad_m]; rfl
  have r3 : qad q m (nro q k a b c d) m 3 = c := by rw [qad_m]; rfl
  have r4 : qad q m (nro q k a b c d) m 4 = d := by rw [qad_m]; rfl
  rcases h with ⟨rfl, x, hx, ea⟩ | ⟨rfl, x, hx, ea, h1, h2⟩ | ⟨rfl, ⟨x, hx, eb⟩, y, hy, ec⟩ | ⟨rfl, y, hy, ec, hd⟩ | ⟨hk, ⟨y, hy, ec, hd⟩, z, hz, ed, hd2⟩ | ⟨hk, ⟨x, hx, ea⟩, y, hy, ec, hd⟩ | ⟨rfl, ⟨x, hx, ea⟩, ⟨w, hww, eb⟩, y, hy, ec, hd, hcl⟩
  · have eD : nD q 0 (nn c) (nn d) = 0 := rfl
    have eU : nU q 0 (nn a) (nn b) (nn c) (nn d) = 0 := rfl
    have eC : nC q 0 (nn c) (nn d) = 0 := rfl
    refine ⟨by omega, mkf (by omega) (by omega) (by omega) (by omega) (fun _ => ⟨x, hx, r1.trans ea⟩) (fun z => by omega) (fun z => by omega) (fun z => by omega) (fun z => by omega)⟩
  · have eD : nD q 1 (nn c) (nn d) = 0 := rfl
    have eC : nC q 1 (nn c) (nn d) = 0 := rfl
    have nx : nn a = x := by rw [ea]; exact nn_nI (by omega)
    have eU : nU q 1 (nn a) (nn b) (nn c) (nn d) = if x < 2 then 0 else if x < 6 then 2 ^ nn b else 2 ^ nn b ||| 2 ^ nn c := by rw [nx]; rfl
    have key : nU q 1 (nn a) (nn b) (nn c) (nn d) < 64 ∧ (2 ≤ x → ∃ y, y < 6 ∧ b = nI y ∧ (nU q 1 (nn a) (nn b) (nn c) (nn d)).testBit y = true) ∧ (6 ≤ x → ∃ y, y < 6 ∧ c = nI y ∧ (nU q 1 (nn a) (nn b) (nn c) (nn d)).testBit y = true) := by
      rw [eU]
      by_cases x2 : x < 2
      · rw [if_pos x2]; exact ⟨by omega, fun z => by omega, fun z => by omega⟩
      · rw [if_neg x2]
        obtain ⟨y, hy, e1⟩ := h1 (by omega)
        have ny : nn b = y := by rw [e1]; exact nn_nI (by omega)
        rw [ny]
        by_cases x6 : x < 6
        · rw [if_pos x6]
          have : 2 ^ y < 64 := by have := bt5 y hy y hy; rw [Nat.or_self] at this; exact this
          exact ⟨this, fun _ => ⟨y, hy, e1, bt8 y⟩, fun z => by omega⟩
        · rw [if_neg x6]
          obtain ⟨w, hw2, e2⟩ := h2 (by omega)
          have nw : nn c = w := by rw [e2]; exact nn_nI (by omega)
          rw [nw]
          exact ⟨bt5 y hy w hw2, fun _ => ⟨y, hy, e1, by rw [bt7, bt8]; rfl⟩, fun _ => ⟨w, hw2, e2, by rw [bt7, bt8, Bool.or_true]⟩⟩
    refine ⟨by omega, mkf (by omega) (by omega) key.1 (by omega) (fun z => by omega) (fun _ => ⟨x, hx, r1.trans ea, fun z => ?_, fun z => ?_⟩) (fun z => by omega) (fun z => by omega) (fun z => by omega)⟩
    · obtain ⟨y, hy, e1, tb⟩ := key.2.1 z
      exact ⟨y, hy, r2.trans e1, tb⟩
    · obtain ⟨y, hy, e1, tb⟩ := key.2.2 z
      exact ⟨y, hy, r3.trans e1, tb⟩
  · have eD : nD q 2 (nn c) (nn d) = 0 := rfl
    have eC : nC q 2 (nn c) (nn d) = 0 := rfl
    have eU : nU q 2 (nn a) (nn b) (nn c) (nn d) = 2 ^ x ||| 2 ^ y := by
      show 2 ^ nn b ||| 2 ^ nn c = _
      rw [eb, ec, nn_nI (by omega), nn_nI (by omega)]
    refine ⟨by omega, mkf (by omega) (by omega) (by rw [eU]; exact bt5 x hx y hy) (by omega) (fun z => by omega) (fun z => by omega) (fun _ => ⟨⟨x, hx, r2.trans eb, by rw [eU, bt7, bt8]; rfl⟩, y, hy, r3.trans ec, by rw [eU, bt7, bt8, Bool.or_true]⟩) (fun z => by omega) (fun z => by omega)⟩
  · have ny : nn c = y := by rw [ec]; exact nn_nI (by omega)
    have eD : nD q 3 (nn c) (nn d) = 1 + dp q y := by rw [ny]; rfl
    have eC : nC q 3 (nn c) (nn d) = cl q y := by rw [ny]; rfl
    have eU : nU q 3 (nn a) (nn b) (nn c) (nn d) = fr q y := by rw [ny]; rfl
    have wy := wf y hy
    refine ⟨by omega, mkf (by omega) (by omega) (by omega) (by omega) (fun z => by omega) (fun z => by omega) (fun z => by omega) (fun _ => ⟨y, hy, r3.trans ec, by rw [od y hy]; omega, fun _ z => by rw [oc y hy]; omega, fun _ v hv => by rw [eU]; exact (ob y v hy hv).1, fun z => by omega, fun z => by omega⟩) (fun z => by omega)⟩
  · have ny : nn c = y := by rw [ec]; exact nn_nI (by omega)
    have nz : nn d = z := by rw [ed]; exact nn_nI (by omega)
    have eD : nD q k (nn c) (nn d) = 1 + max (dp q y) (dp q z) := by unfold nD; rw [ny, nz, if_neg (by omega), if_pos hk]
    have eC : nC q k (nn c) (nn d) = if cl q y = 1 ∨ cl q z = 1 then 1 else 0 := by unfold nC; rw [ny, nz, if_neg (by omega), if_pos hk]
    have eU : nU q k (nn a) (nn b) (nn c) (nn d) = fr q y ||| fr q z := by unfold nU; rw [ny, nz, if_neg (by omega), if_neg (by omega), if_neg (by omega), if_neg (by omega), if_pos hk]
    have wy := wf y hy
    have wz := wf z hz
    have eC2 : nC q k (nn c) (nn d) < 2 ∧ (nC q k (nn c) (nn d) = 0 → cl q y = 0 ∧ cl q z = 0) := by
      rw [eC]
      by_cases g : cl q y = 1 ∨ cl q z = 1
      · rw [if_pos g]; omega
      · rw [if_neg g]; omega
    refine ⟨by omega, mkf (by omega) (by omega) (by rw [eU]; exact bt6 _ wy.1 _ wz.1) eC2.1 (fun z => by omega) (fun z => by omega) (fun z => by omega) (fun _ => ⟨y, hy, r3.trans ec, by rw [od y hy]; omega, fun _ g => by rw [oc y hy]; exact (eC2.2 g).1, fun _ v hv => by rw [eU, bt7, (ob y v hy hv).1]; rfl, fun z => by omega, fun z => by omega⟩) (fun _ => ⟨z, hz, r4.trans ed, by rw [od z hz]; omega, fun g => by rw [oc z hz]; exact (eC2.2 g).2, fun v hv => by rw [eU, bt7, (ob z v hz hv).1, Bool.or_true]⟩)⟩
  · have ny : nn c = y := by rw [ec]; exact nn_nI (by omega)
    have nx : nn a = x := by rw [ea]; exact nn_nI (by omega)
    have eD : nD q k (nn c) (nn d) = 1 + dp q y := by unfold nD; rw [ny, if_neg (by omega), if_neg (by omega)]
    have eC : nC q k (nn c) (nn d) = cl q y := by unfold nC; rw [ny, if_neg (by omega), if_neg (by omega), if_pos (by omega)]
    have eU : nU q k (nn a) (nn b) (nn c) (nn d) = fr q y &&& (63 - 2 ^ x) := by unfold nU; rw [ny, nx, if_neg (by omega), if_neg (by omega), if_neg (by omega), if_neg (by omega), if_neg (by omega), if_neg (by omega)]
    have wy := wf y hy
    refine ⟨by omega, mkf (by omega) (by omega) (by rw [eU]; exact bt3 _ wy.1 x hx) (by omega) (fun z => by omega) (fun z => by omega) (fun z => by omega) (fun _ => ⟨y, hy, r3.trans ec, by rw [od y hy]; omega, fun _ g => by rw [oc y hy]; omega, fun z => by omega, fun _ => ⟨x, hx, r1.trans ea, fun v hv => ?_⟩, fun z => by omega⟩) (fun z => by omega)⟩
    obtain ⟨g1, g2⟩ := ob y v hy hv
    by_cases e : v = x
    · exact Or.inl e
    · refine Or.inr ?_
      rw [eU, bt1 _ wy.1 x hx v g2, g1, decide_eq_true e]; rfl
  · have ny : nn c = y := by rw [ec]; exact nn_nI (by omega)
    have nx : nn a = x := by rw [ea]; exact nn_nI (by omega)
    have nw : nn b = w := by rw [eb]; exact nn_nI (by omega)
    have eD : nD q 8 (nn c) (nn d) = 1 + dp q y := by rw [ny]; rfl
    have eC : nC q 8 (nn c) (nn d) = 1 := rfl
    have eU : nU q 8 (nn a) (nn b) (nn c) (nn d) = (fr q y &&& 15) ||| 2 ^ x ||| 2 ^ w := by rw [ny, nx, nw]; rfl
    have wy := wf y hy
    refine ⟨by omega, mkf (by omega) (by omega) (by rw [eU]; exact bt4 _ wy.1 x hx w hww) (by omega) (fun z => by omega) (fun z => by omega) (fun z => by omega) (fun _ => ⟨y, hy, r3.trans ec, by rw [od y hy]; omega, fun z => by omega, fun z => by omega, fun z => by omega, fun _ => ⟨x, w, hx, hww, r1.trans ea, r2.trans eb, by rw [eU, bt7, bt7, bt8, Bool.or_true]; rfl, by rw [eU, bt7, bt8, Bool.or_true], eC, by rw [oc y hy]; exact hcl, fun v hv => ?_⟩⟩) (fun z => by omega)⟩
    obtain ⟨g1, g2⟩ := ob y v hy hv
    by_cases e4 : v < 4
    · refine Or.inr (Or.inr ?_)
      rw [eU, bt7, bt7, bt2 _ wy.1 v e4, g1]; rfl
    · have : v = 4 ∨ v = 5 := by omega
      rcases this with z | z
      · exact Or.inl z
      · exact Or.inr (Or.inl z)
end NF
