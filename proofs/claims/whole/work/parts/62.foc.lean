/-! To focus, and to move: what it is. -/
def z0 : St := fun _ => 0
def fcl (p u w : Nat) : Nat := if p < 6 then 2 + 5 * w + p else 27 + 12 * u + 2 * w + p
theorem fcl_1 {p u w : Nat} (h : p < 6) : fcl p u w = 2 + 5 * w + p := by unfold fcl; rw [if_pos h]
theorem fcl_2 {p u w : Nat} (h : 6 ≤ p) : fcl p u w = 27 + 12 * u + 2 * w + p := by unfold fcl; rw [if_neg (by omega)]
def isp (q : Nat) (s : St) (u : Nat) : Prop := s (2 + 5 * u + q) = 1 ∧ s (3 + 5 * u) ≠ 1
def piv (p q : Nat) (s : St) (n u : Nat) : Prop := (p < 6 ∧ u = 0) ∨ (6 ≤ p ∧ u < n ∧ isp q s u ∧ ∀ u', u' < u → ¬ isp q s u')
def nopiv (p q : Nat) (s : St) (n : Nat) : Prop := 6 ≤ p ∧ ∀ u, u < n → ¬ isp q s u
def dul (p u : Nat) (s : St) (n w : Nat) : Prop := w < n ∧ s (fcl p u w) = 2 ∧ ∀ w', w' < w → s (fcl p u w') ≠ 2
def nodul (p q : Nat) (s : St) (n : Nat) : Prop := nopiv p q s n ∨ ∃ u, piv p q s n u ∧ ∀ w, w < n → s (fcl p u w) ≠ 2
theorem piv_uniq {p q : Nat} {s : St} {n u u' : Nat} (h : piv p q s n u) (h' : piv p q s n u') : u = u' := by
  rcases h with ⟨h1, h2⟩ | ⟨h1, h2, h3, h4⟩
  · rcases h' with ⟨h1', h2'⟩ | ⟨h1', -⟩
    · rw [h2, h2']
    · omega
  · rcases h' with ⟨h1', h2'⟩ | ⟨h1', h2', h3', h4'⟩
    · omega
    · rcases Nat.lt_trichotomy u u' with z | z | z
      · exact absurd h3 (h4' u z)
      · exact z
      · exact absurd h3' (h4 u' z)
theorem dul_uniq {p u : Nat} {s : St} {n w w' : Nat} (h : dul p u s n w) (h' : dul p u s n w') : w = w' := by
  rcases Nat.lt_trichotomy w w' with z | z | z
  · exact absurd h.2.1 (h'.2.2 w z)
  · exact z
  · exact absurd h'.2.1 (h.2.2 w' z)
theorem nodul_not {p q : Nat} {s : St} {n u w : Nat} (h : nodul p q s n) (h1 : piv p q s n u) (h2 : dul p u s n w) : False := by
  rcases h with ⟨h3, h4⟩ | ⟨u', h3, h4⟩
  · rcases h1 with ⟨h5, -⟩ | ⟨-, h5, h6, -⟩
    · omega
    · exact h4 u h5 h6
  · rw [piv_uniq h1 h3] at h2
    exact h4 w h2.1 h2.2.1
def part (p : Nat) (s : St) (n u w : Nat) : St := su (su (spl s n w) (fcl p u w) 0) (fcl p u n) 1
def brc (p : Nat) (s : St) (n u w : Nat) (L : List St) (i : Nat) : Option (List St × Nat) := if (s (3 + 5 * w) = 1 ∧ n = 6) ∨ 40 < L.length + (if s (3 + 5 * w) = 1 then 2 else 1) then none else some (L.set i (su s (fcl p u w) 0) ++ (su s (fcl p u w) 1 :: if s (3 + 5 * w) = 1 then [part p s n u w] else []), i)
def fs1 (p q : Nat) (L : List St) (i : Nat) (x : Option (List St × Nat)) : Prop := ∃ n, L.getD i z0 0 = nI n ∧ n ≤ 6 ∧ ((nodul p q (L.getD i z0) n ∧ x = some (L, i + 1)) ∨ ∃ u w, piv p q (L.getD i z0) n u ∧ dul p u (L.getD i z0) n w ∧ x = brc p (L.getD i z0) n u w L i)
theorem fs1_uniq {p q : Nat} {L : List St} {i : Nat} {x y : Option (List St × Nat)} (h : fs1 p q L i x) (h' : fs1 p q L i y) : x = y := by
  obtain ⟨n, e, hn, h⟩ := h
  obtain ⟨n', e', hn', h'⟩ := h'
  have : n = n' := nI_inj (by omega) (by omega) (e.symm.trans e')
  subst this
  rcases h with ⟨h1, rfl⟩ | ⟨u, w, h1, h2, rfl⟩
  · rcases h' with ⟨h1', rfl⟩ | ⟨u', w', h1', h2', rfl⟩
    · rfl
    · exact (nodul_not h1 h1' h2').elim
  · rcases h' with ⟨h1', rfl⟩ | ⟨u', w', h1', h2', rfl⟩
    · exact (nodul_not h1' h1 h2).elim
    · have := piv_uniq h1 h1'
      subst this
      rw [dul_uniq h2 h2']
def FO (p q : Nat) : Nat → List St → Nat → Option (List St) → Prop
  | 0, L, i, r => L.length ≤ i ∧ r = some L
  | k + 1, L, i, r => i < L.length ∧ ∃ x, fs1 p q L i x ∧ ((x = none ∧ r = none) ∨ ∃ L' i', x = some (L', i') ∧ FO p q k L' i' r)
theorem FO_uniq {p q : Nat} : ∀ (k k' : Nat) (L : List St) (i : Nat) (r r' : Option (List St)), FO p q k L i r → FO p q k' L i r' → r = r'
  | 0, 0, L, i, r, r', h, h' => by rw [h.2, h'.2]
  | 0, k' + 1, L, i, r, r', h, h' => by have := h.1; have := h'.1; omega
  | k + 1, 0, L, i, r, r', h, h' => by have := h.1; have := h'.1; omega
  | k + 1, k' + 1, L, i, r, r', h, h' => by
    obtain ⟨-, x, h1, h2⟩ := h
    obtain ⟨-, x', h1', h2'⟩ := h'
    have := fs1_uniq h1 h1'
    subst this
    rcases h2 with ⟨rfl, rfl⟩ | ⟨L1, i1, rfl, h2⟩
    · rcases h2' with ⟨-, rfl⟩ | ⟨L2, i2, z, -⟩
      · rfl
      · cases z
    · rcases h2' with ⟨z, -⟩ | ⟨L2, i2, z, h2'⟩
      · cases z
      · cases z
        exact FO_uniq k k' L1 i1 r r' h2 h2'
def FOx (p q : Nat) (L : List St) (i : Nat) (r : Option (List St)) : Prop := ∃ k, FO p q k L i r
theorem FOx_end {p q : Nat} {L : List St} {i : Nat} (h : L.length ≤ i) : FOx p q L i (some L) := ⟨0, h, rfl⟩
theorem FOx_next {p q n : Nat} {L : List St} {i : Nat} {r : Option (List St)} (h : i < L.length) (hn : L.getD i z0 0 = nI n) (hn6 : n ≤ 6) (hd : nodul p q (L.getD i z0) n) (hr : FOx p q L (i + 1) r) : FOx p q L i r := by
  obtain ⟨k, hk⟩ := hr
  exact ⟨k + 1, h, _, ⟨n, hn, hn6, Or.inl ⟨hd, rfl⟩⟩, Or.inr ⟨_, _, rfl, hk⟩⟩
theorem FOx_fail {p q n u w : Nat} {L : List St} {i : Nat} (h : i < L.length) (hn : L.getD i z0 0 = nI n) (hn6 : n ≤ 6) (h1 : piv p q (L.getD i z0) n u) (h2 : dul p u (L.getD i z0) n w) (hb : brc p (L.getD i z0) n u w L i = none) : FOx p q L i none :=
  ⟨1, h, _, ⟨n, hn, hn6, Or.inr ⟨u, w, h1, h2, rfl⟩⟩, Or.inl ⟨hb, rfl⟩⟩
theorem FOx_step {p q n u w : Nat} {L L' : List St} {i i' : Nat} {r : Option (List St)} (h : i < L.length) (hn : L.getD i z0 0 = nI n) (hn6 : n ≤ 6) (h1 : piv p q (L.getD i z0) n u) (h2 : dul p u (L.getD i z0) n w) (hb : brc p (L.getD i z0) n u w L i = some (L', i')) (hr : FOx p q L' i' r) : FOx p q L i r := by
  obtain ⟨k, hk⟩ := hr
  exact ⟨k + 1, h, _, ⟨n, hn, hn6, Or.inr ⟨u, w, h1, h2, rfl⟩⟩, Or.inr ⟨_, _, hb, hk⟩⟩
/-- the program parts after it has set the cell to 0: it is the same -/
theorem part_c {p u w n : Nat} {s : St} (hp : 2 ≤ p) (hp8 : p < 8) (hn : n < 6) (hw : w < n) (hu : 6 ≤ p → u < n ∧ u ≠ w) : su (spl (su s (fcl p u w) 0) n w) (fcl p u n) 1 = part p s n u w := by
  funext k
  unfold part su
  by_cases z : k = fcl p u n
  · rw [if_pos z, if_pos z]
  · rw [if_neg z, if_neg z]
    unfold spl
    by_cases k0 : k = 0
    · rw [if_pos k0, if_pos k0]
      have : k ≠ fcl p u w := by unfold fcl; by_cases y : p < 6 <;> simp [y] <;> omega
      rw [if_neg this]
    · rw [if_neg k0, if_neg k0]
      by_cases k1 : k < 105
      · rw [if_pos k1, if_pos k1]
        have key : spi n w k = fcl p u w ↔ k = fcl p u w := by
          by_cases p6 : p < 6
          · rw [fcl_1 p6] at z ⊢
            unfold spi spx
            by_cases c3 : k < 3
            · rw [if_pos c3]
            · rw [if_neg c3]
              by_cases c33 : k < 33
              · rw [if_pos c33]
                by_cases e : (k - 3) / 5 = n
                · rw [if_pos e]; omega
                · rw [if_neg e]; omega
              · rw [if_neg c33]
                constructor
                · intro y; omega
                · intro y; omega
          · have hu := hu (by omega)
            rw [fcl_2 (by omega)] at z ⊢
            unfold spi spx
            by_cases c3 : k < 3
            · rw [if_pos c3]
            · rw [if_neg c3]
              by_cases c33 : k < 33
              · rw [if_pos c33]
                by_cases e : (k - 3) / 5 = n
                · rw [if_pos e]; omega
                · rw [if_neg e]; omega
              · rw [if_neg c33]
                by_cases e1 : (k - 33) / 12 = n
                · rw [if_pos e1]
                  by_cases e2 : (k - 33) % 12 / 2 = n
                  · rw [if_pos e2]; omega
                  · rw [if_neg e2]; omega
                · rw [if_neg e1]
                  by_cases e2 : (k - 33) % 12 / 2 = n
                  · rw [if_pos e2]; omega
                  · rw [if_neg e2]; omega
        by_cases y : k = fcl p u w
        · rw [if_pos y]
          exact if_pos (key.mpr y)
        · rw [if_neg y]
          exact if_neg (fun q => y (key.mp q))
      · rw [if_neg k1, if_neg k1]
        by_cases y : k = fcl p u w
        · rw [if_pos y]
        · rw [if_neg y]
theorem gd_mem {L : List St} {i : Nat} (h : i < L.length) : L.getD i z0 ∈ L := by
  rw [List.getD_eq_getElem?_getD, List.getElem?_eq_getElem h]
  exact List.getElem_mem h
