/-! To move: what comes out is well kept, and is one. -/
section MV2
variable {q : FT} {m n rc : Nat} {ru : Nat → Nat → Nat} {E : Nat → Nat}
theorem fcl_wf {s : St} {p u w c : Nat} (hp : 2 ≤ p) (hp8 : p < 8) (hs : wfS s) (hn : s 0 = nI n) (hn6 : n ≤ 6) (hw : w < n) (hu : 6 ≤ p → u < n) (hc : c < 2) : wfS (su s (fcl p u w) (nI c)) ∧ su s (fcl p u w) (nI c) 0 = nI n := by
  by_cases p6 : p < 6
  · have := su_wf (u := w) (w := 0) (c := c) hs hn hn6 hp (by omega) hw (by omega) hc
    unfold ck cv at this
    rw [if_neg (by omega), if_neg (by omega), cel1 hp p6, ← fcl_1 (u := u) p6] at this
    exact this
  · have := su_wf (u := u) (w := w) (c := c) hs hn hn6 hp (by omega) (hu (by omega)) hw hc
    unfold ck cv at this
    rw [if_neg (by omega), if_neg (by omega), cel2 (by omega), ← fcl_2 (by omega)] at this
    exact this
theorem part_wf {s : St} {p u w : Nat} (hp : 2 ≤ p) (hp8 : p < 8) (hs : wfS s) (hn : s 0 = nI n) (hn6 : n < 6) (hw : w < n) (hu : 6 ≤ p → u < n) : wfS (part p s n u w) := by
  have h1 := spl_wf hs hn hn6 hw
  have h2 := fcl_wf (u := u) (w := w) (c := 0) hp hp8 h1 (n := n + 1) rfl (by omega) (by omega) (fun h => by have := hu h; omega) (by omega)
  exact (fcl_wf (u := u) (w := n) (c := 1) hp hp8 h2.1 h2.2 (by omega) (by omega) (fun h => by have := hu h; omega) (by omega)).1
theorem piv_lt {p a : Nat} {s : St} {u : Nat} (h : piv p a s n u) : 6 ≤ p → u < n := by
  intro h6
  rcases h with ⟨h1, -⟩ | ⟨-, h1, -⟩
  · omega
  · exact h1
theorem brc_wf {p a u w : Nat} {s : St} {L L' : List St} {i i' : Nat} (hp : 2 ≤ p) (hp8 : p < 8) (hL : ∀ x, x ∈ L → wfS x) (hs : wfS s) (hn : s 0 = nI n) (hn6 : n ≤ 6) (h1 : piv p a s n u) (h2 : dul p u s n w) (h : brc p s n u w L i = some (L', i')) : (∀ x, x ∈ L' → wfS x) ∧ L'.length ≤ 40 ∧ i' = i ∧ L.length < L'.length := by
  unfold brc at h
  by_cases z : (s (3 + 5 * w) = 1 ∧ n = 6) ∨ 40 < L.length + (if s (3 + 5 * w) = 1 then 2 else 1)
  · rw [if_pos z] at h; cases h
  · rw [if_neg z] at h
    cases h
    have w0 := (fcl_wf (u := u) (c := 0) hp hp8 hs hn hn6 h2.1 (piv_lt h1) (by omega)).1
    have w1 := (fcl_wf (u := u) (c := 1) hp hp8 hs hn hn6 h2.1 (piv_lt h1) (by omega)).1
    have ws : ∀ x, x ∈ L.set i (su s (fcl p u w) 0) → wfS x := fun x hx => by
      rcases List.mem_or_eq_of_mem_set hx with hx | hx
      · exact hL x hx
      · rw [hx]; exact w0
    by_cases y : s (3 + 5 * w) = 1
    · rw [if_pos y]
      rw [if_pos y] at z
      refine ⟨fun x hx => ?_, ?_, rfl, ?_⟩
      · rcases List.mem_append.mp hx with hx | hx
        · exact ws x hx
        · rcases List.mem_cons.mp hx with hx | hx
          · rw [hx]; exact w1
          · rw [List.mem_singleton.mp hx]
            have n6 : n ≠ 6 := fun e => z (Or.inl ⟨y, e⟩)
            exact part_wf hp hp8 hs hn (by omega) h2.1 (piv_lt h1)
      · simp only [List.length_append, List.length_set, List.length_cons, List.length_nil]; omega
      · simp only [List.length_append, List.length_set, List.length_cons, List.length_nil]; omega
    · rw [if_neg y]
      rw [if_neg y] at z
      refine ⟨fun x hx => ?_, ?_, rfl, ?_⟩
      · rcases List.mem_append.mp hx with hx | hx
        · exact ws x hx
        · rw [List.mem_singleton.mp hx]; exact w1
      · simp only [List.length_append, List.length_set, List.length_cons, List.length_nil]; omega
      · simp only [List.length_append, List.length_set, List.length_cons, List.length_nil]; omega
theorem FO_wf {p a : Nat} (hp : 2 ≤ p) (hp8 : p < 8) : ∀ (k : Nat) (L : List St) (i : Nat) (L' : List St), (∀ x, x ∈ L → wfS x) → L.length ≤ 40 → FO p a k L i (some L') → (∀ x, x ∈ L' → wfS x) ∧ L'.length ≤ 40
  | 0, L, i, L', hL, h40, h => by
    have := h.2
    cases this
    exact ⟨hL, h40⟩
  | k + 1, L, i, L', hL, h40, h => by
    obtain ⟨hi, x, ⟨n, e, hn, h1⟩, h2⟩ := h
    rcases h2 with ⟨-, z⟩ | ⟨L1, i1, rfl, h2⟩
    · cases z
    · rcases h1 with ⟨-, z⟩ | ⟨u, w, b1, b2, b3⟩
      · cases z
        exact FO_wf hp hp8 k _ _ L' hL h40 h2
      · have hm := gd_mem hi
        have := brc_wf hp hp8 hL (hL _ hm) e hn b1 b2 b3.symm
        exact FO_wf hp hp8 k L1 i1 L' this.1 this.2.1 h2
def MV (q : FT) (ru : Nat → Nat → Nat) (rc : Nat) (E : Nat → Nat) (f : St) (r : Option (List St)) : Prop := ∃ o, ((E 2 = 15 ∧ o = some [f]) ∨ (E 2 ≠ 15 ∧ FOx (E 2) (E 3) [f] 0 o)) ∧ ((o = none ∧ r = none) ∨ ∃ L, o = some L ∧ MVA q ru rc E L [] r)
theorem MV_uniq {f : St} {r r' : Option (List St)} (hw : ∀ i, i < m → fwf q i) (hr : rwf q m ru rc) (hE : ewf q m E) (hf : wfS f) (h : MV q ru rc E f r) (h' : MV q ru rc E f r') : r = r' := by
  obtain ⟨o, h1, h2⟩ := h
  obtain ⟨o', h1', h2'⟩ := h'
  have h1f : ∀ x, x ∈ [f] → wfS x := fun x hx => by rw [List.mem_singleton.mp hx]; exact hf
  have eo : o = o' ∧ ∀ L, o = some L → ∀ x, x ∈ L → wfS x := by
    rcases h1 with ⟨a1, a2⟩ | ⟨a1, k, a2⟩
    · rcases h1' with ⟨b1, b2⟩ | ⟨b1, -⟩
      · refine ⟨by rw [a2, b2], fun L hL => ?_⟩
        rw [a2] at hL; cases hL; exact h1f
      · exact absurd a1 b1
    · rcases h1' with ⟨b1, -⟩ | ⟨b1, k', b2⟩
      · exact absurd b1 a1
      · have h28 := hE.2.2.1
        refine ⟨FO_uniq k k' _ _ _ _ a2 b2, fun L hL => ?_⟩
        rw [hL] at a2
        exact (FO_wf (by omega) (by omega) k _ _ L h1f (by simp) a2).1
  obtain ⟨rfl, wL⟩ := eo
  rcases h2 with ⟨rfl, rfl⟩ | ⟨L, rfl, h2⟩
  · rcases h2' with ⟨-, rfl⟩ | ⟨L', z, -⟩
    · rfl
    · cases z
  · rcases h2' with ⟨z, -⟩ | ⟨L', z, h2'⟩
    · cases z
    · cases z
      exact MVA_uniq hw hr hE L [] r r' (wL L rfl) h2 h2'
theorem MV_wf {f : St} {L : List St} (hw : ∀ i, i < m → fwf q i) (hr : rwf q m ru rc) (hE : ewf q m E) (hf : wfS f) (h : MV q ru rc E f (some L)) : (∀ s, s ∈ L → wfS s) ∧ L.length ≤ 40 := by
  obtain ⟨o, h1, h2⟩ := h
  have h1f : ∀ x, x ∈ [f] → wfS x := fun x hx => by rw [List.mem_singleton.mp hx]; exact hf
  have eo : ∀ L, o = some L → (∀ x, x ∈ L → wfS x) ∧ L.length ≤ 40 := by
    intro L hL
    rcases h1 with ⟨a1, a2⟩ | ⟨a1, k, a2⟩
    · rw [a2] at hL; cases hL; exact ⟨h1f, by simp⟩
    · have h28 := hE.2.2.1
      rw [hL] at a2
      exact FO_wf (by omega) (by omega) k _ _ L h1f (by simp) a2
  rcases h2 with ⟨-, z⟩ | ⟨L0, rfl, h2⟩
  · cases z
  · have w := eo L0 rfl
    have := MVA_wf hw hr hE L0 [] L w.1 (fun s hs => by cases hs) h2
    exact ⟨this.1, by have := this.2; simp only [List.length_nil] at this; omega⟩
end MV2
