/-! To move along an edge: what it is. -/
section MV
variable {q : FT} {m n rc : Nat} {ru : Nat → Nat → Nat} {E : Nat → Nat}
def vld (p n u w : Nat) : Prop := (p < 2 ∧ u = 0 ∧ w = 0) ∨ (2 ≤ p ∧ p < 6 ∧ u < n ∧ w = 0) ∨ (6 ≤ p ∧ u < n ∧ w < n)
def CH1 (q : FT) (b : St) (n p i : Nat) (g g' : St) : Prop := (∀ u w, vld p n u w → g' (cel p u w + 1) = EV q b n i (e2 u w)) ∧ ∀ k, (∀ u w, vld p n u w → k ≠ cel p u w + 1) → g' k = g k
def CHS (q : FT) (b : St) (n : Nat) (E : Nat → Nat) : Nat → St → Prop
  | 0, g => g = b
  | j + 1, g => ∃ h, CHS q b n E j h ∧ CH1 q b n (E (7 + j)) (E (11 + j)) h g
theorem CH1_uniq {b : St} {p i : Nat} {g h h' : St} (h1 : CH1 q b n p i g h) (h2 : CH1 q b n p i g h') : h = h' := by
  funext k
  by_cases z : ∃ u w, vld p n u w ∧ k = cel p u w + 1
  · obtain ⟨u, w, hv, rfl⟩ := z
    rw [h1.1 u w hv, h2.1 u w hv]
  · have : ∀ u w, vld p n u w → k ≠ cel p u w + 1 := fun u w hv e => z ⟨u, w, hv, e⟩
    rw [h1.2 k this, h2.2 k this]
theorem CHS_uniq {b : St} : ∀ (j : Nat) (g g' : St), CHS q b n E j g → CHS q b n E j g' → g = g'
  | 0, g, g', h, h' => by
    have e1 : g = b := h
    have e2 : g' = b := h'
    rw [e1, e2]
  | j + 1, g, g', h, h' => by
    obtain ⟨x, h1, h2⟩ := h
    obtain ⟨x', h1', h2'⟩ := h'
    have := CHS_uniq j x x' h1 h1'
    subst this
    exact CH1_uniq h2 h2'
/-- an edge as it is kept -/
def ewf (q : FT) (m : Nat) (E : Nat → Nat) : Prop := E 0 < 4 ∧ E 1 < 4 ∧ ((2 ≤ E 2 ∧ E 2 < 8) ∨ E 2 = 15) ∧ (6 ≤ E 2 → E 2 < 8 → 2 ≤ E 3 ∧ E 3 < 6) ∧ E 3 < 16 ∧ E 4 < 2 ∧ E 5 < m ∧ fr q (E 5) = 0 ∧ E 6 ≤ 4 ∧ ∀ j, j < E 6 → E (7 + j) < 8 ∧ E (11 + j) < m ∧ fr q (E (11 + j)) ≤ (if E (7 + j) < 2 then 0 else if E (7 + j) < 6 then 1 else 3)
theorem vld_r {p u w : Nat} (hn : n ≤ 6) (h : vld p n u w) : u < 6 ∧ w < 6 := by unfold vld at h; omega
/-- what the formula of a change looks at is there -/
theorem vld_e {i p u w : Nat} (h3 : fr q i ≤ (if p < 2 then 0 else if p < 6 then 1 else 3)) (h : vld p n u w) : fr q i ≤ 3 ∧ ∀ v, fb q i v → e2 u w v < n := by
  have h33 : fr q i ≤ 3 := by
    by_cases a : p < 2
    · rw [if_pos a] at h3; omega
    · rw [if_neg a] at h3
      by_cases b : p < 6
      · rw [if_pos b] at h3; omega
      · rw [if_neg b] at h3; exact h3
  refine ⟨h33, fun v hv => ?_⟩
  have hv2 := fb3 h33 hv
  have b1 : fr q i ≤ 1 → v = 0 := fun z => by
    apply Nat.le_antisymm _ (Nat.zero_le _)
    apply Nat.le_of_not_lt
    intro y
    have e : v = 1 := by omega
    subst e
    unfold fb at hv
    have : (fr q i).testBit 1 = false := Nat.testBit_lt_two_pow (show fr q i < 2 ^ 1 by omega)
    rw [this] at hv; cases hv
  have b0 : fr q i ≠ 0 := fun z => by
    unfold fb at hv
    rw [z, Nat.zero_testBit] at hv; cases hv
  rcases h with ⟨a, -⟩ | ⟨a, b, c, -⟩ | ⟨a, b, c⟩
  · rw [if_pos a] at h3; omega
  · rw [if_neg (by omega), if_pos b] at h3
    rw [b1 h3]; exact c
  · exact e2_lt b c hv2
theorem CH1_wf {b g g' : St} {p i : Nat} (hw : ∀ i, i < m → fwf q i) (hb : wfS b) (hn6 : n ≤ 6) (hg : wfS g) (hgn : g 0 = nI n) (hp : p < 8) (hi : i < m) (h3 : fr q i ≤ (if p < 2 then 0 else if p < 6 then 1 else 3)) (h : CH1 q b n p i g g') : wfS g' ∧ g' 0 = nI n := by
  have tv : ∀ u w, vld p n u w → tri (g' (cel p u w + 1)) := fun u w hv => by
    rw [h.1 u w hv]
    exact EV_tri hw hb hn6 i hi _ (vld_e h3 hv).2
  have cv : ∀ u w, vld p n u w → (p < 2 ∧ cel p u w + 1 = p + 1) ∨ (2 ≤ p ∧ p < 6 ∧ u < n ∧ cel p u w + 1 = 2 + 5 * u + p) ∨ (6 ≤ p ∧ u < n ∧ w < n ∧ cel p u w + 1 = 27 + 12 * u + 2 * w + p) := fun u w hv => by
    rcases hv with ⟨a, -⟩ | ⟨a, b, c, -⟩ | ⟨a, b, c⟩
    · refine Or.inl ⟨a, ?_⟩; unfold cel; rw [if_pos a]
    · exact Or.inr (Or.inl ⟨a, b, c, cel1 a b⟩)
    · exact Or.inr (Or.inr ⟨a, b, c, cel2 a⟩)
  obtain ⟨⟨n', hn', e0, z1, z2, z3⟩, h2, h3', h4⟩ := hg
  have en : n' = n := nI_inj (by omega) (by omega) (e0.symm.trans hgn)
  subst en
  have at0 : g' 0 = nI n' := by rw [h.2 0 (fun u w hv => by omega)]; exact hgn
  refine ⟨⟨⟨n', hn', at0, fun x hx hx6 => ?_, fun p' x a1 a2 hx hx6 => ?_, fun p' x y a1 a2 hx hy hxy => ?_⟩, fun k k0 k1 => ?_, fun x hx => ?_, fun k hk => ?_⟩, at0⟩
  · rw [h.2 _ (fun u w hv => by have := cv u w hv; omega)]; exact z1 x hx hx6
  · rw [h.2 _ (fun u w hv => by have := cv u w hv; rw [cel1 a1 a2]; omega)]; exact z2 p' x a1 a2 hx hx6
  · rw [h.2 _ (fun u w hv => by have := cv u w hv; have := vld_r hn6 hv; rw [cel2 a1]; omega)]; exact z3 p' x y a1 a2 hx hy hxy
  · by_cases z : ∃ u w, vld p n' u w ∧ k = cel p u w + 1
    · obtain ⟨u, w, hv, rfl⟩ := z
      exact tv u w hv
    · rw [h.2 k (fun u w hv e => z ⟨u, w, hv, e⟩)]; exact h2 k k0 k1
  · rw [h.2 _ (fun u w hv => by have := cv u w hv; omega)]; exact h3' x hx
  · rw [h.2 _ (fun u w hv => by have := cv u w hv; have := vld_r hn6 hv; omega)]; exact h4 k hk
theorem CHS_wf {b : St} (hw : ∀ i, i < m → fwf q i) (hb : wfS b) (hbn : b 0 = nI n) (hn6 : n ≤ 6) (hE : ewf q m E) : ∀ (j : Nat) (g : St), j ≤ E 6 → CHS q b n E j g → wfS g ∧ g 0 = nI n
  | 0, g, _, h => by
    have : g = b := h
    rw [this]; exact ⟨hb, hbn⟩
  | j + 1, g, hj, h => by
    obtain ⟨x, h1, h2⟩ := h
    have ih := CHS_wf hw hb hbn hn6 hE j x (by omega) h1
    obtain ⟨a1, a2, a3⟩ := hE.2.2.2.2.2.2.2.2.2 j (by omega)
    exact CH1_wf hw hb hn6 ih.1 ih.2 a1 a2 a3 h2
def nx (E : Nat → Nat) (n : Nat) : Nat := if E 4 = 1 then n + 1 else n
def crx (E : Nat → Nat) (s : St) (n : Nat) : St := if E 4 = 1 then crt s n else s
/-- one structure, focused already -/
def MO1 (q : FT) (ru : Nat → Nat → Nat) (rc : Nat) (E : Nat → Nat) (s : St) (x : Option (Option St)) : Prop := ∃ n, s 0 = nI n ∧ n ≤ 6 ∧ ((EV q s n (E 5) (e2 0 0) = 0 ∧ x = some none) ∨ (EV q s n (E 5) (e2 0 0) ≠ 0 ∧ (E 4 = 1 ∧ n = 6) ∧ x = none) ∨ (EV q s n (E 5) (e2 0 0) ≠ 0 ∧ ¬ (E 4 = 1 ∧ n = 6) ∧ ∃ g r, CHS q (crx E s n) (nx E n) E (E 6) g ∧ CO q (nx E n) ru rc g r ∧ x = some r))
theorem crx_wf {s : St} (hs : wfS s) (hn : s 0 = nI n) (hn6 : n ≤ 6) (h : ¬ (E 4 = 1 ∧ n = 6)) : wfS (crx E s n) ∧ crx E s n 0 = nI (nx E n) ∧ nx E n ≤ 6 := by
  unfold crx nx
  by_cases e : E 4 = 1
  · have : n < 6 := by omega
    rw [if_pos e, if_pos e]
    exact ⟨crt_wf hs hn this, rfl, by omega⟩
  · rw [if_neg e, if_neg e]; exact ⟨hs, hn, hn6⟩
theorem MO1_uniq {s : St} {x y : Option (Option St)} (hw : ∀ i, i < m → fwf q i) (hr : rwf q m ru rc) (hE : ewf q m E) (hs : wfS s) (h : MO1 q ru rc E s x) (h' : MO1 q ru rc E s y) : x = y := by
  obtain ⟨n, e, hn, h⟩ := h
  obtain ⟨n', e', hn', h'⟩ := h'
  have : n = n' := nI_inj (by omega) (by omega) (e.symm.trans e')
  subst this
  rcases h with ⟨a1, rfl⟩ | ⟨a1, a2, rfl⟩ | ⟨a1, a2, g, r, a3, a4, rfl⟩
  · rcases h' with ⟨b1, rfl⟩ | ⟨b1, -⟩ | ⟨b1, -⟩
    · rfl
    · exact absurd a1 b1
    · exact absurd a1 b1
  · rcases h' with ⟨b1, -⟩ | ⟨b1, b2, rfl⟩ | ⟨b1, b2, -⟩
    · exact absurd b1 a1
    · rfl
    · exact absurd a2 b2
  · rcases h' with ⟨b1, -⟩ | ⟨b1, b2, -⟩ | ⟨b1, b2, g', r', b3, b4, rfl⟩
    · exact absurd b1 a1
    · exact absurd b2 a2
    · have c := crx_wf hs e hn a2
      have := CHS_uniq _ g g' a3 b3
      subst this
      have w := CHS_wf hw c.1 c.2.1 c.2.2 hE _ g (Nat.le_refl _) a3
      rw [CO_uniq hw hr w.1 w.2 c.2.2 a4 b4]
theorem MO1_wf {s : St} {g : St} (hw : ∀ i, i < m → fwf q i) (hr : rwf q m ru rc) (hE : ewf q m E) (hs : wfS s) (h : MO1 q ru rc E s (some (some g))) : wfS g := by
  obtain ⟨n, e, hn, h⟩ := h
  rcases h with ⟨a1, a2⟩ | ⟨a1, a2, a3⟩ | ⟨a1, a2, g', r, a3, a4, a5⟩
  · cases a2
  · cases a3
  · cases a5
    have c := crx_wf hs e hn a2
    have w := CHS_wf hw c.1 c.2.1 c.2.2 hE _ g' (Nat.le_refl _) a3
    obtain ⟨⟨k, hk⟩, -⟩ := a4
    exact (stk.ok hr w.1 w.2 c.2.2 k g hk).1
def MVA (q : FT) (ru : Nat → Nat → Nat) (rc : Nat) (E : Nat → Nat) : List St → List St → Option (List St) → Prop
  | [], K, r => r = some K
  | s :: R, K, r => ∃ x, MO1 q ru rc E s x ∧ ((x = none ∧ r = none) ∨ (x = some none ∧ MVA q ru rc E R K r) ∨ ∃ g, x = some (some g) ∧ MVA q ru rc E R (K ++ [g]) r)
theorem MVA_uniq (hw : ∀ i, i < m → fwf q i) (hr : rwf q m ru rc) (hE : ewf q m E) : ∀ (R K : List St) (r r' : Option (List St)), (∀ s, s ∈ R → wfS s) → MVA q ru rc E R K r → MVA q ru rc E R K r' → r = r'
  | [], K, r, r', _, h, h' => by
    have e1 : r = some K := h
    have e2 : r' = some K := h'
    rw [e1, e2]
  | s :: R, K, r, r', hs, h, h' => by
    obtain ⟨x, h1, h2⟩ := h
    obtain ⟨x', h1', h2'⟩ := h'
    have := MO1_uniq hw hr hE (hs s (List.mem_cons_self ..)) h1 h1'
    subst this
    have hs' : ∀ s, s ∈ R → wfS s := fun s h => hs s (List.mem_cons_of_mem _ h)
    rcases h2 with ⟨rfl, rfl⟩ | ⟨rfl, h2⟩ | ⟨g, rfl, h2⟩
    · rcases h2' with ⟨-, rfl⟩ | ⟨z, -⟩ | ⟨g', z, -⟩
      · rfl
      · cases z
      · cases z
    · rcases h2' with ⟨z, -⟩ | ⟨-, h2'⟩ | ⟨g', z, -⟩
      · cases z
      · exact MVA_uniq hw hr hE R K r r' hs' h2 h2'
      · cases z
    · rcases h2' with ⟨z, -⟩ | ⟨z, -⟩ | ⟨g', z, h2'⟩
      · cases z
      · cases z
      · cases z
        exact MVA_uniq hw hr hE R _ r r' hs' h2 h2'
theorem MVA_wf (hw : ∀ i, i < m → fwf q i) (hr : rwf q m ru rc) (hE : ewf q m E) : ∀ (R K L : List St), (∀ s, s ∈ R → wfS s) → (∀ s, s ∈ K → wfS s) → MVA q ru rc E R K (some L) → (∀ s, s ∈ L → wfS s) ∧ L.length ≤ K.length + R.length
  | [], K, L, _, hk, h => by
    have : some L = some K := h
    cases this
    exact ⟨hk, by simp⟩
  | s :: R, K, L, hs, hk, h => by
    obtain ⟨x, h1, h2⟩ := h
    have hs' : ∀ s, s ∈ R → wfS s := fun s h => hs s (List.mem_cons_of_mem _ h)
    rcases h2 with ⟨-, z⟩ | ⟨rfl, h2⟩ | ⟨g, rfl, h2⟩
    · cases z
    · have := MVA_wf hw hr hE R K L hs' hk h2
      exact ⟨this.1, by have := this.2; simp only [List.length_cons]; omega⟩
    · have wg := MO1_wf hw hr hE (hs s (List.mem_cons_self ..)) h1
      have := MVA_wf hw hr hE R (K ++ [g]) L hs' (fun y hy => by
        rcases List.mem_append.mp hy with hy | hy
        · exact hk y hy
        · rw [List.mem_singleton.mp hy]; exact wg) h2
      exact ⟨this.1, by have := this.2; simp only [List.length_append, List.length_cons, List.length_nil] at this ⊢; omega⟩
end MV
