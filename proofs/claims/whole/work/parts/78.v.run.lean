/-! To run: what is reached. -/
section RUN
variable {q : FT} {m rc ec : Nat} {ru Es : Nat → Nat → Nat} {S : Nat → List St}
theorem nd_len {α : Type} [DecidableEq α] : ∀ (L M : List α), L.Nodup → (∀ x, x ∈ L → x ∈ M) → L.length ≤ M.length
  | [], M, _, _ => Nat.zero_le _
  | a :: L, M, hn, hs => by
    have h1 := List.nodup_cons.mp hn
    have ha : a ∈ M := hs a (List.mem_cons_self ..)
    have := nd_len L (M.erase a) h1.2 (fun x hx => by
      have hne : x ≠ a := fun e => h1.1 (e ▸ hx)
      exact (List.mem_erase_of_ne hne).mpr (hs x (List.mem_cons_of_mem _ hx)))
    rw [List.length_erase_of_mem ha] at this
    have : 0 < M.length := List.length_pos_of_mem ha
    simp only [List.length_cons]
    omega
theorem nd_perm {α : Type} [DecidableEq α] : ∀ (L M : List α), L.Nodup → M.Nodup → (∀ x, x ∈ L ↔ x ∈ M) → L.Perm M
  | [], M, _, _, h => by
    have : M = [] := by
      cases M with
      | nil => rfl
      | cons a M => exact absurd ((h a).mpr (List.mem_cons_self ..)) (by simp)
    rw [this]
  | a :: L, M, hn, hm, h => by
    have h1 := List.nodup_cons.mp hn
    have ha : a ∈ M := (h a).mp (List.mem_cons_self ..)
    refine List.Perm.trans ?_ (List.perm_cons_erase ha).symm
    refine List.Perm.cons a (nd_perm L (M.erase a) h1.2 (hm.erase a) (fun x => ?_))
    constructor
    · intro hx
      have hne : x ≠ a := fun e => h1.1 (e ▸ hx)
      exact (List.mem_erase_of_ne hne).mpr ((h x).mp (List.mem_cons_of_mem _ hx))
    · intro hx
      have hxm := List.mem_of_mem_erase hx
      rcases List.mem_cons.mp ((h x).mpr hxm) with e | e
      · subst e
        exact absurd hx (List.Nodup.not_mem_erase hm)
      · exact e
/-- reached in k rounds -/
def rch (q : FT) (ru : Nat → Nat → Nat) (rc ec : Nat) (Es : Nat → Nat → Nat) (S : Nat → List St) : Nat → Nat → St → Prop
  | 0, p, x => x ∈ S p
  | k + 1, p, x => ∃ y e K z, rch q ru rc ec Es S k (Es e 0) y ∧ e < ec ∧ MV q ru rc (Es e) y (some K) ∧ z ∈ K ∧ BLU z (sn z) x ∧ Es e 1 = p
def Rch (q : FT) (ru : Nat → Nat → Nat) (rc ec : Nat) (Es : Nat → Nat → Nat) (S : Nat → List St) (p : Nat) (x : St) : Prop := ∃ k, rch q ru rc ec Es S k p x
/-- nothing is new any more -/
def clsd (q : FT) (ru : Nat → Nat → Nat) (rc ec : Nat) (Es : Nat → Nat → Nat) (X : Nat → List St) (p : Nat) (x : St) : Prop := ∀ e, e < ec → Es e 0 = p → ∃ K, MV q ru rc (Es e) x (some K) ∧ ∀ z, z ∈ K → ∃ g, g ∈ X (Es e 1) ∧ BLU z (sn z) g
def goodX (q : FT) (ru : Nat → Nat → Nat) (rc ec : Nat) (Es : Nat → Nat → Nat) (S X : Nat → List St) : Prop := ∀ p, p < 4 → (X p).length ≤ 12 ∧ (X p).Nodup ∧ (∀ x, x ∈ S p → x ∈ X p) ∧ (∀ x, x ∈ X p → wfS x ∧ Rch q ru rc ec Es S p x) ∧ ∀ x, x ∈ X p → clsd q ru rc ec Es X p x
def badX (q : FT) (ru : Nat → Nat → Nat) (rc ec : Nat) (Es : Nat → Nat → Nat) (S : Nat → List St) : Prop := (∃ p x e, p < 4 ∧ wfS x ∧ Rch q ru rc ec Es S p x ∧ e < ec ∧ Es e 0 = p ∧ MV q ru rc (Es e) x none) ∨ ∃ (p : Nat) (L : List St), p < 4 ∧ L.Nodup ∧ L.length = 13 ∧ ∀ x, x ∈ L → Rch q ru rc ec Es S p x
theorem Rch_in {X : Nat → List St} (hw : ∀ i, i < m → fwf q i) (hr : rwf q m ru rc) (hE : ∀ e, e < ec → ewf q m (Es e)) (hX : goodX q ru rc ec Es S X) : ∀ (k p : Nat) (x : St), p < 4 → rch q ru rc ec Es S k p x → x ∈ X p
  | 0, p, x, hp, h => (hX p hp).2.2.1 x h
  | k + 1, p, x, hp, h => by
    obtain ⟨y, e, K, z, h1, h2, h3, h4, h5, h6⟩ := h
    have e0 := (hE e h2).1
    have hy := Rch_in hw hr hE hX k (Es e 0) y e0 h1
    obtain ⟨-, -, -, g4, g5⟩ := hX (Es e 0) e0
    obtain ⟨K', m1, m2⟩ := g5 y hy e h2 rfl
    have := MV_uniq hw hr (hE e h2) (g4 y hy).1 h3 m1
    cases this
    obtain ⟨g, hg, bg⟩ := m2 z h4
    rw [h5.uniq bg, ← h6]
    exact hg
theorem good_bad {X : Nat → List St} (hw : ∀ i, i < m → fwf q i) (hr : rwf q m ru rc) (hE : ∀ e, e < ec → ewf q m (Es e)) (hX : goodX q ru rc ec Es S X) (hB : badX q ru rc ec Es S) : False := by
  rcases hB with ⟨p, x, e, hp, hx, ⟨k, hk⟩, he, ep, hm⟩ | ⟨p, L, hp, hn, hl, hL⟩
  · have hi := Rch_in hw hr hE hX k p x hp hk
    obtain ⟨K, m1, -⟩ := (hX p hp).2.2.2.2 x hi e he ep
    have := MV_uniq hw hr (hE e he) hx hm m1
    cases this
  · have := @nd_len St (fun a b => Classical.propDecidable _) L (X p) hn (fun x hx => by
      obtain ⟨k, hk⟩ := hL x hx
      exact Rch_in hw hr hE hX k p x hp hk)
    have := (hX p hp).1
    omega
theorem good_perm {X Y : Nat → List St} (hw : ∀ i, i < m → fwf q i) (hr : rwf q m ru rc) (hE : ∀ e, e < ec → ewf q m (Es e)) (hX : goodX q ru rc ec Es S X) {S2 : Nat → List St} (hS : ∀ p, p < 4 → ∀ x, x ∈ S p ↔ x ∈ S2 p) (hY : goodX q ru rc ec Es S Y) : ∀ p, p < 4 → (X p).Perm (Y p) := fun p hp => by
  refine @nd_perm St (fun a b => Classical.propDecidable _) _ _ (hX p hp).2.1 (hY p hp).2.1 (fun x => ⟨fun hx => ?_, fun hx => ?_⟩)
  · obtain ⟨k, hk⟩ := ((hX p hp).2.2.2.1 x hx).2
    exact Rch_in hw hr hE hY k p x hp hk
  · obtain ⟨k, hk⟩ := ((hY p hp).2.2.2.1 x hx).2
    exact Rch_in hw hr hE hX k p x hp hk
/-- what is reached hangs on the members of what is started alone -/
theorem rch_congr {S2 : Nat → List St} (hE : ∀ e, e < ec → ewf q m (Es e)) (hS : ∀ p, p < 4 → ∀ x, x ∈ S p → x ∈ S2 p) : ∀ (k p : Nat) (x : St), p < 4 → rch q ru rc ec Es S k p x → rch q ru rc ec Es S2 k p x
  | 0, p, x, hp, h => hS p hp x h
  | k + 1, p, x, hp, h => by
    obtain ⟨y, e, K, z, h1, h2, h3⟩ := h
    exact ⟨y, e, K, z, rch_congr hE hS k _ y (hE e h2).1 h1, h2, h3⟩
end RUN
