/-! start. -/
section OP14
variable {d : Nat} {t t' : T} {F : Option Value → T → Prop}
theorem std_eq {L S : List St} (h1 : L.Pairwise (fun a b => so a b ≤ 0)) (h2 : S.Pairwise (fun a b => so a b ≤ 0)) (hp : L.Perm S) (hw : ∀ x, x ∈ L → wfS x) : L = S := by
  refine List.Perm.eq_of_pairwise (le := fun a b => so a b ≤ 0) (fun a b ha hb hab hba => ?_) h1 h2 hp
  have wa := hw a ha
  have wb := hw b (hp.mem_iff.mpr hb)
  have := so_anti a b
  exact (so_zero wa wb).mp (by omega)
/-- all but what is started and recorded -/
def INVs (t : T) : Prop := ∃ q m ru rc ec Es, slI t 4 ∧ foI t q m ∧ ruI t q m ru rc ∧ edI t q m ec Es ∧ bgI t ∧ wkI t ∧ piI t
theorem INV.s (h : INV t) : INVs t := by
  obtain ⟨q, m, ru, rc, ec, Es, h1, h2, h3, h4, h5, h6, h7, -⟩ := h
  exact ⟨q, m, ru, rc, ec, Es, h1, h2, h3, h4, h5, h6, h7⟩
/-- writes among the started and the recorded -/
theorem INVs.c (h : INVs t) (i : ∀ x k, (x < 143 ∨ 160 < x) → x < 275 ∨ 483 ≤ x → t'.1 x k = t.1 x k) (r : ∀ x k, x < 275 ∨ 483 ≤ x → t'.2 x k = t.2 x k) (b : bgI t') : INVs t' := by
  obtain ⟨q, m, ru, rc, ec, Es, h1, h2, h3, h4, h5, h6, h7⟩ := h
  have mr : ∀ s, mS t' s = mS t s := fun s => by
    funext k; unfold mS; rw [i _ _ (by omega) (by omega)]
  have hpw : t.2 0 12 = 61 ∨ t.2 0 12 = 161 := by rcases h6 with z | z; exact Or.inr z.1; exact Or.inl z.1
  have b61 := bag_w.2.2.1
  have b161 := bag_w.2.2.2
  refine ⟨q, m, ru, rc, ec, Es, h1.k (fun x k a c => i x k (by omega) (by omega)) (fun s _ => mr s), h2.k (fun x k a => i x k (by omega) (by omega)) (i _ _ (by omega) (by omega)), h3.k (fun x k a => i x k (by omega) (by omega)) (i _ _ (by omega) (by omega)), h4.k (fun x k a => i x k (by omega) (by omega)) (i _ _ (by omega) (by omega)) (i _ _ (by omega) (by omega)), b, ?_, ?_⟩
  · unfold wkI; rw [r _ _ (by omega), r _ _ (by omega)]; exact h6
  · refine h7.k h5 h6 (r _ _ (by omega)) (fun x k hx => i x k ?_ ?_) (fun k => r _ _ (by omega)) (i _ _ (by omega) (by omega)) (fun s _ _ => mr s)
    all_goals (unfold bgF at hx; rcases hpw with e | e <;> rw [e] at hx <;> omega)
theorem INVs.r (h : INVs t) (i : ∀ b k, b < 503 → b ≠ 484 → t'.1 b k = t.1 b k) (r2 : t'.2 = t.2) (mr : ∀ s, s < 4 ∨ (100 ≤ s ∧ s < 140) → mS t' s = mS t s) (re : reI t') (sa : saI t') : INV t' := by
  obtain ⟨q, m, ru, rc, ec, Es, h1, h2, h3, h4, h5, h6, h7⟩ := h
  refine ⟨q, m, ru, rc, ec, Es, h1.k (fun b k a c => i b k (by omega) (by omega)) (fun s hs => mr s (by omega)), h2.k (fun b k a => i b k (by omega) (by omega)) (i _ _ (by omega) (by omega)), h3.k (fun b k a => i b k (by omega) (by omega)) (i _ _ (by omega) (by omega)), h4.k (fun b k a => i b k (by omega) (by omega)) (i _ _ (by omega) (by omega)) (i 0 13 (by omega) (by omega)), fun b hb => ((h5 b hb).k (t' := t') (fun k => by rw [r2])).1, ?_, ?_, re, sa⟩
  · unfold wkI; rw [r2]; exact h6
  · have hpw : t.2 0 12 = 61 ∨ t.2 0 12 = 161 := by rcases h6 with z | z; exact Or.inr z.1; exact Or.inl z.1
    have b61 := bag_w.2.2.1
    have b161 := bag_w.2.2.2
    refine h7.k h5 h6 (by rw [r2]) (fun x k hx => i x k ?_ ?_) (fun k => by rw [r2]) (i _ _ (by omega) (by omega)) (fun s h1 h2 => mr s (by omega))
    all_goals (unfold bgF at hx; rcases hpw with e | e <;> rw [e] at hx <;> omega)
/-- what is started, told of all points at once -/
theorem saI.all (h : saI t) : ∃ S S' : Nat → List St, ∀ p, p < 4 → (S p).length ≤ 12 ∧ ((S p).Nodup ∧ (S p).Pairwise (fun a b => so a b ≤ 0)) ∧ (S p).Perm (S' p) ∧ liI t (275 + 52 * p) (S p) ∧ t.1 504 p = nI (S' p).length ∧ rwI t (52 + 12 * p) (S' p) := by
  have c : ∀ p, ∃ S S' : List St, p < 4 → S.length ≤ 12 ∧ (S.Nodup ∧ S.Pairwise (fun a b => so a b ≤ 0)) ∧ S.Perm S' ∧ liI t (275 + 52 * p) S ∧ t.1 504 p = nI S'.length ∧ rwI t (52 + 12 * p) S' := fun p => by
    by_cases z : p < 4
    · obtain ⟨S, S', x⟩ := h p z
      exact ⟨S, S', fun _ => x⟩
    · exact ⟨[], [], fun y => absurd y z⟩
  exact ⟨fun p => Classical.choose (c p), fun p => Classical.choose (Classical.choose_spec (c p)), fun p hp => Classical.choose_spec (Classical.choose_spec (c p)) hp⟩
end OP14
