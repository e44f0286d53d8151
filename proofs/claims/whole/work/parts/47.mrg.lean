/-! The merger: step by step. -/
def bd (u w u' w' : Nat) : Prop := u' < u ∨ (u' = u ∧ w' < w)
def SJb (f : St) (n p x y u w : Nat) : Int32 → Prop := fun z => ∃ u' w', u' < n ∧ w' < n ∧ bd u w u' w' ∧ PL f n u' = x ∧ PL f n w' = y ∧ z = f (27 + 12 * u' + 2 * w' + p)
def mulb (f : St) (n U x : Nat) : Prop := ∃ u, u < U ∧ u < n ∧ PL f n u = x ∧ (f (3 + 5 * u) = 1 ∨ ¬ fst1 f u)
def BI (f : St) (n U u w : Nat) (g : St) : Prop :=
  (g 0 = nI (GR f n) ∧ (∀ k, 0 < k → k < 3 → g k = f k) ∧ (∀ k, 105 ≤ k → g k = 0)) ∧
  (∀ x, x < 6 → (mulb f n U x → g (3 + 5 * x) = 1) ∧ (¬ mulb f n U x → g (3 + 5 * x) = 0)) ∧
  (∀ p x, 2 ≤ p → p < 6 → x < 6 → (∀ v, v < U → v < n → PL f n v = x → g (2 + 5 * x + p) = f (2 + 5 * v + p)) ∧ ((∀ v, v < U → v < n → PL f n v ≠ x) → g (2 + 5 * x + p) = 0)) ∧
  (∀ p x y, 6 ≤ p → p < 8 → x < 6 → y < 6 → ((∃ z, SJb f n p x y u w z) → isJ (SJb f n p x y u w) (g (27 + 12 * x + 2 * y + p))) ∧ ((¬ ∃ z, SJb f n p x y u w z) → g (27 + 12 * x + 2 * y + p) = 0))
theorem BI_0 {f g : St} {n : Nat} (h0 : g 0 = nI (GR f n)) (h1 : ∀ k, 0 < k → k < 3 → g k = f k) (h2 : ∀ k, 3 ≤ k → g k = 0) : BI f n 0 0 0 g := by
  refine ⟨⟨h0, h1, fun k hk => h2 k (by omega)⟩, fun x hx => ⟨?_, fun _ => h2 _ (by omega)⟩, fun p x hp hp2 hx => ⟨fun v hv => by omega, fun _ => h2 _ (by omega)⟩, fun p x y hp hp2 hx hy => ⟨?_, fun _ => h2 _ (by omega)⟩⟩
  · rintro ⟨u, hu, -⟩; omega
  · rintro ⟨z, u', w', -, -, hb, -⟩
    unfold bd at hb
    omega
theorem BI_end {f g : St} {n : Nat} (hf : wfS f) (hn : n ≤ 6) (h : BI f n n n 0 g) : BLU f n g := by
  obtain ⟨⟨h0, h1, h2⟩, h3, h4, h5⟩ := h
  have hG := GR_le hf n hn
  have hmul : ∀ x, mulb f n n x ↔ mul f n x := fun x => by
    constructor
    · rintro ⟨u, a, b, c⟩; exact ⟨u, b, c⟩
    · rintro ⟨u, b, c⟩; exact ⟨u, b, b, c⟩
  have hSJ : ∀ p x y, 6 ≤ p → p < 8 → ∀ z, SJ f n p x y z ↔ SJb f n p x y n 0 z := fun p x y hp hp2 z => by
    constructor
    · rintro ⟨u, w, a, b, c, e, i⟩
      refine ⟨u, w, a, b, Or.inl a, c, e, ?_⟩
      rw [i, sg2 hp hp2]
    · rintro ⟨u, w, a, b, -, c, e, i⟩
      refine ⟨u, w, a, b, c, e, ?_⟩
      rw [i, sg2 hp hp2]
  refine ⟨h0, h1, h2, fun x hx hm => (h3 x (by omega)).1 ((hmul x).mpr hm), fun x hx hm => (h3 x (by omega)).2 (fun z => hm ((hmul x).mp z)), fun x hx hx6 => (h3 x hx6).2 ?_, fun p u hp hp2 hu => ?_, fun p x hp hp2 hx hx6 => (h4 p x hp hp2 hx6).2 (fun v hv _ e => ?_), fun p x y hp hp2 hx hy => ?_, fun p x y hp hp2 hx hy hxy => (h5 p x y hp hp2 hx hy).2 ?_⟩
  · rintro ⟨u, a, b, c, -⟩
    have := PL_lt hf hn b
    omega
  · have := PL_lt hf hn hu
    exact (h4 p (PL f n u) hp hp2 (by omega)).1 u hu hu rfl
  · have := PL_lt hf hn hv
    omega
  · refine isJ_congr ((h5 p x y hp hp2 (by omega) (by omega)).1 ?_) (hSJ p x y hp hp2)
    obtain ⟨u, hu, e⟩ := PL_sur hx
    obtain ⟨w, hw, e2⟩ := PL_sur hy
    exact ⟨_, u, w, hu, hw, Or.inl hu, e, e2, rfl⟩
  · rintro ⟨z, u, w, a, b, -, c, e, -⟩
    have := PL_lt hf hn a
    have := PL_lt hf hn b
    omega
/-- the marks of one individual -/
noncomputable def mmk (f : St) (n u : Nat) (v : Int32) (g : St) : St := fun k => if 4 + 5 * PL f n u ≤ k ∧ k < 8 + 5 * PL f n u then f (k - 5 * PL f n u + 5 * u) else if k = 3 + 5 * PL f n u then v else g k
theorem BI_mark {f g : St} {n u : Nat} {v : Int32} (hf : wfS f) (hn : n ≤ 6) (hu : u < n) (h : BI f n u u 0 g) (hv1 : (f (3 + 5 * u) = 1 ∨ ¬ fst1 f u) → v = 1) (hv0 : ¬ (f (3 + 5 * u) = 1 ∨ ¬ fst1 f u) → v = g (3 + 5 * PL f n u)) : BI f n (u + 1) u 0 (mmk f n u v g) := by
  obtain ⟨⟨h0, h1, h2⟩, h3, h4, h5⟩ := h
  have hP := PL_lt hf hn hu
  have hG := GR_le hf n hn
  have hd : ∀ k, mmk f n u v g k = if 4 + 5 * PL f n u ≤ k ∧ k < 8 + 5 * PL f n u then f (k - 5 * PL f n u + 5 * u) else if k = 3 + 5 * PL f n u then v else g k := fun _ => rfl
  refine ⟨⟨?_, fun k a b => ?_, fun k a => ?_⟩, fun x hx => ?_, fun p x hp hp2 hx => ⟨fun y hy hyn e => ?_, fun hno => ?_⟩, fun p x y hp hp2 hx hy => ?_⟩
  · rw [hd, if_neg (by omega), if_neg (by omega)]; exact h0
  · rw [hd, if_neg (by omega), if_neg (by omega)]; exact h1 k a b
  · rw [hd, if_neg (by omega), if_neg (by omega)]; exact h2 k a
  · rw [hd, if_neg (by omega)]
    by_cases z : x = PL f n u
    · rw [if_pos (by omega)]
      constructor
      · rintro ⟨y, a, b, c, e⟩
        by_cases q : y = u
        · rw [q] at e; exact hv1 e
        · by_cases q2 : f (3 + 5 * u) = 1 ∨ ¬ fst1 f u
          · exact hv1 q2
          · rw [hv0 q2, ← z]
            exact (h3 x hx).1 ⟨y, by omega, b, c, e⟩
      · intro hno
        have q2 : ¬ (f (3 + 5 * u) = 1 ∨ ¬ fst1 f u) := fun q => hno ⟨u, by omega, hu, z.symm, q⟩
        rw [hv0 q2, ← z]
        refine (h3 x hx).2 ?_
        rintro ⟨y, a, b, c, e⟩
        exact hno ⟨y, by omega, b, c, e⟩
    · rw [if_neg (by omega)]
      constructor
      · rintro ⟨y, a, b, c, e⟩
        have : y ≠ u := fun q => z (by rw [← c, q])
        exact (h3 x hx).1 ⟨y, by omega, b, c, e⟩
      · intro hno
        refine (h3 x hx).2 ?_
        rintro ⟨y, a, b, c, e⟩
        exact hno ⟨y, by omega, b, c, e⟩
  · rw [hd]
    by_cases z : x = PL f n u
    · rw [if_pos (by omega), show 2 + 5 * x + p - 5 * PL f n u + 5 * u = 2 + 5 * u + p by omega]
      exact nm_eq hf (by omega) (by omega) ((PL_inj hu hyn).mp (z.symm.trans e.symm)) hp hp2
    · rw [if_neg (by omega), if_neg (by omega)]
      have : y ≠ u := fun q => z (by rw [← e, q])
      exact (h4 p x hp hp2 hx).1 y (by omega) hyn e
  · rw [hd]
    have z : x ≠ PL f n u := fun q => hno u (by omega) hu q.symm
    rw [if_neg (by omega), if_neg (by omega)]
    exact (h4 p x hp hp2 hx).2 (fun y a b => hno y (by omega) b)
  · rw [hd, if_neg (by omega), if_neg (by omega)]
    exact h5 p x y hp hp2 hx hy
/-- the values of one pair -/
noncomputable def mpv (f : St) (n u w p : Nat) (g : St) : Int32 := @ite _ (fst1 f u ∧ fst1 f w) (Classical.propDecidable _) (f (27 + 12 * u + 2 * w + p)) (tjoin (g (27 + 12 * PL f n u + 2 * PL f n w + p)) (f (27 + 12 * u + 2 * w + p)))
noncomputable def mpr (f : St) (n u w : Nat) (g : St) : St := su (su g (27 + 12 * PL f n u + 2 * PL f n w + 6) (mpv f n u w 6 g)) (27 + 12 * PL f n u + 2 * PL f n w + 7) (mpv f n u w 7 g)
theorem SJb_s {f : St} {n p x y u w : Nat} (hu : u < n) (hw : w < n) (z : Int32) : SJb f n p x y u (w + 1) z ↔ (SJb f n p x y u w z ∨ (PL f n u = x ∧ PL f n w = y ∧ z = f (27 + 12 * u + 2 * w + p))) := by
  constructor
  · rintro ⟨a, b, ha, hb, hc, h1, h2, h3⟩
    by_cases q : a = u ∧ b = w
    · rw [q.1] at h1
      rw [q.2] at h2
      rw [q.1, q.2] at h3
      exact Or.inr ⟨h1, h2, h3⟩
    · refine Or.inl ⟨a, b, ha, hb, ?_, h1, h2, h3⟩
      unfold bd at hc ⊢
      omega
  · rintro (⟨a, b, ha, hb, hc, h1, h2, h3⟩ | ⟨h1, h2, h3⟩)
    · refine ⟨a, b, ha, hb, ?_, h1, h2, h3⟩
      unfold bd at hc ⊢
      omega
    · exact ⟨u, w, hu, hw, Or.inr ⟨rfl, by omega⟩, h1, h2, h3⟩
theorem BI_pair {f g : St} {n U u w : Nat} (hf : wfS f) (hn : n ≤ 6) (hu : u < n) (hw : w < n) (h : BI f n U u w g) : BI f n U u (w + 1) (mpr f n u w g) := by
  obtain ⟨⟨h0, h1, h2⟩, h3, h4, h5⟩ := h
  have hPu := PL_lt hf hn hu
  have hPw := PL_lt hf hn hw
  have hG := GR_le hf n hn
  have hd : ∀ k, mpr f n u w g k = if k = 27 + 12 * PL f n u + 2 * PL f n w + 7 then mpv f n u w 7 g else if k = 27 + 12 * PL f n u + 2 * PL f n w + 6 then mpv f n u w 6 g else g k := fun _ => rfl
  have hlow : ∀ k, k < 33 → mpr f n u w g k = g k := fun k hk => by rw [hd, if_neg (by omega), if_neg (by omega)]
  refine ⟨⟨?_, fun k a b => ?_, fun k a => ?_⟩, fun x hx => ?_, fun p x hp hp2 hx => ?_, fun p x y hp hp2 hx hy => ?_⟩
  · rw [hlow _ (by omega)]; exact h0
  · rw [hlow _ (by omega)]; exact h1 k a b
  · rw [hd, if_neg (by omega), if_neg (by omega)]; exact h2 k a
  · rw [hlow _ (by omega)]; exact h3 x hx
  · rw [hlow _ (by omega)]; exact h4 p x hp hp2 hx
  · have hold := h5 p x y hp hp2 hx hy
    by_cases z : x = PL f n u ∧ y = PL f n w
    · obtain ⟨rfl, rfl⟩ := z
      have hval : mpr f n u w g (27 + 12 * PL f n u + 2 * PL f n w + p) = mpv f n u w p g := by
        rw [hd]
        have : p = 6 ∨ p = 7 := by omega
        rcases this with rfl | rfl
        · rw [if_neg (by omega), if_pos rfl]
        · rw [if_pos rfl]
      rw [hval]
      have hS : ∀ z, SJb f n p (PL f n u) (PL f n w) u (w + 1) z ↔ (SJb f n p (PL f n u) (PL f n w) u w z ∨ z = f (27 + 12 * u + 2 * w + p)) := fun z => by
        rw [SJb_s hu hw]
        constructor
        · rintro (q | q)
          · exact Or.inl q
          · exact Or.inr q.2.2
        · rintro (q | q)
          · exact Or.inl q
          · exact Or.inr ⟨rfl, rfl, q⟩
      refine ⟨fun _ => ?_, fun hno => absurd ⟨_, (hS _).mpr (Or.inr rfl)⟩ hno⟩
      unfold mpv
      by_cases hfst : fst1 f u ∧ fst1 f w
      · rw [if_pos hfst]
        refine isJ_congr isJ_one (fun z => ?_)
        rw [hS z]
        constructor
        · rintro (⟨a, b, ha, hb, hc, e1, e2, -⟩ | q)
          · exfalso
            have n1 := (PL_inj ha hu).mp e1
            have n2 := (PL_inj hb hw).mp e2
            rcases hc with hc | ⟨hc, hc2⟩
            · exact hfst.1 a hc n1
            · exact hfst.2 b hc2 n2
          · exact q
        · exact Or.inr
      · rw [if_neg hfst]
        refine isJ_add (hold.1 ?_) hS
        by_cases q : fst1 f u
        · have q2 : ¬ fst1 f w := fun r => hfst ⟨q, r⟩
          have : ∃ b, b < w ∧ nm f b = nm f w := by
            apply Classical.byContradiction
            intro r
            exact q2 (fun b hb e => r ⟨b, hb, e⟩)
          obtain ⟨b, hb, e⟩ := this
          exact ⟨_, u, b, hu, by omega, Or.inr ⟨rfl, hb⟩, rfl, (PL_inj (by omega) hw).mpr e, rfl⟩
        · have : ∃ a, a < u ∧ nm f a = nm f u := by
            apply Classical.byContradiction
            intro r
            exact q (fun b hb e => r ⟨b, hb, e⟩)
          obtain ⟨a, ha, e⟩ := this
          exact ⟨_, a, w, by omega, hw, Or.inl ha, (PL_inj (by omega) hu).mpr e, rfl, rfl⟩
    · have hval : mpr f n u w g (27 + 12 * x + 2 * y + p) = g (27 + 12 * x + 2 * y + p) := by
        rw [hd, if_neg (by omega), if_neg (by omega)]
      rw [hval]
      have hS : ∀ z, SJb f n p x y u (w + 1) z ↔ SJb f n p x y u w z := fun v => by
        rw [SJb_s hu hw]
        constructor
        · rintro (q | q)
          · exact q
          · exact absurd ⟨q.1.symm, q.2.1.symm⟩ z
        · exact Or.inl
      refine ⟨fun ⟨v, hv⟩ => isJ_congr (hold.1 ⟨v, (hS v).mp hv⟩) hS, fun hno => hold.2 (fun ⟨v, hv⟩ => hno ⟨v, (hS v).mpr hv⟩)⟩
theorem BI_next {f g : St} {n U u : Nat} (h : BI f n U u n g) : BI f n U (u + 1) 0 g := by
  obtain ⟨h0, h3, h4, h5⟩ := h
  refine ⟨h0, h3, h4, fun p x y hp hp2 hx hy => ?_⟩
  have hS : ∀ z, SJb f n p x y (u + 1) 0 z ↔ SJb f n p x y u n z := fun z => by
    constructor
    · rintro ⟨a, b, ha, hb, hc, h1⟩
      refine ⟨a, b, ha, hb, ?_, h1⟩
      unfold bd at hc ⊢
      omega
    · rintro ⟨a, b, ha, hb, hc, h1⟩
      refine ⟨a, b, ha, hb, ?_, h1⟩
      unfold bd at hc ⊢
      omega
  have hold := h5 p x y hp hp2 hx hy
  exact ⟨fun ⟨v, hv⟩ => isJ_congr (hold.1 ⟨v, (hS v).mp hv⟩) hS, fun hno => hold.2 (fun ⟨v, hv⟩ => hno ⟨v, (hS v).mpr hv⟩)⟩
