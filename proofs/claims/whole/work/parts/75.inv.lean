/-! What holds between two calls. -/
section INVS
variable {t t' : T} {q : FT} {m rc ec : Nat} {ru Es : Nat → Nat → Nat}
def slI (t : T) (x : Nat) : Prop := ∀ s, s < 4 → s ≠ x → cS t (243 + 2 * s) = mS t s ∧ wfS (mS t s)
def foI (t : T) (q : FT) (m : Nat) : Prop := cft t q m ∧ mfq t q m ∧ t.1 2 1 = nI m ∧ t.1 483 1 = nI m ∧ (∀ i, m ≤ i → i < 40 → t.1 (4 + i) 5 = 0 ∧ t.1 (4 + i) 7 = 0) ∧ ∀ i, i < m → t.1 490 i = nI (dp q i) ∧ t.1 492 i = nI (cl q i)
def ruI (t : T) (q : FT) (m : Nat) (ru : Nat → Nat → Nat) (rc : Nat) : Prop := rwf q m ru rc ∧ crl t ru rc ∧ mrl t ru rc
def edI (t : T) (q : FT) (m ec : Nat) (Es : Nat → Nat → Nat) : Prop := ec ≤ 8 ∧ t.1 0 13 = nI ec ∧ t.1 483 14 = nI ec ∧ (∀ e, e < ec → ewf q m (Es e) ∧ ced t e (Es e) ∧ med t e (Es e)) ∧ ∀ e, ec ≤ e → e < 8 → t.1 (251 + 3 * e) 6 = 0 ∧ t.1 500 e = 0
def bgI (t : T) : Prop := ∀ b, b ∈ bags → bwf t b
def wkI (t : T) : Prop := (t.2 0 12 = 161 ∧ t.2 58 3 = 61) ∨ (t.2 0 12 = 61 ∧ t.2 58 3 = 161)
/-- a list in a bag, and in the rows of the reference from a on -/
def liI (t : T) (b : Nat) (L : List St) : Prop := bL t b L ∧ ∀ x, x ∈ L → wfS x
def rwI (t : T) (a : Nat) (L : List St) : Prop := ∀ k, k < L.length → mS t (a + k) = L.getD k z0
def piI (t : T) : Prop := ∃ P : List St, P.length ≤ 40 ∧ liI t (t.2 0 12) P ∧ t.1 483 22 = nI P.length ∧ rwI t 100 P
def reI (t : T) : Prop := ∀ p, p < 4 → ∃ R : List St, R.length ≤ 12 ∧ liI t (301 + 52 * p) R ∧ t.1 503 p = nI R.length ∧ rwI t (4 + 12 * p) R
def saI (t : T) : Prop := ∀ p, p < 4 → ∃ S S' : List St, S.length ≤ 12 ∧ (S.Nodup ∧ S.Pairwise (fun a b => so a b ≤ 0)) ∧ S.Perm S' ∧ liI t (275 + 52 * p) S ∧ t.1 504 p = nI S'.length ∧ rwI t (52 + 12 * p) S'
def INVx (t : T) (x : Nat) : Prop := ∃ q m ru rc ec Es, slI t x ∧ foI t q m ∧ ruI t q m ru rc ∧ edI t q m ec Es ∧ bgI t ∧ wkI t ∧ piI t ∧ reI t ∧ saI t
def INV (t : T) : Prop := INVx t 4
theorem bag_r (p : Nat) (h : p < 4) : 301 + 52 * p ∈ bags ∧ 275 + 52 * p ∈ bags ∧ bN (301 + 52 * p) = 12 ∧ bN (275 + 52 * p) = 12 := by
  have : ∀ p, p < 4 → 301 + 52 * p ∈ bags ∧ 275 + 52 * p ∈ bags ∧ bN (301 + 52 * p) = 12 ∧ bN (275 + 52 * p) = 12 := by decide +kernel
  exact this p h
theorem bag_w : 61 ∈ bags ∧ 161 ∈ bags ∧ bN 61 = 40 ∧ bN 161 = 40 := by decide +kernel
theorem slI.k {x : Nat} (h : slI t x) (h1 : ∀ b k, 243 ≤ b → b < 251 → t'.1 b k = t.1 b k) (h2 : ∀ s, s < 4 → mS t' s = mS t s) : slI t' x := fun s hs hx => by
  rw [cS_of (fun k => h1 (243 + 2 * s) k (by omega) (by omega)) (fun k => h1 (243 + 2 * s + 1) k (by omega) (by omega)), h2 s hs]
  exact h s hs hx
theorem foI.k (h : foI t q m) (h1 : ∀ b k, (2 ≤ b ∧ b < 44) ∨ (485 ≤ b ∧ b ≤ 492) → t'.1 b k = t.1 b k) (h2 : t'.1 483 1 = t.1 483 1) : foI t' q m := by
  refine ⟨h.1.k (fun b k a c => h1 b k (by omega)), h.2.1.k (fun b k a c => h1 b k (by omega)), by rw [h1 2 1 (by omega)]; exact h.2.2.1, by rw [h2]; exact h.2.2.2.1, fun i hi hi2 => ?_, fun i hi => ?_⟩
  · have := h.1.1
    rw [h1 _ _ (by omega), h1 _ _ (by omega)]; exact h.2.2.2.2.1 i hi hi2
  · rw [h1 _ _ (by omega), h1 _ _ (by omega)]; exact h.2.2.2.2.2 i hi
theorem mrl.k (h : mrl t ru rc) (h1 : ∀ b k, 493 ≤ b → b ≤ 495 → t'.1 b k = t.1 b k) (h2 : t'.1 483 10 = t.1 483 10) : mrl t' ru rc := by
  refine ⟨by rw [h2]; exact h.1, fun r hr => ?_⟩
  rw [h1 _ _ (by omega) (by omega), h1 _ _ (by omega) (by omega), h1 _ _ (by omega) (by omega)]
  exact h.2 r hr
theorem ruI.k (h : ruI t q m ru rc) (h1 : ∀ b k, (49 ≤ b ∧ b < 57) ∨ (493 ≤ b ∧ b ≤ 495) → t'.1 b k = t.1 b k) (h2 : t'.1 483 10 = t.1 483 10) : ruI t' q m ru rc :=
  ⟨h.1, h.2.1.k h.1.1 (fun b k a c => h1 b k (by omega)), h.2.2.k (fun b k a c => h1 b k (by omega)) h2⟩
theorem edI.k (h : edI t q m ec Es) (h1 : ∀ b k, (251 ≤ b ∧ b < 275) ∨ (496 ≤ b ∧ b ≤ 502) → t'.1 b k = t.1 b k) (h2 : t'.1 483 14 = t.1 483 14) (h3 : t'.1 0 13 = t.1 0 13) : edI t' q m ec Es := by
  refine ⟨h.1, by rw [h3]; exact h.2.1, by rw [h2]; exact h.2.2.1, fun e he => ?_, fun e he he8 => ?_⟩
  · have := h.2.2.2.1 e he
    have := h.1
    exact ⟨(h.2.2.2.1 e he).1, (h.2.2.2.1 e he).2.1.k (by omega) (fun b k a c => h1 b k (by omega)), (h.2.2.2.1 e he).2.2.k (fun b k a c => h1 b k (by omega))⟩
  · rw [h1 _ _ (by omega), h1 _ _ (by omega)]; exact h.2.2.2.2 e he he8
theorem bwf.k {b : Nat} (h : bwf t b) (h2 : ∀ k, t'.2 (b + 1) k = t.2 (b + 1) k) : bwf t' b ∧ ∀ k, br t' b k = br t b k := by
  have e : ∀ k, br t' b k = br t b k := h2
  refine ⟨⟨fun k hk => ?_, fun j k hj hk he => ?_⟩, e⟩
  · rw [e]; exact h.1 k hk
  · rw [e, e] at he; exact h.2 j k hj hk he
theorem liI.k {b : Nat} {L : List St} (h : liI t b L) (hw : bwf t b) (hL : L.length ≤ bN b) (h1 : ∀ x k, b ≤ x → x < b + 2 + 2 * bN b → t'.1 x k = t.1 x k) (h2 : ∀ k, t'.2 (b + 1) k = t.2 (b + 1) k) : liI t' b L := by
  refine ⟨⟨by rw [h1 b 1 (by omega) (by omega)]; exact h.1.1, fun k hk => ?_⟩, h.2⟩
  obtain ⟨i1, i2, i3⟩ := hw.1 k (by omega)
  rw [← h.1.2 k hk]
  unfold bg
  rw [(hw.k h2).2]
  exact cS_of (fun j => h1 _ j (by omega) (by omega)) (fun j => h1 _ j (by omega) (by omega))
theorem rwI.k {a : Nat} {L : List St} (h : rwI t a L) (h2 : ∀ k, k < L.length → mS t' (a + k) = mS t (a + k)) : rwI t' a L := fun k hk => by
  rw [h2 k hk]; exact h k hk
theorem piI.k (h : piI t) (hb : bgI t) (hw : wkI t) (h0 : t'.2 0 12 = t.2 0 12) (h1 : ∀ x k, bgF (t.2 0 12) x → t'.1 x k = t.1 x k) (h2 : ∀ k, t'.2 (t.2 0 12 + 1) k = t.2 (t.2 0 12 + 1) k) (h3 : t'.1 483 22 = t.1 483 22) (h4 : ∀ s, 100 ≤ s → s < 140 → mS t' s = mS t s) : piI t' := by
  obtain ⟨P, a1, a2, a3, a4⟩ := h
  have hm : t.2 0 12 ∈ bags ∧ bN (t.2 0 12) = 40 := by
    rcases hw with ⟨e, -⟩ | ⟨e, -⟩ <;> rw [e]
    · exact ⟨bag_w.2.1, bag_w.2.2.2⟩
    · exact ⟨bag_w.1, bag_w.2.2.1⟩
  refine ⟨P, a1, ?_, by rw [h3]; exact a3, a4.k (fun k hk => h4 _ (by omega) (by omega))⟩
  rw [h0]
  exact a2.k (hb _ hm.1) (by rw [hm.2]; exact a1) (fun x k b1 b2 => h1 x k ⟨b1, b2⟩) h2
theorem reI.k (h : reI t) (hb : bgI t) (h1 : ∀ p, p < 4 → (∀ x k, 301 + 52 * p ≤ x → x < 327 + 52 * p → t'.1 x k = t.1 x k) ∧ ∀ k, t'.2 (302 + 52 * p) k = t.2 (302 + 52 * p) k) (h3 : ∀ k, t'.1 503 k = t.1 503 k) (h4 : ∀ s, 4 ≤ s → s < 52 → mS t' s = mS t s) : reI t' := fun p hp => by
  obtain ⟨R, a1, a2, a3, a4⟩ := h p hp
  have hp2 := bag_r p hp
  exact ⟨R, a1, a2.k (hb _ hp2.1) (by omega) (fun x k b1 b2 => (h1 p hp).1 x k b1 (by omega)) (fun k => by have := (h1 p hp).2 k; rw [show 302 + 52 * p = 301 + 52 * p + 1 by omega] at this; exact this), by rw [h3]; exact a3, a4.k (fun k hk => h4 _ (by omega) (by omega))⟩
theorem saI.k (h : saI t) (hb : bgI t) (h1 : ∀ p, p < 4 → (∀ x k, 275 + 52 * p ≤ x → x < 301 + 52 * p → t'.1 x k = t.1 x k) ∧ ∀ k, t'.2 (276 + 52 * p) k = t.2 (276 + 52 * p) k) (h3 : ∀ k, t'.1 504 k = t.1 504 k) (h4 : ∀ s, 52 ≤ s → s < 100 → mS t' s = mS t s) : saI t' := fun p hp => by
  obtain ⟨S, S', a1, a2, a3, a4, a5, a6⟩ := h p hp
  have hp2 := bag_r p hp
  have hl := a3.length_eq
  exact ⟨S, S', a1, a2, a3, a4.k (hb _ hp2.2.1) (by omega) (fun x k b1 b2 => (h1 p hp).1 x k b1 (by omega)) (fun k => by have := (h1 p hp).2 k; rw [show 276 + 52 * p = 275 + 52 * p + 1 by omega] at this; exact this), by rw [h3]; exact a5, a6.k (fun k hk => h4 _ (by omega) (by omega))⟩
/-- what the program may write between two calls without a trace -/
def scC (t : T) : Nat → Prop := fun b => (44 ≤ b ∧ b ≤ 48) ∨ (59 ≤ b ∧ b ≤ 60) ∨ (143 ≤ b ∧ b ≤ 155) ∨ (158 ≤ b ∧ b ≤ 160) ∨ bgF (t.2 58 3) b
theorem INVx.c {x : Nat} {P : Nat → Prop} (h : INVx t x) (hO : tF P t t') (hP : ∀ b, P b → scC t b) (hbw : bwf t' (t.2 58 3)) : INVx t' x := by
  obtain ⟨q, m, ru, rc, ec, Es, h1, h2, h3, h4, h5, h6, h7, h8, h9⟩ := h
  have wk : t.2 58 3 = 61 ∨ t.2 58 3 = 161 := h6.elim (fun z => Or.inl z.2) (fun z => Or.inr z.2)
  have b61 := bag_w.2.2.1
  have b161 := bag_w.2.2.2
  have no : ∀ b, ¬ scC t b → ¬ P b := fun b z y => z (hP b y)
  have mr : ∀ s, mS t' s = mS t s := fun s => by
    funext k
    unfold mS
    rw [(hO 484 (no _ (by unfold scC bgF; rcases wk with e | e <;> rw [e] <;> omega))).1]
  have far : ∀ b, 243 ≤ b ∨ b ≤ 43 ∨ (49 ≤ b ∧ b ≤ 58) → ¬ P b := fun b hb => no b (by unfold scC bgF; rcases wk with e | e <;> rw [e] <;> omega)
  refine ⟨q, m, ru, rc, ec, Es, h1.k (fun b k a c => (hO b (far b (by omega))).1 k) (fun s _ => mr s), h2.k (fun b k a => (hO b (far b (by omega))).1 k) ((hO 483 (far 483 (by omega))).1 1), h3.k (fun b k a => (hO b (far b (by omega))).1 k) ((hO 483 (far 483 (by omega))).1 10), h4.k (fun b k a => (hO b (far b (by omega))).1 k) ((hO 483 (far 483 (by omega))).1 14) ((hO 0 (far 0 (by omega))).1 13), fun b hb => ?_, ?_, ?_, ?_, ?_⟩
  · by_cases e : b = t.2 58 3
    · rw [e]; exact hbw
    · refine ((h5 b hb).k (t' := t') (fun k => (hO (b + 1) (no _ ?_)).2 k)).1
      have hd := bag_dis b hb _ (show t.2 58 3 ∈ bags by rcases wk with e | e <;> rw [e]; exact bag_w.1; exact bag_w.2.1) e
      have hb3 : ∀ b, b ∈ bags → ¬ ((44 ≤ b + 1 ∧ b + 1 ≤ 48) ∨ (59 ≤ b + 1 ∧ b + 1 ≤ 60) ∨ (143 ≤ b + 1 ∧ b + 1 ≤ 155) ∨ (158 ≤ b + 1 ∧ b + 1 ≤ 160)) := by decide +kernel
      have := hb3 b hb
      have hn := (bag_all b hb).2.2.2.1
      unfold scC bgF
      omega
  · unfold wkI
    rw [(hO 0 (far 0 (by omega))).2, (hO 58 (far 58 (by omega))).2]; exact h6
  · have hpw : t.2 0 12 = 61 ∧ t.2 58 3 = 161 ∨ t.2 0 12 = 161 ∧ t.2 58 3 = 61 := by rcases h6 with z | z; exact Or.inr z; exact Or.inl z
    refine h7.k h5 h6 ((hO 0 (far 0 (by omega))).2 12) (fun x k hx => (hO x (no _ ?_)).1 k) (fun k => (hO _ (no _ ?_)).2 k) ((hO 483 (far 483 (by omega))).1 22) (fun s _ _ => mr s)
    · unfold bgF at hx
      unfold scC bgF
      rcases hpw with ⟨e1, e2⟩ | ⟨e1, e2⟩ <;> rw [e1] at hx <;> rw [e2] <;> omega
    · unfold scC bgF
      rcases hpw with ⟨e1, e2⟩ | ⟨e1, e2⟩ <;> rw [e1, e2] <;> omega
  · exact h8.k h5 (fun p hp => ⟨fun x k a c => (hO x (far x (by omega))).1 k, fun k => (hO _ (far _ (by omega))).2 k⟩) (fun k => (hO 503 (far 503 (by omega))).1 k) (fun s _ _ => mr s)
  · exact h9.k h5 (fun p hp => ⟨fun x k a c => (hO x (far x (by omega))).1 k, fun k => (hO _ (far _ (by omega))).2 k⟩) (fun k => (hO 504 (far 504 (by omega))).1 k) (fun s _ _ => mr s)
/-- what the reference may write between two calls without a trace -/
theorem INVx.r {x : Nat} {A R : Nat → Prop} (h : INVx t x) (hO : mW A R t t') (hA : ∀ b, A b → 505 ≤ b) (hR : ∀ s, R s → 140 ≤ s) : INVx t' x := by
  obtain ⟨q, m, ru, rc, ec, Es, h1, h2, h3, h4, h5, h6, h7, h8, h9⟩ := h
  have i : ∀ b k, b < 505 → b ≠ 483 → b ≠ 484 → t'.1 b k = t.1 b k := fun b k a c e => hO.1.2.1 b e (fun z => by
    rcases z with z | z
    · have := hA b z; omega
    · exact c z) k
  have f : ∀ k, k ≠ 26 → t'.1 483 k = t.1 483 k := hO.2
  have r2 := hO.1.1
  have mr : ∀ s, s < 140 → mS t' s = mS t s := fun s hs => hO.1.2.2 s (fun z => by have := hR s z; omega)
  refine ⟨q, m, ru, rc, ec, Es, h1.k (fun b k a c => i b k (by omega) (by omega) (by omega)) (fun s hs => mr s (by omega)), h2.k (fun b k a => i b k (by omega) (by omega) (by omega)) (f 1 (by omega)), h3.k (fun b k a => i b k (by omega) (by omega) (by omega)) (f 10 (by omega)), h4.k (fun b k a => i b k (by omega) (by omega) (by omega)) (f 14 (by omega)) (i 0 13 (by omega) (by omega) (by omega)), fun b hb => ((h5 b hb).k (t' := t') (fun k => by rw [r2])).1, ?_, ?_, ?_, ?_⟩
  · unfold wkI; rw [r2]; exact h6
  · have hpw : t.2 0 12 = 61 ∨ t.2 0 12 = 161 := by rcases h6 with z | z; exact Or.inr z.1; exact Or.inl z.1
    have b61 := bag_w.2.2.1
    have b161 := bag_w.2.2.2
    refine h7.k h5 h6 (by rw [r2]) (fun x k hx => i x k ?_ ?_ ?_) (fun k => by rw [r2]) (f 22 (by omega)) (fun s _ hs => mr s hs)
    all_goals (unfold bgF at hx; rcases hpw with e | e <;> rw [e] at hx <;> omega)
  · exact h8.k h5 (fun p hp => ⟨fun x k a c => i x k (by omega) (by omega) (by omega), fun k => by rw [r2]⟩) (fun k => i 503 k (by omega) (by omega) (by omega)) (fun s _ hs => mr s (by omega))
  · exact h9.k h5 (fun p hp => ⟨fun x k a c => i x k (by omega) (by omega) (by omega), fun k => by rw [r2]⟩) (fun k => i 504 k (by omega) (by omega) (by omega)) (fun s _ hs => mr s (by omega))
end INVS
