/-! To sharpen by rules: what it is, and that the order is free. -/
theorem nI_inj {a b : Nat} (ha : a < 2 ^ 31) (hb : b < 2 ^ 31) (h : nI a = nI b) : a = b := by
  rw [nI_eq ha hb] at h
  exact h
/-- the value of a cell that says nothing -/
def hv (k : Nat) : Int32 := if 3 ≤ k ∧ k < 33 ∧ (k - 3) % 5 = 0 then 1 else 2
def cle (f g : St) : Prop := f 0 = g 0 ∧ ∀ k, 0 < k → k < 105 → f k = g k ∨ f k = hv k
theorem cle_rf {f : St} : cle f f := ⟨rfl, fun _ _ _ => Or.inl rfl⟩
theorem cle_tr {f g h : St} (h1 : cle f g) (h2 : cle g h) : cle f h := ⟨h1.1.trans h2.1, fun k k0 k1 => by
  rcases h1.2 k k0 k1 with e | e
  · rcases h2.2 k k0 k1 with e2 | e2
    · exact Or.inl (e.trans e2)
    · exact Or.inr (e.trans e2)
  · exact Or.inr e⟩
theorem cle_anti {f g : St} (hf : wfS f) (hg : wfS g) (h1 : cle f g) (h2 : cle g f) : f = g := by
  funext k
  by_cases k0 : k = 0
  · rw [k0]; exact h1.1
  · by_cases k1 : k < 105
    · rcases h1.2 k (by omega) k1 with e | e
      · exact e
      · rcases h2.2 k (by omega) k1 with e2 | e2
        · exact e2.symm
        · rw [e, e2]
    · rw [hf.2.2.2 k (by omega), hg.2.2.2 k (by omega)]
theorem hv_m {u : Nat} (hu : u < 6) : hv (3 + 5 * u) = 1 := by
  unfold hv
  rw [if_pos (by omega)]
theorem hv_c {p u w : Nat} (hp : p < 8) (hu : u < 6) (hw : w < 6) : hv (cel p u w + 1) = 2 := by
  unfold hv
  rw [if_neg]
  unfold cel
  by_cases q : p < 2
  · rw [if_pos q]; omega
  · rw [if_neg q]
    by_cases q2 : p < 6
    · rw [if_pos q2]; omega
    · rw [if_neg q2]; omega
theorem cel_r {p u w : Nat} (hp : p < 8) (hu : u < 6) (hw : w < 6) : 0 < cel p u w + 1 ∧ cel p u w + 1 < 105 := by
  have := cel_lt hp hu hw
  omega
theorem cle_shp {f g : St} {n : Nat} (hn : n ≤ 6) (h : cle f g) (hf : wfS f) (hg : wfS g) : shp True f g n := by
  have go : ∀ p u w, p < 8 → u < 6 → w < 6 → rl True (sg f p u w) (sg g p u w) := by
    intro p u w hp hu hw
    rw [sg_cel hp, sg_cel hp]
    have := cel_r hp hu hw
    rcases h.2 _ this.1 this.2 with e | e
    · exact Or.inl e
    · rw [hv_c hp hu hw] at e; exact Or.inr ⟨trivial, e⟩
  refine ⟨fun p hp => ?_, fun p u _ hp hu => go p u 0 (by omega) (by omega) (by omega), fun p u w h6 hp hu hw => ?_⟩
  · have := go p 0 0 (by omega) (by omega) (by omega)
    rw [sg_lo hp, sg_lo hp] at this
    exact this
  · by_cases e : p = 8
    · subst e
      unfold sg
      rw [if_pos rfl, if_pos rfl]
      by_cases z : u = w
      · rw [if_pos z, if_pos z]
        rcases h.2 (3 + 5 * u) (by omega) (by omega) with e | e
        · rw [e]; exact rl_rf
        · rw [hv_m (by omega)] at e
          rw [if_pos e]; exact Or.inr ⟨trivial, rfl⟩
      · rw [if_neg z, if_neg z]; exact rl_rf
    · exact go p u w (by omega) (by omega) (by omega)
def ck (p u w : Nat) : Nat := if p = 8 then 3 + 5 * u else cel p u w + 1
def cv (p c : Nat) : Int32 := if p = 8 then 0 else nI c
theorem ck_r {p u w : Nat} (hp : p < 9) (hu : u < 6) (hw : w < 6) : 0 < ck p u w ∧ ck p u w < 105 := by
  unfold ck
  by_cases e : p = 8
  · rw [if_pos e]; omega
  · rw [if_neg e]; exact cel_r (by omega) hu hw
theorem half_ck {f : St} {p u w : Nat} (hp : p < 9) (hu : u < 6) (hw : w < 6) (h : sg f p u w = 2) : f (ck p u w) = hv (ck p u w) := by
  unfold ck
  by_cases e : p = 8
  · rw [if_pos e, hv_m hu]
    unfold sg at h
    rw [if_pos e] at h
    by_cases z : u = w
    · rw [if_pos z] at h
      by_cases y : f (3 + 5 * u) = 1
      · exact y
      · rw [if_neg y] at h; exact absurd h (by decide)
    · rw [if_neg z] at h; exact absurd h (by decide)
  · rw [if_neg e, hv_c (by omega) hu hw]
    rw [sg_cel (by omega)] at h
    exact h
theorem cv_nh {p u w c : Nat} (hp : p < 9) (hu : u < 6) (hw : w < 6) (hc : c < 2) : cv p c ≠ hv (ck p u w) := by
  unfold cv ck
  by_cases e : p = 8
  · rw [if_pos e, if_pos e, hv_m hu]; decide
  · rw [if_neg e, if_neg e, hv_c (by omega) hu hw]
    have : c = 0 ∨ c = 1 := by omega
    rcases this with rfl | rfl <;> decide
/-- where the sharper one has c, the sharpened one has it too -/
theorem cle_set {f g : St} {p u w c : Nat} (hp : p < 9) (hu : u < 6) (hw : w < 6) (hg : wfS g) (h : cle f g) (hh : sg f p u w = 2) (hc : ¬ (p = 8 ∧ c = 0)) (hc2 : c < 2) (e : sg g p u w = nI c) : cle (su f (ck p u w) (cv p c)) g := by
  have hr := ck_r hp hu hw
  refine ⟨?_, fun k k0 k1 => ?_⟩
  · unfold su; rw [if_neg (by omega)]; exact h.1
  · unfold su
    by_cases z : k = ck p u w
    · rw [if_pos z, z]
      refine Or.inl ?_
      unfold cv ck
      by_cases e8 : p = 8
      · rw [if_pos e8, if_pos e8]
        have hc1 : c = 1 := by omega
        subst hc1
        unfold sg at e
        rw [if_pos e8] at e
        by_cases z : u = w
        · rw [if_pos z] at e
          rcases hg.2.2.1 u hu with y | y
          · exact y.symm
          · rw [if_pos y] at e; exact absurd e (by decide)
        · rw [if_neg z] at e; exact absurd e (by decide)
      · rw [if_neg e8, if_neg e8]
        rw [sg_cel (by omega)] at e
        exact e.symm
    · rw [if_neg z]; exact h.2 k k0 k1
/-- how many cells say nothing -/
def mu (f : St) : Nat → Nat
  | 0 => 0
  | K + 1 => mu f K + if 0 < K ∧ f K = hv K then 1 else 0
theorem mu_le {f : St} : ∀ K, mu f (K + 1) ≤ K
  | 0 => by
    show 0 + (if 0 < 0 ∧ f 0 = hv 0 then 1 else 0) ≤ 0
    rw [if_neg (fun z => absurd z.1 (by omega))]
    omega
  | K + 1 => by
    have := mu_le (f := f) K
    show mu f (K + 1) + _ ≤ K + 1
    by_cases q : 0 < K + 1 ∧ f (K + 1) = hv (K + 1)
    · rw [if_pos q]; omega
    · rw [if_neg q]; omega
theorem mu_su {f : St} {k : Nat} {v : Int32} (k0 : 0 < k) (h : f k = hv k) (hv1 : v ≠ hv k) : ∀ K, mu (su f k v) K + (if k < K then 1 else 0) = mu f K
  | 0 => by rw [if_neg (by omega)]; rfl
  | K + 1 => by
    have ih := mu_su k0 h hv1 K
    show mu (su f k v) K + (if 0 < K ∧ su f k v K = hv K then 1 else 0) + _ = mu f K + (if 0 < K ∧ f K = hv K then 1 else 0)
    by_cases e : K = k
    · subst e
      rw [if_neg (by omega)] at ih
      rw [if_neg (by unfold su; rw [if_pos rfl]; exact fun z => hv1 z.2), if_pos (by omega), if_pos ⟨k0, h⟩]
      omega
    · have e2 : su f k v K = f K := by unfold su; rw [if_neg e]
      rw [e2]
      by_cases y : k < K
      · rw [if_pos y] at ih; rw [if_pos (by omega : k < K + 1)]; omega
      · rw [if_neg y] at ih; rw [if_neg (by omega : ¬ k < K + 1)]; omega
section CO
variable {q : FT} {m n rc : Nat} {ru : Nat → Nat → Nat}
def rwf (q : FT) (m : Nat) (ru : Nat → Nat → Nat) (rc : Nat) : Prop := rc ≤ 6 ∧ ∀ r, r < rc → ru r 0 < m ∧ fr q (ru r 0) ≤ 3 ∧ 2 ≤ ru r 1 ∧ ru r 1 ≤ 8 ∧ ru r 2 < 2
noncomputable def EVr (q : FT) (n : Nat) (ru : Nat → Nat → Nat) (f : St) (r u w : Nat) : Int32 := EV q f n (ru r 0) (e2 u w)
theorem fb3 {i v : Nat} (h : fr q i ≤ 3) (hv : fb q i v) : v < 2 := by
  apply Nat.lt_of_not_le
  intro h2
  have : (fr q i).testBit v = false := Nat.testBit_lt_two_pow (Nat.lt_of_lt_of_le (show fr q i < 2 ^ 2 by omega) (Nat.pow_le_pow_right (n := 2) (by omega) h2))
  unfold fb at hv
  rw [this] at hv
  cases hv
theorem e2_lt {u w v : Nat} (hu : u < n) (hw : w < n) (h : v < 2) : e2 u w v < n := by
  have : v = 0 ∨ v = 1 := by omega
  rcases this with rfl | rfl
  · exact hu
  · exact hw
/-- one use of a rule -/
def stp1 (q : FT) (n : Nat) (ru : Nat → Nat → Nat) (rc : Nat) (f g : St) : Prop := ∃ r u w, r < rc ∧ u < n ∧ w < n ∧ sg f (ru r 1) u w = 2 ∧ EVr q n ru f r u w = 1 ∧ ¬ (ru r 1 = 8 ∧ ru r 2 = 0) ∧ g = su f (ck (ru r 1) u w) (cv (ru r 1) (ru r 2))
def fail1 (q : FT) (n : Nat) (ru : Nat → Nat → Nat) (rc : Nat) (f : St) : Prop := ∃ r u w, r < rc ∧ u < n ∧ w < n ∧ sg f (ru r 1) u w ≠ nI (ru r 2) ∧ EVr q n ru f r u w = 1 ∧ (sg f (ru r 1) u w ≠ 2 ∨ (ru r 1 = 8 ∧ ru r 2 = 0))
def done1 (q : FT) (n : Nat) (ru : Nat → Nat → Nat) (rc : Nat) (f : St) : Prop := ∀ r u w, r < rc → u < n → w < n → sg f (ru r 1) u w = nI (ru r 2) ∨ EVr q n ru f r u w ≠ 1
def stk (q : FT) (n : Nat) (ru : Nat → Nat → Nat) (rc : Nat) : Nat → St → St → Prop
  | 0, f, g => f = g
  | k + 1, f, g => ∃ h, stk q n ru rc k f h ∧ stp1 q n ru rc h g
def CO (q : FT) (n : Nat) (ru : Nat → Nat → Nat) (rc : Nat) (f : St) : Option St → Prop
  | some g => (∃ k, stk q n ru rc k f g) ∧ done1 q n ru rc g
  | none => ∃ h k, stk q n ru rc k f h ∧ fail1 q n ru rc h
theorem su_wf {f : St} {p u w c : Nat} (hf : wfS f) (hn : f 0 = nI n) (hn6 : n ≤ 6) (hp : 2 ≤ p) (hp2 : p < 9) (hu : u < n) (hw : w < n) (hc : c < 2) : wfS (su f (ck p u w) (cv p c)) ∧ su f (ck p u w) (cv p c) 0 = nI n := by
  have hr := ck_r hp2 (show u < 6 by omega) (show w < 6 by omega)
  obtain ⟨⟨n', hn', e0, z1, z2, z3⟩, h2, h3, h4⟩ := hf
  have en : n' = n := nI_inj (by omega) (by omega) (e0.symm.trans hn)
  subst en
  have ne : ∀ k, k ≠ ck p u w → su f (ck p u w) (cv p c) k = f k := fun k hk => by unfold su; rw [if_neg hk]
  have at0 : su f (ck p u w) (cv p c) 0 = nI n' := by rw [ne 0 (by omega)]; exact hn
  have cv1 : cv p c = 0 ∨ cv p c = 1 := by
    unfold cv
    by_cases e : p = 8
    · rw [if_pos e]; exact Or.inl rfl
    · rw [if_neg e]
      have : c = 0 ∨ c = 1 := by omega
      rcases this with rfl | rfl
      · exact Or.inl rfl
      · exact Or.inr rfl
  have ckv : (p = 8 ∧ ck p u w = 3 + 5 * u) ∨ (p < 6 ∧ ck p u w = 2 + 5 * u + p) ∨ (6 ≤ p ∧ p < 8 ∧ ck p u w = 27 + 12 * u + 2 * w + p) := by
    unfold ck
    by_cases e : p = 8
    · rw [if_pos e]; exact Or.inl ⟨e, rfl⟩
    · rw [if_neg e]
      by_cases y : p < 6
      · exact Or.inr (Or.inl ⟨y, cel1 hp y⟩)
      · exact Or.inr (Or.inr ⟨by omega, by omega, cel2 (by omega)⟩)
  refine ⟨⟨⟨n', hn', at0, fun x hx hx6 => ?_, fun p' x h1 h2 hx hx6 => ?_, fun p' x y h1 h2 hx hy hxy => ?_⟩, fun k k0 k1 => ?_, fun x hx => ?_, fun k hk => ?_⟩, at0⟩
  · rw [ne _ (by omega)]; exact z1 x hx hx6
  · rw [ne _ (by rw [cel1 h1 h2]; omega)]; exact z2 p' x h1 h2 hx hx6
  · rw [ne _ (by rw [cel2 h1]; omega)]; exact z3 p' x y h1 h2 hx hy hxy
  · by_cases e : k = ck p u w
    · unfold su; rw [if_pos e]
      rcases cv1 with y | y
      · exact ⟨0, by omega, y⟩
      · exact ⟨1, by omega, y⟩
    · rw [ne k e]; exact h2 k k0 k1
  · by_cases e : 3 + 5 * x = ck p u w
    · unfold su; rw [if_pos e]
      exact cv1
    · rw [ne _ e]; exact h3 x hx
  · rw [ne _ (by omega)]; exact h4 k hk
/-- what a use keeps -/
theorem stp1.ok {f g : St} (hr : rwf q m ru rc) (hf : wfS f) (hn : f 0 = nI n) (hn6 : n ≤ 6) (h : stp1 q n ru rc f g) : wfS g ∧ g 0 = nI n ∧ cle f g ∧ mu g 105 + 1 = mu f 105 := by
  obtain ⟨r, u, w, h1, h2, h3, h4, h5, h6, rfl⟩ := h
  obtain ⟨-, -, r3, r4, r5⟩ := hr.2 r h1
  have hk := ck_r (p := ru r 1) (u := u) (w := w) (by omega) (by omega) (by omega)
  have hh := half_ck (by omega) (by omega) (by omega) h4
  have hsu := su_wf hf hn hn6 r3 (by omega) h2 h3 r5
  refine ⟨hsu.1, hsu.2, ⟨hn.trans hsu.2.symm, fun k k0 k1 => ?_⟩, ?_⟩
  · by_cases e : k = ck (ru r 1) u w
    · rw [e]; exact Or.inr hh
    · refine Or.inl ?_; unfold su; rw [if_neg e]
  · have := mu_su (v := cv (ru r 1) (ru r 2)) hk.1 hh (cv_nh (by omega) (by omega) (by omega) r5) 105
    rw [if_pos hk.2] at this
    exact this
theorem stk.ok {f : St} (hr : rwf q m ru rc) (hf : wfS f) (hn : f 0 = nI n) (hn6 : n ≤ 6) : ∀ (k : Nat) (g : St), stk q n ru rc k f g → wfS g ∧ g 0 = nI n ∧ cle f g ∧ mu g 105 + k = mu f 105
  | 0, g, h => by
    have : f = g := h
    subst this
    exact ⟨hf, hn, cle_rf, Nat.add_zero _⟩
  | k + 1, g, h => by
    obtain ⟨h', h1, h2⟩ := h
    obtain ⟨a1, a2, a3, a4⟩ := stk.ok hr hf hn hn6 k h' h1
    obtain ⟨b1, b2, b3, b4⟩ := h2.ok hr a1 a2 hn6
    exact ⟨b1, b2, cle_tr a3 b3, by omega⟩
theorem conf1 {f g : St} (hw : ∀ i, i < m → fwf q i) (hr : rwf q m ru rc) (hf : wfS f) (hn : f 0 = nI n) (hn6 : n ≤ 6) (hg : wfS g) (hd : done1 q n ru rc g) (hl : cle f g) {r u w : Nat} (h1 : r < rc) (h2 : u < n) (h3 : w < n) (h5 : EVr q n ru f r u w = 1) : sg g (ru r 1) u w = nI (ru r 2) := by
  obtain ⟨r1, r2, -⟩ := hr.2 r h1
  rcases hd r u w h1 h2 h3 with e | e
  · exact e
  · exact absurd (EV_sharp hw hf hg hn6 (cle_shp hn6 hl hf hg) r1 (fun v hv => e2_lt h2 h3 (fb3 r2 hv)) h5) e
theorem conf {f g : St} (hw : ∀ i, i < m → fwf q i) (hr : rwf q m ru rc) (hf : wfS f) (hn : f 0 = nI n) (hn6 : n ≤ 6) (hg : wfS g) (hd : done1 q n ru rc g) (hl : cle f g) : ∀ (k : Nat) (h : St), stk q n ru rc k f h → cle h g
  | 0, h, e => by
    have : f = h := e
    subst this
    exact hl
  | k + 1, h, e => by
    obtain ⟨h', e1, e2⟩ := e
    have ih := conf hw hr hf hn hn6 hg hd hl k h' e1
    obtain ⟨a1, a2, -⟩ := stk.ok hr hf hn hn6 k h' e1
    obtain ⟨r, u, w, h1, h2, h3, h4, h5, h6, rfl⟩ := e2
    obtain ⟨-, -, r3, r4, r5⟩ := hr.2 r h1
    exact cle_set (by omega) (by omega) (by omega) hg ih h4 h6 r5 (conf1 hw hr a1 a2 hn6 hg hd ih h1 h2 h3 h5)
theorem nofail {f g : St} (hw : ∀ i, i < m → fwf q i) (hr : rwf q m ru rc) (hf : wfS f) (hn : f 0 = nI n) (hn6 : n ≤ 6) (hg : wfS g) (hd : done1 q n ru rc g) (hl : cle f g) : ¬ fail1 q n ru rc f := by
  rintro ⟨r, u, w, h1, h2, h3, h4, h5, h6⟩
  obtain ⟨-, -, r3, r4, r5⟩ := hr.2 r h1
  have e := conf1 hw hr hf hn hn6 hg hd hl h1 h2 h3 h5
  have hs := (cle_shp hn6 hl hf hg)
  have sh : rl True (sg f (ru r 1) u w) (sg g (ru r 1) u w) := by
    by_cases p6 : ru r 1 < 6
    · rw [sg_mid p6, sg_mid (f := g) (w := w) p6]; exact hs.2.1 _ _ r3 p6 h2
    · exact hs.2.2 _ _ _ (by omega) (by omega) h2 h3
  rcases sh with y | ⟨-, y⟩
  · exact h4 (y.trans e)
  · rcases h6 with z | ⟨z1, z2⟩
    · exact z y
    · rw [z2, z1] at e
      rw [z1] at y
      unfold sg at e y
      rw [if_pos rfl] at e y
      by_cases x : u = w
      · rw [if_pos x] at e
        by_cases x2 : g (3 + 5 * u) = 1
        · rw [if_pos x2] at e; exact absurd e (by decide)
        · rw [if_neg x2] at e; exact absurd e (by decide)
      · rw [if_neg x] at y; exact absurd y (by decide)
theorem CO_uniq {f : St} {a b : Option St} (hw : ∀ i, i < m → fwf q i) (hr : rwf q m ru rc) (hf : wfS f) (hn : f 0 = nI n) (hn6 : n ≤ 6) (h1 : CO q n ru rc f a) (h2 : CO q n ru rc f b) : a = b := by
  have key : ∀ g, CO q n ru rc f (some g) → ∀ h k, stk q n ru rc k f h → cle h g ∧ wfS g ∧ wfS h ∧ h 0 = nI n ∧ ¬ fail1 q n ru rc h := by
    rintro g ⟨⟨k1, h1⟩, hd⟩ h k h2
    obtain ⟨a1, a2, a3, -⟩ := stk.ok hr hf hn hn6 k1 g h1
    obtain ⟨b1, b2, b3, -⟩ := stk.ok hr hf hn hn6 k h h2
    have c := conf hw hr hf hn hn6 a1 hd a3 k h h2
    exact ⟨c, a1, b1, b2, nofail hw hr b1 b2 hn6 a1 hd c⟩
  cases a with
  | none =>
    cases b with
    | none => rfl
    | some g =>
      obtain ⟨h, k, e1, e2⟩ := h1
      exact absurd e2 (key g h2 h k e1).2.2.2.2
  | some g =>
    cases b with
    | none =>
      obtain ⟨h, k, e1, e2⟩ := h2
      exact absurd e2 (key g h1 h k e1).2.2.2.2
    | some g' =>
      obtain ⟨⟨k1, e1⟩, -⟩ := id h1
      obtain ⟨⟨k2, e2⟩, -⟩ := id h2
      have x1 := key g h1 g' k2 e2
      have x2 := key g' h2 g k1 e1
      rw [cle_anti x1.2.1 x2.2.1 x2.1 x1.1]
end CO
