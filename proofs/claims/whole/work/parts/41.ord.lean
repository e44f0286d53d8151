/-! The order of structures, sequences, sorting. -/
theorem i_tri (x y : Int32) : x = y ∨ x < y ∨ y < x := by
  simp only [Int32.lt_iff_toInt_lt]
  by_cases h : x.toInt = y.toInt
  · exact Or.inl (Int32.toInt_inj.mp h)
  · omega
theorem i_irr {x y : Int32} (h : x < y) : ¬ y < x ∧ x ≠ y := by
  simp only [Int32.lt_iff_toInt_lt] at h ⊢
  refine ⟨by omega, ?_⟩
  rintro rfl
  omega
theorem i_trs {x y z : Int32} (h : x < y) (h2 : y < z) : x < z := by
  simp only [Int32.lt_iff_toInt_lt] at h h2 ⊢
  omega
theorem lx_anti (f g : St) : ∀ (m i : Nat), lx g f i m = - lx f g i m
  | 0, i => rfl
  | m + 1, i => by
    rw [lx_s, lx_s]
    rcases i_tri (f i) (g i) with h | h | h
    · rw [if_pos h, if_pos h.symm]; exact lx_anti f g m (i + 1)
    · have := i_irr h
      rw [if_neg (fun z => this.2 z.symm), if_neg this.1, if_neg this.2, if_pos h]; rfl
    · have := i_irr h
      rw [if_neg this.2, if_pos h, if_neg (fun z => this.2 z.symm), if_neg this.1]
theorem lx_tr (f g h : St) : ∀ (m i : Nat), lx f g i m ≤ 0 → lx g h i m ≤ 0 → lx f h i m ≤ 0
  | 0, i => fun _ _ => Int.le_refl _
  | m + 1, i => by
    rw [lx_s, lx_s, lx_s]
    intro h1 h2
    rcases i_tri (f i) (g i) with e | e | e
    · rw [if_pos e] at h1
      rw [e]
      rcases i_tri (g i) (h i) with e' | e' | e'
      · rw [if_pos e'] at h2 ⊢
        exact lx_tr f g h m (i + 1) h1 h2
      · rw [if_neg (i_irr e').2, if_pos e']; omega
      · rw [if_neg (fun z => (i_irr e').2 z.symm), if_neg (i_irr e').1] at h2
        omega
    · rcases i_tri (g i) (h i) with e' | e' | e'
      · rw [← e', if_neg (i_irr e).2, if_pos e]; omega
      · rw [if_neg (i_irr (i_trs e e')).2, if_pos (i_trs e e')]; omega
      · rw [if_neg (fun z => (i_irr e').2 z.symm), if_neg (i_irr e').1] at h2
        omega
    · rw [if_neg (fun z => (i_irr e).2 z.symm), if_neg (i_irr e).1] at h1
      omega
theorem lx_v (f g : St) : ∀ (m i : Nat), lx f g i m = -1 ∨ lx f g i m = 0 ∨ lx f g i m = 1
  | 0, i => Or.inr (Or.inl rfl)
  | m + 1, i => by
    rw [lx_s]
    split
    · exact lx_v f g m (i + 1)
    · split
      · exact Or.inl rfl
      · exact Or.inr (Or.inr rfl)
theorem so_anti (f g : St) : so g f = - so f g := lx_anti f g 105 0
theorem so_tr {f g h : St} (h1 : so f g ≤ 0) (h2 : so g h ≤ 0) : so f h ≤ 0 := lx_tr f g h 105 0 h1 h2
theorem so_v (f g : St) : so f g = -1 ∨ so f g = 0 ∨ so f g = 1 := lx_v f g 105 0
theorem so_rf (f : St) : so f f = 0 := by have := so_anti f f; omega
def lst (g : Nat → St) : Nat → List St
  | 0 => []
  | n + 1 => lst g n ++ [g n]
theorem lst_congr {g g' : Nat → St} : ∀ (n : Nat), (∀ k, k < n → g k = g' k) → lst g n = lst g' n
  | 0, _ => rfl
  | n + 1, h => by
    show lst g n ++ [g n] = lst g' n ++ [g' n]
    rw [lst_congr n (fun k hk => h k (by omega)), h n (by omega)]
theorem lst_len (g : Nat → St) : ∀ n, (lst g n).length = n
  | 0 => rfl
  | n + 1 => by
    show (lst g n ++ [g n]).length = _
    rw [List.length_append, lst_len g n]
    rfl
theorem lst_mem {g : Nat → St} {x : St} : ∀ {n : Nat}, x ∈ lst g n ↔ ∃ k, k < n ∧ g k = x
  | 0 => by
    constructor
    · intro h; cases h
    · rintro ⟨k, hk, -⟩; omega
  | n + 1 => by
    show x ∈ lst g n ++ [g n] ↔ _
    rw [List.mem_append, lst_mem, List.mem_singleton]
    constructor
    · rintro (⟨k, hk, e⟩ | e)
      · exact ⟨k, by omega, e⟩
      · exact ⟨n, by omega, e.symm⟩
    · rintro ⟨k, hk, e⟩
      by_cases z : k = n
      · exact Or.inr (by rw [← e, z])
      · exact Or.inl ⟨k, by omega, e⟩
theorem lst_inj {g g' : Nat → St} : ∀ {n : Nat}, lst g n = lst g' n → ∀ k, k < n → g k = g' k
  | 0, _, k, hk => by omega
  | n + 1, h, k, hk => by
    have h1 := List.append_inj h (by rw [lst_len, lst_len])
    by_cases z : k = n
    · rw [z]; simpa using h1.2
    · exact lst_inj h1.1 k (by omega)
theorem lst_swap {g g' : Nat → St} {k : Nat} (h1 : g' k = g (k + 1)) (h2 : g' (k + 1) = g k) (h3 : ∀ j, j ≠ k → j ≠ k + 1 → g' j = g j) : ∀ n, k + 1 < n → (lst g' n).Perm (lst g n)
  | 0, h => by omega
  | n + 1, h => by
    by_cases z : k + 1 = n
    · subst z
      show (lst g' k ++ [g' k] ++ [g' (k + 1)]).Perm (lst g k ++ [g k] ++ [g (k + 1)])
      rw [h1, h2, lst_congr k (fun j hj => h3 j (by omega) (by omega)), List.append_assoc, List.append_assoc]
      exact List.Perm.append_left _ (List.Perm.swap _ _ _)
    · show (lst g' n ++ [g' n]).Perm (lst g n ++ [g n])
      rw [h3 n (by omega) (by omega)]
      exact List.Perm.append_right _ (lst_swap h1 h2 h3 n (by omega))
def srt (g : Nat → St) (n : Nat) : Prop := ∀ i j, i < j → j < n → so (g i) (g j) ≤ 0
theorem srt_adj {g : Nat → St} {n : Nat} (h : ∀ k, k + 1 < n → so (g k) (g (k + 1)) ≤ 0) : srt g n := by
  intro i j hij
  induction j with
  | zero => omega
  | succ j ih =>
    intro hj
    by_cases z : i = j
    · rw [z]; exact h j hj
    · exact so_tr (ih (by omega) (by omega)) (h j hj)
theorem lst_srt {g : Nat → St} : ∀ n, srt g n → (lst g n).Pairwise (fun a b => so a b ≤ 0)
  | 0, _ => List.Pairwise.nil
  | n + 1, h => by
    show (lst g n ++ [g n]).Pairwise _
    rw [List.pairwise_append]
    refine ⟨lst_srt n (fun i j hi hj => h i j hi (by omega)), List.pairwise_singleton _ _, fun a ha b hb => ?_⟩
    obtain ⟨k, hk, rfl⟩ := lst_mem.mp ha
    rw [List.mem_singleton] at hb
    rw [hb]
    exact h k n hk (by omega)
/-- two sorted sequences of the same structures are one -/
theorem srt_uniq {g g' : Nat → St} {n n' : Nat} (h1 : srt g n) (h2 : srt g' n') (hw : ∀ k, k < n → wfS (g k)) (hp : (lst g n).Perm (lst g' n')) : n = n' ∧ ∀ k, k < n → g k = g' k := by
  have hn : n = n' := by have := hp.length_eq; rw [lst_len, lst_len] at this; exact this
  subst hn
  refine ⟨rfl, lst_inj ?_⟩
  have hw' : ∀ x, x ∈ lst g n → wfS x := fun x hx => by
    obtain ⟨k, hk, rfl⟩ := lst_mem.mp hx
    exact hw k hk
  refine List.Perm.eq_of_pairwise (fun a b ha hb l1 l2 => ?_) (lst_srt n h1) (lst_srt n h2) hp
  have := so_anti a b
  exact (so_zero (hw' a ha) (hw' b (hp.mem_iff.mpr hb))).mp (by omega)
