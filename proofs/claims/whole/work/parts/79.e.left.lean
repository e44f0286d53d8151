/-! What the constructors leave behind. -/
def zfl (a : Nat) : zLg → zLg
  | [] => []
  | x :: l => bif Nat.beq a x.1 then x :: zfl a l else zfl a l
theorem zfl_ok (a k : Nat) : ∀ l : zLg, zlk l a k = zlk (zfl a l) a k
  | [] => rfl
  | (a', none, v) :: l => by
    unfold zfl
    by_cases h : a = a'
    · rw [show Nat.beq a a' = true from by rw [h]; exact Nat.beq_refl a']
      unfold zlk
      rw [if_pos h]
      exact (if_pos h).symm
    · rw [show Nat.beq a a' = false from Bool.eq_false_iff.mpr (fun z => h (Nat.eq_of_beq_eq_true z))]
      show (if a = a' then v else zlk l a k) = zlk (zfl a l) a k
      rw [if_neg h]
      exact zfl_ok a k l
  | (a', some j, v) :: l => by
    unfold zfl
    by_cases h : a = a'
    · rw [show Nat.beq a a' = true from by rw [h]; exact Nat.beq_refl a']
      unfold zlk
      dsimp only [cond_true]
      rw [zfl_ok a k l]
    · rw [show Nat.beq a a' = false from Bool.eq_false_iff.mpr (fun z => h (Nat.eq_of_beq_eq_true z))]
      show (if a = a' ∧ k = j then v else zlk l a k) = zlk (zfl a l) a k
      rw [if_neg (fun z => h z.1)]
      exact zfl_ok a k l
def zal : Nat → (Nat → Bool) → Bool
  | 0, _ => true
  | n + 1, p => p n && zal n p
theorem zal_ok {p : Nat → Bool} : ∀ {n : Nat}, zal n p = true → ∀ k, k < n → p k = true
  | 0, _, k, hk => absurd hk (by omega)
  | n + 1, h, k, hk => by
    simp only [zal, Bool.and_eq_true] at h
    by_cases e : k = n
    · rw [e]; exact h.1
    · exact zal_ok h.2 k (by omega)
/-- all written values are 0, and there is a first one -/
def zz0 : zLg → Bool
  | [] => false
  | (_, none, v) :: _ => zvq v (.int 0)
  | (_, some _, v) :: l => zvq v (.int 0) && zz0 l
theorem zz0_ok (a k : Nat) : ∀ l : zLg, zz0 (zfl a l) = true → zlk l a k = .int 0
  | [], h => by cases h
  | (a', none, v) :: l, h => by
    unfold zlk
    by_cases e : a = a'
    · rw [if_pos e]
      unfold zfl at h
      rw [show Nat.beq a a' = true from by rw [e]; exact Nat.beq_refl a'] at h
      exact zvq_ok h
    · rw [if_neg e]
      unfold zfl at h
      rw [show Nat.beq a a' = false from Bool.eq_false_iff.mpr (fun z => e (Nat.eq_of_beq_eq_true z))] at h
      exact zz0_ok a k l h
  | (a', some j, v) :: l, h => by
    unfold zlk
    by_cases e : a = a'
    · unfold zfl at h
      rw [show Nat.beq a a' = true from by rw [e]; exact Nat.beq_refl a'] at h
      have h : (zvq v (.int 0) && zz0 (zfl a l)) = true := h
      rw [Bool.and_eq_true] at h
      split
      · exact zvq_ok h.1
      · exact zz0_ok a k l h.2
    · rw [if_neg (fun z => e z.1)]
      unfold zfl at h
      rw [show Nat.beq a a' = false from Bool.eq_false_iff.mpr (fun z => e (Nat.eq_of_beq_eq_true z))] at h
      exact zz0_ok a k l h
def t0 : T := (fun a k => if k = 2 ∧ 251 ≤ a ∧ a < 275 ∧ a % 3 = 2 then 15 else 0, fun a k => if [62, 162, 276, 328, 380, 432, 302, 354, 406, 458].contains a = true then a + 1 + 2 * k else tcr a k)
def zck (l : zLg) (a : Nat) : Bool := bif (Nat.ble 100 (vtag a) && Nat.blt (vtag a) 103) then zvq (.int (t0.1 a 2)) (.int 0) && zz0 (zfl a l) else zal (vlen a) (fun k => bif tint a k then zvq (zlk (zfl a l) a k) (.int (t0.1 a k)) else zvq (zlk (zfl a l) a k) (.ref (tref t0 a k)))
theorem zck_ok {l : zLg} (h : zal 517 (zck l) = true) : zT (zS1, l) t0 := by
  refine ⟨rfl, fun a k ha => ?_⟩
  have h1 := zal_ok h a ha
  unfold zck at h1
  unfold zrd
  by_cases hv : 100 ≤ vtag a ∧ vtag a < 103
  · have e : (Nat.ble 100 (vtag a) && Nat.blt (vtag a) 103) = true := by rw [Bool.and_eq_true]; exact ⟨Nat.ble_eq.mpr hv.1, Nat.ble_eq.mpr hv.2⟩
    rw [e, cond_true, Bool.and_eq_true] at h1
    refine ⟨fun _ _ => ?_, fun z _ => ?_⟩
    · show zlk l a k = _
      rw [zz0_ok a k l h1.2]
      have h2 : (t0.1 a 2) = 0 := Value.int.inj (zvq_ok h1.1)
      by_cases hk : k = 2
      · rw [hk, h2]
      · unfold t0
        dsimp only
        rw [if_neg (fun z => hk z.1)]
    · rw [tint_arr k hv.1, decide_eq_true hv.2] at z
      cases z
  · have e : (Nat.ble 100 (vtag a) && Nat.blt (vtag a) 103) = false := Bool.eq_false_iff.mpr (fun z => hv (by rw [Bool.and_eq_true] at z; exact ⟨Nat.le_of_ble_eq_true z.1, Nat.le_of_ble_eq_true z.2⟩))
    rw [e, cond_false] at h1
    have h2 : ∀ k, k < vlen a → _ := zal_ok h1
    refine ⟨fun z y => ?_, fun z y => ?_⟩
    · have hk : k < vlen a := by
        rcases y with y | y
        · exact y
        · rw [tint_arr k y] at z
          exact absurd ⟨y, of_decide_eq_true z⟩ hv
      have h3 := h2 k hk
      rw [z, cond_true] at h3
      show zlk l a k = _
      rw [zfl_ok]
      exact zvq_ok h3
    · have h3 := h2 k y
      rw [z, cond_false] at h3
      show zlk l a k = _
      rw [zfl_ok]
      exact zvq_ok h3
set_option maxRecDepth 100000 in
theorem zck_b : zal 517 (zck zlB_0) = true := by decide +kernel
theorem zT_b : zT zM_b t0 := zck_ok zck_b
theorem t0_0 {a k : Nat} (h : a < 251 ∨ 275 ≤ a ∨ k ≠ 2) : t0.1 a k = 0 := by
  unfold t0
  dsimp only
  rw [if_neg (by omega)]
theorem t0_n {a k : Nat} (h : a < 251 ∨ 275 ≤ a ∨ k ≠ 2) : t0.1 a k = nI 0 := (t0_0 h).trans li0
theorem t0_c {a : Nat} (h : a + 1 < 251 ∨ 275 ≤ a) : cS t0 a = z0 := by
  funext k
  unfold cS z0
  rw [t0_0 (by omega), t0_0 (by omega)]
  simp only [ite_self]
theorem t0_m (s : Nat) : mS t0 s = z0 := by
  funext k
  unfold mS z0
  rw [t0_0 (by omega)]
  simp only [ite_self]
theorem z0_w : wfS z0 := ⟨⟨0, by omega, li0, fun _ _ _ => rfl, fun _ _ _ _ _ _ => rfl, fun _ _ _ _ _ _ _ _ => rfl⟩, fun _ _ _ => ⟨0, by omega, li0⟩, fun _ _ => Or.inl rfl, fun _ _ => rfl⟩
theorem bag_t0 : ∀ b, b ∈ bags → ∀ k, k < bN b → vtag (b + 2 + 2 * k) = 4 := by decide +kernel
theorem t0_b (b : Nat) (hb : b ∈ bags) : bwf t0 b := by
  have e : ∀ k, br t0 b k = b + 2 + 2 * k := fun k => by
    unfold br t0
    dsimp only
    rw [if_pos (bag_all b hb).2.2.2.2.1]
  refine ⟨fun k hk => ?_, fun j k hj hk h => ?_⟩
  · rw [e]
    exact ⟨by omega, by omega, bag_t0 b hb k hk⟩
  · rw [e, e] at h
    omega
theorem INV_t0 : INV t0 := by
  have no : ∀ {P : Prop} {i : Nat}, i < 0 → P := fun h => absurd h (by omega)
  have hl : ∀ b, 61 ≤ b → (b < 251 ∨ 275 ≤ b) → liI t0 b [] := fun b h1 h2 => ⟨⟨t0_n (by omega), fun k hk => no hk⟩, fun x hx => absurd hx (List.not_mem_nil)⟩
  have hr : ∀ a, rwI t0 a [] := fun a k hk => no hk
  have hp : t0.2 0 12 = 161 ∧ t0.2 58 3 = 61 := by decide +kernel
  refine ⟨fun _ _ => 0, 0, fun _ _ => 0, 0, 0, fun _ _ => 0, fun s hs _ => ?_, ⟨⟨by omega, fun _ h => no h, fun _ h => no h, fun _ _ h => no h⟩, ⟨⟨fun _ _ => 0, by omega, fun _ h => no h, fun _ _ h => no h, fun _ h => no h⟩, fun _ h => no h⟩, t0_n (by omega), t0_n (by omega), fun i _ hi => ⟨t0_0 (by omega), t0_0 (by omega)⟩, fun _ h => no h⟩, ⟨⟨by omega, fun _ h => no h⟩, ⟨t0_n (by omega), fun _ h => no h⟩, ⟨t0_n (by omega), fun _ h => no h⟩⟩, ⟨by omega, t0_n (by omega), t0_n (by omega), fun _ h => no h, fun e _ he => ⟨t0_0 (by omega), t0_0 (by omega)⟩⟩, t0_b, Or.inl hp, ?_, fun p hp => ?_, fun p hp => ?_⟩
  · rw [t0_c (by omega), t0_m]
    exact ⟨rfl, z0_w⟩
  · exact ⟨[], by decide, by rw [hp.1]; exact hl 161 (by omega) (by omega), t0_n (by omega), hr _⟩
  · exact ⟨[], by decide, hl _ (by omega) (by omega), t0_n (by omega), hr _⟩
  · exact ⟨[], [], by decide, ⟨List.nodup_nil, List.Pairwise.nil⟩, List.Perm.refl _, hl _ (by omega) (by omega), t0_n (by omega), hr _⟩
