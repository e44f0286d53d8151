/-! The small machine's memory as a world of the kit. -/
def zTs : List Cond := lw_tbl.filter goodWord
theorem z_ts {w : Cond} (h : w ∈ lw_tbl) (hg : goodWord w = true) : w ∈ zTs := List.mem_filter.mpr ⟨h, hg⟩
def zisN : Cond → Bool
  | .methodLinkNest _ _ _ _ => true
  | _ => false
def zNest : List Cond := lw_tbl.filter zisN
def ztv (sz b : Nat) : Value → Value
  | .ref k => .ref (if k = zSCR then b else sz + k)
  | v => v
def zI : Value → Int32
  | .int x => x
  | _ => 0
def zA (sz b : Nat) (v : Value) : Option Nat := match v with
  | .ref k => some (if k = zSCR then b else sz + k)
  | _ => none
theorem ztv_cat (sz b : Nat) (v : Value) : (ztv sz b v).category = v.category := by cases v <;> rfl
theorem ztv_ref {sz b k : Nat} (h : k ≠ zSCR) : ztv sz b (.ref k) = .ref (sz + k) := by simp [ztv, h]
def zE (cA : Nat → ClassId) (sz b tg n : Nat) (f : Nat → Value) : va_E :=
  if tg < 100 then .inr (tg, (List.range n).map (fun k => ztv sz b (f k)))
  else if tg < 103 then .inl (cA (tg - 100), n, .inl (fun j => zI (f j)))
  else .inl (cA (tg - 100), n, .inr (.inr (.inr (.inr (fun j => zA sz b (f j))))))
theorem zE_obj {cA : Nat → ClassId} {sz b tg n : Nat} {f : Nat → Value} (h : tg < 13) : zE cA sz b tg n f = .inr (tg, (List.range n).map (fun k => ztv sz b (f k))) := by
  unfold zE
  rw [if_pos (by omega)]
theorem zE_int {cA : Nat → ClassId} {sz b tg n : Nat} {f : Nat → Value} (h : 100 ≤ tg) (h2 : tg < 103) : zE cA sz b tg n f = .inl (cA (tg - 100), n, .inl (fun j => zI (f j))) := by
  unfold zE
  rw [if_neg (by omega), if_pos h2]
theorem zE_ref {cA : Nat → ClassId} {sz b tg n : Nat} {f : Nat → Value} (h : 103 ≤ tg) : zE cA sz b tg n f = .inl (cA (tg - 100), n, .inr (.inr (.inr (.inr (fun j => zA sz b (f j)))))) := by
  unfold zE
  rw [if_neg (by omega), if_neg (by omega)]
def zimg (cA : Nat → ClassId) (sz b : Nat) (M : zM) : va_W := (List.range M.1.length).map (fun a => (sz + a, zE cA sz b (M.1.getD a (0, 0)).1 (M.1.getD a (0, 0)).2 (zrd M a)))
theorem zimg_at {cA : Nat → ClassId} {sz b a tg n : Nat} {M : zM} (h : M.1[a]? = some (tg, n)) : (zimg cA sz b M)[a]? = some (sz + a, zE cA sz b tg n (zrd M a)) := by
  have hl : a < M.1.length := (List.getElem?_eq_some_iff.mp h).1
  unfold zimg
  rw [List.getElem?_map, List.getElem?_range hl]
  simp [List.getD, h]
theorem zimg_get {cA : Nat → ClassId} {sz b k : Nat} {M : zM} {q : Nat × va_E} (h : (zimg cA sz b M)[k]? = some q) : q.1 = sz + k ∧ k < M.1.length := by
  have hl : k < (zimg cA sz b M).length := (List.getElem?_eq_some_iff.mp h).1
  have hl2 : k < M.1.length := by simpa [zimg] using hl
  unfold zimg at h
  rw [List.getElem?_map, List.getElem?_range hl2] at h
  cases h
  exact ⟨rfl, hl2⟩
theorem zimg_len {cA : Nat → ClassId} {sz b : Nat} {M : zM} : (zimg cA sz b M).length = M.1.length := by simp [zimg]
theorem zD (cA : Nat → ClassId) (sz b : Nat) (M : zM) : va_D (fun q => sz ≤ q) (zimg cA sz b M) := by
  refine ⟨fun i j x y hi hj hxy => ?_, fun k q hk => ?_⟩
  · have h1 := (zimg_get hi).1
    have h2 := (zimg_get hj).1
    omega
  · have h1 := (zimg_get hk).1
    show sz ≤ q.1
    omega
/-- one cell is changed -/
theorem zimg_upd {cA : Nat → ClassId} {sz b a tg n : Nat} {M M' : zM} (h : M.1[a]? = some (tg, n)) (h1 : M'.1 = M.1) (h2 : ∀ i, i ≠ a → ∀ k, zrd M' i k = zrd M i k) {e : va_E} (he : zE cA sz b tg n (zrd M' a) = e) : (zimg cA sz b M).set a (sz + a, e) = zimg cA sz b M' := by
  apply List.ext_getElem?
  intro i
  by_cases hi : i = a
  · subst hi
    have hl : i < M.1.length := (List.getElem?_eq_some_iff.mp h).1
    rw [List.getElem?_set_self (by rw [zimg_len]; exact hl), zimg_at (by rw [h1]; exact h), he]
  · rw [List.getElem?_set_ne (Ne.symm hi)]
    unfold zimg
    rw [h1, List.getElem?_map, List.getElem?_map]
    have : zrd M' i = zrd M i := funext (h2 i hi)
    by_cases hl : i < M.1.length
    · rw [List.getElem?_range hl]
      simp [this]
    · rw [List.getElem?_eq_none (by simpa using hl)]
      rfl
/-- one cell more -/
theorem zimg_add {cA : Nat → ClassId} {sz b tg n : Nat} {M M' : zM} (h1 : M'.1 = M.1 ++ [(tg, n)]) (h2 : ∀ i, i < M.1.length → ∀ k, zrd M' i k = zrd M i k) {e : va_E} (he : zE cA sz b tg n (zrd M' M.1.length) = e) : zimg cA sz b M ++ [(sz + M.1.length, e)] = zimg cA sz b M' := by
  unfold zimg
  rw [h1, List.length_append, List.length_singleton, List.range_succ, List.map_append]
  congr 1
  · apply List.map_congr_left
    intro i hi
    have hl : i < M.1.length := by simpa using hi
    have : zrd M' i = zrd M i := funext (h2 i hl)
    rw [this]
    simp [List.getD, List.getElem?_append_left hl]
  · rw [← he]
    simp [List.getD]
theorem zrd_wr (M : zM) (a k : Nat) (v : Value) (a' k' : Nat) : zrd (zwr M a k v) a' k' = if a' = a ∧ k' = k then v else zrd M a' k' := rfl
theorem zrd_nw (M : zM) (tg n : Nat) (v : Value) (a' k' : Nat) : zrd (znw M tg n v) a' k' = if a' = M.1.length then v else zrd M a' k' := rfl
theorem zlk_map (f : Nat → Nat) (g : Nat → Value) (b : Nat) (l : zLg) (hf : ∀ i j, f i = f j → i = j) : ∀ (n a k : Nat), zlk ((List.range n).map (fun i => (b, some (f i), g i)) ++ l) a k = if a = b ∧ ∃ i, i < n ∧ k = f i then (if h : ∃ i, i < n ∧ k = f i then g (Classical.choose h) else .null) else zlk l a k := by
  have key : ∀ (is : List Nat) (a k : Nat), zlk (is.map (fun i => (b, some (f i), g i)) ++ l) a k = if a = b ∧ ∃ i, i ∈ is ∧ k = f i then (if h : ∃ i, i ∈ is ∧ k = f i then g (Classical.choose h) else .null) else zlk l a k := by
    intro is
    induction is with
    | nil => intro a k; simp
    | cons i is ih =>
      intro a k
      show (if a = b ∧ k = f i then g i else zlk (is.map (fun i => (b, some (f i), g i)) ++ l) a k) = _
      by_cases h : a = b ∧ k = f i
      · have hx : ∃ j, j ∈ i :: is ∧ k = f j := ⟨i, List.mem_cons_self, h.2⟩
        rw [if_pos h, if_pos ⟨h.1, hx⟩, dif_pos hx]
        congr 1
        exact hf _ _ (h.2.symm.trans (Classical.choose_spec hx).2)
      · rw [if_neg h, ih]
        by_cases h2 : a = b ∧ ∃ j, j ∈ is ∧ k = f j
        · obtain ⟨h3, j, h4, h5⟩ := h2
          have hx1 : ∃ j, j ∈ is ∧ k = f j := ⟨j, h4, h5⟩
          have hx2 : ∃ j, j ∈ i :: is ∧ k = f j := ⟨j, List.mem_cons_of_mem _ h4, h5⟩
          rw [if_pos ⟨h3, hx1⟩, if_pos ⟨h3, hx2⟩, dif_pos hx1, dif_pos hx2]
          congr 1
          exact hf _ _ ((Classical.choose_spec hx1).2.symm.trans (Classical.choose_spec hx2).2)
        · rw [if_neg h2, if_neg]
          rintro ⟨h3, j, h4, h5⟩
          rcases List.mem_cons.mp h4 with h6 | h6
          · subst h6; exact h ⟨h3, h5⟩
          · exact h2 ⟨h3, j, h6, h5⟩
  intro n a k
  rw [key]
  simp only [List.mem_range]
theorem zrd_cp (M : zM) (a sp d dp n a' k' : Nat) : zrd (zcp M a sp d dp n) a' k' = if a' = d ∧ dp ≤ k' ∧ k' < dp + n then zrd M a (sp + (k' - dp)) else zrd M a' k' := by
  unfold zcp
  show zlk _ _ _ = _
  rw [zlk_map (fun i => dp + i) (fun i => zrd M a (sp + i)) d M.2 (fun i j h => by omega)]
  by_cases h : a' = d ∧ dp ≤ k' ∧ k' < dp + n
  · obtain ⟨h1, h2, h3⟩ := h
    have hx : ∃ i, i < n ∧ k' = dp + i := ⟨k' - dp, by omega, by omega⟩
    rw [if_pos ⟨h1, hx⟩, if_pos ⟨h1, h2, h3⟩, dif_pos hx]
    have := (Classical.choose_spec hx).2
    congr 2
    omega
  · rw [if_neg h, if_neg]
    · rfl
    · rintro ⟨h1, i, h2, h3⟩
      exact h ⟨h1, by omega, by omega⟩
theorem zrd_no (M : zM) (ci a' k' : Nat) : zrd (zno M ci) a' k' = if a' = M.1.length ∧ k' < zFN ci then zdf ci k' else zrd M a' k' := by
  unfold zno
  show zlk _ _ _ = _
  rw [zlk_map (fun i => i) (fun i => zdf ci i) M.1.length M.2 (fun i j h => h)]
  by_cases h : a' = M.1.length ∧ k' < zFN ci
  · obtain ⟨h1, h2⟩ := h
    have hx : ∃ i, i < zFN ci ∧ k' = i := ⟨k', h2, rfl⟩
    rw [if_pos ⟨h1, hx⟩, if_pos ⟨h1, h2⟩, dif_pos hx]
    rw [← (Classical.choose_spec hx).2]
  · rw [if_neg h, if_neg]
    · rfl
    · rintro ⟨h1, i, h2, h3⟩
      exact h ⟨h1, by omega⟩
theorem z_map_set (n k : Nat) (g : Nat → Value) (x : Value) : ((List.range n).map g).set k x = (List.range n).map (fun j => if j = k then x else g j) := by
  apply List.ext_getElem?
  intro i
  by_cases hi : i = k
  · subst hi
    by_cases hl : i < n
    · rw [List.getElem?_set_self (by simpa using hl), List.getElem?_map, List.getElem?_range hl]
      simp
    · rw [List.getElem?_eq_none (by simpa using hl), List.getElem?_eq_none (by simpa using hl)]
  · rw [List.getElem?_set_ne (Ne.symm hi), List.getElem?_map, List.getElem?_map]
    by_cases hl : i < n
    · rw [List.getElem?_range hl]; simp [hi]
    · rw [List.getElem?_eq_none (by simpa using hl)]; rfl
/-- the locals -/
def zLR (sz b : Nat) (ls : Array Slot) (ml : List Value) : Prop := ls.size = ml.length ∧ lv_wf ls ∧ ∀ (i : Nat) (v : Value), ml[i]? = some v → v.category = 1 → ls[i]? = some (.val (ztv sz b v))
def zprs (sz b : Nat) (ml : List Value) : List (Nat × Value) := (ml.zipIdx.filter (fun q => decide (q.1.category = 1))).map (fun q => (q.2, ztv sz b q.1))
theorem zprs_in {sz b : Nat} {ml : List Value} {q : Nat × Value} : q ∈ zprs sz b ml ↔ ∃ v, ml[q.1]? = some v ∧ v.category = 1 ∧ q.2 = ztv sz b v := by
  unfold zprs
  constructor
  · intro h
    obtain ⟨⟨v, i⟩, h1, rfl⟩ := List.mem_map.mp h
    obtain ⟨h2, h3⟩ := List.mem_filter.mp h1
    have h4 := List.mem_zipIdx_iff_getElem?.mp h2
    exact ⟨v, h4, by simpa using h3, rfl⟩
  · rintro ⟨v, h1, h2, h3⟩
    refine List.mem_map.mpr ⟨(v, q.1), List.mem_filter.mpr ⟨List.mem_zipIdx_iff_getElem?.mpr h1, by simpa using h2⟩, ?_⟩
    rw [← h3]
theorem zLR.has {sz b : Nat} {ls : Array Slot} {ml : List Value} (h : zLR sz b ls ml) : lv_has ls ml.length (zprs sz b ml) := by
  refine ⟨h.1, h.2.1, fun q hq => ?_⟩
  obtain ⟨v, h1, h2, h3⟩ := zprs_in.mp hq
  rw [h3]
  exact h.2.2 _ _ h1 h2
theorem zLR.of {sz b : Nat} {ls' : Array Slot} {ml : List Value} {i : Nat} {v : Value} (hi : i < ml.length) (h : lv_has ls' ml.length ((i, ztv sz b v) :: (zprs sz b ml).filter (fun q => !(q.1 == i) && !(q.1 + 1 == i && q.2.category == 2)))) : zLR sz b ls' (ml.set i v) := by
  refine ⟨by rw [List.length_set]; exact h.1, h.2.1, fun j w hj hw => ?_⟩
  by_cases hji : j = i
  · subst hji
    rw [List.getElem?_set_self hi] at hj
    cases hj
    exact h.2.2 _ List.mem_cons_self
  · rw [List.getElem?_set_ne (Ne.symm hji)] at hj
    refine h.2.2 (j, ztv sz b w) (List.mem_cons_of_mem _ (List.mem_filter.mpr ⟨zprs_in.mpr ⟨w, hj, hw, rfl⟩, ?_⟩))
    have : (ztv sz b w).category = 1 := by rw [ztv_cat]; exact hw
    simp [hji, this]
def ztys (cA : Nat → ClassId) : List (ClassId × FieldType) := [(cA 0, .int), (cA 1, .byte), (cA 2, .boolean), (cA 3, .object "ThreeValues$Structure"), (cA 4, .object "ThreeValues$Formula"), (cA 5, .object "ThreeValues$Rule"), (cA 6, .object "ThreeValues$Edge"), (cA 7, .object "ThreeValues$Bag")]
def zK (D : va_G) (cA : Nat → ClassId) (U : State) : Prop := va_K D zcl (ztys cA) U ∧ (∀ C ∈ zAN, va_AO C U) ∧ ∀ w ∈ zNest, va_Nw w U
theorem zK.warm {D : va_G} {cA : Nat → ClassId} {s U : State} (h : zK D cA s) (hW : s.WarmedH U.vm) : zK D cA U := by
  refine ⟨va_K.moved hW.alike h.1, fun C hC => (h.2.1 C hC).moved hW.alike, fun w hw => ?_⟩
  have h1 := h.2.2 w hw
  have h2 := (List.mem_filter.mp hw).2
  cases w <;> first | (cases h2; done) | exact va_Nw.warmM hW h1
theorem zK.call {D : va_G} {cA : Nat → ClassId} {U : State} {g : JFrame} {mk : MethodId} {a : Array Value} (h : zK D cA U) : zK D cA (U.calling g mk a) := by
  refine ⟨va_K.moved (u := U) (U := U.calling g mk a) (Vm.Alike.refl U.vm) h.1, fun C hC => (h.2.1 C hC).moved (Vm.Alike.refl U.vm), fun w hw => ?_⟩
  have h1 := h.2.2 w hw
  have h2 := (List.mem_filter.mp hw).2
  cases w <;> first | (cases h2; done) | exact va_Nw.same rfl rfl h1
def zP (D : va_G) (cA : Nat → ClassId) (sz b : Nat) (M : zM) (H : Heap) : Prop := va_P D zcl (zimg cA sz b M) H ∧ H.size = sz + M.1.length
theorem zcl_at {ci : Nat} (h : ci < 13) : zcl[ci]? = some (zFC ci, zFT ci, zFN ci) := by
  unfold zcl
  rw [List.getElem?_map, List.getElem?_range h]
  rfl
