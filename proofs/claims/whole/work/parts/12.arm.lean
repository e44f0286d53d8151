/-! The other steps: lengths, new cells, arraycopy, Math.max, Object's own constructor. -/
section ZARM2
variable {p : Program} {l : Launch} {e : Env} {R : Room} {s : State} {m : MethodId} {args : Array Value} {below : List Frame} {meth : Method} {c : Code} {Q : State → Prop} {D : va_G} {cA : Nat → ClassId} {sz b n0 s0 : Nat}
variable {mi pc : Nat} {ml st : List Value} {M : zM} {pc' : Nat} {ml' st' : List Value} {M' : zM}
theorem za_alen (K : zCx p s m args meth c D cA mi) {xs : Option (List Int32)} (hX : ∀ l, xs = some l → va_X b l.length (fun j => l.getD j 0) s s.heap ∧ b < s.heap.size ∧ ¬ sz ≤ b) (hd : decode (zm mi).2.1 pc = .ok (.arraylength, 1)) (h : zalen xs pc ml st M = some (.inl (pc', ml', st', M'))) (kk : zC p l e R s m args below meth c Q D cA sz b n0 s0 pc' ml' st' M') : zC p l e R s m args below meth c Q D cA sz b n0 s0 pc ml st M := by
  unfold zalen at h
  intro H locs ls cells slots hz hl hP hS hc hs
  split at h
  · rename_i a r
    split at h
    · rename_i ha
      subst ha
      split at h
      · rename_i l9
        obtain ⟨rfl, rfl, rfl, rfl⟩ := zn_inj h
        obtain ⟨x1, x2, x3⟩ := hX _ rfl
        show W _ _ _ _ _ _ _ _ _ _ _ _ _ _ _ (F0 m pc ls (ztv sz b (.ref zSCR) :: r.map (ztv sz b)))
        rw [show ztv sz b (.ref zSCR) = .ref b by simp [ztv]]
        exact va_slen K.1 K.2.1 x1 x2 x3 hS hd (kk H locs ls cells slots hz hl hP hS hc hs)
      · cases h
    · rename_i ha
      split at h
      · rename_i tg n hM
        split at h
        · rename_i hi
          obtain ⟨h1, h2⟩ := hi
          obtain ⟨rfl, rfl, rfl, rfl⟩ := zn_inj h
          have hg := zimg_at (cA := cA) (sz := sz) (b := b) hM
          show W _ _ _ _ _ _ _ _ _ _ _ _ _ _ _ (F0 m pc ls (ztv sz b (.ref a) :: r.map (ztv sz b)))
          rw [ztv_ref ha]
          by_cases h3 : tg < 103
          · rw [zE_int h1 h3] at hg
            have : tg = 100 ∨ tg = 101 ∨ tg = 102 := by omega
            rcases this with rfl | rfl | rfl
            · exact va_alen K.1 K.2.1 K.2.2.2.2.2.1.1 hP.1 a 0 hg rfl rfl hd (kk H locs ls cells slots hz hl hP hS hc hs)
            · exact va_alen K.1 K.2.1 K.2.2.2.2.2.1.1 hP.1 a 1 hg rfl rfl hd (kk H locs ls cells slots hz hl hP hS hc hs)
            · exact va_alen K.1 K.2.1 K.2.2.2.2.2.1.1 hP.1 a 2 hg rfl rfl hd (kk H locs ls cells slots hz hl hP hS hc hs)
          · rw [zE_ref (by omega)] at hg
            exact va_alen K.1 K.2.1 K.2.2.2.2.2.1.1 hP.1 a (tg - 100) hg (ztys_ref (by omega) h2) rfl hd (kk H locs ls cells slots hz hl hP hS hc hs)
        · cases h
      · cases h
  · cases h
/-- where a new cell lies -/
theorem z_where {H1 : Heap} {q cells slots : Nat} {en : va_E} {locs : List Loc} {g : JFrame} (hs0 : s.heap.size = sz + n0) (hP1 : va_P D zcl (zimg cA sz b M ++ [(q, en)]) H1) (hD1 : va_D (fun q => sz ≤ q) (zimg cA sz b M ++ [(q, en)])) (hc : cells + n0 = znc M) (k : q = sz + M.1.length → H1.size = sz + M.1.length + 1 → W p l e R s m args below meth c H1 locs (cells + 1) slots Q g) : W p l e R s m args below meth c H1 locs (cells + 1) slots Q g := by
  intro T hT X
  have h1 := X.heapSize
  rw [hT] at h1
  unfold znc at hc
  have hk : (zimg cA sz b M ++ [(q, en)])[M.1.length]? = some (q, en) := by
    rw [List.getElem?_append_right (by rw [zimg_len]; exact Nat.le_refl _), zimg_len]
    simp
  have h2 := (hP1 _ _ hk).lt
  have h3 : sz ≤ q := hD1.2 _ _ hk
  dsimp only at h2
  have h4 : q = sz + M.1.length := by
    by_cases h5 : q - sz < M.1.length
    · exfalso
      have h6 : (zimg cA sz b M ++ [(q, en)])[q - sz]? = some (sz + (q - sz), zE cA sz b (M.1[q - sz]).1 (M.1[q - sz]).2 (zrd M (q - sz))) := by
        rw [List.getElem?_append_left (by rw [zimg_len]; exact h5)]
        exact zimg_at (by rw [List.getElem?_eq_getElem h5])
      have h7 := hD1.1 _ _ _ _ h6 hk (by dsimp only; omega)
      omega
    · omega
  exact k h4 (by omega) T hT X
theorem za_new (K : zCx p s m args meth c D cA mi) (hs0 : s.heap.size = sz + n0) {ix x : Nat} (hx : x < 13) (hn1 : znc (zno M x) ≤ n0 + R.cells) (hn2 : zns (zno M x) ≤ s0 + R.slots) (hd : decode (zm mi).2.1 pc = .ok (.new ix, 3)) (hw : Cond.classLink (zm mi).1.cls ix (zFC x) ∈ lw_tbl) (hsc : M.1.length < zSCR) (kk : zC p l e R s m args below meth c Q D cA sz b n0 s0 (pc + 3) ml (.ref M.1.length :: st) (zno M x)) : zC p l e R s m args below meth c Q D cA sz b n0 s0 pc ml st M := by
  intro H locs ls cells slots hz hl hP hS hc hs
  have e1 : znc (zno M x) = znc M + 1 := by simp [znc, zno]
  have e2 : zns (zno M x) = zns M + zFN x := by simp [zns, zno]
  refine va_new (ci := x) (fs := (List.range (zFN x)).map (fun k => zdf x k)) K.1 K.2.1 K.2.2.2.2.1 (z_uws hx) (zFy x) (z_fy x hx) K.2.2.2.1 (z_lw K hw rfl) (z_lw K ((z_cls x hx).2 _ List.mem_cons_self) rfl) (z_lw K ((z_cls x hx).2 _ (List.mem_cons_of_mem _ List.mem_cons_self)) rfl) K.2.2.2.2.2.1.1 hP.1 (zD cA sz b M) hS (fun q hq => by show sz ≤ q; omega) (zcl_at hx) (fun j hj => ?_) (by omega) (by omega) hd (fun q H1 hP1 hD1 hS1 => ?_)
  · rw [(z_fd x hx j hj).2]
    unfold vp_V
    simp [List.getD, List.getElem?_range hj]
  · refine z_where hs0 hP1 hD1 hc (fun hq hsz => ?_)
    subst hq
    have himg : zimg cA sz b M ++ [(sz + M.1.length, .inr (x, (List.range (zFN x)).map (fun k => zdf x k)))] = zimg cA sz b (zno M x) := by
      refine zimg_add (M' := zno M x) rfl (fun i hi k => by rw [zrd_no, if_neg (by omega)]) ?_
      rw [zE_obj hx]
      congr 2
      apply List.map_congr_left
      intro k hk
      have hk : k < zFN x := by simpa using hk
      rw [zrd_no, if_pos ⟨rfl, hk⟩]
      unfold zdf
      split <;> rfl
    rw [himg] at hP1
    have k2 := kk H1 locs ls (cells + 1) (slots + zFN x) hz hl ⟨hP1, by rw [hsz]; simp [zno]; omega⟩ hS1 (by omega) (by omega)
    have e3 : ztv sz b (.ref M.1.length) = .ref (sz + M.1.length) := ztv_ref (by omega)
    rw [List.map_cons, e3] at k2
    exact k2
theorem z_K0 (h : zK D cA s) (t0 : Nat) {C9 : ClassId} {ty : FieldType} (ht : (ztys cA)[t0]? = some (C9, ty)) {tys : List (ClassId × FieldType)} {cN : ClassId} (h2 : va_K D zcl (tys ++ [(cN, ty)]) s) : cN = C9 := by
  have h3 := (h.1.2 _ _ ht).2
  have h4 := (h2.2 tys.length (cN, ty) (by simp)).2
  dsimp only at h3 h4
  cases ty with
  | object C =>
    obtain ⟨_, _, _, _, _, g1⟩ := h3
    obtain ⟨_, _, _, _, _, g2⟩ := h4
    exact Option.some.inj (g2.symm.trans g1)
  | _ => exact Option.some.inj (h4.symm.trans h3)
theorem za_nwF {x N : Nat} {v : Value} {q : Nat} {en : va_E} {H1 : Heap} {locs : List Loc} {ls : Array Slot} {cells slots : Nat} {r : List Value} (hs0 : s.heap.size = sz + n0) (hen : zE cA sz b x N (fun _ => v) = en) (hsc : M.1.length < zSCR) (hz : ls.size = c.maxLocals) (hl : zLR sz b ls ml) (hc : cells + n0 = znc M) (hs : slots + s0 = zns M) (hP1 : va_P D zcl (zimg cA sz b M ++ [(q, en)]) H1) (hD1 : va_D (fun q => sz ≤ q) (zimg cA sz b M ++ [(q, en)])) (hS1 : va_S (fun q => sz ≤ q) s.heap H1 locs) (kk : zC p l e R s m args below meth c Q D cA sz b n0 s0 pc' ml (.ref M.1.length :: r) (znw M x N v)) : W p l e R s m args below meth c H1 locs (cells + 1) (slots + N) Q (F0 m pc' ls (.ref q :: r.map (ztv sz b))) := by
  refine z_where hs0 hP1 hD1 hc (fun hq hsz => ?_)
  subst hq
  have himg : zimg cA sz b M ++ [(sz + M.1.length, en)] = zimg cA sz b (znw M x N v) := by
    refine zimg_add (M' := znw M x N v) rfl (fun i hi k => by rw [zrd_nw, if_neg (by omega)]) ?_
    rw [← hen]
    congr 1
    funext k
    rw [zrd_nw, if_pos rfl]
  rw [himg] at hP1
  have e1 : znc (znw M x N v) = znc M + 1 := by simp [znc, znw]
  have e2 : zns (znw M x N v) = zns M + N := by simp [zns, znw]
  have k2 := kk H1 locs ls (cells + 1) (slots + N) hz hl ⟨hP1, by rw [hsz]; simp [znw]; omega⟩ hS1 (by omega) (by omega)
  have e3 : ztv sz b (.ref M.1.length) = .ref (sz + M.1.length) := ztv_ref (by omega)
  rw [List.map_cons, e3] at k2
  exact k2
theorem za_newa (K : zCx p s m args meth c D cA mi) (hs0 : s.heap.size = sz + n0) {t : ArrayType} {x : Nat} (hn1 : znc M' ≤ n0 + R.cells) (hn2 : zns M' ≤ s0 + R.slots) (hx : ztg t = x) (hx2 : 100 ≤ x) (hd : decode (zm mi).2.1 pc = .ok (.newarray t, 2)) (h : znwa (pc + 2) x (.int 0) ml st M = some (.inl (pc', ml', st', M'))) (kk : zC p l e R s m args below meth c Q D cA sz b n0 s0 pc' ml' st' M') : zC p l e R s m args below meth c Q D cA sz b n0 s0 pc ml st M := by
  unfold znwa at h
  intro H locs ls cells slots hz hl hP hS hc hs
  split at h
  · rename_i n r
    split at h
    · rename_i hh
      obtain ⟨hn, hN, hsc⟩ := hh
      obtain ⟨rfl, rfl, rfl, rfl⟩ := zn_inj h
      have e1 : znc (znw M x n.toNatClampNeg (.int 0)) = znc M + 1 := by simp [znc, znw]
      have e2 : zns (znw M x n.toNatClampNeg (.int 0)) = zns M + n.toNatClampNeg := by simp [zns, znw]
      show W _ _ _ _ _ _ _ _ _ _ _ _ _ _ _ (F0 m pc ls (.int n :: r.map (ztv sz b)))
      cases t <;> simp only [ztg] at hx <;> first | (exfalso; omega) | skip
      · subst hx
        refine va_newa (ty := .boolean) (N' := n.toNatClampNeg) (a0 := (n.toNatClampNeg, .inl (fun _ => 0))) K.1 K.2.1 (z_lw K (z_gen _ (List.mem_of_getElem? (i := 2) rfl)) rfl) rfl K.2.2.2.2.2.1.1 hP.1 (zD cA sz b M) hS (fun q hq => by show sz ≤ q; omega) (fun _ => rfl) hn rfl (by show n.toNatClampNeg * 1 ≤ _; omega) (by omega) (by omega) hd (fun q cN H1 hK1 hP1 hD1 hS1 => ?_)
        have := z_K0 K.2.2.2.2.2.1 2 rfl hK1
        subst this
        exact za_nwF hs0 (by rw [zE_int (by omega) (by omega)]; rfl) hsc hz hl hc hs hP1 hD1 hS1 kk
      · subst hx
        refine va_newa (ty := .byte) (N' := n.toNatClampNeg) (a0 := (n.toNatClampNeg, .inl (fun _ => 0))) K.1 K.2.1 (z_lw K (z_gen _ (List.mem_of_getElem? (i := 1) rfl)) rfl) rfl K.2.2.2.2.2.1.1 hP.1 (zD cA sz b M) hS (fun q hq => by show sz ≤ q; omega) (fun _ => rfl) hn rfl (by show n.toNatClampNeg * 1 ≤ _; omega) (by omega) (by omega) hd (fun q cN H1 hK1 hP1 hD1 hS1 => ?_)
        have := z_K0 K.2.2.2.2.2.1 1 rfl hK1
        subst this
        exact za_nwF hs0 (by rw [zE_int (by omega) (by omega)]; rfl) hsc hz hl hc hs hP1 hD1 hS1 kk
      · subst hx
        refine va_newa (ty := .int) (N' := n.toNatClampNeg) (a0 := (n.toNatClampNeg, .inl (fun _ => 0))) K.1 K.2.1 (z_lw K (z_gen _ (List.mem_of_getElem? (i := 0) rfl)) rfl) rfl K.2.2.2.2.2.1.1 hP.1 (zD cA sz b M) hS (fun q hq => by show sz ≤ q; omega) (fun _ => rfl) hn rfl (by show n.toNatClampNeg * 4 ≤ _; omega) (by omega) (by omega) hd (fun q cN H1 hK1 hP1 hD1 hS1 => ?_)
        have := z_K0 K.2.2.2.2.2.1 0 rfl hK1
        subst this
        exact za_nwF hs0 (by rw [zE_int (by omega) (by omega)]; rfl) hsc hz hl hc hs hP1 hD1 hS1 kk
    · cases h
  · cases h
theorem za_newq (K : zCx p s m args meth c D cA mi) (hs0 : s.heap.size = sz + n0) {ix x : Nat} (hn1 : znc M' ≤ n0 + R.cells) (hn2 : zns M' ≤ s0 + R.slots) (hx : 103 ≤ x) (hx2 : x < 108) (hd : decode (zm mi).2.1 pc = .ok (.anewarray ix, 3)) (hw : Cond.classLink (zm mi).1.cls ix (zAN.getD (x - 103) "") ∈ lw_tbl) (h : znwa (pc + 3) x .null ml st M = some (.inl (pc', ml', st', M'))) (kk : zC p l e R s m args below meth c Q D cA sz b n0 s0 pc' ml' st' M') : zC p l e R s m args below meth c Q D cA sz b n0 s0 pc ml st M := by
  unfold znwa at h
  intro H locs ls cells slots hz hl hP hS hc hs
  split at h
  · rename_i n r
    split at h
    · rename_i hh
      obtain ⟨hn, hN, hsc⟩ := hh
      obtain ⟨rfl, rfl, rfl, rfl⟩ := zn_inj h
      have e1 : znc (znw M x n.toNatClampNeg .null) = znc M + 1 := by simp [znc, znw]
      have e2 : zns (znw M x n.toNatClampNeg .null) = zns M + n.toNatClampNeg := by simp [zns, znw]
      have hcn : zAN.getD (x - 103) "" = zFC (zoc x) := by
        have : x = 103 ∨ x = 104 ∨ x = 105 ∨ x = 106 ∨ x = 107 := by omega
        rcases this with rfl | rfl | rfl | rfl | rfl <;> rfl
      have hmem : zFC (zoc x) ∈ zAN := by
        have : x = 103 ∨ x = 104 ∨ x = 105 ∨ x = 106 ∨ x = 107 := by omega
        rcases this with rfl | rfl | rfl | rfl | rfl <;> decide +kernel
      rw [hcn] at hw
      show W _ _ _ _ _ _ _ _ _ _ _ _ _ _ _ (F0 m pc ls (.int n :: r.map (ztv sz b)))
      refine va_newq (C := zFC (zoc x)) (N' := n.toNatClampNeg) K.1 K.2.1 K.2.2.2.1 (z_lw K hw rfl) (K.2.2.2.2.2.1.2.1 _ hmem) K.2.2.2.2.2.1.1 hP.1 (zD cA sz b M) hS (fun q hq => by show sz ≤ q; omega) hn rfl (by omega) (by omega) (by omega) hd (fun q cN H1 hK1 hP1 hD1 hS1 => ?_)
      have := z_K0 K.2.2.2.2.2.1 (x - 100) (ztys_ref hx hx2) hK1
      subst this
      exact za_nwF hs0 (by rw [zE_ref hx]; rfl) hsc hz hl hc hs hP1 hD1 hS1 kk
    · cases h
  · cases h
theorem z_sum {r : List Value} (h : r.all zc1 = true) : ((r.map (ztv sz b)).map fun v => v.category).sum = r.length := by
  induction r with
  | nil => rfl
  | cons v r ih =>
    rw [List.all_cons, Bool.and_eq_true] at h
    have h1 : v.category = 1 := by simpa [zc1] using h.1
    simp only [List.map_cons, List.sum_cons, List.length_cons]
    rw [ih h.2, ztv_cat, h1]
    omega
theorem za_max (K : zCx p s m args meth c D cA mi) {ix : Nat} {x y : Int32} {r : List Value} (hR1 : 1 ≤ R.frames) (hR2 : 64 ≤ R.locals) (hn1 : znc M ≤ n0 + R.cells) (hn2 : zns M ≤ s0 + R.slots) (hr : r.length ≤ 8 ∧ r.all zc1 = true) (hd : decode (zm mi).2.1 pc = .ok (.invokestatic ix, 3)) (hw : Cond.methodLink (zm mi).1.cls ix Lib.Math.max.name ∈ lw_tbl) (kk : zC p l e R s m args below meth c Q D cA sz b n0 s0 (pc + 3) ml (.int (if x < y then y else x) :: r) M) : zC p l e R s m args below meth c Q D cA sz b n0 s0 pc ml (.int y :: .int x :: r) M := by
  intro H locs ls cells slots hz hl hP hS hc hs
  have hsum := z_sum (sz := sz) (b := b) hr.2
  exact va_mmax K.1 K.2.1 hz.symm K.2.2.2.1 (z_lw K hw rfl) (z_lw K (z_gen _ (List.mem_of_getElem? (i := 8) rfl)) rfl) (z_lw K (z_gen _ (List.mem_of_getElem? (i := 9) rfl)) rfl) (z_lw K (z_gen _ (List.mem_of_getElem? (i := 10) rfl)) rfl) hR1 (by omega) (by omega) (by omega) hd (kk H locs ls cells slots hz hl hP hS hc hs)
theorem za_oi (K : zCx p s m args meth c D cA mi) {ix a : Nat} {r : List Value} (hR1 : 1 ≤ R.frames) (hR2 : 64 ≤ R.locals) (hr : r.length ≤ 8 ∧ r.all zc1 = true) (hd : decode (zm mi).2.1 pc = .ok (.invokespecial ix, 3)) (hw : Cond.methodLink (zm mi).1.cls ix objectInit ∈ lw_tbl) (kk : zC p l e R s m args below meth c Q D cA sz b n0 s0 (pc + 3) ml r M) : zC p l e R s m args below meth c Q D cA sz b n0 s0 pc ml (.ref a :: r) M := by
  intro H locs ls cells slots hz hl hP hS hc hs
  have hsum := z_sum (sz := sz) (b := b) hr.2
  have hrm := lv_room (m := m) (pc := pc) (ls := ls) (rest := List.map (ztv sz b) (.ref a :: r)) (st := r.map (ztv sz b)) (by omega)
  exact W.objInit K.1 K.2.1 K.2.2.2.1 (z_lw K hw rfl) (z_lw K (z_gen _ (List.mem_of_getElem? (i := 3) rfl)) rfl) (z_lw K (z_gen _ (List.mem_of_getElem? (i := 4) rfl)) rfl) rfl hz rfl hd hR1 (by omega) (kk H locs ls cells slots hz hl hP hS hc hs)
theorem za_acp (K : zCx p s m args meth c D cA mi) (hs0 : s.heap.size = sz + n0) {ix : Nat} (hR1 : 1 ≤ R.frames) (hR2 : 64 ≤ R.locals) (hd : decode (zm mi).2.1 pc = .ok (.invokestatic ix, 3)) (hw : Cond.methodLink (zm mi).1.cls ix arraycopyName ∈ lw_tbl) (h : zacp pc ml st M = some (.inl (pc', ml', st', M'))) (kk : zC p l e R s m args below meth c Q D cA sz b n0 s0 pc' ml' st' M') : zC p l e R s m args below meth c Q D cA sz b n0 s0 pc ml st M := by
  unfold zacp at h
  intro H locs ls cells slots hz hl hP hS hc hs
  split at h
  · rename_i n dp d sp a r
    split at h
    · rename_i hh
      obtain ⟨ha, hdd, h1, h2, h3, hr1, hr2⟩ := hh
      split at h
      · rename_i t1 n1 t2 n2 hA hB
        split at h
        · rename_i hh
          obtain ⟨rfl, rfl, h4, h5, h6⟩ := hh
          obtain ⟨rfl, rfl, rfl, rfl⟩ := zn_inj h
          have hg1 := zimg_at (cA := cA) (sz := sz) (b := b) hA
          have hg2 := zimg_at (cA := cA) (sz := sz) (b := b) hB
          rw [zE_int (by omega) (by omega)] at hg1 hg2
          have hsum := z_sum (sz := sz) (b := b) hr2
          have hnf : nativeFrameWords "java/lang/System" "arraycopy" 5 = 7 := by decide +kernel
          show W _ _ _ _ _ _ _ _ _ _ _ _ _ _ _ (F0 m pc ls (.int n :: .int dp :: ztv sz b (.ref d) :: .int sp :: ztv sz b (.ref a) :: r.map (ztv sz b)))
          rw [ztv_ref ha, ztv_ref hdd]
          refine va_copyi (ty := .int) K.1 K.2.1 hz.symm K.2.2.2.1 (z_lw K hw rfl) (z_lw K (z_gen _ (List.mem_of_getElem? (i := 5) rfl)) rfl) (z_lw K (z_gen _ (List.mem_of_getElem? (i := 6) rfl)) rfl) (z_lw K (z_gen _ (List.mem_of_getElem? (i := 7) rfl)) rfl) K.2.2.2.2.2.1.1 hP.1 (zD cA sz b M) hS a d 0 0 hg1 hg2 rfl rfl rfl h1 h2 h3 h4 h5 (fun _ _ => rfl) hR1 (by rw [hsum, hnf]; omega) hd (fun H1 locs1 hP1 _ hS1 => ?_)
          refine z_fin hs0 kk hz hl ?_ hS1 hc hs
          rw [← zimg_upd (M := M) (M' := zcp M a sp.toNatClampNeg d dp.toNatClampNeg n.toNatClampNeg) hB rfl (fun i hi k => by rw [zrd_cp, if_neg (fun q => hi q.1)]) rfl]
          rw [zE_int (by omega) (by omega)]
          have : (fun j => zI (zrd (zcp M a sp.toNatClampNeg d dp.toNatClampNeg n.toNatClampNeg) d j)) = va_cpy (fun j => zI (zrd M a j)) (fun j => zI (zrd M d j)) sp.toNatClampNeg dp.toNatClampNeg n.toNatClampNeg := by
            funext j
            rw [zrd_cp]
            unfold va_cpy
            by_cases hj : dp.toNatClampNeg ≤ j ∧ j < dp.toNatClampNeg + n.toNatClampNeg
            · rw [if_pos ⟨rfl, hj⟩, if_pos hj]
            · rw [if_neg (fun q => hj q.2), if_neg hj]
          rw [this]
          exact hP1
        · cases h
      · cases h
    · cases h
  · cases h
end ZARM2
