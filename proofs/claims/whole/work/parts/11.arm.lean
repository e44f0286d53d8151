/-! Each step of the small machine is a step of the big one. -/
def zCx (p : Program) (s : State) (m : MethodId) (args : Array Value) (meth : Method) (c : Code) (D : va_G) (cA : Nat → ClassId) (mi : Nat) : Prop :=
  p.tables.exec = Jvm.exec ∧ c.code = (zm mi).2.1 ∧ c.maxLocals = (zm mi).2.2.1 ∧ s.vm.findClass (zm mi).1.cls = some m.cls ∧ (∀ w ∈ zTs, w.before args s = true) ∧ zK D cA s ∧ ((zm mi).1.name = "<init>" → meth.name = "<init>") ∧ meth.sig.returnType = (zm mi).2.2.2.1 ∧ meth.locks = false
/-- the big machine goes to its end from every state that the small one's state is a picture of -/
def zC (p : Program) (l : Launch) (e : Env) (R : Room) (s : State) (m : MethodId) (args : Array Value) (below : List Frame) (meth : Method) (c : Code) (Q : State → Prop) (D : va_G) (cA : Nat → ClassId) (sz b n0 s0 : Nat) (pc : Nat) (ml st : List Value) (M : zM) : Prop :=
  ∀ (H : Heap) (locs : List Loc) (ls : Array Slot) (cells slots : Nat), ls.size = c.maxLocals → zLR sz b ls ml → zP D cA sz b M H → va_S (fun q => sz ≤ q) s.heap H locs → cells + n0 = znc M → slots + s0 = zns M → W p l e R s m args below meth c H locs cells slots Q (F0 m pc ls (st.map (ztv sz b)))
section ZARM
variable {p : Program} {l : Launch} {e : Env} {R : Room} {s : State} {m : MethodId} {args : Array Value} {below : List Frame} {meth : Method} {c : Code} {Q : State → Prop} {D : va_G} {cA : Nat → ClassId} {sz b n0 s0 : Nat}
variable {mi pc : Nat} {ml st : List Value} {M : zM} {pc' : Nat} {ml' st' : List Value} {M' : zM}
theorem zn_inj {pc1 : Nat} {ml1 st1 : List Value} {M1 : zM} (h : zn pc1 ml1 st1 M1 = some (.inl (pc', ml', st', M'))) : pc1 = pc' ∧ ml1 = ml' ∧ st1 = st' ∧ M1 = M' := by
  unfold zn at h
  cases h
  exact ⟨rfl, rfl, rfl, rfl⟩
theorem za_ldi_n (K : zCx p s m args meth c D cA mi) {k : Fin 4} (hd : decode (zm mi).2.1 pc = .ok (.iload_n k, 1)) (h : zldi (pc + 1) k.val ml st M = some (.inl (pc', ml', st', M'))) (kk : zC p l e R s m args below meth c Q D cA sz b n0 s0 pc' ml' st' M') : zC p l e R s m args below meth c Q D cA sz b n0 s0 pc ml st M := by
  unfold zldi at h
  split at h
  · rename_i x hx
    obtain ⟨rfl, rfl, rfl, rfl⟩ := zn_inj h
    intro H locs ls cells slots hz hl hP hS hc hs
    exact lv_iload_n K.1 K.2.1 hd rfl (hl.2.2 _ _ hx rfl) (kk H locs ls cells slots hz hl hP hS hc hs)
  · cases h
theorem za_ldi (K : zCx p s m args meth c D cA mi) {k : Nat} (hd : decode (zm mi).2.1 pc = .ok (.iload k, 2)) (h : zldi (pc + 2) k ml st M = some (.inl (pc', ml', st', M'))) (kk : zC p l e R s m args below meth c Q D cA sz b n0 s0 pc' ml' st' M') : zC p l e R s m args below meth c Q D cA sz b n0 s0 pc ml st M := by
  unfold zldi at h
  split at h
  · rename_i x hx
    obtain ⟨rfl, rfl, rfl, rfl⟩ := zn_inj h
    intro H locs ls cells slots hz hl hP hS hc hs
    exact lv_iload K.1 K.2.1 hd (hl.2.2 _ _ hx rfl) (kk H locs ls cells slots hz hl hP hS hc hs)
  · cases h
theorem za_lda_n (K : zCx p s m args meth c D cA mi) {k : Fin 4} (hd : decode (zm mi).2.1 pc = .ok (.aload_n k, 1)) (h : zlda (pc + 1) k.val ml st M = some (.inl (pc', ml', st', M'))) (kk : zC p l e R s m args below meth c Q D cA sz b n0 s0 pc' ml' st' M') : zC p l e R s m args below meth c Q D cA sz b n0 s0 pc ml st M := by
  unfold zlda at h
  split at h
  · rename_i x hx
    obtain ⟨rfl, rfl, rfl, rfl⟩ := zn_inj h
    intro H locs ls cells slots hz hl hP hS hc hs
    exact lv_aload_n K.1 K.2.1 hd rfl (hl.2.2 _ _ hx rfl) (kk H locs ls cells slots hz hl hP hS hc hs)
  · cases h
theorem za_lda (K : zCx p s m args meth c D cA mi) {k : Nat} (hd : decode (zm mi).2.1 pc = .ok (.aload k, 2)) (h : zlda (pc + 2) k ml st M = some (.inl (pc', ml', st', M'))) (kk : zC p l e R s m args below meth c Q D cA sz b n0 s0 pc' ml' st' M') : zC p l e R s m args below meth c Q D cA sz b n0 s0 pc ml st M := by
  unfold zlda at h
  split at h
  · rename_i x hx
    obtain ⟨rfl, rfl, rfl, rfl⟩ := zn_inj h
    intro H locs ls cells slots hz hl hP hS hc hs
    exact lv_aload K.1 K.2.1 hd (hl.2.2 _ _ hx rfl) (kk H locs ls cells slots hz hl hP hS hc hs)
  · cases h
theorem za_sti_n (K : zCx p s m args meth c D cA mi) {k : Fin 4} (hd : decode (zm mi).2.1 pc = .ok (.istore_n k, 1)) (h : zsti (pc + 1) k.val ml st M = some (.inl (pc', ml', st', M'))) (kk : zC p l e R s m args below meth c Q D cA sz b n0 s0 pc' ml' st' M') : zC p l e R s m args below meth c Q D cA sz b n0 s0 pc ml st M := by
  unfold zsti at h
  split at h
  · rename_i x r
    split at h
    · rename_i hi
      obtain ⟨rfl, rfl, rfl, rfl⟩ := zn_inj h
      intro H locs ls cells slots hz hl hP hS hc hs
      exact lv_istore_n K.1 K.2.1 hd rfl hl.has hi rfl (fun ls' h' => kk H locs ls' cells slots (h'.1.trans (hl.1.symm.trans hz)) (zLR.of (v := .int x) hi h') hP hS hc hs)
    · cases h
  · cases h
theorem za_sti (K : zCx p s m args meth c D cA mi) {k : Nat} (hd : decode (zm mi).2.1 pc = .ok (.istore k, 2)) (h : zsti (pc + 2) k ml st M = some (.inl (pc', ml', st', M'))) (kk : zC p l e R s m args below meth c Q D cA sz b n0 s0 pc' ml' st' M') : zC p l e R s m args below meth c Q D cA sz b n0 s0 pc ml st M := by
  unfold zsti at h
  split at h
  · rename_i x r
    split at h
    · rename_i hi
      obtain ⟨rfl, rfl, rfl, rfl⟩ := zn_inj h
      intro H locs ls cells slots hz hl hP hS hc hs
      exact lv_istore K.1 K.2.1 hd hl.has hi rfl (fun ls' h' => kk H locs ls' cells slots (h'.1.trans (hl.1.symm.trans hz)) (zLR.of (v := .int x) hi h') hP hS hc hs)
    · cases h
  · cases h
theorem za_sta_n (K : zCx p s m args meth c D cA mi) {k : Fin 4} (hd : decode (zm mi).2.1 pc = .ok (.astore_n k, 1)) (h : zsta (pc + 1) k.val ml st M = some (.inl (pc', ml', st', M'))) (kk : zC p l e R s m args below meth c Q D cA sz b n0 s0 pc' ml' st' M') : zC p l e R s m args below meth c Q D cA sz b n0 s0 pc ml st M := by
  unfold zsta at h
  split at h
  · rename_i x r
    split at h
    · rename_i hi
      obtain ⟨rfl, rfl, rfl, rfl⟩ := zn_inj h
      intro H locs ls cells slots hz hl hP hS hc hs
      exact lv_astore_n K.1 K.2.1 hd rfl hl.has hi rfl (fun ls' h' => kk H locs ls' cells slots (h'.1.trans (hl.1.symm.trans hz)) (zLR.of (v := .ref x) hi h') hP hS hc hs)
    · cases h
  · cases h
theorem za_sta (K : zCx p s m args meth c D cA mi) {k : Nat} (hd : decode (zm mi).2.1 pc = .ok (.astore k, 2)) (h : zsta (pc + 2) k ml st M = some (.inl (pc', ml', st', M'))) (kk : zC p l e R s m args below meth c Q D cA sz b n0 s0 pc' ml' st' M') : zC p l e R s m args below meth c Q D cA sz b n0 s0 pc ml st M := by
  unfold zsta at h
  split at h
  · rename_i x r
    split at h
    · rename_i hi
      obtain ⟨rfl, rfl, rfl, rfl⟩ := zn_inj h
      intro H locs ls cells slots hz hl hP hS hc hs
      exact lv_astore K.1 K.2.1 hd hl.has hi rfl (fun ls' h' => kk H locs ls' cells slots (h'.1.trans (hl.1.symm.trans hz)) (zLR.of (v := .ref x) hi h') hP hS hc hs)
    · cases h
  · cases h
theorem za_iinc (K : zCx p s m args meth c D cA mi) {k : Nat} {n : Int} {x : Int32} (hd : decode (zm mi).2.1 pc = .ok (.iinc k n, 3)) (hx : ml[k]? = some (.int x)) (kk : zC p l e R s m args below meth c Q D cA sz b n0 s0 (pc + 3) (ml.set k (.int (x + Int32.ofInt n))) st M) : zC p l e R s m args below meth c Q D cA sz b n0 s0 pc ml st M := by
  intro H locs ls cells slots hz hl hP hS hc hs
  have hi : k < ml.length := (List.getElem?_eq_some_iff.mp hx).1
  have hm : (k, Value.int x) ∈ zprs sz b ml := zprs_in.mpr ⟨.int x, hx, rfl, rfl⟩
  obtain ⟨j, hj⟩ := List.getElem?_of_mem hm
  exact lv_iinc K.1 K.2.1 hd hl.has hj rfl hi rfl (fun ls' h' => kk H locs ls' cells slots (h'.1.trans (hl.1.symm.trans hz)) (zLR.of (v := .int (x + Int32.ofInt n)) hi h') hP hS hc hs)
theorem z_tgt {pc : Nat} {o : Int} (h : 0 ≤ (pc : Int) + o) : (pc : Int) + o = ((((pc : Int) + o).toNat : Nat) : Int) := (Int.toNat_of_nonneg h).symm
theorem za_icmp (K : zCx p s m args meth c D cA mi) {cd : Jvm.ClassFile.Cond} {o : Int} {x y : Int32} {r : List Value} (hd : decode (zm mi).2.1 pc = .ok (.if_icmp cd o, 3)) (h : zbr pc o (zcmp cd x y) ml r M = some (.inl (pc', ml', st', M'))) (kk : zC p l e R s m args below meth c Q D cA sz b n0 s0 pc' ml' st' M') : zC p l e R s m args below meth c Q D cA sz b n0 s0 pc ml (.int y :: .int x :: r) M := by
  unfold zbr at h
  intro H locs ls cells slots hz hl hP hS hc hs
  split at h
  · rename_i h0
    split at h
    · rename_i ht
      obtain ⟨rfl, rfl, rfl, rfl⟩ := zn_inj h
      have k2 := kk H locs ls cells slots hz hl hP hS hc hs
      cases cd <;> simp only [zcmp, decide_eq_true_eq] at ht
      · exact lv_icmp_eq K.1 K.2.1 hd (z_tgt h0) (fun _ => k2) (fun q => absurd ht q)
      · exact lv_icmp_ne K.1 K.2.1 hd (z_tgt h0) (fun _ => k2) (fun q => absurd q ht)
      · exact lv_icmp_lt K.1 K.2.1 hd (z_tgt h0) (fun _ => k2) (fun q => absurd ht q)
      · exact lv_icmp_ge K.1 K.2.1 hd (z_tgt h0) (fun _ => k2) (fun q => absurd ht q)
      · exact lv_icmp_gt K.1 K.2.1 hd (z_tgt h0) (fun _ => k2) (fun q => absurd ht q)
      · exact lv_icmp_le K.1 K.2.1 hd (z_tgt h0) (fun _ => k2) (fun q => absurd ht q)
    · rename_i ht
      obtain ⟨rfl, rfl, rfl, rfl⟩ := zn_inj h
      have k2 := kk H locs ls cells slots hz hl hP hS hc hs
      cases cd <;> simp only [zcmp, decide_eq_true_eq, Classical.not_not] at ht
      · exact lv_icmp_eq K.1 K.2.1 hd (z_tgt h0) (fun q => absurd q ht) (fun _ => k2)
      · exact lv_icmp_ne K.1 K.2.1 hd (z_tgt h0) (fun q => absurd ht q) (fun _ => k2)
      · exact lv_icmp_lt K.1 K.2.1 hd (z_tgt h0) (fun q => absurd q ht) (fun _ => k2)
      · exact lv_icmp_ge K.1 K.2.1 hd (z_tgt h0) (fun q => absurd q ht) (fun _ => k2)
      · exact lv_icmp_gt K.1 K.2.1 hd (z_tgt h0) (fun q => absurd q ht) (fun _ => k2)
      · exact lv_icmp_le K.1 K.2.1 hd (z_tgt h0) (fun q => absurd q ht) (fun _ => k2)
  · cases h
theorem za_if (K : zCx p s m args meth c D cA mi) {cd : Jvm.ClassFile.Cond} {o : Int} {x : Int32} {r : List Value} (hd : decode (zm mi).2.1 pc = .ok (.ifCond cd o, 3)) (h : zbr pc o (zcmp cd x 0) ml r M = some (.inl (pc', ml', st', M'))) (kk : zC p l e R s m args below meth c Q D cA sz b n0 s0 pc' ml' st' M') : zC p l e R s m args below meth c Q D cA sz b n0 s0 pc ml (.int x :: r) M := by
  unfold zbr at h
  intro H locs ls cells slots hz hl hP hS hc hs
  split at h
  · rename_i h0
    split at h
    · rename_i ht
      obtain ⟨rfl, rfl, rfl, rfl⟩ := zn_inj h
      have k2 := kk H locs ls cells slots hz hl hP hS hc hs
      cases cd <;> simp only [zcmp, decide_eq_true_eq] at ht
      · exact lv_if_eq K.1 K.2.1 hd (z_tgt h0) (fun _ => k2) (fun q => absurd ht q)
      · exact lv_if_ne K.1 K.2.1 hd (z_tgt h0) (fun _ => k2) (fun q => absurd q ht)
      · exact lv_if_lt K.1 K.2.1 hd (z_tgt h0) (fun _ => k2) (fun q => absurd ht q)
      · exact lv_if_ge K.1 K.2.1 hd (z_tgt h0) (fun _ => k2) (fun q => absurd ht q)
      · exact lv_if_gt K.1 K.2.1 hd (z_tgt h0) (fun _ => k2) (fun q => absurd ht q)
      · exact lv_if_le K.1 K.2.1 hd (z_tgt h0) (fun _ => k2) (fun q => absurd ht q)
    · rename_i ht
      obtain ⟨rfl, rfl, rfl, rfl⟩ := zn_inj h
      have k2 := kk H locs ls cells slots hz hl hP hS hc hs
      cases cd <;> simp only [zcmp, decide_eq_true_eq, Classical.not_not] at ht
      · exact lv_if_eq K.1 K.2.1 hd (z_tgt h0) (fun q => absurd q ht) (fun _ => k2)
      · exact lv_if_ne K.1 K.2.1 hd (z_tgt h0) (fun q => absurd ht q) (fun _ => k2)
      · exact lv_if_lt K.1 K.2.1 hd (z_tgt h0) (fun q => absurd q ht) (fun _ => k2)
      · exact lv_if_ge K.1 K.2.1 hd (z_tgt h0) (fun q => absurd q ht) (fun _ => k2)
      · exact lv_if_gt K.1 K.2.1 hd (z_tgt h0) (fun q => absurd q ht) (fun _ => k2)
      · exact lv_if_le K.1 K.2.1 hd (z_tgt h0) (fun q => absurd q ht) (fun _ => k2)
  · cases h
theorem za_goto (K : zCx p s m args meth c D cA mi) {o : Int} (hd : decode (zm mi).2.1 pc = .ok (.goto o, 3)) (h : zbr pc o true ml st M = some (.inl (pc', ml', st', M'))) (kk : zC p l e R s m args below meth c Q D cA sz b n0 s0 pc' ml' st' M') : zC p l e R s m args below meth c Q D cA sz b n0 s0 pc ml st M := by
  unfold zbr at h
  intro H locs ls cells slots hz hl hP hS hc hs
  split at h
  · rename_i h0
    rw [if_pos rfl] at h
    obtain ⟨rfl, rfl, rfl, rfl⟩ := zn_inj h
    exact lv_goto K.1 K.2.1 hd (z_tgt h0) (kk H locs ls cells slots hz hl hP hS hc hs)
  · cases h
theorem za_sw (K : zCx p s m args meth c D cA mi) {d lo hi : Int} {offs : Array Int} {len : Nat} (hd : decode (zm mi).2.1 pc = .ok (.tableswitch d lo hi offs, len)) (h : zsw pc d lo hi offs ml st M = some (.inl (pc', ml', st', M'))) (kk : zC p l e R s m args below meth c Q D cA sz b n0 s0 pc' ml' st' M') : zC p l e R s m args below meth c Q D cA sz b n0 s0 pc ml st M := by
  unfold zsw at h
  intro H locs ls cells slots hz hl hP hS hc hs
  split at h
  · rename_i x r
    split at h
    · rename_i hx
      split at h
      · rename_i h0
        obtain ⟨rfl, rfl, rfl, rfl⟩ := zn_inj h
        exact lv_tableOut K.1 K.2.1 hd hx (z_tgt h0) (kk H locs ls cells slots hz hl hP hS hc hs)
      · cases h
    · rename_i hx
      split at h
      · rename_i o ho
        split at h
        · rename_i h0
          obtain ⟨rfl, rfl, rfl, rfl⟩ := zn_inj h
          exact lv_tableIn K.1 K.2.1 hd (fun q => hx (Or.inl q)) (fun q => hx (Or.inr q)) ho (z_tgt h0) (kk H locs ls cells slots hz hl hP hS hc hs)
        · cases h
      · cases h
  · cases h
theorem z_low {H : Heap} {locs : List Loc} {cells : Nat} (hs0 : s.heap.size = sz + n0) (hP : va_P D zcl (zimg cA sz b M) H) (hS : va_S (fun q => sz ≤ q) s.heap H locs) (hc : cells + n0 = znc M) : sz + M.1.length ≤ H.size := by
  by_cases hl : M.1.length = 0
  · have := hS.1
    unfold znc at hc
    omega
  · have h1 : M.1.length - 1 < M.1.length := by omega
    have h2 := hP (M.1.length - 1) _ (zimg_at (cA := cA) (sz := sz) (b := b) (tg := (M.1[M.1.length - 1]).1) (n := (M.1[M.1.length - 1]).2) (by rw [List.getElem?_eq_getElem h1]))
    have h3 := h2.lt
    dsimp only at h3
    omega
theorem z_size {H : Heap} {locs : List Loc} {cells slots : Nat} {g : JFrame} (hs0 : s.heap.size = sz + n0) (hP : va_P D zcl (zimg cA sz b M) H) (hS : va_S (fun q => sz ≤ q) s.heap H locs) (hc : cells + n0 = znc M) (k : H.size = sz + M.1.length → W p l e R s m args below meth c H locs cells slots Q g) : W p l e R s m args below meth c H locs cells slots Q g := by
  intro T hT X
  have h1 := X.heapSize
  have h2 := z_low hs0 hP hS hc
  rw [hT] at h1
  unfold znc at hc
  exact k (by omega) T hT X
theorem z_lw {w : Cond} (K : zCx p s m args meth c D cA mi) (h : w ∈ lw_tbl) (hg : goodWord w = true) : w.before args s = true := K.2.2.2.2.1 w (z_ts h hg)
theorem z_uws {ci : Nat} (h : ci < 13) : ∀ w ∈ u_ws (zFC ci) (zFT ci) (zFN ci), w ∈ zTs := by
  intro w hw
  refine z_ts ((z_cls ci h).1 w hw) ?_
  obtain ⟨k, hk, rfl⟩ := List.mem_map.mp hw
  unfold u_lay
  split <;> rfl
theorem za_get (K : zCx p s m args meth c D cA mi) {ix x y : Nat} (hd : decode (zm mi).2.1 pc = .ok (.getfield ix, 3)) (hw : Cond.fieldLink (zm mi).1.cls ix (zFT x y).1 (zFT x y).2.1 (zFT x y).2.2.1 ∈ lw_tbl) (h : zget pc x y ml st M = some (.inl (pc', ml', st', M'))) (kk : zC p l e R s m args below meth c Q D cA sz b n0 s0 pc' ml' st' M') : zC p l e R s m args below meth c Q D cA sz b n0 s0 pc ml st M := by
  unfold zget at h
  intro H locs ls cells slots hz hl hP hS hc hs
  split at h
  · rename_i a r
    split at h
    · rename_i hh
      obtain ⟨ha, hM, hy, hx⟩ := hh
      obtain ⟨rfl, rfl, rfl, rfl⟩ := zn_inj h
      have hi := zimg_at (cA := cA) (sz := sz) (b := b) hM
      rw [zE_obj hx] at hi
      show W _ _ _ _ _ _ _ _ _ _ _ _ _ _ _ (F0 m pc ls (ztv sz b (.ref a) :: r.map (ztv sz b)))
      rw [ztv_ref ha]
      exact va_get (v := ztv sz b (zrd M a y)) K.1 K.2.1 K.2.2.2.2.1 (z_uws hx) K.2.2.2.1 K.2.2.2.2.2.1.1 hP.1 a hi (zcl_at hx) y hy (z_lw K hw rfl) (fun _ h9 => h9) (by rw [List.getElem?_map, List.getElem?_range hy]; rfl) hd (kk H locs ls cells slots hz hl hP hS hc hs)
    · cases h
  · cases h
theorem z_nar {sz b : Nat} {ty : FieldType} {v : Value} (h : narrow ty v = v) : narrow ty (ztv sz b v) = ztv sz b v := by
  cases v <;> first | exact h | (cases ty <;> rfl)
theorem z_fit {sz b : Nat} {ty : FieldType} {v : Value} (h : fits ty v = true) : fits ty (ztv sz b v) = true := by
  cases v <;> first | exact h | (cases ty <;> first | rfl | exact h)
theorem z_Pwr {a tg n k : Nat} {v : Value} {H1 : Heap} {e : va_E} (hM : M.1[a]? = some (tg, n)) (he : zE cA sz b tg n (fun j => if j = k then v else zrd M a j) = e) (h : va_P D zcl ((zimg cA sz b M).set a (sz + a, e)) H1) : va_P D zcl (zimg cA sz b (zwr M a k v)) H1 := by
  rw [← zimg_upd (M := M) (M' := zwr M a k v) hM rfl (fun i hi k' => by rw [zrd_wr, if_neg (fun q => hi q.1)]) (e := e)]
  · exact h
  · rw [← he]
    congr 1
    funext j
    rw [zrd_wr]
    simp
theorem z_fin {H1 : Heap} {locs1 : List Loc} {ls : Array Slot} {cells slots : Nat} (hs0 : s.heap.size = sz + n0) (kk : zC p l e R s m args below meth c Q D cA sz b n0 s0 pc' ml' st' M') (hz : ls.size = c.maxLocals) (hl : zLR sz b ls ml') (hP : va_P D zcl (zimg cA sz b M') H1) (hS : va_S (fun q => sz ≤ q) s.heap H1 locs1) (hc : cells + n0 = znc M') (hs : slots + s0 = zns M') : W p l e R s m args below meth c H1 locs1 cells slots Q (F0 m pc' ls (st'.map (ztv sz b))) :=
  z_size hs0 hP hS hc (fun hsz => kk H1 locs1 ls cells slots hz hl ⟨hP, hsz⟩ hS hc hs)
theorem za_put (K : zCx p s m args meth c D cA mi) (hs0 : s.heap.size = sz + n0) {ix x y : Nat} (hd : decode (zm mi).2.1 pc = .ok (.putfield ix, 3)) (hw : Cond.fieldLink (zm mi).1.cls ix (zFT x y).1 (zFT x y).2.1 (zFT x y).2.2.1 ∈ lw_tbl) (h : zput mi pc x y ml st M = some (.inl (pc', ml', st', M'))) (kk : zC p l e R s m args below meth c Q D cA sz b n0 s0 pc' ml' st' M') : zC p l e R s m args below meth c Q D cA sz b n0 s0 pc ml st M := by
  unfold zput at h
  intro H locs ls cells slots hz hl hP hS hc hs
  split at h
  · rename_i v a r
    split at h
    · rename_i hh
      obtain ⟨ha, hM, hy, hx, hn, hf, hfin⟩ := hh
      obtain ⟨rfl, rfl, rfl, rfl⟩ := zn_inj h
      have hi := zimg_at (cA := cA) (sz := sz) (b := b) hM
      rw [zE_obj hx] at hi
      show W _ _ _ _ _ _ _ _ _ _ _ _ _ _ _ (F0 m pc ls (ztv sz b v :: ztv sz b (.ref a) :: r.map (ztv sz b)))
      rw [ztv_ref ha]
      have hfd := z_fd x hx y hy
      have fin : ∀ (H1 : Heap) (locs1 : List Loc), va_P D zcl ((zimg cA sz b M).set a (sz + a, .inr (x, ((List.range (zFN x)).map (fun k => ztv sz b (zrd M a k))).set y (ztv sz b v)))) H1 → va_D (fun q => sz ≤ q) ((zimg cA sz b M).set a (sz + a, .inr (x, ((List.range (zFN x)).map (fun k => ztv sz b (zrd M a k))).set y (ztv sz b v)))) → va_S (fun q => sz ≤ q) s.heap H1 locs1 → W p l e R s m args below meth c H1 locs1 cells slots Q (F0 m (pc + 3) ls (r.map (ztv sz b))) := by
        intro H1 locs1 hP1 hD1 hS1
        exact z_fin hs0 kk hz hl (z_Pwr hM (by rw [zE_obj hx, z_map_set]; congr 2; apply List.map_congr_left; intro j _; by_cases hj : j = y <;> simp [hj]) hP1) hS1 hc hs
      by_cases hF : (zFT x y).2.2.2 = true
      · exact va_putF K.1 K.2.1 K.2.2.2.2.1 (z_uws hx) (zFy x) (z_fy x hx) (z_fn x hx) K.2.2.2.1 K.2.2.2.2.2.1.1 hP.1 (zD cA sz b M) hS a hi (zcl_at hx) y hy (z_lw K hw rfl) (fun _ h9 => h9) hF (K.2.2.2.2.2.2.1 (hfin hF).1) (hfd.1.trans (hfin hF).2.symm) (z_fy x hx y hy) (z_nar hn) (z_fit hf) (by simpa using hy) hd fin
      · exact va_put K.1 K.2.1 K.2.2.2.2.1 (z_uws hx) (zFy x) (z_fy x hx) (z_fn x hx) K.2.2.2.1 K.2.2.2.2.2.1.1 hP.1 (zD cA sz b M) hS a hi (zcl_at hx) y hy (z_lw K hw rfl) (fun _ h9 => h9) (by simpa using hF) (z_fy x hx y hy) (z_nar hn) (z_fit hf) (by simpa using hy) hd fin
    · cases h
  · cases h
theorem z_in {i : Int32} {n : Nat} (h : zin i n = true) : vp_in i n := by
  unfold zin at h
  rw [Bool.not_eq_true', Bool.or_eq_false_iff, decide_eq_false_iff_not, decide_eq_false_iff_not] at h
  rintro (q | q)
  · exact h.1 q
  · exact h.2 q
theorem za_iald (K : zCx p s m args meth c D cA mi) {xs : Option (List Int32)} (hX : ∀ l, xs = some l → va_X b l.length (fun j => l.getD j 0) s s.heap ∧ b < s.heap.size ∧ ¬ sz ≤ b) (hd : decode (zm mi).2.1 pc = .ok (.iaload, 1)) (h : ziald xs pc ml st M = some (.inl (pc', ml', st', M'))) (kk : zC p l e R s m args below meth c Q D cA sz b n0 s0 pc' ml' st' M') : zC p l e R s m args below meth c Q D cA sz b n0 s0 pc ml st M := by
  unfold ziald at h
  intro H locs ls cells slots hz hl hP hS hc hs
  split at h
  · rename_i i a r
    split at h
    · rename_i ha
      subst ha
      split at h
      · rename_i l9
        split at h
        · rename_i hi
          obtain ⟨rfl, rfl, rfl, rfl⟩ := zn_inj h
          obtain ⟨x1, x2, x3⟩ := hX _ rfl
          show W _ _ _ _ _ _ _ _ _ _ _ _ _ _ _ (F0 m pc ls (.int i :: ztv sz b (.ref zSCR) :: r.map (ztv sz b)))
          rw [show ztv sz b (.ref zSCR) = .ref b by simp [ztv]]
          exact va_sld K.1 K.2.1 x1 x2 x3 hS (z_in hi) hd (kk H locs ls cells slots hz hl hP hS hc hs)
        · cases h
      · cases h
    · rename_i ha
      split at h
      · rename_i n x hM hx
        split at h
        · rename_i hi
          obtain ⟨rfl, rfl, rfl, rfl⟩ := zn_inj h
          have hg := zimg_at (cA := cA) (sz := sz) (b := b) hM
          rw [zE_int (by omega) (by omega)] at hg
          show W _ _ _ _ _ _ _ _ _ _ _ _ _ _ _ (F0 m pc ls (.int i :: ztv sz b (.ref a) :: r.map (ztv sz b)))
          rw [ztv_ref ha]
          refine va_iald K.1 K.2.1 K.2.2.2.2.2.1.1 hP.1 a 0 hg rfl (z_in hi) hd ?_
          rw [hx]
          exact kk H locs ls cells slots hz hl hP hS hc hs
        · cases h
      · cases h
  · cases h
theorem za_bald (K : zCx p s m args meth c D cA mi) (hd : decode (zm mi).2.1 pc = .ok (.baload, 1)) (h : zbald pc ml st M = some (.inl (pc', ml', st', M'))) (kk : zC p l e R s m args below meth c Q D cA sz b n0 s0 pc' ml' st' M') : zC p l e R s m args below meth c Q D cA sz b n0 s0 pc ml st M := by
  unfold zbald at h
  intro H locs ls cells slots hz hl hP hS hc hs
  split at h
  · rename_i i a r
    split at h
    · cases h
    · rename_i ha
      split at h
      · rename_i tg n x hM hx
        split at h
        · rename_i hi
          obtain ⟨ht, hi⟩ := hi
          obtain ⟨rfl, rfl, rfl, rfl⟩ := zn_inj h
          have hg := zimg_at (cA := cA) (sz := sz) (b := b) hM
          rw [zE_int (by omega) (by omega)] at hg
          show W _ _ _ _ _ _ _ _ _ _ _ _ _ _ _ (F0 m pc ls (.int i :: ztv sz b (.ref a) :: r.map (ztv sz b)))
          rw [ztv_ref ha]
          rcases ht with rfl | rfl
          · refine va_bald K.1 K.2.1 K.2.2.2.2.2.1.1 hP.1 a 1 hg rfl (z_in hi) hd ?_
            rw [hx]
            exact kk H locs ls cells slots hz hl hP hS hc hs
          · refine va_zald K.1 K.2.1 K.2.2.2.2.2.1.1 hP.1 a 2 hg rfl (z_in hi) hd ?_
            rw [hx]
            exact kk H locs ls cells slots hz hl hP hS hc hs
        · cases h
      · cases h
  · cases h
theorem ztys_ref {tg : Nat} (h : 103 ≤ tg) (h2 : tg < 108) : (ztys cA)[tg - 100]? = some (cA (tg - 100), .object (zFC (zoc tg))) := by
  have : tg = 103 ∨ tg = 104 ∨ tg = 105 ∨ tg = 106 ∨ tg = 107 := by omega
  rcases this with rfl | rfl | rfl | rfl | rfl <;> rfl
theorem za_aald (K : zCx p s m args meth c D cA mi) (hd : decode (zm mi).2.1 pc = .ok (.aaload, 1)) (h : zaald pc ml st M = some (.inl (pc', ml', st', M'))) (kk : zC p l e R s m args below meth c Q D cA sz b n0 s0 pc' ml' st' M') : zC p l e R s m args below meth c Q D cA sz b n0 s0 pc ml st M := by
  unfold zaald at h
  intro H locs ls cells slots hz hl hP hS hc hs
  split at h
  · rename_i i a r
    split at h
    · cases h
    · rename_i ha
      split at h
      · rename_i tg n x hM hx
        split at h
        · rename_i hi
          obtain ⟨h1, h2, hi⟩ := hi
          obtain ⟨rfl, rfl, rfl, rfl⟩ := zn_inj h
          have hg := zimg_at (cA := cA) (sz := sz) (b := b) hM
          rw [zE_ref h1] at hg
          show W _ _ _ _ _ _ _ _ _ _ _ _ _ _ _ (F0 m pc ls (.int i :: ztv sz b (.ref a) :: r.map (ztv sz b)))
          rw [ztv_ref ha]
          refine va_aldq K.1 K.2.1 K.2.2.2.2.2.1.1 hP.1 a (tg - 100) hg (ztys_ref h1 h2) (z_in hi) hd ?_
          rw [hx]
          exact kk H locs ls cells slots hz hl hP hS hc hs
        · cases h
      · cases h
  · cases h
theorem za_iast (K : zCx p s m args meth c D cA mi) (hs0 : s.heap.size = sz + n0) (hd : decode (zm mi).2.1 pc = .ok (.iastore, 1)) (h : ziast pc ml st M = some (.inl (pc', ml', st', M'))) (kk : zC p l e R s m args below meth c Q D cA sz b n0 s0 pc' ml' st' M') : zC p l e R s m args below meth c Q D cA sz b n0 s0 pc ml st M := by
  unfold ziast at h
  intro H locs ls cells slots hz hl hP hS hc hs
  split at h
  · rename_i x i a r
    split at h
    · cases h
    · rename_i ha
      split at h
      · rename_i tg n hM
        split at h
        · rename_i hi
          obtain ⟨rfl, hi⟩ := hi
          obtain ⟨rfl, rfl, rfl, rfl⟩ := zn_inj h
          have hg := zimg_at (cA := cA) (sz := sz) (b := b) hM
          rw [zE_int (by omega) (by omega)] at hg
          show W _ _ _ _ _ _ _ _ _ _ _ _ _ _ _ (F0 m pc ls (.int x :: .int i :: ztv sz b (.ref a) :: r.map (ztv sz b)))
          rw [ztv_ref ha]
          refine va_iast K.1 K.2.1 K.2.2.2.2.2.1.1 hP.1 (zD cA sz b M) hS a 0 hg rfl (z_in hi) hd (fun H1 locs1 hP1 _ hS1 => ?_)
          exact z_fin hs0 kk hz hl (z_Pwr hM (by rw [zE_int (by omega) (by omega)]; congr 4; funext j; unfold upd; by_cases hj : j = i.toNatClampNeg <;> simp [hj, zI]) hP1) hS1 hc hs
        · cases h
      · cases h
  · cases h
theorem za_bast (K : zCx p s m args meth c D cA mi) (hs0 : s.heap.size = sz + n0) (hd : decode (zm mi).2.1 pc = .ok (.bastore, 1)) (h : zbast pc ml st M = some (.inl (pc', ml', st', M'))) (kk : zC p l e R s m args below meth c Q D cA sz b n0 s0 pc' ml' st' M') : zC p l e R s m args below meth c Q D cA sz b n0 s0 pc ml st M := by
  unfold zbast at h
  intro H locs ls cells slots hz hl hP hS hc hs
  split at h
  · rename_i x i a r
    split at h
    · cases h
    · rename_i ha
      split at h
      · rename_i tg n hM
        have hg := zimg_at (cA := cA) (sz := sz) (b := b) hM
        show W _ _ _ _ _ _ _ _ _ _ _ _ _ _ _ (F0 m pc ls (.int x :: .int i :: ztv sz b (.ref a) :: r.map (ztv sz b)))
        rw [ztv_ref ha]
        split at h
        · rename_i hi
          obtain ⟨rfl, hi⟩ := hi
          obtain ⟨rfl, rfl, rfl, rfl⟩ := zn_inj h
          rw [zE_int (by omega) (by omega)] at hg
          refine va_bast K.1 K.2.1 K.2.2.2.2.2.1.1 hP.1 (zD cA sz b M) hS a 1 hg rfl (z_in hi) hd (fun H1 locs1 hP1 _ hS1 => ?_)
          exact z_fin hs0 kk hz hl (z_Pwr hM (by rw [zE_int (by omega) (by omega)]; congr 4; funext j; unfold upd; by_cases hj : j = i.toNatClampNeg <;> simp [hj, zI, vp_nar_byte]) hP1) hS1 hc hs
        · split at h
          · rename_i hi
            obtain ⟨rfl, hi, hx⟩ := hi
            obtain ⟨rfl, rfl, rfl, rfl⟩ := zn_inj h
            rw [zE_int (by omega) (by omega)] at hg
            refine va_zast K.1 K.2.1 K.2.2.2.2.2.1.1 hP.1 (zD cA sz b M) hS a 2 hg rfl (z_in hi) hd (fun H1 locs1 hP1 _ hS1 => ?_)
            have hn : vp_nar .boolean x = x := by rcases hx with rfl | rfl <;> rfl
            exact z_fin hs0 kk hz hl (z_Pwr hM (by rw [zE_int (by omega) (by omega)]; congr 4; funext j; unfold upd; by_cases hj : j = i.toNatClampNeg <;> simp [hj, zI, hn]) hP1) hS1 hc hs
          · cases h
      · cases h
  · cases h
theorem za_aast (K : zCx p s m args meth c D cA mi) (hs0 : s.heap.size = sz + n0) (hd : decode (zm mi).2.1 pc = .ok (.aastore, 1)) (h : zaast pc ml st M = some (.inl (pc', ml', st', M'))) (kk : zC p l e R s m args below meth c Q D cA sz b n0 s0 pc' ml' st' M') : zC p l e R s m args below meth c Q D cA sz b n0 s0 pc ml st M := by
  unfold zaast at h
  intro H locs ls cells slots hz hl hP hS hc hs
  split at h
  · rename_i v i a r
    split at h
    · cases h
    · rename_i ha
      have ha1 : a ≠ zSCR := fun q => ha (Or.inl q)
      have ha2 : v ≠ zSCR := fun q => ha (Or.inr q)
      split at h
      · rename_i tg n ci n2 hM hV
        split at h
        · rename_i hi
          obtain ⟨h1, h2, h3, hi⟩ := hi
          obtain ⟨rfl, rfl, rfl, rfl⟩ := zn_inj h
          have hg := zimg_at (cA := cA) (sz := sz) (b := b) hM
          rw [zE_ref h1] at hg
          have hv := zimg_at (cA := cA) (sz := sz) (b := b) hV
          have hci : ci < 13 := by
            rw [h3]
            unfold zoc
            repeat (split <;> try omega)
          rw [zE_obj hci] at hv
          show W _ _ _ _ _ _ _ _ _ _ _ _ _ _ _ (F0 m pc ls (ztv sz b (.ref v) :: .int i :: ztv sz b (.ref a) :: r.map (ztv sz b)))
          rw [ztv_ref ha1, ztv_ref ha2]
          refine va_astq K.1 K.2.1 K.2.2.2.2.2.1.1 hP.1 (zD cA sz b M) hS a (tg - 100) v ci hg (r := (zFC ci, zFT ci, zFN ci)) (by rw [h3]; exact ztys_ref h1 h2) hv (zcl_at hci) (z_in hi) hd (fun H1 locs1 hP1 _ hS1 => ?_)
          exact z_fin hs0 kk hz hl (z_Pwr hM (by rw [zE_ref h1]; congr 7; funext j; unfold va_up; by_cases hj : j = i.toNatClampNeg <;> simp [hj, zA, ha2]) hP1) hS1 hc hs
        · cases h
      · cases h
  · cases h
end ZARM
