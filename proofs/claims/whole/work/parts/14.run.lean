/-! A run of the small machine is a run of the big one. -/
def zws (x : Nat) : List Cond := Cond.code (zm x).1 (zm x).2.1 (zm x).2.2.1 (zm x).2.2.2.1 :: zTs
theorem zmw_code {x : Nat} (hx : x < 175) : Cond.code (zm x).1 (zm x).2.1 (zm x).2.2.1 (zm x).2.2.2.1 ∈ zTs := z_ts (z_mw x (Nat.zero_le _) hx _ (by unfold zmw; exact List.mem_cons_self)) rfl
theorem zmw_ini {x : Nat} (hx : x < 175) : Cond.initialized (zm x).1.cls ∈ zTs := z_ts (z_mw x (Nat.zero_le _) hx _ (by unfold zmw; exact List.mem_cons_of_mem _ List.mem_cons_self)) rfl
theorem zmw_V {x : Nat} (hx : x < 175) (hk : zkd x = 0) : Cond.instanceMethod (zm x).1 ∈ zTs ∧ Cond.selects (zm x).1.cls (zm x).1 (zm x).1 ∈ zTs := by
  refine ⟨z_ts (z_mw x (Nat.zero_le _) hx _ ?_) rfl, z_ts (z_mw x (Nat.zero_le _) hx _ ?_) rfl⟩
  · unfold zmw; rw [if_pos hk]; simp
  · unfold zmw; rw [if_pos hk]; simp
theorem zmw_S {x : Nat} (hx : x < 175) (hk : zkd x = 1) : Cond.static (zm x).1 ∈ zTs := by
  refine z_ts (z_mw x (Nat.zero_le _) hx _ ?_) rfl
  unfold zmw; rw [if_neg (by omega), if_pos hk]; simp
theorem zmw_I {x : Nat} (hx : x < 175) (hk : zkd x = 2) : Cond.instanceMethod (zm x).1 ∈ zTs := by
  refine z_ts (z_mw x (Nat.zero_le _) hx _ ?_) rfl
  unfold zmw; rw [if_neg (by omega), if_neg (by omega)]; simp
theorem zws_good {x : Nat} (hx : x < 175) : GoodIn zTs (zws x) := by
  intro w hw
  rcases List.mem_cons.mp hw with h | h
  · subst h
    exact ⟨zmw_code hx, good_of_word rfl⟩
  · exact ⟨h, good_of_word (List.mem_filter.mp h).2⟩
theorem zmk_all {x : Nat} (hx : x < 175) : plainName (zm x).1.cls = true ∧ (zm x).1.cls ≠ "java/lang/invoke/MethodHandle" ∧ (zm x).1.cls ≠ "java/lang/invoke/VarHandle" ∧ (parseMethodDescriptor (zm x).1.desc).map (fun d => d.parameters.length) = some (zna x) ∧ (zmc x < 13 → zFC (zmc x) = (zm x).1.cls) ∧ (zkd x = 2 → (zm x).1.name = "<init>") ∧ (zm x).2.2.1 ≤ 40 := by
  have h := z_mk x (Nat.zero_le _) hx
  unfold zmk at h
  simp only [Bool.and_eq_true, decide_eq_true_eq] at h
  obtain ⟨⟨⟨⟨⟨⟨h1, h2⟩, h3⟩, h4⟩, h5⟩, h6⟩, h7⟩ := h
  exact ⟨h1, h2, h3, h4, h5, h6, h7⟩
theorem z_ir : ∀ x, x < 175 → (zkd x = 2 → (zm x).2.2.2.1 = none) := by decide +kernel
theorem zinit_ret {x : Nat} (hx : x < 175) (hk : zkd x = 2) : (zm x).2.2.2.1 = none := z_ir x hx hk
section ZRUN
variable {p : Program} {l : Launch} {e : Env} {R : Room} {s : State} {m : MethodId} {args : Array Value} {below : List Frame} {meth : Method} {c : Code} {Q : State → Prop} {D : va_G} {cA : Nat → ClassId} {sz b n0 s0 : Nat}
variable {mi pc : Nat} {ml st : List Value} {M : zM} {pc' : Nat} {ml' st' : List Value} {M' : zM}
theorem z_nest (K : zCx p s m args meth c D cA mi) {ix x : Nat} (h : Cond.methodLinkNest (zm mi).1.cls ix (zm x).1 "ThreeValues" ∈ lw_tbl) : va_Nw (.methodLinkNest (zm mi).1.cls ix (zm x).1 "ThreeValues") s := K.2.2.2.2.2.1.2.2 _ (List.mem_filter.mpr ⟨h, rfl⟩)
theorem z_entry {as : List Value} {n : Nat} (h1 : as.all zc1 = true) (h2 : as.length ≤ n) : (lg_sl (as.map (ztv sz b))).length = as.length ∧ zLR sz b ((lg_sl (as.map (ztv sz b)) ++ List.replicate (n - (lg_sl (as.map (ztv sz b))).length) Slot.unset).toArray) (as ++ List.replicate (n - as.length) (.long 0)) := by
  have hsl : ∀ (as : List Value), as.all zc1 = true → lg_sl (as.map (ztv sz b)) = as.map (fun v => Slot.val (ztv sz b v)) := by
    intro as
    induction as with
    | nil => intro _; rfl
    | cons v as ih =>
      intro h
      rw [List.all_cons, Bool.and_eq_true] at h
      have hv : v.category = 1 := by simpa [zc1] using h.1
      have := ih h.2
      unfold lg_sl at this ⊢
      rw [List.map_cons, List.flatMap_cons, this, ztv_cat, hv]
      rfl
  have hlen : (lg_sl (as.map (ztv sz b))).length = as.length := by rw [hsl as h1]; simp
  have hl := lv_entry (as.map (ztv sz b)) (n := n) (by rw [hlen]; exact h2)
  refine ⟨hlen, by rw [hl.1]; simp; omega, hl.2.1, fun i v hi hv => ?_⟩
  by_cases hlt : i < as.length
  · rw [List.getElem?_append_left hlt] at hi
    rw [hsl as h1]
    rw [List.getElem?_toArray, List.getElem?_append_left (by simpa using hlt), List.getElem?_map, hi]
    rfl
  · rw [List.getElem?_append_right (by omega)] at hi
    have := List.mem_of_getElem? hi
    rw [List.mem_replicate] at this
    rw [this.2] at hv
    cases hv
theorem z_split {n a : Nat} (h : st[n]? = some (.ref a)) : st = st.take n ++ .ref a :: st.drop (n + 1) ∧ (st.take n).length = n := by
  have hl : n < st.length := (List.getElem?_eq_some_iff.mp h).1
  refine ⟨?_, by simp; omega⟩
  have h2 : st.drop n = .ref a :: st.drop (n + 1) := by
    rw [List.drop_eq_getElem_cons hl]
    congr 1
    exact (List.getElem?_eq_some_iff.mp h).2
  rw [← h2, List.take_append_drop]
abbrev zSim (l : Launch) (D : va_G) (cA : Nat → ClassId) (sz b n : Nat) : Prop :=
  ∀ (xs : Option (List Int32)) (d mi pc : Nat) (ml st : List Value) (M : zM) (r : Option Value) (M' : zM), zrun n xs d mi pc ml st M = some (r, M') →
    ∀ (p : Program) (e : Env) (R : Room) (s : State) (m : MethodId) (args : Array Value) (below : List Frame) (meth : Method) (c : Code) (Q : State → Prop) (n0 s0 : Nat), zCx p s m args meth c D cA mi → s.heap.size = sz + n0 →
      (∀ l, xs = some l → va_X b l.length (fun j => l.getD j 0) s s.heap ∧ b < s.heap.size ∧ ¬ sz ≤ b) → d + 1 ≤ R.frames → 64 * (d + 1) ≤ R.locals → znc M' ≤ n0 + R.cells → zns M' ≤ s0 + R.slots →
      (∀ (H : Heap) (locs : List Loc) (ls : Array Slot) (cells slots pc' : Nat), ls.size = c.maxLocals → zP D cA sz b M' H → va_S (fun q => sz ≤ q) s.heap H locs → cells + n0 = znc M' → slots + s0 = zns M' → zRet mi pc' r → W p l e R s m args below meth c H locs cells slots Q (F0 m pc' ls (r.toList.map (ztv sz b)))) →
      zC p l e R s m args below meth c Q D cA sz b n0 s0 pc ml st M
/-- a callee's contract at one call -/
theorem z_met {n d x : Nat} {as : List Value} {r : Option Value} (ih : zSim l D cA sz b n) (hx : x < 175) (h1 : as.all zc1 = true) (h2 : as.length ≤ (zm x).2.2.1) (h : zrun n none d x 0 (zent x as) [] M = some (r, M')) : Met l (zm x).1 (zws x) { frames := d + 1, cells := znc M' - znc M, slots := zns M' - zns M, locals := 64 * (d + 1) } (va_Pc (as.map (ztv sz b)) (fun U => zP D cA sz b M U.heap ∧ zK D cA U)) (zQ D cA sz b r M') (znc M' - znc M) (zns M' - zns M) (fun q => sz ≤ q) := by
  have hle := zrun_le _ _ _ _ _ _ _ _ _ _ h
  refine Met.ofW (cc := (zm x).2.1) (maxL := (zm x).2.2.1) (ret := (zm x).2.2.2.1) (zmk_all hx).1 rfl ?_
  intro p e s m args below meth c s₁ B hml hv
  obtain ⟨rfl, hP, hK⟩ := hv
  have hts := atoms_spec (ws := zws x) B.pre
  have hn := name_of_methodNamed B.named B.method
  have hcx : zCx p s m (as.map (ztv sz b)).toArray meth c D cA x := ⟨B.exec, B.bytes, hml, findClass_of_methodNamed B.named, fun w hw => hts w (List.mem_cons_of_mem _ hw), hK, fun h9 => hn.1.trans h9, B.returns, B.notSynchronized⟩
  have hent := z_entry (sz := sz) (b := b) h1 h2
  rw [lg_entry_eq]
  have key := ih none d x 0 (zent x as) [] M r M' h p e (headSpec (zws x) { frames := d + 1, cells := znc M' - znc M, slots := zns M' - zns M, locals := 64 * (d + 1) }).room s m (as.map (ztv sz b)).toArray below meth c (MQ below (zQ D cA sz b r M') (as.map (ztv sz b)).toArray s (znc M' - znc M) (zns M' - zns M) (fun q => sz ≤ q)) (znc M) (zns M) hcx hP.2 (fun l hl => by cases hl) (Nat.le_refl _) (Nat.le_refl _) (by show znc M' ≤ znc M + (znc M' - znc M); omega) (by show zns M' ≤ zns M + (zns M' - zns M); omega) ?_
  · exact key s.heap [] _ 0 0 (by rw [hent.2.1, hml]; simp; omega) hent.2 hP va_S.rf (by omega) (by omega)
  · intro H locs ls cells slots pc' hz hP1 hS1 hc hs hret
    have e1 : cells = znc M' - znc M := by omega
    have e2 : slots = zns M' - zns M := by omega
    subst e1; subst e2
    rcases hret with ⟨v, rfl, hd, hr⟩ | ⟨a, C, rfl, hd, hr⟩ | ⟨rfl, hd, hr⟩
    · rcases hr with hr | ⟨hr, hv⟩
      · exact W.iret (v := v) B.exec B.bytes (B.returns.trans hr) (fun t ht hW => ⟨rfl, by rw [ht]; exact hP1, hS1.F ht⟩) hS1.2.2 hd
      · exact W.zret (v := v) B.exec B.bytes (B.returns.trans hr) (by rcases hv with rfl | rfl <;> rfl) (fun t ht hW => ⟨rfl, by rw [ht]; exact hP1, hS1.F ht⟩) hS1.2.2 hd
    · exact W.aret (v := ztv sz b (.ref a)) B.exec B.bytes (B.returns.trans hr) (Or.inl ⟨C, rfl⟩) (Or.inr ⟨_, rfl⟩) (fun t ht hW => ⟨rfl, by rw [ht]; exact hP1, hS1.F ht⟩) hS1.2.2 hd
    · exact W.vret B.exec B.bytes (B.returns.trans hr) (fun t ht hW => ⟨rfl, by rw [ht]; exact hP1, hS1.F ht⟩) hS1.2.2 hd
theorem z_blind {as : List Value} : FrameBlind (va_Pc as (fun U => zP D cA sz b M U.heap ∧ zK D cA U)) := fun a U g mk q => ⟨q.1, q.2.1, q.2.2.call⟩
theorem z_pre {as : List Value} {H : Heap} (hP : zP D cA sz b M H) (hK : zK D cA s) : PreS s H (va_Pc as (fun U => zP D cA sz b M U.heap ∧ zK D cA U)) as := ⟨z_blind, fun U hU hW => ⟨rfl, by rw [hU]; exact hP, hK.warm hW⟩⟩
theorem zsim (l : Launch) (D : va_G) (cA : Nat → ClassId) (sz b : Nat) : ∀ n, zSim l D cA sz b n := by
  intro n
  induction n with
  | zero => intro xs d mi pc ml st M r M' h; cases h
  | succ n ih =>
    intro xs d mi pc ml st M r M' h p e R s m args below meth c Q n0 s0 K hs0 hX hR1 hR2 hn1 hn2 hend
    unfold zrun at h
    split at h
    · cases h
    · rename_i q hq
      obtain ⟨i, n9, x, y⟩ := q
      have hmi : zm mi ∈ zMs := by
        unfold zm
        rw [List.getD_eq_getElem?_getD]
        cases hg : zMs[mi]? with
        | some z => exact List.mem_of_getElem? hg
        | none =>
          exfalso
          unfold zrow zm at hq
          rw [List.getD_eq_getElem?_getD, hg] at hq
          cases hq
      have hrow : (zm mi).2.2.2.2[pc]? = some (some (i, n9, x, y)) := by
        unfold zrow at hq
        cases hg : (zm mi).2.2.2.2[pc]? with
        | none => rw [hg] at hq; cases hq
        | some z => rw [hg] at hq; exact congrArg some hq
      have hdec := z_dec _ hmi
      unfold zdec at hdec
      have hd1 := List.all_eq_true.mp hdec (some (i, n9, x, y), pc) (List.mem_zipIdx_iff_getElem?.mpr hrow)
      simp only [zdec1, Bool.and_eq_true, decide_eq_true_eq] at hd1
      obtain ⟨hd, hn⟩ := hd1
      have hw : ∀ w, zlink (zm mi).1.cls (i, n9, x, y) = some w → w ∈ lw_tbl := fun w hw => z_lnk _ hmi w (List.mem_filterMap.mpr ⟨some (i, n9, x, y), List.mem_of_getElem? hrow, hw⟩)
      split at h
      · cases h
      · rename_i z hz
        obtain ⟨pc', ml', st', M1⟩ := z
        have hle := zrun_le _ _ _ _ _ _ _ _ _ _ h
        have k := ih xs d mi pc' ml' st' M1 r M' h p e R s m args below meth c Q n0 s0 K hs0 hX hR1 hR2 hn1 hn2 hend
        exact zsim_step K hs0 hX (by omega) (by omega) hd hn hw (Nat.le_trans hle.1 hn1) (Nat.le_trans hle.2 hn2) hz k
      · rename_i v hv
        cases h
        obtain ⟨g1, g2⟩ := zstep_ret hd hn hv
        subst g2
        intro H locs ls cells slots hz hl hP hS hc hs
        exact hend H locs ls cells slots pc hz hP hS hc hs g1
      · rename_i z hz
        obtain ⟨cm, as, rest⟩ := z
        split at h
        · cases h
        · rename_i d'
          split at h
          · cases h
          · rename_i u hu
            obtain ⟨r1, M1⟩ := u
            have hle1 := zrun_le _ _ _ _ _ _ _ _ _ _ hu
            have hle2 := zrun_le _ _ _ _ _ _ _ _ _ _ h
            dsimp only at hle1 hle2 hu h
            have k := ih xs (d' + 1) mi (pc + 3) ml (r1.toList ++ rest) M1 r M' h p e R s m args below meth c Q n0 s0 K hs0 hX hR1 hR2 hn1 hn2 hend
            intro H locs ls cells slots hz1 hl hP hS hc hs
            have hf : cells + (znc M1 - znc M) ≤ R.cells ∧ slots + (zns M1 - zns M) ≤ R.slots := by
              have := hle1.1; have := hle1.2; have := hle2.1; have := hle2.2
              omega
            have hmo : (F0 m pc ls (st.map (ztv sz b))).monitorRoom = 0 := rfl
            have fin : ∀ (H1 : Heap) (locs1 : List Loc), zP D cA sz b M1 H1 → va_S (fun q => sz ≤ q) s.heap H1 locs1 → W p l e R s m args below meth c H1 locs1 (cells + (znc M1 - znc M)) (slots + (zns M1 - zns M)) Q (F0 m (pc + 3) ls ((r1.map (ztv sz b)).toList ++ rest.map (ztv sz b))) := by
              intro H1 locs1 hP1 hS1
              have k2 := k H1 locs1 ls (cells + (znc M1 - znc M)) (slots + (zns M1 - zns M)) hz1 hl hP1 hS1 (by have := hle1.1; omega) (by have := hle1.2; omega)
              rw [List.map_append] at k2
              have e9 : List.map (ztv sz b) r1.toList = (r1.map (ztv sz b)).toList := by cases r1 <;> rfl
              rw [e9] at k2
              exact k2
            cases i with
            | invokevirtual ix =>
              have hn : n9 = 3 := hn
              subst hn
              dsimp only [zstep] at hz
              split at hz
              · rename_i a ha
                split at hz
                · rename_i h0
                  obtain ⟨ha0, hx, hMa, hmc, hkd⟩ := h0
                  unfold zcall at hz
                  split at hz
                  · rename_i h1
                    obtain ⟨g1, g2, g3, g4⟩ := h1
                    cases hz
                    obtain ⟨s1, s2⟩ := z_split ha
                    have e0 : (st.take (zna x + 1)).reverse = .ref a :: (st.take (zna x)).reverse := by
                      have : st.take (zna x + 1) = st.take (zna x) ++ [.ref a] := by
                        rw [List.take_add_one, ha]; rfl
                      rw [this]; simp
                    rw [e0] at hu
                    have gall : (Value.ref a :: (st.take (zna x)).reverse).all zc1 = true := by
                      rw [List.all_eq_true] at g3 ⊢
                      intro v hv
                      rw [← e0, List.mem_reverse] at hv
                      exact g3 v (List.mem_of_mem_take hv)
                    have grest : (st.drop (zna x + 1)).all zc1 = true := by
                      rw [List.all_eq_true] at g3 ⊢
                      exact fun v hv => g3 v (List.mem_of_mem_drop hv)
                    have hM := z_met ih hx gall (by rw [← e0]; simp; omega) hu
                    have hk := zmk_all hx
                    have hi := zimg_at (cA := cA) (sz := sz) (b := b) hMa
                    rw [zE_obj hmc] at hi
                    have hrecv := va_recv K.2.2.2.2.2.1.1 hP.1 (zcl_at hmc) hi
                    have hlen : ((st.take (zna x)).reverse.map (ztv sz b)).length = zna x := by simp; omega
                    have hsum := z_sum (sz := sz) (b := b) grest
                    rw [List.map_cons, ztv_ref ha0] at hM
                    refine z_call (va_runV (As := (st.take (zna x)).reverse.map (ztv sz b)) (rest := (st.drop (zna x + 1)).map (ztv sz b)) ⟨K.1, K.2.1, K.2.2.1, K.2.2.2.1, K.2.2.2.2.1⟩ hM ⟨callB_of (zna x) K.2.2.2.2.1 (zws_good hx) rfl rfl rfl (K.2.2.2.2.1 _ (zmw_ini hx)) (z_lw K (hw _ rfl) rfl) ⟨hk.2.1, hk.2.2.1, hk.2.2.2.1⟩ ⟨by show d' + 1 + 1 ≤ _; omega, by show 8 + ((zm x).2.2.1 + 11) + 64 * (d' + 1) ≤ _; have := hk.2.2.2.2.2.2; omega⟩, K.2.2.2.2.1 _ (zmw_V hx hkd).1, K.2.2.2.2.1 _ (zmw_V hx hkd).2⟩ ⟨z_blind, by rw [hk.2.2.2.2.1 hmc] at hrecv; exact hrecv, (z_pre hP K.2.2.2.2.2.1).2⟩ rfl hlen (hz1.trans K.2.2.1) (by
                      show st.map (ztv sz b) = _
                      rw [← List.map_reverse, List.reverse_reverse, ← ztv_ref ha0, ← List.map_cons, ← List.map_append, ← s1]) (by rw [hmo, hsum]; omega) hd hf) hS fin
                  · cases hz
                · cases hz
              · cases hz
            | invokestatic ix =>
              have hn : n9 = 3 := hn
              subst hn
              dsimp only [zstep] at hz
              split at hz
              · exfalso
                dsimp only [zacp, zn] at hz
                (repeat' split at hz) <;> cases hz
              · rename_i hy6
                split at hz
                · exfalso
                  dsimp only [zn] at hz
                  (repeat' split at hz) <;> cases hz
                · rename_i hy7
                  split at hz
                  · rename_i h0
                    obtain ⟨hy, hx, hkd⟩ := h0
                    unfold zcall at hz
                    split at hz
                    · rename_i h1
                      obtain ⟨g1, g2, g3, g4⟩ := h1
                      cases hz
                      have gall : ((st.take (zna x)).reverse).all zc1 = true := by
                        rw [List.all_eq_true] at g3 ⊢
                        intro v hv
                        rw [List.mem_reverse] at hv
                        exact g3 v (List.mem_of_mem_take hv)
                      have grest : (st.drop (zna x)).all zc1 = true := by
                        rw [List.all_eq_true] at g3 ⊢
                        exact fun v hv => g3 v (List.mem_of_mem_drop hv)
                      have hM := z_met ih hx gall (by simp; omega) hu
                      have hk := zmk_all hx
                      have hlen : ((st.take (zna x)).reverse.map (ztv sz b)).length = zna x := by simp; omega
                      have hsum := z_sum (sz := sz) (b := b) grest
                      have hstk : (F0 m pc ls (st.map (ztv sz b))).stack = ((st.take (zna x)).reverse.map (ztv sz b)).reverse ++ (st.drop (zna x)).map (ztv sz b) := by
                        show st.map (ztv sz b) = _
                        rw [← List.map_reverse, List.reverse_reverse, ← List.map_append, List.take_append_drop]
                      rcases hy with rfl | rfl
                      · exact z_call (va_runS (As := (st.take (zna x)).reverse.map (ztv sz b)) (rest := (st.drop (zna x)).map (ztv sz b)) ⟨K.1, K.2.1, K.2.2.1, K.2.2.2.1, K.2.2.2.2.1⟩ hM ⟨callB_of (zna x) K.2.2.2.2.1 (zws_good hx) rfl rfl rfl (K.2.2.2.2.1 _ (zmw_ini hx)) (z_lw K (hw _ rfl) rfl) ⟨hk.2.1, hk.2.2.1, hk.2.2.2.1⟩ ⟨by show d' + 1 + 1 ≤ _; omega, by show 8 + ((zm x).2.2.1 + 11) + 64 * (d' + 1) ≤ _; have := hk.2.2.2.2.2.2; omega⟩, K.2.2.2.2.1 _ (zmw_S hx hkd)⟩ (z_pre hP K.2.2.2.2.2.1) rfl hlen (hz1.trans K.2.2.1) hstk (by rw [hmo, hsum]; omega) hd hf) hS fin
                      · exact z_call (va_runSN (As := (st.take (zna x)).reverse.map (ztv sz b)) (rest := (st.drop (zna x)).map (ztv sz b)) ⟨K.1, K.2.1, K.2.2.1, K.2.2.2.1, K.2.2.2.2.1⟩ hM ⟨va_cnB (zna x) K.2.2.2.2.1 (zws_good hx) rfl rfl rfl (z_nest K (hw _ rfl)) (K.2.2.2.2.1 _ (zmw_ini hx)) ⟨hk.2.1, hk.2.2.1, hk.2.2.2.1⟩ ⟨by show d' + 1 + 1 ≤ _; omega, by show 8 + ((zm x).2.2.1 + 11) + 64 * (d' + 1) ≤ _; have := hk.2.2.2.2.2.2; omega⟩, K.2.2.2.2.1 _ (zmw_S hx hkd), trivial⟩ (z_pre hP K.2.2.2.2.2.1) rfl hlen (hz1.trans K.2.2.1) hstk (by rw [hmo, hsum]; omega) hd hf) hS fin
                    · cases hz
                  · cases hz
            | invokespecial ix =>
              have hn : n9 = 3 := hn
              subst hn
              dsimp only [zstep] at hz
              split at hz
              · exfalso
                dsimp only [zn] at hz
                (repeat' split at hz) <;> cases hz
              · rename_i hy5
                split at hz
                · rename_i a ha
                  split at hz
                  · rename_i h0
                    obtain ⟨hy, hx, hkd⟩ := h0
                    unfold zcall at hz
                    split at hz
                    · rename_i h1
                      obtain ⟨g1, g2, g3, g4⟩ := h1
                      cases hz
                      obtain ⟨s1, s2⟩ := z_split ha
                      have e0 : (st.take (zna x + 1)).reverse = .ref a :: (st.take (zna x)).reverse := by
                        have : st.take (zna x + 1) = st.take (zna x) ++ [.ref a] := by
                          rw [List.take_add_one, ha]; rfl
                        rw [this]; simp
                      rw [e0] at hu
                      have gall : (Value.ref a :: (st.take (zna x)).reverse).all zc1 = true := by
                        rw [List.all_eq_true] at g3 ⊢
                        intro v hv
                        rw [← e0, List.mem_reverse] at hv
                        exact g3 v (List.mem_of_mem_take hv)
                      have grest : (st.drop (zna x + 1)).all zc1 = true := by
                        rw [List.all_eq_true] at g3 ⊢
                        exact fun v hv => g3 v (List.mem_of_mem_drop hv)
                      have hM := z_met ih hx gall (by rw [← e0]; simp; omega) hu
                      have hk := zmk_all hx
                      have hlen : ((st.take (zna x)).reverse.map (ztv sz b)).length = zna x := by simp; omega
                      have hsum := z_sum (sz := sz) (b := b) grest
                      rw [List.map_cons] at hM
                      obtain ⟨ra, hra⟩ : ∃ ra, ztv sz b (.ref a) = .ref ra := ⟨_, rfl⟩
                      rw [hra] at hM
                      have hstk : (F0 m pc ls (st.map (ztv sz b))).stack = ((st.take (zna x)).reverse.map (ztv sz b)).reverse ++ .ref ra :: (st.drop (zna x + 1)).map (ztv sz b) := by
                        show st.map (ztv sz b) = _
                        rw [← List.map_reverse, List.reverse_reverse, ← hra, ← List.map_cons, ← List.map_append, ← s1]
                      have hret : ∀ n, zrun n none d' x 0 (zent x (Value.ref a :: (st.take (zna x)).reverse)) [] M = some (r1, M1) → True := fun _ _ => trivial
                      have hvr : (zm x).2.2.2.1 = none := zinit_ret hx hkd
                      rcases hy with rfl | rfl
                      · exact z_call (va_runI (y := (zm x).1) (bytes := (zm x).2.1) (maxL := (zm x).2.2.1) (As := (st.take (zna x)).reverse.map (ztv sz b)) (rest := (st.drop (zna x + 1)).map (ztv sz b)) ⟨K.1, K.2.1, K.2.2.1, K.2.2.2.1, K.2.2.2.2.1⟩ hM ⟨by rw [← hvr]; exact callB_of (zna x) K.2.2.2.2.1 (zws_good hx) rfl rfl rfl (K.2.2.2.2.1 _ (zmw_ini hx)) (z_lw K (hw _ rfl) rfl) ⟨hk.2.1, hk.2.2.1, hk.2.2.2.1⟩ ⟨by show d' + 1 + 1 ≤ _; omega, by show 8 + ((zm x).2.2.1 + 11) + 64 * (d' + 1) ≤ _; have := hk.2.2.2.2.2.2; omega⟩, hk.2.2.2.2.2.1 hkd, K.2.2.2.2.1 _ (zmw_I hx hkd)⟩ (z_pre hP K.2.2.2.2.2.1) rfl hlen (hz1.trans K.2.2.1) hstk (by rw [hmo, hsum]; omega) hd hf) hS fin
                      · exact z_call (va_runIN (y := (zm x).1) (bytes := (zm x).2.1) (maxL := (zm x).2.2.1) (As := (st.take (zna x)).reverse.map (ztv sz b)) (rest := (st.drop (zna x + 1)).map (ztv sz b)) ⟨K.1, K.2.1, K.2.2.1, K.2.2.2.1, K.2.2.2.2.1⟩ hM ⟨by rw [← hvr]; exact va_cnB (zna x) K.2.2.2.2.1 (zws_good hx) rfl rfl rfl (z_nest K (hw _ rfl)) (K.2.2.2.2.1 _ (zmw_ini hx)) ⟨hk.2.1, hk.2.2.1, hk.2.2.2.1⟩ ⟨by show d' + 1 + 1 ≤ _; omega, by show 8 + ((zm x).2.2.1 + 11) + 64 * (d' + 1) ≤ _; have := hk.2.2.2.2.2.2; omega⟩, hk.2.2.2.2.2.1 hkd, K.2.2.2.2.1 _ (zmw_I hx hkd)⟩ (z_pre hP K.2.2.2.2.2.1) rfl hlen (hz1.trans K.2.2.1) hstk (by rw [hmo, hsum]; omega) hd hf) hS fin
                    · cases hz
                  · cases hz
                · cases hz
            | _ =>
              exfalso
              dsimp only [zstep, zldi, zlda, zsti, zsta, zi2, zbr, zsw, zget, zput, ziald, zbald, zaald, ziast, zbast, zaast, zalen, znwa, zacp, zn, zret, zareq, zvret] at hz
              (repeat' split at hz) <;> cases hz
end ZRUN
