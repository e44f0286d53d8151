/-! THE CLAIM OUT OF ONE WALK OF THE LAW'S BODY. Your part is whole_start (and what it stands on); all else here is the same for every law, but numbers. -/
def R_law : String := "ThreeValuesLaw"
def lw_P (b : Addr) (xs : List Int32) (args : Array Value) (s : State) : Prop := args = #[.ref b] ∧ s.IntsAt b xs ∧ xs.length ≤ 3072 ∧ (Jvm.Cond.and given_1 narrow_1).before args s = true
def lw_Q (_ : Array Value) (s : State) (o : Outcome) (t : State) : Prop := o = .returned (some (.int 1)) ∧ Framed s o t [] 600000 7302250
def lw_Z (below : List Frame) (a : Array Value) (s : State) : State → Prop := fun t => ∃ o, t.status = .running ∧ Ended t below o ∧ lw_Q a s o t
/-- the law's own end, with 1 on the stack, nothing written that was there before, its room as the claim has it -/
theorem lw_ret {p : Program} {l : Launch} {e : Env} {s : State} {m : MethodId} {below : List Frame} {meth : Method} {c : Code} {b : Nat} (hx : p.tables.exec = Jvm.exec) (hb : c.code = code) (hr : meth.sig.returnType = ret) (hlocks : meth.locks = false) {pc : Nat} {H : Heap} {ls : Array Slot} (hdg : decode code pc = .ok (.ireturn, 1)) : W p l e room_1 s m #[Value.ref b] below meth c H [] 600000 7302250 (lw_Z below #[Value.ref b] s) (F0 m pc ls [.int 1]) := by
  intro T hT X
  obtain ⟨fs, hret, hrun, hended, hW, hframe⟩ := X.leave (v := some (.int 1)) (hlocks := hlocks) (fun h => by rw [hr] at h; cases h)
  have hmeth' : T.vm.method? m = some meth := X.method'
  refine ⟨T.setFrames fs, ?_, .returned (some (.int 1)), hrun, hended, rfl, ⟨_, rfl⟩, hW, hframe⟩
  jvm_step X.here [X.here.top, hx, hb, hdg, hmeth', hr, ret, narrow_b1]
  (try refine ⟨rfl, ?_⟩); (try refine ⟨rfl, ?_⟩)
  first | (intro acts; rw [hret _ acts rfl rfl rfl]) | rw [hret _ _ rfl rfl rfl]
  exact Steps.refl _
/-- what holds at the law's entry: the machine, the code, the tables' words (any of lw_tbl by 'hts w (by decide +kernel)'), the script of L ints xs at the cell b, what the Statement gives of the start (any of its parts by flat_of_before) -/
def lw_At (p : Program) (s : State) (m : MethodId) (meth : Method) (c : Code) (b L : Nat) (xs : Nat → Int32) : Prop :=
  p.tables.exec = Jvm.exec ∧ c.code = code ∧ meth.sig.returnType = ret ∧ c.maxLocals = 4 ∧ s.vm.findClass R_law = some m.cls ∧ (∀ w ∈ lw_tbl, w.before #[Value.ref b] s = true) ∧ va_X b L xs s s.heap ∧ b < s.heap.size ∧ meth.locks = false ∧ (Jvm.Cond.and given_1 narrow_1).before #[Value.ref b] s = true
-- ===== YOUR PART BEGINS =====
theorem z_uk {s : State} {args : Array Value} (hts : ∀ w ∈ lw_tbl, w.before args s = true) (ci : Nat) (h : ci < 13) : ∃ (cC : ClassId) (iS : Nat → Nat), u_Kn s (zFC ci) (zFT ci) (zFN ci) cC iS :=
  u_known hts (z_cls ci h).1 (hts _ ((z_cls ci h).2 _ List.mem_cons_self))
theorem z_ac {s : State} {args : Array Value} {ty : FieldType} (h : (Cond.arrayClass ty).before args s = true) (hty : ∀ C, ty ≠ .object C) : ∃ cN : ClassId, ArrOfT s cN ty ∧ va_RA s cN ty := by
  obtain ⟨c, k, comp, h1, h2, h3⟩ := Cond.arrayClass_spec h
  refine ⟨c, fun n z => ⟨fun k h => (by cases h), k, h2, comp, h3⟩, ?_⟩
  cases ty with
  | object C => exact absurd rfl (hty C)
  | _ => exact h1
theorem z_ao {s : State} {args : Array Value} {C : String} (h : (Cond.arrayOver (.object C)).before args s = true) : ∃ cN : ClassId, ArrOfT s cN (.object C) ∧ va_RA s cN (.object C) := by
  obtain ⟨comp, c, k, h1, h2, h3, h4, h5⟩ := Cond.arrayOver_spec h
  exact ⟨c, fun n z => ⟨fun k h => (by cases h), k, h3, comp, h4⟩, k, comp, h3, h4, h1, h5⟩
theorem z_know {s : State} {args : Array Value} (hts : ∀ w ∈ lw_tbl, w.before args s = true) : ∃ (D : va_G) (cA : Nat → ClassId), zK D cA s := by
  have hg : ∀ (i : Nat) (w : Cond), ([.arrayClass .int, .arrayClass .byte, .arrayClass .boolean, .instanceMethod objectInit, .code objectInit ⟨#[0xb1]⟩ 1 none, .native arraycopyName, .static arraycopyName, .initialized "java/lang/System", .static Lib.Math.max.name, .initialized "java/lang/Math", .code Lib.Math.max.name Lib.Math.max.code 2 (some .int), .arrayOver (.object "ThreeValues$Structure"), .arrayOver (.object "ThreeValues$Formula"), .arrayOver (.object "ThreeValues$Rule"), .arrayOver (.object "ThreeValues$Edge"), .arrayOver (.object "ThreeValues$Bag")] : List Cond)[i]? = some w → w.before args s = true := fun i w h => hts w (z_gen w (List.mem_of_getElem? h))
  obtain ⟨c0, a0⟩ := z_ac (ty := .int) (hg 0 _ rfl) (fun C h => by cases h)
  obtain ⟨c1, a1⟩ := z_ac (ty := .byte) (hg 1 _ rfl) (fun C h => by cases h)
  obtain ⟨c2, a2⟩ := z_ac (ty := .boolean) (hg 2 _ rfl) (fun C h => by cases h)
  obtain ⟨c3, a3⟩ := z_ao (hg 11 _ rfl)
  obtain ⟨c4, a4⟩ := z_ao (hg 12 _ rfl)
  obtain ⟨c5, a5⟩ := z_ao (hg 13 _ rfl)
  obtain ⟨c6, a6⟩ := z_ao (hg 14 _ rfl)
  obtain ⟨c7, a7⟩ := z_ao (hg 15 _ rfl)
  have hk : ∀ ci, ∃ (cC : ClassId) (iS : Nat → Nat), ci < 13 → u_Kn s (zFC ci) (zFT ci) (zFN ci) cC iS := by
    intro ci
    by_cases h : ci < 13
    · obtain ⟨x, y, z⟩ := z_uk hts ci h
      exact ⟨x, y, fun _ => z⟩
    · exact ⟨0, fun _ => 0, fun q => absurd q h⟩
  refine ⟨(fun ci => Classical.choose (hk ci), fun ci => Classical.choose (Classical.choose_spec (hk ci))), fun i => [c0, c1, c2, c3, c4, c5, c6, c7].getD i 0, ⟨fun ci q hq => ?_, fun k q hq => ?_⟩, fun C hC => ?_, fun w hw => ?_⟩
  · have hl : ci < 13 := by
      have := (List.getElem?_eq_some_iff.mp hq).1
      simpa [zcl] using this
    rw [zcl_at hl] at hq
    cases hq
    exact Classical.choose_spec (Classical.choose_spec (hk ci)) hl
  · have hl : k < 8 := (List.getElem?_eq_some_iff.mp hq).1
    match k, hl with
    | 0, _ => cases hq; exact a0
    | 1, _ => cases hq; exact a1
    | 2, _ => cases hq; exact a2
    | 3, _ => cases hq; exact a3
    | 4, _ => cases hq; exact a4
    | 5, _ => cases hq; exact a5
    | 6, _ => cases hq; exact a6
    | 7, _ => cases hq; exact a7
  · simp only [zAN, List.mem_cons, List.not_mem_nil, or_false] at hC
    rcases hC with rfl | rfl | rfl | rfl | rfl
    · exact va_AO.of (hg 11 _ rfl)
    · exact va_AO.of (hg 12 _ rfl)
    · exact va_AO.of (hg 13 _ rfl)
    · exact va_AO.of (hg 14 _ rfl)
    · exact va_AO.of (hg 15 _ rfl)
  · obtain ⟨h1, h2⟩ := List.mem_filter.mp hw
    have h3 := hts w h1
    cases w <;> first | (cases h2; done) | exact va_Nw.of rfl h3
/-- from the entry, for every script of at most 3072 ints, the law comes to its end with true -/
theorem whole_start {p : Program} {e : Env} {s : State} {m : MethodId} {below : List Frame} {meth : Method} {c : Code} (l : Launch) {b L : Nat} {xs : Nat → Int32} (hL : L ≤ 3072) (C0 : lw_At p s m meth c b L xs) : W p l e room_1 s m #[Value.ref b] below meth c s.heap [] 0 0 (lw_Z below #[Value.ref b] s) (entryFrame m ([Value.ref b] : List Value).toArray 4) := by
  obtain ⟨hx, hb, hr, hml, hown, hts, hX, hbl, hlk, hgv⟩ := C0
  obtain ⟨D, cA, hK⟩ := z_know hts
  obtain ⟨n, d, M', hd, hrun, hc, hs⟩ := law_pure ((List.range L).map xs) (by simpa using hL)
  have hcx : zCx p s m #[Value.ref b] meth c D cA 175 := ⟨hx, hb, hml, hown, fun w hw => hts w (List.mem_filter.mp hw).1, hK, fun h => absurd h (by decide +kernel), hr, hlk⟩
  have hmap : ([.ref zSCR] : List Value).map (ztv s.heap.size b) = [Value.ref b] := by simp [ztv]
  have hent := z_entry (sz := s.heap.size) (b := b) (as := [.ref zSCR]) (n := 4) rfl (by decide)
  rw [hmap] at hent
  rw [lg_entry_eq]
  have hxs : ∀ l, some ((List.range L).map xs) = some l → va_X b l.length (fun j => l.getD j 0) s s.heap ∧ b < s.heap.size ∧ ¬ s.heap.size ≤ b := by
    intro l hl
    cases hl
    refine ⟨?_, hbl, by omega⟩
    obtain ⟨scr, h1, h2, h3, h4, h5⟩ := hX
    refine ⟨scr, h1, h2, h3, by simpa using h4, fun j hj => ?_⟩
    have hj : j < L := by simpa using hj
    rw [h5 j hj]
    simp [List.getD, List.getElem?_range hj]
  have key := zsim l D cA s.heap.size b n (some ((List.range L).map xs)) d 175 0 (zent 175 [.ref zSCR]) [] ([], []) _ M' hrun p e room_1 s m #[Value.ref b] below meth c (lw_Z below #[Value.ref b] s) 0 0 hcx rfl hxs (by show d + 1 ≤ 2048; omega) (by show 64 * (d + 1) ≤ 84000; omega) (by show znc M' ≤ 0 + 600000; omega) (by show zns M' ≤ 0 + 7302250; omega) ?_
  · refine key s.heap [] _ 0 0 (by rw [hent.2.1, hml]; rfl) hent.2 ⟨fun k q hk => by have := (zimg_get hk).2; exact absurd this (Nat.not_lt_zero _), rfl⟩ va_S.rf rfl rfl
  · intro H locs ls cells slots pc' hz hP hS hc1 hs1 hret
    rcases hret with ⟨v, hv, hdd, -⟩ | ⟨a, C, hv, -⟩ | ⟨hv, -⟩
    · cases hv
      refine va_forget (fun q hq => hS.2.2 q hq) ?_
      refine W.widen (k := 600000) (n := 7302250) (by omega) (by omega) ?_
      exact lw_ret hx hb hr hlk hdd
    · cases hv
    · cases hv
-- ===== YOUR PART ENDS =====
set_option maxHeartbeats 4000000 in
theorem lw_walk (l : Launch) (b : Addr) (xs : List Int32) : MetFree l x (headSpec (Jvm.Cond.code x code maxLocals ret :: tables_1) room_1) (lw_P b xs) (fun _ _ _ _ _ => True) lw_Q := by
  refine MetFree.of_bodyS (code := code) (maxLocals := maxLocals) (ret := ret) (by decide) ?_ ?_
  · intro args s m h hn
    obtain ⟨meth, c, h1, h2, h3, h4, h5, h6, -, -⟩ := Cond.code_spec hn (atoms_spec (ws := Jvm.Cond.code x code maxLocals ret :: tables_1) h _ List.mem_cons_self)
    exact ⟨meth, c, h1, h2, h3, h4, h5, h6⟩
  · intro p e s m args below meth c s₁ B hml0 hP _
    obtain ⟨rfl, hx, hbd, hgv⟩ := hP
    obtain ⟨scr, harrAt, hlist, hof, hsmall⟩ := hx
    obtain ⟨hcb, hkn, -, -⟩ := State.arrayAt?_spec harrAt
    have hown : s.vm.findClass R_law = some m.cls := findClass_of_methodNamed B.named
    have hts0 : ∀ c ∈ (Jvm.Cond.code x code maxLocals ret :: tables_1), c.before #[Value.ref b] s = true := atoms_spec (ws := Jvm.Cond.code x code maxLocals ret :: tables_1) B.pre
    have hts : ∀ w ∈ lw_tbl, w.before #[Value.ref b] s = true := k2_hts_sels lw_privs (fun w hw => hts0 w (List.mem_cons_of_mem _ hw)) lw_privs_ok
    have hml : c.maxLocals = 4 := B.maxLocals_eq (hts0 _ List.mem_cons_self)
    have X₀ : Stand p l e room_1 s m #[Value.ref b] below meth c s₁ [] 0 0 := Stand.of_body B
    have hh0 : s₁.heap = s.heap := by rw [B.state]; rfl
    have hsz : scr.slots.size = xs.length := by rw [← Array.length_toList, hlist, List.length_map]
    have hval : ∀ j : Nat, j < xs.length → scr.slots[j]? = some (.int (xs.getD j 0)) := fun j hj => by
      rw [← Array.getElem?_toList, hlist]
      simp [hj]
    have hbl : b < s.heap.size := (Array.getElem?_eq_some_iff.mp hcb).1
    have hX : va_X b xs.length (fun j => xs.getD j 0) s s.heap := ⟨scr, hcb, hof, hkn, hsz, hval⟩
    have K : W p l e room_1 s m #[Value.ref b] below meth c s₁.heap [] 0 0 (lw_Z below #[Value.ref b] s) (entryFrame m ([Value.ref b] : List Value).toArray 4) := by
      rw [hh0]
      exact whole_start l hbd ⟨B.exec, B.bytes, B.returns, hml, hown, hts, hX, hbl, B.notSynchronized, hgv⟩
    obtain ⟨t, a1, o, b1, b2, b3⟩ := K s₁ rfl X₀
    exact ⟨t, o, a1, b1, b2, b3⟩
theorem lw_pre_spec {args : Array Value} {s : State} (h : (Jvm.Cond.and given_1 narrow_1).before args s = true) (hr : rest_1_c.before args s = true) : ∃ (b : Addr) (xs : List Int32), lw_P b xs args s := by
  have hs := flat_of_before _ h
  have hq := flat_of_before _ hr
  have hc : (Cond.count 1).before args s = true := hs _ (by decide +kernel)
  have harr : (Cond.arrayOf (.arg 0) .int).before args s = true := hs _ (by decide +kernel)
  have hle : (Cond.le (.length (.arg 0)) (.int 3072)).before args s = true := hs _ (by decide +kernel)
  have hlen : (Cond.isInt (.length (.arg 0))).before args s = true := hq _ (by decide +kernel)
  have hall : (Cond.all (.arg 0) (.isInt (.elem (.arg 0) (.index 0)))).before args s = true := hq _ (by decide +kernel)
  obtain ⟨b, xs, hb, hx⟩ := State.ints_of_pre rfl harr hlen hall
  have hsm : xs.length < 2 ^ 31 := hx.choose_spec.2.2.2
  have hev : (Term.length (.arg 0)).eval args s none [] s = some (.int xs.length.toInt32) := hx.length_eval hb
  have hv := Cond.le_ints hev (show (Term.int 3072).eval args s none [] s = some (.int 3072) from rfl)
  have hd : xs.length.toInt32 ≤ 3072 := by
    simpa [Cond.before, Cond.holds, hv] using hle
  have hN : xs.length ≤ 3072 := (Int32.ofNat_le_ofNat hsm (by decide)).mp (show Int32.ofNat xs.length ≤ Int32.ofNat 3072 from hd)
  exact ⟨b, xs, Cond.one_arg hc (show args[0]? = some (.ref b) from hb), hx, hN, h⟩
theorem lw_comes (l : Launch) : Comes l x (Jvm.Cond.code x code maxLocals ret :: tables_1) room_1 (fun tb e args s => Calls_1 tb e args s ∧ rest_1 tb e args s ∧ Pre_1 tb e args s)
    (fun _ _ args s o t => lw_Q args s o t) := by
  intro p e ha hc hk s m args below hf hfit hheap happ hpre
  obtain ⟨b, xs, hP⟩ := lw_pre_spec hpre.2.2 hpre.2.1
  obtain ⟨k, o, h1, h2, h3, hQ⟩ := lw_walk l b xs p e ha hc hk s m args below hf ((Spec.applies_iff_loose hf).mp happ).1 hP trivial
  exact ⟨k, o, h1, h2, h3, hQ⟩
theorem lw_frame {s t : State} {o : Outcome} {args : Array Value} (h : Framed s o t [] 600000 7302250) :
    Framed s o t (fieldLocs frame_1_writes args s ++ arrayLocs frame_1_arrays args s ++ staticLocs frame_1_statics s) 600000 7302250 := h
theorem lw_limb (L : Cond) (hL : ∀ (args : Array Value) (s t : State), L.after args s (.returned (some (.int 1))) t = true) :
    ArmFor flags0 classFile x code maxLocals ret World_1 tables_1 room_1 Calls_1 rest_1 Pre_1
      (fun tb e a s o t => postC L tb e a s o t ∧ Framed s o t (fieldLocs frame_1_writes a s ++ arrayLocs frame_1_arrays a s ++ staticLocs frame_1_statics s) 600000 7302250) := by
  intro l _ _ _ p e ha hc hk s m args below hf hfit hheap happ hpre
  obtain ⟨k, o, h1, h2, h3, rfl, hF⟩ := lw_comes l p e ha hc hk s m args below hf hfit hheap happ hpre
  exact ⟨k, _, h1, h2, h3, hL args s _, lw_frame hF⟩
theorem i_vc : Claimed_1_1 ∧ Claimed_1_2 := ⟨lw_limb limb_1_1 (fun args s t => by simp [limb_1_1, Cond.after, Cond.holds, Cond.value]), lw_limb limb_1_2 (fun args s t => Cond.after_iff.mpr (by
  first | (rw [show limb_1_2 = Cond.eq .result (.int 1) from rfl, Cond.eq_ints (x := 1) (y := 1) rfl rfl]; simp; done) | (simp [limb_1_2, Cond.value, Term.eval]; done)))⟩
