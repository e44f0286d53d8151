/-! A step, a call, a run. -/
section ZSIM
variable {p : Program} {l : Launch} {e : Env} {R : Room} {s : State} {m : MethodId} {args : Array Value} {below : List Frame} {meth : Method} {c : Code} {Q : State → Prop} {D : va_G} {cA : Nat → ClassId} {sz b n0 s0 : Nat}
variable {mi pc : Nat} {ml st : List Value} {M : zM} {pc' : Nat} {ml' st' : List Value} {M' : zM}
theorem zcall_ne {cm n : Nat} {z : Nat × List Value × List Value × zM} : ¬ zcall cm n st = some (.inl z) := by
  unfold zcall
  intro h
  split at h <;> cases h
theorem zsim_step (K : zCx p s m args meth c D cA mi) (hs0 : s.heap.size = sz + n0) {xs : Option (List Int32)} (hX : ∀ l, xs = some l → va_X b l.length (fun j => l.getD j 0) s s.heap ∧ b < s.heap.size ∧ ¬ sz ≤ b) (hR1 : 1 ≤ R.frames) (hR2 : 64 ≤ R.locals) {i : Instr} {n x y : Nat} (hd : decode (zm mi).2.1 pc = .ok (i, n)) (hn : n = zlen i n) (hw : ∀ w, zlink (zm mi).1.cls (i, n, x, y) = some w → w ∈ lw_tbl) (hn1 : znc M' ≤ n0 + R.cells) (hn2 : zns M' ≤ s0 + R.slots) (h : zstep xs mi i x y pc ml st M = some (.inl (pc', ml', st', M'))) (kk : zC p l e R s m args below meth c Q D cA sz b n0 s0 pc' ml' st' M') : zC p l e R s m args below meth c Q D cA sz b n0 s0 pc ml st M := by
  cases i with
  | iconst k =>
    have hn : n = 1 := hn
    subst hn
    obtain ⟨rfl, rfl, rfl, rfl⟩ := zn_inj h
    intro H locs ls cells slots hz hl hP hS hc hs
    exact lv_iconst K.1 K.2.1 hd rfl (kk H locs ls cells slots hz hl hP hS hc hs)
  | bipush k =>
    have hn : n = 2 := hn
    subst hn
    obtain ⟨rfl, rfl, rfl, rfl⟩ := zn_inj h
    intro H locs ls cells slots hz hl hP hS hc hs
    exact lv_bipush K.1 K.2.1 hd rfl (kk H locs ls cells slots hz hl hP hS hc hs)
  | sipush k =>
    have hn : n = 3 := hn
    subst hn
    obtain ⟨rfl, rfl, rfl, rfl⟩ := zn_inj h
    intro H locs ls cells slots hz hl hP hS hc hs
    exact lv_sipush K.1 K.2.1 hd rfl (kk H locs ls cells slots hz hl hP hS hc hs)
  | iload_n k =>
    have hn : n = 1 := hn
    subst hn
    exact za_ldi_n K hd h kk
  | iload k =>
    have hn : n = 2 := hn
    subst hn
    exact za_ldi K hd h kk
  | aload_n k =>
    have hn : n = 1 := hn
    subst hn
    exact za_lda_n K hd h kk
  | aload k =>
    have hn : n = 2 := hn
    subst hn
    exact za_lda K hd h kk
  | istore_n k =>
    have hn : n = 1 := hn
    subst hn
    exact za_sti_n K hd h kk
  | istore k =>
    have hn : n = 2 := hn
    subst hn
    exact za_sti K hd h kk
  | astore_n k =>
    have hn : n = 1 := hn
    subst hn
    exact za_sta_n K hd h kk
  | astore k =>
    have hn : n = 2 := hn
    subst hn
    exact za_sta K hd h kk
  | iinc k j =>
    have hn : n = 3 := hn
    subst hn
    dsimp only [zstep] at h
    split at h
    · rename_i v hv
      obtain ⟨rfl, rfl, rfl, rfl⟩ := zn_inj h
      exact za_iinc K hd hv kk
    · cases h
  | iadd =>
    have hn : n = 1 := hn
    subst hn
    dsimp only [zstep, zi2] at h
    split at h
    · obtain ⟨rfl, rfl, rfl, rfl⟩ := zn_inj h
      intro H locs ls cells slots hz hl hP hS hc hs
      exact lv_iadd K.1 K.2.1 hd (kk H locs ls cells slots hz hl hP hS hc hs)
    · cases h
  | isub =>
    have hn : n = 1 := hn
    subst hn
    dsimp only [zstep, zi2] at h
    split at h
    · obtain ⟨rfl, rfl, rfl, rfl⟩ := zn_inj h
      intro H locs ls cells slots hz hl hP hS hc hs
      exact lv_isub K.1 K.2.1 hd (kk H locs ls cells slots hz hl hP hS hc hs)
    · cases h
  | imul =>
    have hn : n = 1 := hn
    subst hn
    dsimp only [zstep, zi2] at h
    split at h
    · obtain ⟨rfl, rfl, rfl, rfl⟩ := zn_inj h
      intro H locs ls cells slots hz hl hP hS hc hs
      exact lv_imul K.1 K.2.1 hd (kk H locs ls cells slots hz hl hP hS hc hs)
    · cases h
  | iand =>
    have hn : n = 1 := hn
    subst hn
    dsimp only [zstep, zi2] at h
    split at h
    · obtain ⟨rfl, rfl, rfl, rfl⟩ := zn_inj h
      intro H locs ls cells slots hz hl hP hS hc hs
      exact lv_iand K.1 K.2.1 hd (kk H locs ls cells slots hz hl hP hS hc hs)
    · cases h
  | ior =>
    have hn : n = 1 := hn
    subst hn
    dsimp only [zstep, zi2] at h
    split at h
    · obtain ⟨rfl, rfl, rfl, rfl⟩ := zn_inj h
      intro H locs ls cells slots hz hl hP hS hc hs
      exact lv_ior K.1 K.2.1 hd (kk H locs ls cells slots hz hl hP hS hc hs)
    · cases h
  | ixor =>
    have hn : n = 1 := hn
    subst hn
    dsimp only [zstep, zi2] at h
    split at h
    · obtain ⟨rfl, rfl, rfl, rfl⟩ := zn_inj h
      intro H locs ls cells slots hz hl hP hS hc hs
      exact lv_ixor K.1 K.2.1 hd (kk H locs ls cells slots hz hl hP hS hc hs)
    · cases h
  | ishl =>
    have hn : n = 1 := hn
    subst hn
    dsimp only [zstep, zi2] at h
    split at h
    · obtain ⟨rfl, rfl, rfl, rfl⟩ := zn_inj h
      intro H locs ls cells slots hz hl hP hS hc hs
      exact lv_ishl K.1 K.2.1 hd (kk H locs ls cells slots hz hl hP hS hc hs)
    · cases h
  | ishr =>
    have hn : n = 1 := hn
    subst hn
    dsimp only [zstep, zi2] at h
    split at h
    · obtain ⟨rfl, rfl, rfl, rfl⟩ := zn_inj h
      intro H locs ls cells slots hz hl hP hS hc hs
      exact lv_ishr K.1 K.2.1 hd (kk H locs ls cells slots hz hl hP hS hc hs)
    · cases h
  | idiv =>
    have hn : n = 1 := hn
    subst hn
    dsimp only [zstep] at h
    split at h
    · split at h
      · cases h
      · rename_i h0
        obtain ⟨rfl, rfl, rfl, rfl⟩ := zn_inj h
        intro H locs ls cells slots hz hl hP hS hc hs
        exact lv_idiv K.1 K.2.1 hd h0 (kk H locs ls cells slots hz hl hP hS hc hs)
    · cases h
  | irem =>
    have hn : n = 1 := hn
    subst hn
    dsimp only [zstep] at h
    split at h
    · split at h
      · cases h
      · rename_i h0
        obtain ⟨rfl, rfl, rfl, rfl⟩ := zn_inj h
        intro H locs ls cells slots hz hl hP hS hc hs
        exact lv_irem K.1 K.2.1 hd h0 (kk H locs ls cells slots hz hl hP hS hc hs)
    · cases h
  | i2b =>
    have hn : n = 1 := hn
    subst hn
    dsimp only [zstep] at h
    split at h
    · obtain ⟨rfl, rfl, rfl, rfl⟩ := zn_inj h
      intro H locs ls cells slots hz hl hP hS hc hs
      exact lv_i2b K.1 K.2.1 hd rfl (kk H locs ls cells slots hz hl hP hS hc hs)
    · cases h
  | dup =>
    have hn : n = 1 := hn
    subst hn
    dsimp only [zstep] at h
    split at h
    · split at h
      · rename_i h0
        obtain ⟨rfl, rfl, rfl, rfl⟩ := zn_inj h
        intro H locs ls cells slots hz hl hP hS hc hs
        exact lv_dup K.1 K.2.1 hd (by rw [ztv_cat]; exact h0) (kk H locs ls cells slots hz hl hP hS hc hs)
      · cases h
    · cases h
  | pop =>
    have hn : n = 1 := hn
    subst hn
    dsimp only [zstep] at h
    split at h
    · split at h
      · rename_i h0
        obtain ⟨rfl, rfl, rfl, rfl⟩ := zn_inj h
        intro H locs ls cells slots hz hl hP hS hc hs
        exact lv_pop K.1 K.2.1 hd (by rw [ztv_cat]; exact h0) (kk H locs ls cells slots hz hl hP hS hc hs)
      · cases h
    · cases h
  | dup2 =>
    have hn : n = 1 := hn
    subst hn
    dsimp only [zstep] at h
    split at h
    · split at h
      · rename_i h0
        obtain ⟨rfl, rfl, rfl, rfl⟩ := zn_inj h
        intro H locs ls cells slots hz hl hP hS hc hs
        exact lv_dup2_11 K.1 K.2.1 hd (by rw [ztv_cat]; exact h0.1) (by rw [ztv_cat]; exact h0.2) (kk H locs ls cells slots hz hl hP hS hc hs)
      · cases h
    · cases h
  | if_icmp cd o =>
    have hn : n = 3 := hn
    subst hn
    dsimp only [zstep] at h
    split at h
    · exact za_icmp K hd h kk
    · cases h
  | ifCond cd o =>
    have hn : n = 3 := hn
    subst hn
    dsimp only [zstep] at h
    split at h
    · exact za_if K hd h kk
    · cases h
  | goto o =>
    have hn : n = 3 := hn
    subst hn
    exact za_goto K hd h kk
  | tableswitch d lo hi offs =>
    exact za_sw K hd h kk
  | getfield k =>
    have hn : n = 3 := hn
    subst hn
    exact za_get K hd (hw _ rfl) h kk
  | putfield k =>
    have hn : n = 3 := hn
    subst hn
    exact za_put K hs0 hd (hw _ rfl) h kk
  | iaload =>
    have hn : n = 1 := hn
    subst hn
    exact za_iald K hX hd h kk
  | baload =>
    have hn : n = 1 := hn
    subst hn
    exact za_bald K hd h kk
  | aaload =>
    have hn : n = 1 := hn
    subst hn
    exact za_aald K hd h kk
  | iastore =>
    have hn : n = 1 := hn
    subst hn
    exact za_iast K hs0 hd h kk
  | bastore =>
    have hn : n = 1 := hn
    subst hn
    exact za_bast K hs0 hd h kk
  | aastore =>
    have hn : n = 1 := hn
    subst hn
    exact za_aast K hs0 hd h kk
  | arraylength =>
    have hn : n = 1 := hn
    subst hn
    exact za_alen K hX hd h kk
  | new k =>
    have hn : n = 3 := hn
    subst hn
    dsimp only [zstep] at h
    split at h
    · rename_i h0
      obtain ⟨rfl, rfl, rfl, rfl⟩ := zn_inj h
      exact za_new K hs0 h0.1 hn1 hn2 hd (hw _ rfl) h0.2 kk
    · cases h
  | newarray t =>
    have hn : n = 2 := hn
    subst hn
    dsimp only [zstep] at h
    split at h
    · rename_i h0
      exact za_newa K hs0 hn1 hn2 h0.1 h0.2 hd h kk
    · cases h
  | anewarray k =>
    have hn : n = 3 := hn
    subst hn
    dsimp only [zstep] at h
    split at h
    · rename_i h0
      exact za_newq K hs0 hn1 hn2 h0.1 h0.2 hd (hw _ rfl) h kk
    · cases h
  | invokestatic k =>
    have hn : n = 3 := hn
    subst hn
    dsimp only [zstep] at h
    split at h
    · rename_i hy
      subst hy
      exact za_acp K hs0 hR1 hR2 hd (hw _ rfl) h kk
    · split at h
      · rename_i hy
        subst hy
        split at h
        · split at h
          · rename_i h0
            obtain ⟨rfl, rfl, rfl, rfl⟩ := zn_inj h
            exact za_max K hR1 hR2 hn1 hn2 h0 hd (hw _ rfl) kk
          · cases h
        · cases h
      · split at h
        · exact absurd h zcall_ne
        · cases h
  | invokespecial k =>
    have hn : n = 3 := hn
    subst hn
    dsimp only [zstep] at h
    split at h
    · rename_i hy
      subst hy
      split at h
      · split at h
        · rename_i h0
          obtain ⟨rfl, rfl, rfl, rfl⟩ := zn_inj h
          exact za_oi K hR1 hR2 h0 hd (hw _ rfl) kk
        · cases h
      · cases h
    · split at h
      · split at h
        · exact absurd h zcall_ne
        · cases h
      · cases h
  | invokevirtual k =>
    dsimp only [zstep] at h
    split at h
    · split at h
      · exact absurd h zcall_ne
      · cases h
    · cases h
  | ireturn =>
    dsimp only [zstep] at h
    unfold zret at h
    split at h
    · split at h <;> cases h
    · cases h
  | areturn =>
    dsimp only [zstep] at h
    unfold zareq at h
    split at h <;> cases h
  | return_ =>
    dsimp only [zstep] at h
    unfold zvret at h
    split at h <;> cases h
  | _ => cases h
def zle (M M' : zM) : Prop := znc M ≤ znc M' ∧ zns M ≤ zns M'
theorem zstep_le {xs : Option (List Int32)} {i : Instr} {x y : Nat} (h : zstep xs mi i x y pc ml st M = some (.inl (pc', ml', st', M'))) : zle M M' := by
  cases i <;> dsimp only [zstep, zldi, zlda, zsti, zsta, zi2, zbr, zsw, zget, zput, ziald, zbald, zaald, ziast, zbast, zaast, zalen, znwa, zacp, zret, zareq, zvret] at h <;> (repeat' split at h) <;> first | (cases h; done) | (exact absurd h zcall_ne) | (obtain ⟨rfl, rfl, rfl, rfl⟩ := zn_inj h; simp [zle, znc, zns, zwr, znw, zno, zcp])
theorem zrun_le : ∀ (n : Nat) (xs : Option (List Int32)) (d mi pc : Nat) (ml st : List Value) (M : zM) (r : Option Value) (M' : zM), zrun n xs d mi pc ml st M = some (r, M') → zle M M' := by
  intro n
  induction n with
  | zero => intro xs d mi pc ml st M r M' h; cases h
  | succ n ih =>
    intro xs d mi pc ml st M r M' h
    unfold zrun at h
    split at h
    · cases h
    · rename_i q hq
      split at h
      · cases h
      · rename_i z hz
        have h1 := ih _ _ _ _ _ _ _ _ _ h
        have h2 := zstep_le hz
        exact ⟨Nat.le_trans h2.1 h1.1, Nat.le_trans h2.2 h1.2⟩
      · cases h
        exact ⟨Nat.le_refl _, Nat.le_refl _⟩
      · split at h
        · cases h
        · split at h
          · cases h
          · rename_i u hu
            have h1 := ih _ _ _ _ _ _ _ _ _ h
            have h2 := ih _ _ _ _ _ _ _ _ _ hu
            exact ⟨Nat.le_trans h2.1 h1.1, Nat.le_trans h2.2 h1.2⟩
/-- what a method leaves -/
def zQ (D : va_G) (cA : Nat → ClassId) (sz b : Nat) (r : Option Value) (M1 : zM) : Array Value → State → Outcome → State → Prop := fun _ st oc t => oc = .returned (r.map (ztv sz b)) ∧ zP D cA sz b M1 t.heap ∧ va_F (fun q => sz ≤ q) st t
theorem z_call {mc ms : Nat} {a : Array Value} {H : Heap} {locs : List Loc} {ls : Array Slot} {cells slots : Nat} {st0 rest : List Value} {r : Option Value} {M1 : zM} (hr : va_Run p l e R s m args below meth c H locs cells slots mc ms (F0 m pc ls st0) rest (zQ D cA sz b r M1 a) (fun q => sz ≤ q)) (hS : va_S (fun q => sz ≤ q) s.heap H locs) (kk : ∀ (H1 : Heap) (locs1 : List Loc), zP D cA sz b M1 H1 → va_S (fun q => sz ≤ q) s.heap H1 locs1 → W p l e R s m args below meth c H1 locs1 (cells + mc) (slots + ms) Q (F0 m (pc + 3) ls ((r.map (ztv sz b)).toList ++ rest))) : W p l e R s m args below meth c H locs cells slots Q (F0 m pc ls st0) := by
  intro T hT X
  obtain ⟨v, st₀, t, T', L, h0, X', hL, e1, e2, ⟨hv, hp, hz, hk⟩, st⟩ := hr T hT X
  cases hv
  rw [h0] at hz hk
  obtain ⟨t2, a1, b1⟩ := kk T'.heap (locs ++ L) (by rw [e1]; exact hp) ⟨Nat.le_trans hS.1 (by rw [e1]; exact hz), fun q h1 h2 => by rw [e1, hk q (Nat.lt_of_lt_of_le h1 hS.1) h2]; exact hS.2.1 q h1 h2, fun q hq => by
      rcases List.mem_append.mp hq with h | h
      · exact hS.2.2 q h
      · exact hL q h⟩ T' rfl X'
  exact ⟨t2, st t2 a1, b1⟩
/-- an end of a method, at a return -/
def zRet (mi pc : Nat) (r : Option Value) : Prop :=
  (∃ x : Int32, r = some (.int x) ∧ decode (zm mi).2.1 pc = .ok (.ireturn, 1) ∧ ((zm mi).2.2.2.1 = some .int ∨ ((zm mi).2.2.2.1 = some .boolean ∧ (x = 0 ∨ x = 1)))) ∨
  (∃ (a : Nat) (C : String), r = some (.ref a) ∧ decode (zm mi).2.1 pc = .ok (.areturn, 1) ∧ (zm mi).2.2.2.1 = some (.object C)) ∨
  (r = none ∧ decode (zm mi).2.1 pc = .ok (.return_, 1) ∧ (zm mi).2.2.2.1 = none)
theorem zstep_ret {xs : Option (List Int32)} {i : Instr} {n x y : Nat} {r : Option Value} (hd : decode (zm mi).2.1 pc = .ok (i, n)) (hn : n = zlen i n) (h : zstep xs mi i x y pc ml st M = some (.inr (.inr r))) : zRet mi pc r ∧ st = r.toList := by
  cases i with
  | ireturn =>
    have hn : n = 1 := hn
    subst hn
    dsimp only [zstep] at h
    unfold zret at h
    split at h
    · rename_i v
      split at h
      · rename_i h0
        cases h
        exact ⟨Or.inl ⟨v, rfl, hd, h0⟩, rfl⟩
      · cases h
    · cases h
  | areturn =>
    have hn : n = 1 := hn
    subst hn
    dsimp only [zstep] at h
    unfold zareq at h
    split at h
    · rename_i a C hC
      cases h
      exact ⟨Or.inr (Or.inl ⟨a, C, rfl, hd, hC⟩), rfl⟩
    · cases h
  | return_ =>
    have hn : n = 1 := hn
    subst hn
    dsimp only [zstep] at h
    unfold zvret at h
    split at h
    · rename_i hC
      cases h
      exact ⟨Or.inr (Or.inr ⟨rfl, hd, hC⟩), rfl⟩
    · cases h
  | _ =>
    exfalso
    dsimp only [zstep, zldi, zlda, zsti, zsta, zi2, zbr, zsw, zget, zput, ziald, zbald, zaald, ziast, zbast, zaast, zalen, znwa, zacp, zcall, zn] at h
    (repeat' split at h) <;> cases h
end ZSIM
