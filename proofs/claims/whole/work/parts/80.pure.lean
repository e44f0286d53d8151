/-! The law's code: two objects, then the loop. -/
theorem zs_step {n : Nat} {xs : Option (List Int32)} {d mi pc : Nat} {ml st : List Value} {M : zM} {q : zIn} {pc' : Nat} {ml' st' : List Value} {M' : zM} {u : Option Value × zM} (hq : zrow mi pc = some q) (hs : zstep xs mi q.1 q.2.2.1 q.2.2.2 pc ml st M = zn pc' ml' st' M') (h : zrun n xs d mi pc' ml' st' M' = some u) : zrun (n + 1) xs d mi pc ml st M = some u := by
  unfold zrun
  rw [hq]
  dsimp only
  rw [hs]
  exact h
theorem zs_call {n : Nat} {xs : Option (List Int32)} {d mi pc : Nat} {ml st : List Value} {M : zM} {q : zIn} {x : Nat} {as rest : List Value} {w u : Option Value × zM} (hq : zrow mi pc = some q) (hs : zstep xs mi q.1 q.2.2.1 q.2.2.2 pc ml st M = some (.inr (.inl (x, as, rest)))) (hw : zrun n none d x 0 (zent x as) [] M = some w) (h : zrun n xs (d + 1) mi (pc + 3) ml (w.1.toList ++ rest) w.2 = some u) : zrun (n + 1) xs (d + 1) mi pc ml st M = some u := by
  unfold zrun
  rw [hq]
  dsimp only
  rw [hs]
  dsimp only
  rw [hw]
  exact h
theorem zs_new {xs : Option (List Int32)} {mi pc : Nat} {ml st : List Value} {M : zM} (h : M.1.length < zSCR) : zstep xs mi (.new 10) 12 0 pc ml st M = zn (pc + 3) ml (.ref M.1.length :: st) (zno M 12) := if_pos ⟨by omega, h⟩
theorem zA_len : zM_a.1.length = 483 := by decide +kernel
theorem law_nm : ∀ M : zM, M.1 = zS1 → znc M ≤ 600000 ∧ zns M ≤ 7302250 := by
  intro M h
  unfold znc zns
  rw [h]
  decide +kernel
theorem law_pure (xs : List Int32) (h : xs.length ≤ 3072) : ∃ (n d : Nat) (M' : zM), d ≤ 1000 ∧ zrun n (some xs) d 175 0 (zent 175 [.ref zSCR]) [] ([], []) = some (some (.int 1), M') ∧ znc M' ≤ 600000 ∧ zns M' ≤ 7302250 := by
  obtain ⟨n, r, M', t', hr, hT, rfl⟩ := l_175 h (show 60 ≤ 100 by omega) xs.length 0 t0 (by omega) (by omega) INV_t0 zM_b zT_b
  have e : zent 175 [.ref zSCR] = [.ref zSCR, .long 0, .long 0, .long 0] := by rfl
  have n0 : (0 : Int32) = nI 0 := li0
  have r18 : zrun (n + 6000) (some xs) 100 175 18 [.ref zSCR, .ref 0, .ref 483, .int 0] [] zM_b = some (some (.int 1), M') := by
    rw [n0]
    exact zrun_more (by omega) hr
  have r17 : zrun (n + 6000 + 1) (some xs) 100 175 17 [.ref zSCR, .ref 0, .ref 483, .long 0] [.int 0] zM_b = some (some (.int 1), M') := zs_step (q := (.istore_n 3, 1, 0, 0)) rfl rfl r18
  have r16 : zrun (n + 6000 + 1 + 1) (some xs) 100 175 16 [.ref zSCR, .ref 0, .ref 483, .long 0] [] zM_b = some (some (.int 1), M') := zs_step (q := (.iconst 0, 1, 0, 0)) rfl rfl r17
  have r15 : zrun (n + 6000 + 1 + 1 + 1) (some xs) 100 175 15 [.ref zSCR, .ref 0, .long 0, .long 0] [.ref 483] zM_b = some (some (.int 1), M') := zs_step (q := (.astore_n 2, 1, 0, 0)) rfl rfl r16
  have r12 : zrun (n + 6000 + 1 + 1 + 1 + 1) (some xs) 100 175 12 [.ref zSCR, .ref 0, .long 0, .long 0] [.ref 483, .ref 483] (zno zM_a 12) = some (some (.int 1), M') := zs_call (q := (.invokespecial 12, 3, 32, 3)) (d := 99) (as := [.ref 483]) (rest := [.ref 483]) (w := (none, zM_b)) rfl rfl (zrun_more (by omega) zrun_b) r15
  have r11 : zrun (n + 6000 + 1 + 1 + 1 + 1 + 1) (some xs) 100 175 11 [.ref zSCR, .ref 0, .long 0, .long 0] [.ref 483] (zno zM_a 12) = some (some (.int 1), M') := zs_step (q := (.dup, 1, 0, 0)) rfl rfl r12
  have r8 : zrun (n + 6000 + 1 + 1 + 1 + 1 + 1 + 1) (some xs) 100 175 8 [.ref zSCR, .ref 0, .long 0, .long 0] [] zM_a = some (some (.int 1), M') := by
    have hn := zs_new (xs := some xs) (mi := 175) (pc := 8) (ml := [.ref zSCR, .ref 0, .long 0, .long 0]) (st := []) (M := zM_a) (by rw [zA_len]; unfold zSCR; omega)
    rw [zA_len] at hn
    exact zs_step (q := (.new 10, 3, 12, 0)) rfl hn r11
  have r7 : zrun (n + 6000 + 1 + 1 + 1 + 1 + 1 + 1 + 1) (some xs) 100 175 7 [.ref zSCR, .long 0, .long 0, .long 0] [.ref 0] zM_a = some (some (.int 1), M') := zs_step (q := (.astore_n 1, 1, 0, 0)) rfl rfl r8
  have r4 : zrun (n + 6000 + 1 + 1 + 1 + 1 + 1 + 1 + 1 + 1) (some xs) 100 175 4 [.ref zSCR, .long 0, .long 0, .long 0] [.ref 0, .ref 0] (zno ([], []) 0) = some (some (.int 1), M') := zs_call (q := (.invokespecial 9, 3, 0, 3)) (d := 99) (as := [.ref 0]) (rest := [.ref 0]) (w := (none, zM_a)) rfl rfl (zrun_more (by omega) zrun_a) r7
  have r3 : zrun (n + 6000 + 1 + 1 + 1 + 1 + 1 + 1 + 1 + 1 + 1) (some xs) 100 175 3 [.ref zSCR, .long 0, .long 0, .long 0] [.ref 0] (zno ([], []) 0) = some (some (.int 1), M') := zs_step (q := (.dup, 1, 0, 0)) rfl rfl r4
  refine ⟨n + 6000 + 1 + 1 + 1 + 1 + 1 + 1 + 1 + 1 + 1 + 1, 100, M', by omega, ?_, law_nm M' hT.1⟩
  rw [e]
  exact zs_step (q := (.new 7, 3, 0, 0)) rfl rfl r3
