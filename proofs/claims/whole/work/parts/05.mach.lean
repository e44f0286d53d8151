/-! The small machine: memory is a shape (class number or array kind, size, by address) and a log of writes; values are the big machine's, addresses are numbers from 0 on; zSCR is the script. -/
abbrev zSh : Type := List (Nat × Nat)
abbrev zLg : Type := List (Nat × Option Nat × Value)
abbrev zM : Type := zSh × zLg
def zlk : zLg → Nat → Nat → Value
  | [], _, _ => .null
  | (a', none, v) :: l, a, k => if a = a' then v else zlk l a k
  | (a', some j, v) :: l, a, k => if a = a' ∧ k = j then v else zlk l a k
def zrd (M : zM) (a k : Nat) : Value := zlk M.2 a k
def zwr (M : zM) (a k : Nat) (v : Value) : zM := (M.1, (a, some k, v) :: M.2)
def znw (M : zM) (tg len : Nat) (v : Value) : zM := (M.1 ++ [(tg, len)], (M.1.length, none, v) :: M.2)
def zcp (M : zM) (a sp b dp n : Nat) : zM := (M.1, (List.range n).map (fun i => (b, some (dp + i), zrd M a (sp + i))) ++ M.2)
def zdf (ci k : Nat) : Value := if (zFT ci k).2.2.1 = "I" ∨ (zFT ci k).2.2.1 = "Z" then .int 0 else .null
def zno (M : zM) (ci : Nat) : zM := (M.1 ++ [(ci, zFN ci)], (List.range (zFN ci)).map (fun k => (M.1.length, some k, zdf ci k)) ++ M.2)
def zSCR : Nat := 1000000000
abbrev zR : Type := (Nat × List Value × List Value × zM) ⊕ ((Nat × List Value × List Value) ⊕ Option Value)
def zn (pc : Nat) (ml st : List Value) (M : zM) : Option zR := some (.inl (pc, ml, st, M))
def zcmp : Jvm.ClassFile.Cond → Int32 → Int32 → Bool
  | .eq, x, y => decide (x = y)
  | .ne, x, y => decide (¬ x = y)
  | .lt, x, y => decide (x < y)
  | .ge, x, y => decide (y ≤ x)
  | .gt, x, y => decide (y < x)
  | .le, x, y => decide (x ≤ y)
def zin (i : Int32) (n : Nat) : Bool := !(decide (i < 0) || decide (n ≤ i.toNatClampNeg))
def zbr (pc : Nat) (off : Int) (b : Bool) (ml st : List Value) (M : zM) : Option zR :=
  if 0 ≤ (pc : Int) + off then (if b = true then zn ((pc : Int) + off).toNat ml st M else zn (pc + 3) ml st M) else none
def zi2 (f : Int32 → Int32 → Int32) (pc : Nat) (ml st : List Value) (M : zM) : Option zR := match st with
  | .int y :: .int x :: r => zn (pc + 1) ml (.int (f x y) :: r) M
  | _ => none
def zldi (pc i : Nat) (ml st : List Value) (M : zM) : Option zR := match ml[i]? with
  | some (.int x) => zn pc ml (.int x :: st) M
  | _ => none
def zlda (pc i : Nat) (ml st : List Value) (M : zM) : Option zR := match ml[i]? with
  | some (.ref x) => zn pc ml (.ref x :: st) M
  | _ => none
def zsti (pc i : Nat) (ml st : List Value) (M : zM) : Option zR := match st with
  | .int x :: r => if i < ml.length then zn pc (ml.set i (.int x)) r M else none
  | _ => none
def zsta (pc i : Nat) (ml st : List Value) (M : zM) : Option zR := match st with
  | .ref x :: r => if i < ml.length then zn pc (ml.set i (.ref x)) r M else none
  | _ => none
def zc1 (v : Value) : Bool := decide (v.category = 1)
def zoc (tg : Nat) : Nat := if tg = 103 then 4 else if tg = 104 then 2 else if tg = 105 then 6 else if tg = 106 then 11 else 8
def ztg : ArrayType → Nat
  | .int => 100
  | .byte => 101
  | .boolean => 102
  | _ => 0
/-- a call's arguments: the top n of the stack, the first pushed first -/
def zcall (cm n : Nat) (st : List Value) : Option zR :=
  if n ≤ st.length ∧ (st.drop n).length ≤ 8 ∧ st.all zc1 = true ∧ n ≤ (zm cm).2.2.1 then some (.inr (.inl (cm, (st.take n).reverse, st.drop n))) else none
def zret (mi : Nat) (st : List Value) : Option zR := match st with
  | [.int x] => if (zm mi).2.2.2.1 = some .int ∨ ((zm mi).2.2.2.1 = some .boolean ∧ (x = 0 ∨ x = 1)) then some (.inr (.inr (some (.int x)))) else none
  | _ => none
def zareq (mi : Nat) (st : List Value) : Option zR := match st, (zm mi).2.2.2.1 with
  | [.ref a], some (.object _) => some (.inr (.inr (some (.ref a))))
  | _, _ => none
def zvret (mi : Nat) (st : List Value) : Option zR := match st, (zm mi).2.2.2.1 with
  | [], none => some (.inr (.inr none))
  | _, _ => none
def zsw (pc : Nat) (d lo hi : Int) (offs : Array Int) (ml st : List Value) (M : zM) : Option zR := match st with
  | .int x :: r => if x.toInt < lo ∨ hi < x.toInt then (if 0 ≤ (pc : Int) + d then zn ((pc : Int) + d).toNat ml r M else none)
      else match offs[(x.toInt - lo).toNat]? with
        | some o => if 0 ≤ (pc : Int) + o then zn ((pc : Int) + o).toNat ml r M else none
        | none => none
  | _ => none
def zget (pc ci k : Nat) (ml st : List Value) (M : zM) : Option zR := match st with
  | .ref a :: r => if a ≠ zSCR ∧ M.1[a]? = some (ci, zFN ci) ∧ k < zFN ci ∧ ci < 13 then zn (pc + 3) ml (zrd M a k :: r) M else none
  | _ => none
def zput (mi pc ci k : Nat) (ml st : List Value) (M : zM) : Option zR := match st with
  | v :: .ref a :: r => if a ≠ zSCR ∧ M.1[a]? = some (ci, zFN ci) ∧ k < zFN ci ∧ ci < 13 ∧ narrow (zFy ci k) v = v ∧ fits (zFy ci k) v = true ∧ ((zFT ci k).2.2.2 = true → (zm mi).1.name = "<init>" ∧ (zm mi).1.cls = zFC ci) then zn (pc + 3) ml r (zwr M a k v) else none
  | _ => none
def ziald (xs : Option (List Int32)) (pc : Nat) (ml st : List Value) (M : zM) : Option zR := match st with
  | .int i :: .ref a :: r => if a = zSCR then (match xs with
        | some l => if zin i l.length = true then zn (pc + 1) ml (.int (l.getD i.toNatClampNeg 0) :: r) M else none
        | none => none)
      else match M.1[a]?, zrd M a i.toNatClampNeg with
        | some (100, n), .int x => if zin i n = true then zn (pc + 1) ml (.int x :: r) M else none
        | _, _ => none
  | _ => none
def zbald (pc : Nat) (ml st : List Value) (M : zM) : Option zR := match st with
  | .int i :: .ref a :: r => if a = zSCR then none else match M.1[a]?, zrd M a i.toNatClampNeg with
        | some (tg, n), .int x => if (tg = 101 ∨ tg = 102) ∧ zin i n = true then zn (pc + 1) ml (.int x :: r) M else none
        | _, _ => none
  | _ => none
def zaald (pc : Nat) (ml st : List Value) (M : zM) : Option zR := match st with
  | .int i :: .ref a :: r => if a = zSCR then none else match M.1[a]?, zrd M a i.toNatClampNeg with
        | some (tg, n), .ref x => if 103 ≤ tg ∧ tg < 108 ∧ zin i n = true then zn (pc + 1) ml (.ref x :: r) M else none
        | _, _ => none
  | _ => none
def ziast (pc : Nat) (ml st : List Value) (M : zM) : Option zR := match st with
  | .int x :: .int i :: .ref a :: r => if a = zSCR then none else match M.1[a]? with
        | some (tg, n) => if tg = 100 ∧ zin i n = true then zn (pc + 1) ml r (zwr M a i.toNatClampNeg (.int x)) else none
        | _ => none
  | _ => none
def zbast (pc : Nat) (ml st : List Value) (M : zM) : Option zR := match st with
  | .int x :: .int i :: .ref a :: r => if a = zSCR then none else match M.1[a]? with
        | some (tg, n) => if tg = 101 ∧ zin i n = true then zn (pc + 1) ml r (zwr M a i.toNatClampNeg (.int x.toInt8.toInt32))
            else if tg = 102 ∧ zin i n = true ∧ (x = 0 ∨ x = 1) then zn (pc + 1) ml r (zwr M a i.toNatClampNeg (.int x)) else none
        | _ => none
  | _ => none
def zaast (pc : Nat) (ml st : List Value) (M : zM) : Option zR := match st with
  | .ref v :: .int i :: .ref a :: r => if a = zSCR ∨ v = zSCR then none else match M.1[a]?, M.1[v]? with
        | some (tg, n), some (ci, _) => if 103 ≤ tg ∧ tg < 108 ∧ ci = zoc tg ∧ zin i n = true then zn (pc + 1) ml r (zwr M a i.toNatClampNeg (.ref v)) else none
        | _, _ => none
  | _ => none
def zalen (xs : Option (List Int32)) (pc : Nat) (ml st : List Value) (M : zM) : Option zR := match st with
  | .ref a :: r => if a = zSCR then (match xs with
        | some l => zn (pc + 1) ml (.int (Int32.ofNat l.length) :: r) M
        | none => none)
      else match M.1[a]? with
        | some (tg, n) => if 100 ≤ tg ∧ tg < 108 then zn (pc + 1) ml (.int (Int32.ofNat n) :: r) M else none
        | _ => none
  | _ => none
def znwa (pc tg : Nat) (v : Value) (ml st : List Value) (M : zM) : Option zR := match st with
  | .int n :: r => if ¬ n < 0 ∧ n.toNatClampNeg ≤ 100000 ∧ M.1.length < zSCR then zn pc ml (.ref M.1.length :: r) (znw M tg n.toNatClampNeg v) else none
  | _ => none
def zisI : Value → Bool
  | .int _ => true
  | _ => false
def zacp (pc : Nat) (ml st : List Value) (M : zM) : Option zR := match st with
  | .int n :: .int dp :: .ref d :: .int sp :: .ref a :: r => if a ≠ zSCR ∧ d ≠ zSCR ∧ ¬ sp < 0 ∧ ¬ dp < 0 ∧ ¬ n < 0 ∧ r.length ≤ 8 ∧ r.all zc1 = true then (match M.1[a]?, M.1[d]? with
        | some (t1, n1), some (t2, n2) => if t1 = 100 ∧ t2 = 100 ∧ sp.toNatClampNeg + n.toNatClampNeg ≤ n1 ∧ dp.toNatClampNeg + n.toNatClampNeg ≤ n2 ∧ (List.range n.toNatClampNeg).all (fun i => zisI (zrd M a (sp.toNatClampNeg + i))) = true
            then zn (pc + 3) ml r (zcp M a sp.toNatClampNeg d dp.toNatClampNeg n.toNatClampNeg) else none
        | _, _ => none) else none
  | _ => none
/-- one instruction -/
def zstep (xs : Option (List Int32)) (mi : Nat) (i : Instr) (x y : Nat) (pc : Nat) (ml st : List Value) (M : zM) : Option zR := match i with
  | .iconst n => zn (pc + 1) ml (.int (Int32.ofInt n) :: st) M
  | .bipush n => zn (pc + 2) ml (.int (Int8.ofInt n).toInt32 :: st) M
  | .sipush n => zn (pc + 3) ml (.int (Int16.ofInt n).toInt32 :: st) M
  | .iload_n k => zldi (pc + 1) k.val ml st M
  | .iload k => zldi (pc + 2) k ml st M
  | .aload_n k => zlda (pc + 1) k.val ml st M
  | .aload k => zlda (pc + 2) k ml st M
  | .istore_n k => zsti (pc + 1) k.val ml st M
  | .istore k => zsti (pc + 2) k ml st M
  | .astore_n k => zsta (pc + 1) k.val ml st M
  | .astore k => zsta (pc + 2) k ml st M
  | .iinc k n => (match ml[k]? with
      | some (.int v) => zn (pc + 3) (ml.set k (.int (v + Int32.ofInt n))) st M
      | _ => none)
  | .iadd => zi2 (fun a b => a + b) pc ml st M
  | .isub => zi2 (fun a b => a - b) pc ml st M
  | .imul => zi2 (fun a b => a * b) pc ml st M
  | .iand => zi2 (fun a b => a &&& b) pc ml st M
  | .ior => zi2 (fun a b => a ||| b) pc ml st M
  | .ixor => zi2 (fun a b => a ^^^ b) pc ml st M
  | .ishl => zi2 (fun a b => a <<< (b &&& 31)) pc ml st M
  | .ishr => zi2 (fun a b => a >>> (b &&& 31)) pc ml st M
  | .idiv => (match st with
      | .int b :: .int a :: r => if b = 0 then none else zn (pc + 1) ml (.int (a / b) :: r) M
      | _ => none)
  | .irem => (match st with
      | .int b :: .int a :: r => if b = 0 then none else zn (pc + 1) ml (.int (a - a / b * b) :: r) M
      | _ => none)
  | .i2b => (match st with
      | .int a :: r => zn (pc + 1) ml (.int a.toInt8.toInt32 :: r) M
      | _ => none)
  | .dup => (match st with
      | v :: r => if v.category = 1 then zn (pc + 1) ml (v :: v :: r) M else none
      | _ => none)
  | .dup2 => (match st with
      | v :: w :: r => if v.category = 1 ∧ w.category = 1 then zn (pc + 1) ml (v :: w :: v :: w :: r) M else none
      | _ => none)
  | .pop => (match st with
      | v :: r => if v.category = 1 then zn (pc + 1) ml r M else none
      | _ => none)
  | .if_icmp cd o => (match st with
      | .int b :: .int a :: r => zbr pc o (zcmp cd a b) ml r M
      | _ => none)
  | .ifCond cd o => (match st with
      | .int a :: r => zbr pc o (zcmp cd a 0) ml r M
      | _ => none)
  | .goto o => zbr pc o true ml st M
  | .tableswitch d lo hi offs => zsw pc d lo hi offs ml st M
  | .getfield _ => zget pc x y ml st M
  | .putfield _ => zput mi pc x y ml st M
  | .iaload => ziald xs pc ml st M
  | .baload => zbald pc ml st M
  | .aaload => zaald pc ml st M
  | .iastore => ziast pc ml st M
  | .bastore => zbast pc ml st M
  | .aastore => zaast pc ml st M
  | .arraylength => zalen xs pc ml st M
  | .new _ => if x < 13 ∧ M.1.length < zSCR then zn (pc + 3) ml (.ref M.1.length :: st) (zno M x) else none
  | .newarray t => if ztg t = x ∧ 100 ≤ x then znwa (pc + 2) x (.int 0) ml st M else none
  | .anewarray _ => if 103 ≤ x ∧ x < 108 then znwa (pc + 3) x .null ml st M else none
  | .invokevirtual _ => (match st[zna x]? with
      | some (.ref a) => if a ≠ zSCR ∧ x < 175 ∧ M.1[a]? = some (zmc x, zFN (zmc x)) ∧ zmc x < 13 ∧ zkd x = 0 then zcall x (zna x + 1) st else none
      | _ => none)
  | .invokestatic _ => if y = 6 then zacp pc ml st M else if y = 7 then (match st with
        | .int b :: .int a :: r => if r.length ≤ 8 ∧ r.all zc1 = true then zn (pc + 3) ml (.int (if a < b then b else a) :: r) M else none
        | _ => none)
      else if (y = 1 ∨ y = 2) ∧ x < 175 ∧ zkd x = 1 then zcall x (zna x) st else none
  | .invokespecial _ => if y = 5 then (match st with
        | .ref _ :: r => if r.length ≤ 8 ∧ r.all zc1 = true then zn (pc + 3) ml r M else none
        | _ => none)
      else (match st[zna x]? with
        | some (.ref _) => if (y = 3 ∨ y = 4) ∧ x < 175 ∧ zkd x = 2 then zcall x (zna x + 1) st else none
        | _ => none)
  | .ireturn => zret mi st
  | .areturn => zareq mi st
  | .return_ => zvret mi st
  | _ => none
def zent (cm : Nat) (as : List Value) : List Value := as ++ List.replicate ((zm cm).2.2.1 - as.length) (.long 0)
def zrow (mi pc : Nat) : Option zIn := ((zm mi).2.2.2.2[pc]?).bind id
def zrun : Nat → Option (List Int32) → Nat → Nat → Nat → List Value → List Value → zM → Option (Option Value × zM)
  | 0, _, _, _, _, _, _, _ => none
  | n + 1, xs, d, mi, pc, ml, st, M => match zrow mi pc with
    | none => none
    | some q => match zstep xs mi q.1 q.2.2.1 q.2.2.2 pc ml st M with
      | none => none
      | some (.inl z) => zrun n xs d mi z.1 z.2.1 z.2.2.1 z.2.2.2
      | some (.inr (.inr v)) => some (v, M)
      | some (.inr (.inl z)) => match d with
        | 0 => none
        | d' + 1 => match zrun n none d' z.1 0 (zent z.1 z.2.1) [] M with
          | none => none
          | some u => zrun n xs (d' + 1) mi (pc + 3) ml (u.1.toList ++ z.2.2) u.2
def znc (M : zM) : Nat := M.1.length
def zns (M : zM) : Nat := (M.1.map (fun q => q.2)).sum
