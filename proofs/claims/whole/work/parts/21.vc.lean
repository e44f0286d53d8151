/-! What must hold that the machine behind the constructors comes to an end with Q: computed along the code up to the cut points S. -/
def twp (xs : Option (List Int32)) (d mi pc : Nat) (ml st : List Value) (t : T) (Q : Option Value → T → Prop) : Prop := ∀ M : zM, zT M t → ∃ (n : Nat) (r : Option Value) (M' : zM) (t' : T), zrun n xs d mi pc ml st M = some (r, M') ∧ zT M' t' ∧ Q r t'
def twc (d x : Nat) (as : List Value) (t : T) (F : Option Value → T → Prop) : Prop := 1 ≤ d ∧ twp none (d - 1) x 0 (zent x as) [] t F
def vgi : List Value → Nat → (Int32 → Prop) → Prop
  | [], _, _ => False
  | v :: _, 0, F => (match v with
    | .int x => F x
    | _ => False)
  | _ :: l, n + 1, F => vgi l n F
def vga : List Value → Nat → (Nat → Prop) → Prop
  | [], _, _ => False
  | v :: _, 0, F => (match v with
    | .ref x => F x
    | _ => False)
  | _ :: l, n + 1, F => vga l n F
def vset : List Value → Nat → Value → (List Value → Prop) → Prop
  | [], _, _, _ => False
  | _ :: l, 0, v, F => F (v :: l)
  | w :: l, n + 1, v, F => vset l n v (fun l' => F (w :: l'))
def vbr (y : Nat) (a b : Int32) (A B : Prop) : Prop := match y with
  | 0 => if a = b then A else B
  | 1 => if a = b then B else A
  | 2 => if a < b then A else B
  | 3 => if a < b then B else A
  | 4 => if b < a then A else B
  | _ => if b < a then B else A
def vsw (K : Nat → Prop) (v : Int32) : List (Int32 × Nat) → Nat → Prop
  | [], e => K e
  | (k, p) :: l, e => if v = k then K p else vsw K v l e
def vinb (i : Int32) (n : Nat) : Prop := ¬ i < 0 ∧ i.toNatClampNeg < n
def vtk : Nat → List Value → List Value → (List Value → List Value → Prop) → Prop
  | 0, st, acc, F => F acc st
  | n + 1, v :: st, acc, F => vtk n st (v :: acc) F
  | _ + 1, [], _, _ => False
def vrc (as : List Value) (c : Nat) (A : Prop) : Prop := match as with
  | .ref a :: _ => vtag a = c ∧ A
  | _ => False
def vstep (xs : Option (List Int32)) (d : Nat) (o : vOp) (pc : Nat) (ml st : List Value) (t : T) (Q : Option Value → T → Prop) (K : Nat → List Value → List Value → T → Prop) : Prop := match o with
  | (0, c, x, _, _) => K (pc + 1 + x) ml (.int c :: st) t
  | (1, _, x, y, _) => vgi ml x (fun v => K (pc + 1 + y) ml (.int v :: st) t)
  | (2, _, x, y, _) => vga ml x (fun v => K (pc + 1 + y) ml (.ref v :: st) t)
  | (3, _, x, y, _) => (match st with
    | .int v :: r => vset ml x (.int v) (fun l => K (pc + 1 + y) l r t)
    | _ => False)
  | (4, _, x, y, _) => (match st with
    | .ref v :: r => vset ml x (.ref v) (fun l => K (pc + 1 + y) l r t)
    | _ => False)
  | (5, c, x, _, _) => vgi ml x (fun v => vset ml x (.int (v + c)) (fun l => K (pc + 3) l st t))
  | (6, _, _, _, _) => (match st with
    | .int b :: .int a :: r => K (pc + 1) ml (.int (a + b) :: r) t
    | _ => False)
  | (7, _, _, _, _) => (match st with
    | .int b :: .int a :: r => K (pc + 1) ml (.int (a - b) :: r) t
    | _ => False)
  | (8, _, _, _, _) => (match st with
    | .int b :: .int a :: r => K (pc + 1) ml (.int (a * b) :: r) t
    | _ => False)
  | (9, _, _, _, _) => (match st with
    | .int b :: .int a :: r => K (pc + 1) ml (.int (a &&& b) :: r) t
    | _ => False)
  | (10, _, _, _, _) => (match st with
    | .int b :: .int a :: r => K (pc + 1) ml (.int (a ||| b) :: r) t
    | _ => False)
  | (11, _, _, _, _) => (match st with
    | .int b :: .int a :: r => K (pc + 1) ml (.int (a ^^^ b) :: r) t
    | _ => False)
  | (12, _, _, _, _) => (match st with
    | .int b :: .int a :: r => K (pc + 1) ml (.int (a <<< (b &&& 31)) :: r) t
    | _ => False)
  | (13, _, _, _, _) => (match st with
    | .int b :: .int a :: r => K (pc + 1) ml (.int (a >>> (b &&& 31)) :: r) t
    | _ => False)
  | (14, _, _, _, _) => (match st with
    | .int b :: .int a :: r => ¬ b = 0 ∧ K (pc + 1) ml (.int (a / b) :: r) t
    | _ => False)
  | (15, _, _, _, _) => (match st with
    | .int b :: .int a :: r => ¬ b = 0 ∧ K (pc + 1) ml (.int (a - a / b * b) :: r) t
    | _ => False)
  | (16, _, _, _, _) => (match st with
    | .int a :: r => K (pc + 1) ml (.int a.toInt8.toInt32 :: r) t
    | _ => False)
  | (17, _, _, _, _) => (match st with
    | .int a :: r => K (pc + 1) ml (.int a :: .int a :: r) t
    | .ref a :: r => K (pc + 1) ml (.ref a :: .ref a :: r) t
    | _ => False)
  | (18, _, _, _, _) => (match st with
    | .int a :: .ref b :: r => K (pc + 1) ml (.int a :: .ref b :: .int a :: .ref b :: r) t
    | _ => False)
  | (19, _, _, _, _) => (match st with
    | .int _ :: r => K (pc + 1) ml r t
    | .ref _ :: r => K (pc + 1) ml r t
    | _ => False)
  | (20, _, x, y, _) => (match st with
    | .int b :: .int a :: r => vbr y a b (K x ml r t) (K (pc + 3) ml r t)
    | _ => False)
  | (21, _, x, y, _) => (match st with
    | .int a :: r => vbr y a 0 (K x ml r t) (K (pc + 3) ml r t)
    | _ => False)
  | (22, _, x, _, _) => K x ml st t
  | (23, _, x, _, l) => (match st with
    | .int a :: r => vsw (fun p => K p ml r t) a l x
    | _ => False)
  | (24, _, x, y, _) => (match st with
    | .ref a :: r => vtag a = x ∧ K (pc + 3) ml (.int (t.1 a y) :: r) t
    | _ => False)
  | (25, _, x, y, _) => (match st with
    | .ref a :: r => vtag a = x ∧ K (pc + 3) ml (.ref (tref t a y) :: r) t
    | _ => False)
  | (26, _, x, y, _) => (match st with
    | .int v :: .ref a :: r => vtag a = x ∧ K (pc + 3) ml r (tsi t a y v)
    | _ => False)
  | (27, _, x, y, _) => (match st with
    | .int v :: .ref a :: r => vtag a = x ∧ (v = 0 ∨ v = 1) ∧ K (pc + 3) ml r (tsi t a y v)
    | _ => False)
  | (28, _, x, y, _) => (match st with
    | .ref v :: .ref a :: r => vtag a = x ∧ tmut a y = true ∧ K (pc + 3) ml r (tsr t a y v)
    | _ => False)
  | (29, _, _, _, _) => (match st with
    | .int i :: .ref a :: r => vtag a = 100 ∧ vinb i (vlen a) ∧ K (pc + 1) ml (.int (t.1 a i.toNatClampNeg) :: r) t
    | _ => False)
  | (30, _, _, _, _) => (match st with
    | .int i :: .ref a :: r => (vtag a = 101 ∨ vtag a = 102) ∧ vinb i (vlen a) ∧ K (pc + 1) ml (.int (t.1 a i.toNatClampNeg) :: r) t
    | _ => False)
  | (31, _, _, _, _) => (match st with
    | .int i :: .ref a :: r => 103 ≤ vtag a ∧ vtag a < 108 ∧ vinb i (vlen a) ∧ K (pc + 1) ml (.ref (tref t a i.toNatClampNeg) :: r) t
    | _ => False)
  | (32, _, _, _, _) => (match st with
    | .int v :: .int i :: .ref a :: r => vtag a = 100 ∧ vinb i (vlen a) ∧ K (pc + 1) ml r (tsi t a i.toNatClampNeg v)
    | _ => False)
  | (33, _, _, _, _) => (match st with
    | .int v :: .int i :: .ref a :: r => vinb i (vlen a) ∧ if vtag a = 101 then K (pc + 1) ml r (tsi t a i.toNatClampNeg v.toInt8.toInt32) else (vtag a = 102 ∧ (v = 0 ∨ v = 1) ∧ K (pc + 1) ml r (tsi t a i.toNatClampNeg v))
    | _ => False)
  | (34, _, _, _, _) => (match st with
    | .ref v :: .int i :: .ref a :: r => 103 ≤ vtag a ∧ vtag a < 108 ∧ vtag v = zoc (vtag a) ∧ vinb i (vlen a) ∧ tmut a i.toNatClampNeg = true ∧ K (pc + 1) ml r (tsr t a i.toNatClampNeg v)
    | _ => False)
  | (35, _, _, _, _) => (match st with
    | .ref a :: r => 100 ≤ vtag a ∧ vtag a < 108 ∧ K (pc + 1) ml (.int (Int32.ofNat (vlen a)) :: r) t
    | _ => False)
  | (36, _, x, y, (_, mc) :: _) => st.all zc1 = true ∧ vtk (y + 1) st [] (fun as rest => rest.length ≤ 8 ∧ vrc as mc (twc d x as t (fun r t' => K (pc + 3) ml (r.toList ++ rest) t')))
  | (37, _, x, y, _) => st.all zc1 = true ∧ vtk y st [] (fun as rest => rest.length ≤ 8 ∧ twc d x as t (fun r t' => K (pc + 3) ml (r.toList ++ rest) t'))
  | (38, _, _, _, _) => (match st with
    | .int n :: .int dp :: .ref b :: .int sp :: .ref a :: r => vtag a = 100 ∧ vtag b = 100 ∧ ¬ sp < 0 ∧ ¬ dp < 0 ∧ ¬ n < 0 ∧ sp.toNatClampNeg + n.toNatClampNeg ≤ vlen a ∧ dp.toNatClampNeg + n.toNatClampNeg ≤ vlen b ∧ r.length ≤ 8 ∧ r.all zc1 = true ∧ K (pc + 3) ml r (tcp t a sp.toNatClampNeg b dp.toNatClampNeg n.toNatClampNeg)
    | _ => False)
  | (39, _, _, _, _) => (match st with
    | .int b :: .int a :: r => r.length ≤ 8 ∧ r.all zc1 = true ∧ K (pc + 3) ml (.int (if a < b then b else a) :: r) t
    | _ => False)
  | (40, _, _, _, _) => (match st with
    | [.int v] => Q (some (.int v)) t
    | _ => False)
  | (41, _, _, _, _) => (match st with
    | [.int v] => (v = 0 ∨ v = 1) ∧ Q (some (.int v)) t
    | _ => False)
  | (42, _, _, _, _) => (match st with
    | [.ref v] => Q (some (.ref v)) t
    | _ => False)
  | (43, _, _, _, _) => (match st with
    | [] => Q none t
    | _ => False)
  | (44, _, _, _, _) => (match st with
    | .int i :: .ref a :: r => a = zSCR ∧ (match xs with
      | some l => vinb i l.length ∧ K (pc + 1) ml (.int (l.getD i.toNatClampNeg 0) :: r) t
      | none => False)
    | _ => False)
  | (45, _, _, _, _) => (match st with
    | .ref a :: r => a = zSCR ∧ (match xs with
      | some l => K (pc + 1) ml (.int (Int32.ofNat l.length) :: r) t
      | none => False)
    | _ => False)
  | _ => False
def vin : List Nat → Nat → Bool
  | [], _ => false
  | a :: l, n => (n == a) || vin l n
def vc (xs : Option (List Int32)) (S : List Nat) : Nat → Bool → Nat → Nat → Nat → List Value → List Value → T → (Option Value → T → Prop) → Prop
  | 0, _, d, mi, pc, ml, st, t, Q => twp xs d mi pc ml st t Q
  | n + 1, b, d, mi, pc, ml, st, t, Q => if (vin S pc && b) = true then twp xs d mi pc ml st t Q else match vrow mi pc with
    | none => False
    | some o => vstep xs d o pc ml st t Q (fun pc' ml' st' t' => vc xs S n true d mi pc' ml' st' t' Q)
theorem vs_0 (xs : Option (List Int32)) (d pc : Nat) (ml st : List Value) (t : T) (Q : Option Value → T → Prop) (K : Nat → List Value → List Value → T → Prop) (c : Int32) (x y0 : Nat) (l0 : List (Int32 × Nat)) : vstep xs d (0, c, x, y0, l0) pc ml st t Q K = (K (pc + 1 + x) ml (.int c :: st) t) := rfl
theorem vs_1 (xs : Option (List Int32)) (d pc : Nat) (ml st : List Value) (t : T) (Q : Option Value → T → Prop) (K : Nat → List Value → List Value → T → Prop) (c0 : Int32) (x y : Nat) (l0 : List (Int32 × Nat)) : vstep xs d (1, c0, x, y, l0) pc ml st t Q K = (vgi ml x (fun v => K (pc + 1 + y) ml (.int v :: st) t)) := rfl
theorem vs_2 (xs : Option (List Int32)) (d pc : Nat) (ml st : List Value) (t : T) (Q : Option Value → T → Prop) (K : Nat → List Value → List Value → T → Prop) (c0 : Int32) (x y : Nat) (l0 : List (Int32 × Nat)) : vstep xs d (2, c0, x, y, l0) pc ml st t Q K = (vga ml x (fun v => K (pc + 1 + y) ml (.ref v :: st) t)) := rfl
theorem vs_3 (xs : Option (List Int32)) (d pc : Nat) (ml st : List Value) (t : T) (Q : Option Value → T → Prop) (K : Nat → List Value → List Value → T → Prop) (c0 : Int32) (x y : Nat) (l0 : List (Int32 × Nat)) : vstep xs d (3, c0, x, y, l0) pc ml st t Q K = ((match st with
    | .int v :: r => vset ml x (.int v) (fun l => K (pc + 1 + y) l r t)
    | _ => False)) := rfl
theorem vs_4 (xs : Option (List Int32)) (d pc : Nat) (ml st : List Value) (t : T) (Q : Option Value → T → Prop) (K : Nat → List Value → List Value → T → Prop) (c0 : Int32) (x y : Nat) (l0 : List (Int32 × Nat)) : vstep xs d (4, c0, x, y, l0) pc ml st t Q K = ((match st with
    | .ref v :: r => vset ml x (.ref v) (fun l => K (pc + 1 + y) l r t)
    | _ => False)) := rfl
theorem vs_5 (xs : Option (List Int32)) (d pc : Nat) (ml st : List Value) (t : T) (Q : Option Value → T → Prop) (K : Nat → List Value → List Value → T → Prop) (c : Int32) (x y0 : Nat) (l0 : List (Int32 × Nat)) : vstep xs d (5, c, x, y0, l0) pc ml st t Q K = (vgi ml x (fun v => vset ml x (.int (v + c)) (fun l => K (pc + 3) l st t))) := rfl
theorem vs_6 (xs : Option (List Int32)) (d pc : Nat) (ml st : List Value) (t : T) (Q : Option Value → T → Prop) (K : Nat → List Value → List Value → T → Prop) (c0 : Int32) (x0 y0 : Nat) (l0 : List (Int32 × Nat)) : vstep xs d (6, c0, x0, y0, l0) pc ml st t Q K = ((match st with
    | .int b :: .int a :: r => K (pc + 1) ml (.int (a + b) :: r) t
    | _ => False)) := rfl
theorem vs_7 (xs : Option (List Int32)) (d pc : Nat) (ml st : List Value) (t : T) (Q : Option Value → T → Prop) (K : Nat → List Value → List Value → T → Prop) (c0 : Int32) (x0 y0 : Nat) (l0 : List (Int32 × Nat)) : vstep xs d (7, c0, x0, y0, l0) pc ml st t Q K = ((match st with
    | .int b :: .int a :: r => K (pc + 1) ml (.int (a - b) :: r) t
    | _ => False)) := rfl
theorem vs_8 (xs : Option (List Int32)) (d pc : Nat) (ml st : List Value) (t : T) (Q : Option Value → T → Prop) (K : Nat → List Value → List Value → T → Prop) (c0 : Int32) (x0 y0 : Nat) (l0 : List (Int32 × Nat)) : vstep xs d (8, c0, x0, y0, l0) pc ml st t Q K = ((match st with
    | .int b :: .int a :: r => K (pc + 1) ml (.int (a * b) :: r) t
    | _ => False)) := rfl
theorem vs_9 (xs : Option (List Int32)) (d pc : Nat) (ml st : List Value) (t : T) (Q : Option Value → T → Prop) (K : Nat → List Value → List Value → T → Prop) (c0 : Int32) (x0 y0 : Nat) (l0 : List (Int32 × Nat)) : vstep xs d (9, c0, x0, y0, l0) pc ml st t Q K = ((match st with
    | .int b :: .int a :: r => K (pc + 1) ml (.int (a &&& b) :: r) t
    | _ => False)) := rfl
theorem vs_10 (xs : Option (List Int32)) (d pc : Nat) (ml st : List Value) (t : T) (Q : Option Value → T → Prop) (K : Nat → List Value → List Value → T → Prop) (c0 : Int32) (x0 y0 : Nat) (l0 : List (Int32 × Nat)) : vstep xs d (10, c0, x0, y0, l0) pc ml st t Q K = ((match st with
    | .int b :: .int a :: r => K (pc + 1) ml (.int (a ||| b) :: r) t
    | _ => False)) := rfl
theorem vs_11 (xs : Option (List Int32)) (d pc : Nat) (ml st : List Value) (t : T) (Q : Option Value → T → Prop) (K : Nat → List Value → List Value → T → Prop) (c0 : Int32) (x0 y0 : Nat) (l0 : List (Int32 × Nat)) : vstep xs d (11, c0, x0, y0, l0) pc ml st t Q K = ((match st with
    | .int b :: .int a :: r => K (pc + 1) ml (.int (a ^^^ b) :: r) t
    | _ => False)) := rfl
theorem vs_12 (xs : Option (List Int32)) (d pc : Nat) (ml st : List Value) (t : T) (Q : Option Value → T → Prop) (K : Nat → List Value → List Value → T → Prop) (c0 : Int32) (x0 y0 : Nat) (l0 : List (Int32 × Nat)) : vstep xs d (12, c0, x0, y0, l0) pc ml st t Q K = ((match st with
    | .int b :: .int a :: r => K (pc + 1) ml (.int (a <<< (b &&& 31)) :: r) t
    | _ => False)) := rfl
theorem vs_13 (xs : Option (List Int32)) (d pc : Nat) (ml st : List Value) (t : T) (Q : Option Value → T → Prop) (K : Nat → List Value → List Value → T → Prop) (c0 : Int32) (x0 y0 : Nat) (l0 : List (Int32 × Nat)) : vstep xs d (13, c0, x0, y0, l0) pc ml st t Q K = ((match st with
    | .int b :: .int a :: r => K (pc + 1) ml (.int (a >>> (b &&& 31)) :: r) t
    | _ => False)) := rfl
theorem vs_14 (xs : Option (List Int32)) (d pc : Nat) (ml st : List Value) (t : T) (Q : Option Value → T → Prop) (K : Nat → List Value → List Value → T → Prop) (c0 : Int32) (x0 y0 : Nat) (l0 : List (Int32 × Nat)) : vstep xs d (14, c0, x0, y0, l0) pc ml st t Q K = ((match st with
    | .int b :: .int a :: r => ¬ b = 0 ∧ K (pc + 1) ml (.int (a / b) :: r) t
    | _ => False)) := rfl
theorem vs_15 (xs : Option (List Int32)) (d pc : Nat) (ml st : List Value) (t : T) (Q : Option Value → T → Prop) (K : Nat → List Value → List Value → T → Prop) (c0 : Int32) (x0 y0 : Nat) (l0 : List (Int32 × Nat)) : vstep xs d (15, c0, x0, y0, l0) pc ml st t Q K = ((match st with
    | .int b :: .int a :: r => ¬ b = 0 ∧ K (pc + 1) ml (.int (a - a / b * b) :: r) t
    | _ => False)) := rfl
theorem vs_16 (xs : Option (List Int32)) (d pc : Nat) (ml st : List Value) (t : T) (Q : Option Value → T → Prop) (K : Nat → List Value → List Value → T → Prop) (c0 : Int32) (x0 y0 : Nat) (l0 : List (Int32 × Nat)) : vstep xs d (16, c0, x0, y0, l0) pc ml st t Q K = ((match st with
    | .int a :: r => K (pc + 1) ml (.int a.toInt8.toInt32 :: r) t
    | _ => False)) := rfl
theorem vs_17 (xs : Option (List Int32)) (d pc : Nat) (ml st : List Value) (t : T) (Q : Option Value → T → Prop) (K : Nat → List Value → List Value → T → Prop) (c0 : Int32) (x0 y0 : Nat) (l0 : List (Int32 × Nat)) : vstep xs d (17, c0, x0, y0, l0) pc ml st t Q K = ((match st with
    | .int a :: r => K (pc + 1) ml (.int a :: .int a :: r) t
    | .ref a :: r => K (pc + 1) ml (.ref a :: .ref a :: r) t
    | _ => False)) := rfl
theorem vs_18 (xs : Option (List Int32)) (d pc : Nat) (ml st : List Value) (t : T) (Q : Option Value → T → Prop) (K : Nat → List Value → List Value → T → Prop) (c0 : Int32) (x0 y0 : Nat) (l0 : List (Int32 × Nat)) : vstep xs d (18, c0, x0, y0, l0) pc ml st t Q K = ((match st with
    | .int a :: .ref b :: r => K (pc + 1) ml (.int a :: .ref b :: .int a :: .ref b :: r) t
    | _ => False)) := rfl
theorem vs_19 (xs : Option (List Int32)) (d pc : Nat) (ml st : List Value) (t : T) (Q : Option Value → T → Prop) (K : Nat → List Value → List Value → T → Prop) (c0 : Int32) (x0 y0 : Nat) (l0 : List (Int32 × Nat)) : vstep xs d (19, c0, x0, y0, l0) pc ml st t Q K = ((match st with
    | .int _ :: r => K (pc + 1) ml r t
    | .ref _ :: r => K (pc + 1) ml r t
    | _ => False)) := rfl
theorem vs_20 (xs : Option (List Int32)) (d pc : Nat) (ml st : List Value) (t : T) (Q : Option Value → T → Prop) (K : Nat → List Value → List Value → T → Prop) (c0 : Int32) (x y : Nat) (l0 : List (Int32 × Nat)) : vstep xs d (20, c0, x, y, l0) pc ml st t Q K = ((match st with
    | .int b :: .int a :: r => vbr y a b (K x ml r t) (K (pc + 3) ml r t)
    | _ => False)) := rfl
theorem vs_21 (xs : Option (List Int32)) (d pc : Nat) (ml st : List Value) (t : T) (Q : Option Value → T → Prop) (K : Nat → List Value → List Value → T → Prop) (c0 : Int32) (x y : Nat) (l0 : List (Int32 × Nat)) : vstep xs d (21, c0, x, y, l0) pc ml st t Q K = ((match st with
    | .int a :: r => vbr y a 0 (K x ml r t) (K (pc + 3) ml r t)
    | _ => False)) := rfl
theorem vs_22 (xs : Option (List Int32)) (d pc : Nat) (ml st : List Value) (t : T) (Q : Option Value → T → Prop) (K : Nat → List Value → List Value → T → Prop) (c0 : Int32) (x y0 : Nat) (l0 : List (Int32 × Nat)) : vstep xs d (22, c0, x, y0, l0) pc ml st t Q K = (K x ml st t) := rfl
theorem vs_23 (xs : Option (List Int32)) (d pc : Nat) (ml st : List Value) (t : T) (Q : Option Value → T → Prop) (K : Nat → List Value → List Value → T → Prop) (c0 : Int32) (x y0 : Nat) (l : List (Int32 × Nat)) : vstep xs d (23, c0, x, y0, l) pc ml st t Q K = ((match st with
    | .int a :: r => vsw (fun p => K p ml r t) a l x
    | _ => False)) := rfl
theorem vs_24 (xs : Option (List Int32)) (d pc : Nat) (ml st : List Value) (t : T) (Q : Option Value → T → Prop) (K : Nat → List Value → List Value → T → Prop) (c0 : Int32) (x y : Nat) (l0 : List (Int32 × Nat)) : vstep xs d (24, c0, x, y, l0) pc ml st t Q K = ((match st with
    | .ref a :: r => vtag a = x ∧ K (pc + 3) ml (.int (t.1 a y) :: r) t
    | _ => False)) := rfl
theorem vs_25 (xs : Option (List Int32)) (d pc : Nat) (ml st : List Value) (t : T) (Q : Option Value → T → Prop) (K : Nat → List Value → List Value → T → Prop) (c0 : Int32) (x y : Nat) (l0 : List (Int32 × Nat)) : vstep xs d (25, c0, x, y, l0) pc ml st t Q K = ((match st with
    | .ref a :: r => vtag a = x ∧ K (pc + 3) ml (.ref (tref t a y) :: r) t
    | _ => False)) := rfl
theorem vs_26 (xs : Option (List Int32)) (d pc : Nat) (ml st : List Value) (t : T) (Q : Option Value → T → Prop) (K : Nat → List Value → List Value → T → Prop) (c0 : Int32) (x y : Nat) (l0 : List (Int32 × Nat)) : vstep xs d (26, c0, x, y, l0) pc ml st t Q K = ((match st with
    | .int v :: .ref a :: r => vtag a = x ∧ K (pc + 3) ml r (tsi t a y v)
    | _ => False)) := rfl
theorem vs_27 (xs : Option (List Int32)) (d pc : Nat) (ml st : List Value) (t : T) (Q : Option Value → T → Prop) (K : Nat → List Value → List Value → T → Prop) (c0 : Int32) (x y : Nat) (l0 : List (Int32 × Nat)) : vstep xs d (27, c0, x, y, l0) pc ml st t Q K = ((match st with
    | .int v :: .ref a :: r => vtag a = x ∧ (v = 0 ∨ v = 1) ∧ K (pc + 3) ml r (tsi t a y v)
    | _ => False)) := rfl
theorem vs_28 (xs : Option (List Int32)) (d pc : Nat) (ml st : List Value) (t : T) (Q : Option Value → T → Prop) (K : Nat → List Value → List Value → T → Prop) (c0 : Int32) (x y : Nat) (l0 : List (Int32 × Nat)) : vstep xs d (28, c0, x, y, l0) pc ml st t Q K = ((match st with
    | .ref v :: .ref a :: r => vtag a = x ∧ tmut a y = true ∧ K (pc + 3) ml r (tsr t a y v)
    | _ => False)) := rfl
theorem vs_29 (xs : Option (List Int32)) (d pc : Nat) (ml st : List Value) (t : T) (Q : Option Value → T → Prop) (K : Nat → List Value → List Value → T → Prop) (c0 : Int32) (x0 y0 : Nat) (l0 : List (Int32 × Nat)) : vstep xs d (29, c0, x0, y0, l0) pc ml st t Q K = ((match st with
    | .int i :: .ref a :: r => vtag a = 100 ∧ vinb i (vlen a) ∧ K (pc + 1) ml (.int (t.1 a i.toNatClampNeg) :: r) t
    | _ => False)) := rfl
theorem vs_30 (xs : Option (List Int32)) (d pc : Nat) (ml st : List Value) (t : T) (Q : Option Value → T → Prop) (K : Nat → List Value → List Value → T → Prop) (c0 : Int32) (x0 y0 : Nat) (l0 : List (Int32 × Nat)) : vstep xs d (30, c0, x0, y0, l0) pc ml st t Q K = ((match st with
    | .int i :: .ref a :: r => (vtag a = 101 ∨ vtag a = 102) ∧ vinb i (vlen a) ∧ K (pc + 1) ml (.int (t.1 a i.toNatClampNeg) :: r) t
    | _ => False)) := rfl
theorem vs_31 (xs : Option (List Int32)) (d pc : Nat) (ml st : List Value) (t : T) (Q : Option Value → T → Prop) (K : Nat → List Value → List Value → T → Prop) (c0 : Int32) (x0 y0 : Nat) (l0 : List (Int32 × Nat)) : vstep xs d (31, c0, x0, y0, l0) pc ml st t Q K = ((match st with
    | .int i :: .ref a :: r => 103 ≤ vtag a ∧ vtag a < 108 ∧ vinb i (vlen a) ∧ K (pc + 1) ml (.ref (tref t a i.toNatClampNeg) :: r) t
    | _ => False)) := rfl
theorem vs_32 (xs : Option (List Int32)) (d pc : Nat) (ml st : List Value) (t : T) (Q : Option Value → T → Prop) (K : Nat → List Value → List Value → T → Prop) (c0 : Int32) (x0 y0 : Nat) (l0 : List (Int32 × Nat)) : vstep xs d (32, c0, x0, y0, l0) pc ml st t Q K = ((match st with
    | .int v :: .int i :: .ref a :: r => vtag a = 100 ∧ vinb i (vlen a) ∧ K (pc + 1) ml r (tsi t a i.toNatClampNeg v)
    | _ => False)) := rfl
theorem vs_33 (xs : Option (List Int32)) (d pc : Nat) (ml st : List Value) (t : T) (Q : Option Value → T → Prop) (K : Nat → List Value → List Value → T → Prop) (c0 : Int32) (x0 y0 : Nat) (l0 : List (Int32 × Nat)) : vstep xs d (33, c0, x0, y0, l0) pc ml st t Q K = ((match st with
    | .int v :: .int i :: .ref a :: r => vinb i (vlen a) ∧ if vtag a = 101 then K (pc + 1) ml r (tsi t a i.toNatClampNeg v.toInt8.toInt32) else (vtag a = 102 ∧ (v = 0 ∨ v = 1) ∧ K (pc + 1) ml r (tsi t a i.toNatClampNeg v))
    | _ => False)) := rfl
theorem vs_34 (xs : Option (List Int32)) (d pc : Nat) (ml st : List Value) (t : T) (Q : Option Value → T → Prop) (K : Nat → List Value → List Value → T → Prop) (c0 : Int32) (x0 y0 : Nat) (l0 : List (Int32 × Nat)) : vstep xs d (34, c0, x0, y0, l0) pc ml st t Q K = ((match st with
    | .ref v :: .int i :: .ref a :: r => 103 ≤ vtag a ∧ vtag a < 108 ∧ vtag v = zoc (vtag a) ∧ vinb i (vlen a) ∧ tmut a i.toNatClampNeg = true ∧ K (pc + 1) ml r (tsr t a i.toNatClampNeg v)
    | _ => False)) := rfl
theorem vs_35 (xs : Option (List Int32)) (d pc : Nat) (ml st : List Value) (t : T) (Q : Option Value → T → Prop) (K : Nat → List Value → List Value → T → Prop) (c0 : Int32) (x0 y0 : Nat) (l0 : List (Int32 × Nat)) : vstep xs d (35, c0, x0, y0, l0) pc ml st t Q K = ((match st with
    | .ref a :: r => 100 ≤ vtag a ∧ vtag a < 108 ∧ K (pc + 1) ml (.int (Int32.ofNat (vlen a)) :: r) t
    | _ => False)) := rfl
theorem vs_36 (xs : Option (List Int32)) (d pc : Nat) (ml st : List Value) (t : T) (Q : Option Value → T → Prop) (K : Nat → List Value → List Value → T → Prop) (c0 c1 : Int32) (x y mc : Nat) (l0 : List (Int32 × Nat)) : vstep xs d (36, c0, x, y, (c1, mc) :: l0) pc ml st t Q K = (st.all zc1 = true ∧ vtk (y + 1) st [] (fun as rest => rest.length ≤ 8 ∧ vrc as mc (twc d x as t (fun r t' => K (pc + 3) ml (r.toList ++ rest) t')))) := rfl
theorem vs_37 (xs : Option (List Int32)) (d pc : Nat) (ml st : List Value) (t : T) (Q : Option Value → T → Prop) (K : Nat → List Value → List Value → T → Prop) (c0 : Int32) (x y : Nat) (l0 : List (Int32 × Nat)) : vstep xs d (37, c0, x, y, l0) pc ml st t Q K = (st.all zc1 = true ∧ vtk y st [] (fun as rest => rest.length ≤ 8 ∧ twc d x as t (fun r t' => K (pc + 3) ml (r.toList ++ rest) t'))) := rfl
theorem vs_38 (xs : Option (List Int32)) (d pc : Nat) (ml st : List Value) (t : T) (Q : Option Value → T → Prop) (K : Nat → List Value → List Value → T → Prop) (c0 : Int32) (x0 y0 : Nat) (l0 : List (Int32 × Nat)) : vstep xs d (38, c0, x0, y0, l0) pc ml st t Q K = ((match st with
    | .int n :: .int dp :: .ref b :: .int sp :: .ref a :: r => vtag a = 100 ∧ vtag b = 100 ∧ ¬ sp < 0 ∧ ¬ dp < 0 ∧ ¬ n < 0 ∧ sp.toNatClampNeg + n.toNatClampNeg ≤ vlen a ∧ dp.toNatClampNeg + n.toNatClampNeg ≤ vlen b ∧ r.length ≤ 8 ∧ r.all zc1 = true ∧ K (pc + 3) ml r (tcp t a sp.toNatClampNeg b dp.toNatClampNeg n.toNatClampNeg)
    | _ => False)) := rfl
theorem vs_39 (xs : Option (List Int32)) (d pc : Nat) (ml st : List Value) (t : T) (Q : Option Value → T → Prop) (K : Nat → List Value → List Value → T → Prop) (c0 : Int32) (x0 y0 : Nat) (l0 : List (Int32 × Nat)) : vstep xs d (39, c0, x0, y0, l0) pc ml st t Q K = ((match st with
    | .int b :: .int a :: r => r.length ≤ 8 ∧ r.all zc1 = true ∧ K (pc + 3) ml (.int (if a < b then b else a) :: r) t
    | _ => False)) := rfl
theorem vs_40 (xs : Option (List Int32)) (d pc : Nat) (ml st : List Value) (t : T) (Q : Option Value → T → Prop) (K : Nat → List Value → List Value → T → Prop) (c0 : Int32) (x0 y0 : Nat) (l0 : List (Int32 × Nat)) : vstep xs d (40, c0, x0, y0, l0) pc ml st t Q K = ((match st with
    | [.int v] => Q (some (.int v)) t
    | _ => False)) := rfl
theorem vs_41 (xs : Option (List Int32)) (d pc : Nat) (ml st : List Value) (t : T) (Q : Option Value → T → Prop) (K : Nat → List Value → List Value → T → Prop) (c0 : Int32) (x0 y0 : Nat) (l0 : List (Int32 × Nat)) : vstep xs d (41, c0, x0, y0, l0) pc ml st t Q K = ((match st with
    | [.int v] => (v = 0 ∨ v = 1) ∧ Q (some (.int v)) t
    | _ => False)) := rfl
theorem vs_42 (xs : Option (List Int32)) (d pc : Nat) (ml st : List Value) (t : T) (Q : Option Value → T → Prop) (K : Nat → List Value → List Value → T → Prop) (c0 : Int32) (x0 y0 : Nat) (l0 : List (Int32 × Nat)) : vstep xs d (42, c0, x0, y0, l0) pc ml st t Q K = ((match st with
    | [.ref v] => Q (some (.ref v)) t
    | _ => False)) := rfl
theorem vs_43 (xs : Option (List Int32)) (d pc : Nat) (ml st : List Value) (t : T) (Q : Option Value → T → Prop) (K : Nat → List Value → List Value → T → Prop) (c0 : Int32) (x0 y0 : Nat) (l0 : List (Int32 × Nat)) : vstep xs d (43, c0, x0, y0, l0) pc ml st t Q K = ((match st with
    | [] => Q none t
    | _ => False)) := rfl
theorem vs_44 (xs : Option (List Int32)) (d pc : Nat) (ml st : List Value) (t : T) (Q : Option Value → T → Prop) (K : Nat → List Value → List Value → T → Prop) (c0 : Int32) (x0 y0 : Nat) (l0 : List (Int32 × Nat)) : vstep xs d (44, c0, x0, y0, l0) pc ml st t Q K = ((match st with
    | .int i :: .ref a :: r => a = zSCR ∧ (match xs with
      | some l => vinb i l.length ∧ K (pc + 1) ml (.int (l.getD i.toNatClampNeg 0) :: r) t
      | none => False)
    | _ => False)) := rfl
theorem vs_45 (xs : Option (List Int32)) (d pc : Nat) (ml st : List Value) (t : T) (Q : Option Value → T → Prop) (K : Nat → List Value → List Value → T → Prop) (c0 : Int32) (x0 y0 : Nat) (l0 : List (Int32 × Nat)) : vstep xs d (45, c0, x0, y0, l0) pc ml st t Q K = ((match st with
    | .ref a :: r => a = zSCR ∧ (match xs with
      | some l => K (pc + 1) ml (.int (Int32.ofNat l.length) :: r) t
      | none => False)
    | _ => False)) := rfl
theorem vx_3_0 (xs : Option (List Int32)) (d pc : Nat) (ml : List Value) (t : T) (Q : Option Value → T → Prop) (K : Nat → List Value → List Value → T → Prop) (c0 : Int32) (x y : Nat) (l0 : List (Int32 × Nat)) (v : Int32) (r : List Value) : vstep xs d (3, c0, x, y, l0) pc ml (.int v :: r) t Q K = (vset ml x (.int v) (fun l => K (pc + 1 + y) l r t)) := rfl
theorem vx_4_0 (xs : Option (List Int32)) (d pc : Nat) (ml : List Value) (t : T) (Q : Option Value → T → Prop) (K : Nat → List Value → List Value → T → Prop) (c0 : Int32) (x y : Nat) (l0 : List (Int32 × Nat)) (v : Nat) (r : List Value) : vstep xs d (4, c0, x, y, l0) pc ml (.ref v :: r) t Q K = (vset ml x (.ref v) (fun l => K (pc + 1 + y) l r t)) := rfl
theorem vx_6_0 (xs : Option (List Int32)) (d pc : Nat) (ml : List Value) (t : T) (Q : Option Value → T → Prop) (K : Nat → List Value → List Value → T → Prop) (c0 : Int32) (x0 y0 : Nat) (l0 : List (Int32 × Nat)) (b : Int32) (a : Int32) (r : List Value) : vstep xs d (6, c0, x0, y0, l0) pc ml (.int b :: .int a :: r) t Q K = (K (pc + 1) ml (.int (a + b) :: r) t) := rfl
theorem vx_7_0 (xs : Option (List Int32)) (d pc : Nat) (ml : List Value) (t : T) (Q : Option Value → T → Prop) (K : Nat → List Value → List Value → T → Prop) (c0 : Int32) (x0 y0 : Nat) (l0 : List (Int32 × Nat)) (b : Int32) (a : Int32) (r : List Value) : vstep xs d (7, c0, x0, y0, l0) pc ml (.int b :: .int a :: r) t Q K = (K (pc + 1) ml (.int (a - b) :: r) t) := rfl
theorem vx_8_0 (xs : Option (List Int32)) (d pc : Nat) (ml : List Value) (t : T) (Q : Option Value → T → Prop) (K : Nat → List Value → List Value → T → Prop) (c0 : Int32) (x0 y0 : Nat) (l0 : List (Int32 × Nat)) (b : Int32) (a : Int32) (r : List Value) : vstep xs d (8, c0, x0, y0, l0) pc ml (.int b :: .int a :: r) t Q K = (K (pc + 1) ml (.int (a * b) :: r) t) := rfl
theorem vx_9_0 (xs : Option (List Int32)) (d pc : Nat) (ml : List Value) (t : T) (Q : Option Value → T → Prop) (K : Nat → List Value → List Value → T → Prop) (c0 : Int32) (x0 y0 : Nat) (l0 : List (Int32 × Nat)) (b : Int32) (a : Int32) (r : List Value) : vstep xs d (9, c0, x0, y0, l0) pc ml (.int b :: .int a :: r) t Q K = (K (pc + 1) ml (.int (a &&& b) :: r) t) := rfl
theorem vx_10_0 (xs : Option (List Int32)) (d pc : Nat) (ml : List Value) (t : T) (Q : Option Value → T → Prop) (K : Nat → List Value → List Value → T → Prop) (c0 : Int32) (x0 y0 : Nat) (l0 : List (Int32 × Nat)) (b : Int32) (a : Int32) (r : List Value) : vstep xs d (10, c0, x0, y0, l0) pc ml (.int b :: .int a :: r) t Q K = (K (pc + 1) ml (.int (a ||| b) :: r) t) := rfl
theorem vx_11_0 (xs : Option (List Int32)) (d pc : Nat) (ml : List Value) (t : T) (Q : Option Value → T → Prop) (K : Nat → List Value → List Value → T → Prop) (c0 : Int32) (x0 y0 : Nat) (l0 : List (Int32 × Nat)) (b : Int32) (a : Int32) (r : List Value) : vstep xs d (11, c0, x0, y0, l0) pc ml (.int b :: .int a :: r) t Q K = (K (pc + 1) ml (.int (a ^^^ b) :: r) t) := rfl
theorem vx_12_0 (xs : Option (List Int32)) (d pc : Nat) (ml : List Value) (t : T) (Q : Option Value → T → Prop) (K : Nat → List Value → List Value → T → Prop) (c0 : Int32) (x0 y0 : Nat) (l0 : List (Int32 × Nat)) (b : Int32) (a : Int32) (r : List Value) : vstep xs d (12, c0, x0, y0, l0) pc ml (.int b :: .int a :: r) t Q K = (K (pc + 1) ml (.int (a <<< (b &&& 31)) :: r) t) := rfl
theorem vx_13_0 (xs : Option (List Int32)) (d pc : Nat) (ml : List Value) (t : T) (Q : Option Value → T → Prop) (K : Nat → List Value → List Value → T → Prop) (c0 : Int32) (x0 y0 : Nat) (l0 : List (Int32 × Nat)) (b : Int32) (a : Int32) (r : List Value) : vstep xs d (13, c0, x0, y0, l0) pc ml (.int b :: .int a :: r) t Q K = (K (pc + 1) ml (.int (a >>> (b &&& 31)) :: r) t) := rfl
theorem vx_14_0 (xs : Option (List Int32)) (d pc : Nat) (ml : List Value) (t : T) (Q : Option Value → T → Prop) (K : Nat → List Value → List Value → T → Prop) (c0 : Int32) (x0 y0 : Nat) (l0 : List (Int32 × Nat)) (b : Int32) (a : Int32) (r : List Value) : vstep xs d (14, c0, x0, y0, l0) pc ml (.int b :: .int a :: r) t Q K = (¬ b = 0 ∧ K (pc + 1) ml (.int (a / b) :: r) t) := rfl
theorem vx_15_0 (xs : Option (List Int32)) (d pc : Nat) (ml : List Value) (t : T) (Q : Option Value → T → Prop) (K : Nat → List Value → List Value → T → Prop) (c0 : Int32) (x0 y0 : Nat) (l0 : List (Int32 × Nat)) (b : Int32) (a : Int32) (r : List Value) : vstep xs d (15, c0, x0, y0, l0) pc ml (.int b :: .int a :: r) t Q K = (¬ b = 0 ∧ K (pc + 1) ml (.int (a - a / b * b) :: r) t) := rfl
theorem vx_16_0 (xs : Option (List Int32)) (d pc : Nat) (ml : List Value) (t : T) (Q : Option Value → T → Prop) (K : Nat → List Value → List Value → T → Prop) (c0 : Int32) (x0 y0 : Nat) (l0 : List (Int32 × Nat)) (a : Int32) (r : List Value) : vstep xs d (16, c0, x0, y0, l0) pc ml (.int a :: r) t Q K = (K (pc + 1) ml (.int a.toInt8.toInt32 :: r) t) := rfl
theorem vx_17_0 (xs : Option (List Int32)) (d pc : Nat) (ml : List Value) (t : T) (Q : Option Value → T → Prop) (K : Nat → List Value → List Value → T → Prop) (c0 : Int32) (x0 y0 : Nat) (l0 : List (Int32 × Nat)) (a : Int32) (r : List Value) : vstep xs d (17, c0, x0, y0, l0) pc ml (.int a :: r) t Q K = (K (pc + 1) ml (.int a :: .int a :: r) t) := rfl
theorem vx_17_1 (xs : Option (List Int32)) (d pc : Nat) (ml : List Value) (t : T) (Q : Option Value → T → Prop) (K : Nat → List Value → List Value → T → Prop) (c0 : Int32) (x0 y0 : Nat) (l0 : List (Int32 × Nat)) (a : Nat) (r : List Value) : vstep xs d (17, c0, x0, y0, l0) pc ml (.ref a :: r) t Q K = (K (pc + 1) ml (.ref a :: .ref a :: r) t) := rfl
theorem vx_18_0 (xs : Option (List Int32)) (d pc : Nat) (ml : List Value) (t : T) (Q : Option Value → T → Prop) (K : Nat → List Value → List Value → T → Prop) (c0 : Int32) (x0 y0 : Nat) (l0 : List (Int32 × Nat)) (a : Int32) (b : Nat) (r : List Value) : vstep xs d (18, c0, x0, y0, l0) pc ml (.int a :: .ref b :: r) t Q K = (K (pc + 1) ml (.int a :: .ref b :: .int a :: .ref b :: r) t) := rfl
theorem vx_19_0 (xs : Option (List Int32)) (d pc : Nat) (ml : List Value) (t : T) (Q : Option Value → T → Prop) (K : Nat → List Value → List Value → T → Prop) (c0 : Int32) (x0 y0 : Nat) (l0 : List (Int32 × Nat)) (w0 : Int32) (r : List Value) : vstep xs d (19, c0, x0, y0, l0) pc ml (.int w0 :: r) t Q K = (K (pc + 1) ml r t) := rfl
theorem vx_19_1 (xs : Option (List Int32)) (d pc : Nat) (ml : List Value) (t : T) (Q : Option Value → T → Prop) (K : Nat → List Value → List Value → T → Prop) (c0 : Int32) (x0 y0 : Nat) (l0 : List (Int32 × Nat)) (w0 : Nat) (r : List Value) : vstep xs d (19, c0, x0, y0, l0) pc ml (.ref w0 :: r) t Q K = (K (pc + 1) ml r t) := rfl
theorem vx_20_0 (xs : Option (List Int32)) (d pc : Nat) (ml : List Value) (t : T) (Q : Option Value → T → Prop) (K : Nat → List Value → List Value → T → Prop) (c0 : Int32) (x y : Nat) (l0 : List (Int32 × Nat)) (b : Int32) (a : Int32) (r : List Value) : vstep xs d (20, c0, x, y, l0) pc ml (.int b :: .int a :: r) t Q K = (vbr y a b (K x ml r t) (K (pc + 3) ml r t)) := rfl
theorem vx_21_0 (xs : Option (List Int32)) (d pc : Nat) (ml : List Value) (t : T) (Q : Option Value → T → Prop) (K : Nat → List Value → List Value → T → Prop) (c0 : Int32) (x y : Nat) (l0 : List (Int32 × Nat)) (a : Int32) (r : List Value) : vstep xs d (21, c0, x, y, l0) pc ml (.int a :: r) t Q K = (vbr y a 0 (K x ml r t) (K (pc + 3) ml r t)) := rfl
theorem vx_23_0 (xs : Option (List Int32)) (d pc : Nat) (ml : List Value) (t : T) (Q : Option Value → T → Prop) (K : Nat → List Value → List Value → T → Prop) (c0 : Int32) (x y0 : Nat) (l : List (Int32 × Nat)) (a : Int32) (r : List Value) : vstep xs d (23, c0, x, y0, l) pc ml (.int a :: r) t Q K = (vsw (fun p => K p ml r t) a l x) := rfl
theorem vx_24_0 (xs : Option (List Int32)) (d pc : Nat) (ml : List Value) (t : T) (Q : Option Value → T → Prop) (K : Nat → List Value → List Value → T → Prop) (c0 : Int32) (x y : Nat) (l0 : List (Int32 × Nat)) (a : Nat) (r : List Value) : vstep xs d (24, c0, x, y, l0) pc ml (.ref a :: r) t Q K = (vtag a = x ∧ K (pc + 3) ml (.int (t.1 a y) :: r) t) := rfl
theorem vx_25_0 (xs : Option (List Int32)) (d pc : Nat) (ml : List Value) (t : T) (Q : Option Value → T → Prop) (K : Nat → List Value → List Value → T → Prop) (c0 : Int32) (x y : Nat) (l0 : List (Int32 × Nat)) (a : Nat) (r : List Value) : vstep xs d (25, c0, x, y, l0) pc ml (.ref a :: r) t Q K = (vtag a = x ∧ K (pc + 3) ml (.ref (tref t a y) :: r) t) := rfl
theorem vx_26_0 (xs : Option (List Int32)) (d pc : Nat) (ml : List Value) (t : T) (Q : Option Value → T → Prop) (K : Nat → List Value → List Value → T → Prop) (c0 : Int32) (x y : Nat) (l0 : List (Int32 × Nat)) (v : Int32) (a : Nat) (r : List Value) : vstep xs d (26, c0, x, y, l0) pc ml (.int v :: .ref a :: r) t Q K = (vtag a = x ∧ K (pc + 3) ml r (tsi t a y v)) := rfl
theorem vx_27_0 (xs : Option (List Int32)) (d pc : Nat) (ml : List Value) (t : T) (Q : Option Value → T → Prop) (K : Nat → List Value → List Value → T → Prop) (c0 : Int32) (x y : Nat) (l0 : List (Int32 × Nat)) (v : Int32) (a : Nat) (r : List Value) : vstep xs d (27, c0, x, y, l0) pc ml (.int v :: .ref a :: r) t Q K = (vtag a = x ∧ (v = 0 ∨ v = 1) ∧ K (pc + 3) ml r (tsi t a y v)) := rfl
theorem vx_28_0 (xs : Option (List Int32)) (d pc : Nat) (ml : List Value) (t : T) (Q : Option Value → T → Prop) (K : Nat → List Value → List Value → T → Prop) (c0 : Int32) (x y : Nat) (l0 : List (Int32 × Nat)) (v : Nat) (a : Nat) (r : List Value) : vstep xs d (28, c0, x, y, l0) pc ml (.ref v :: .ref a :: r) t Q K = (vtag a = x ∧ tmut a y = true ∧ K (pc + 3) ml r (tsr t a y v)) := rfl
theorem vx_29_0 (xs : Option (List Int32)) (d pc : Nat) (ml : List Value) (t : T) (Q : Option Value → T → Prop) (K : Nat → List Value → List Value → T → Prop) (c0 : Int32) (x0 y0 : Nat) (l0 : List (Int32 × Nat)) (i : Int32) (a : Nat) (r : List Value) : vstep xs d (29, c0, x0, y0, l0) pc ml (.int i :: .ref a :: r) t Q K = (vtag a = 100 ∧ vinb i (vlen a) ∧ K (pc + 1) ml (.int (t.1 a i.toNatClampNeg) :: r) t) := rfl
theorem vx_30_0 (xs : Option (List Int32)) (d pc : Nat) (ml : List Value) (t : T) (Q : Option Value → T → Prop) (K : Nat → List Value → List Value → T → Prop) (c0 : Int32) (x0 y0 : Nat) (l0 : List (Int32 × Nat)) (i : Int32) (a : Nat) (r : List Value) : vstep xs d (30, c0, x0, y0, l0) pc ml (.int i :: .ref a :: r) t Q K = ((vtag a = 101 ∨ vtag a = 102) ∧ vinb i (vlen a) ∧ K (pc + 1) ml (.int (t.1 a i.toNatClampNeg) :: r) t) := rfl
theorem vx_31_0 (xs : Option (List Int32)) (d pc : Nat) (ml : List Value) (t : T) (Q : Option Value → T → Prop) (K : Nat → List Value → List Value → T → Prop) (c0 : Int32) (x0 y0 : Nat) (l0 : List (Int32 × Nat)) (i : Int32) (a : Nat) (r : List Value) : vstep xs d (31, c0, x0, y0, l0) pc ml (.int i :: .ref a :: r) t Q K = (103 ≤ vtag a ∧ vtag a < 108 ∧ vinb i (vlen a) ∧ K (pc + 1) ml (.ref (tref t a i.toNatClampNeg) :: r) t) := rfl
theorem vx_32_0 (xs : Option (List Int32)) (d pc : Nat) (ml : List Value) (t : T) (Q : Option Value → T → Prop) (K : Nat → List Value → List Value → T → Prop) (c0 : Int32) (x0 y0 : Nat) (l0 : List (Int32 × Nat)) (v : Int32) (i : Int32) (a : Nat) (r : List Value) : vstep xs d (32, c0, x0, y0, l0) pc ml (.int v :: .int i :: .ref a :: r) t Q K = (vtag a = 100 ∧ vinb i (vlen a) ∧ K (pc + 1) ml r (tsi t a i.toNatClampNeg v)) := rfl
theorem vx_33_0 (xs : Option (List Int32)) (d pc : Nat) (ml : List Value) (t : T) (Q : Option Value → T → Prop) (K : Nat → List Value → List Value → T → Prop) (c0 : Int32) (x0 y0 : Nat) (l0 : List (Int32 × Nat)) (v : Int32) (i : Int32) (a : Nat) (r : List Value) : vstep xs d (33, c0, x0, y0, l0) pc ml (.int v :: .int i :: .ref a :: r) t Q K = (vinb i (vlen a) ∧ if vtag a = 101 then K (pc + 1) ml r (tsi t a i.toNatClampNeg v.toInt8.toInt32) else (vtag a = 102 ∧ (v = 0 ∨ v = 1) ∧ K (pc + 1) ml r (tsi t a i.toNatClampNeg v))) := rfl
theorem vx_34_0 (xs : Option (List Int32)) (d pc : Nat) (ml : List Value) (t : T) (Q : Option Value → T → Prop) (K : Nat → List Value → List Value → T → Prop) (c0 : Int32) (x0 y0 : Nat) (l0 : List (Int32 × Nat)) (v : Nat) (i : Int32) (a : Nat) (r : List Value) : vstep xs d (34, c0, x0, y0, l0) pc ml (.ref v :: .int i :: .ref a :: r) t Q K = (103 ≤ vtag a ∧ vtag a < 108 ∧ vtag v = zoc (vtag a) ∧ vinb i (vlen a) ∧ tmut a i.toNatClampNeg = true ∧ K (pc + 1) ml r (tsr t a i.toNatClampNeg v)) := rfl
theorem vx_35_0 (xs : Option (List Int32)) (d pc : Nat) (ml : List Value) (t : T) (Q : Option Value → T → Prop) (K : Nat → List Value → List Value → T → Prop) (c0 : Int32) (x0 y0 : Nat) (l0 : List (Int32 × Nat)) (a : Nat) (r : List Value) : vstep xs d (35, c0, x0, y0, l0) pc ml (.ref a :: r) t Q K = (100 ≤ vtag a ∧ vtag a < 108 ∧ K (pc + 1) ml (.int (Int32.ofNat (vlen a)) :: r) t) := rfl
theorem vx_38_0 (xs : Option (List Int32)) (d pc : Nat) (ml : List Value) (t : T) (Q : Option Value → T → Prop) (K : Nat → List Value → List Value → T → Prop) (c0 : Int32) (x0 y0 : Nat) (l0 : List (Int32 × Nat)) (n : Int32) (dp : Int32) (b : Nat) (sp : Int32) (a : Nat) (r : List Value) : vstep xs d (38, c0, x0, y0, l0) pc ml (.int n :: .int dp :: .ref b :: .int sp :: .ref a :: r) t Q K = (vtag a = 100 ∧ vtag b = 100 ∧ ¬ sp < 0 ∧ ¬ dp < 0 ∧ ¬ n < 0 ∧ sp.toNatClampNeg + n.toNatClampNeg ≤ vlen a ∧ dp.toNatClampNeg + n.toNatClampNeg ≤ vlen b ∧ r.length ≤ 8 ∧ r.all zc1 = true ∧ K (pc + 3) ml r (tcp t a sp.toNatClampNeg b dp.toNatClampNeg n.toNatClampNeg)) := rfl
theorem vx_39_0 (xs : Option (List Int32)) (d pc : Nat) (ml : List Value) (t : T) (Q : Option Value → T → Prop) (K : Nat → List Value → List Value → T → Prop) (c0 : Int32) (x0 y0 : Nat) (l0 : List (Int32 × Nat)) (b : Int32) (a : Int32) (r : List Value) : vstep xs d (39, c0, x0, y0, l0) pc ml (.int b :: .int a :: r) t Q K = (r.length ≤ 8 ∧ r.all zc1 = true ∧ K (pc + 3) ml (.int (if a < b then b else a) :: r) t) := rfl
theorem vx_40_0 (xs : Option (List Int32)) (d pc : Nat) (ml : List Value) (t : T) (Q : Option Value → T → Prop) (K : Nat → List Value → List Value → T → Prop) (c0 : Int32) (x0 y0 : Nat) (l0 : List (Int32 × Nat)) (v : Int32) : vstep xs d (40, c0, x0, y0, l0) pc ml ([.int v]) t Q K = (Q (some (.int v)) t) := rfl
theorem vx_41_0 (xs : Option (List Int32)) (d pc : Nat) (ml : List Value) (t : T) (Q : Option Value → T → Prop) (K : Nat → List Value → List Value → T → Prop) (c0 : Int32) (x0 y0 : Nat) (l0 : List (Int32 × Nat)) (v : Int32) : vstep xs d (41, c0, x0, y0, l0) pc ml ([.int v]) t Q K = ((v = 0 ∨ v = 1) ∧ Q (some (.int v)) t) := rfl
theorem vx_42_0 (xs : Option (List Int32)) (d pc : Nat) (ml : List Value) (t : T) (Q : Option Value → T → Prop) (K : Nat → List Value → List Value → T → Prop) (c0 : Int32) (x0 y0 : Nat) (l0 : List (Int32 × Nat)) (v : Nat) : vstep xs d (42, c0, x0, y0, l0) pc ml ([.ref v]) t Q K = (Q (some (.ref v)) t) := rfl
theorem vx_43_0 (xs : Option (List Int32)) (d pc : Nat) (ml : List Value) (t : T) (Q : Option Value → T → Prop) (K : Nat → List Value → List Value → T → Prop) (c0 : Int32) (x0 y0 : Nat) (l0 : List (Int32 × Nat))  : vstep xs d (43, c0, x0, y0, l0) pc ml ([]) t Q K = (Q none t) := rfl
theorem vx_44_0 (d pc : Nat) (ml : List Value) (t : T) (Q : Option Value → T → Prop) (K : Nat → List Value → List Value → T → Prop) (c0 : Int32) (x0 y0 : Nat) (l0 : List (Int32 × Nat)) (lx : List Int32) (i : Int32) (a : Nat) (r : List Value) : vstep (some lx) d (44, c0, x0, y0, l0) pc ml (.int i :: .ref a :: r) t Q K = (a = zSCR ∧ vinb i lx.length ∧ K (pc + 1) ml (.int (lx.getD i.toNatClampNeg 0) :: r) t) := rfl
theorem vx_45_0 (d pc : Nat) (ml : List Value) (t : T) (Q : Option Value → T → Prop) (K : Nat → List Value → List Value → T → Prop) (c0 : Int32) (x0 y0 : Nat) (l0 : List (Int32 × Nat)) (lx : List Int32) (a : Nat) (r : List Value) : vstep (some lx) d (45, c0, x0, y0, l0) pc ml (.ref a :: r) t Q K = (a = zSCR ∧ K (pc + 1) ml (.int (Int32.ofNat lx.length) :: r) t) := rfl
theorem vgi_0 (v : Int32) (l : List Value) (F : Int32 → Prop) : vgi (.int v :: l) 0 F = F v := id rfl
theorem vgi_s (v : Value) (l : List Value) (n : Nat) (F : Int32 → Prop) : vgi (v :: l) (n + 1) F = vgi l n F := id rfl
theorem vga_0 (v : Nat) (l : List Value) (F : Nat → Prop) : vga (.ref v :: l) 0 F = F v := id rfl
theorem vga_s (v : Value) (l : List Value) (n : Nat) (F : Nat → Prop) : vga (v :: l) (n + 1) F = vga l n F := id rfl
theorem vset_0 (w v : Value) (l : List Value) (F : List Value → Prop) : vset (w :: l) 0 v F = F (v :: l) := id rfl
theorem vset_s (w v : Value) (l : List Value) (n : Nat) (F : List Value → Prop) : vset (w :: l) (n + 1) v F = vset l n v (fun l' => F (w :: l')) := id rfl
theorem vtk_0 (st acc : List Value) (F : List Value → List Value → Prop) : vtk 0 st acc F = F acc st := id rfl
theorem vtk_s (n : Nat) (v : Value) (st acc : List Value) (F : List Value → List Value → Prop) : vtk (n + 1) (v :: st) acc F = vtk n st (v :: acc) F := id rfl
theorem vrc_0 (a c : Nat) (l : List Value) (A : Prop) : vrc (.ref a :: l) c A = (vtag a = c ∧ A) := id rfl
theorem vbr_0 (a b : Int32) (A B : Prop) : vbr 0 a b A B = if a = b then A else B := id rfl
theorem vbr_1 (a b : Int32) (A B : Prop) : vbr 1 a b A B = if a = b then B else A := id rfl
theorem vbr_2 (a b : Int32) (A B : Prop) : vbr 2 a b A B = if a < b then A else B := id rfl
theorem vbr_3 (a b : Int32) (A B : Prop) : vbr 3 a b A B = if a < b then B else A := id rfl
theorem vbr_4 (a b : Int32) (A B : Prop) : vbr 4 a b A B = if b < a then A else B := id rfl
theorem vbr_5 (a b : Int32) (A B : Prop) : vbr 5 a b A B = if b < a then B else A := id rfl
theorem vsw_0 (K : Nat → Prop) (v : Int32) (e : Nat) : vsw K v [] e = K e := id rfl
theorem vsw_s (K : Nat → Prop) (v k : Int32) (p : Nat) (l : List (Int32 × Nat)) (e : Nat) : vsw K v ((k, p) :: l) e = if v = k then K p else vsw K v l e := id rfl
theorem vc_s (xs : Option (List Int32)) (S : List Nat) (n : Nat) (b : Bool) (d mi pc : Nat) (ml st : List Value) (t : T) (Q : Option Value → T → Prop) : vc xs S (n + 1) b d mi pc ml st t Q = if (vin S pc && b) = true then twp xs d mi pc ml st t Q else match vrow mi pc with
    | none => False
    | some o => vstep xs d o pc ml st t Q (fun pc' ml' st' t' => vc xs S n true d mi pc' ml' st' t' Q) := id rfl
/-- one step, the row known -/
theorem vc_r {mi pc : Nat} {o : vOp} (h : vrow mi pc = some o) (xs : Option (List Int32)) (S : List Nat) (n : Nat) (b : Bool) (d : Nat) (ml st : List Value) (t : T) (Q : Option Value → T → Prop) : vc xs S (n + 1) b d mi pc ml st t Q = if (vin S pc && b) = true then twp xs d mi pc ml st t Q else vstep xs d o pc ml st t Q (fun pc' ml' st' t' => vc xs S n true d mi pc' ml' st' t' Q) := by
  rw [vc_s, h]
theorem zc1_i (v : Int32) : zc1 (.int v) = true := id rfl
theorem zc1_r (v : Nat) : zc1 (.ref v) = true := id rfl
theorem vin_0 (n : Nat) : vin [] n = false := id rfl
theorem vin_s (a : Nat) (l : List Nat) (n : Nat) : vin (a :: l) n = ((n == a) || vin l n) := id rfl
def vbeq (a : Option vOp) (b : vOp) : Bool := match a with
  | some c => decide (c.1 = b.1) && (decide (c.2.1 = b.2.1) && (decide (c.2.2.1 = b.2.2.1) && (decide (c.2.2.2.1 = b.2.2.2.1) && decide (c.2.2.2.2 = b.2.2.2.2))))
  | none => false
theorem vbeq_ok {a : Option vOp} {b : vOp} (h : vbeq a b = true) : a = some b := by
  cases a with
  | none => cases h
  | some c =>
    simp only [vbeq, Bool.and_eq_true, decide_eq_true_eq] at h
    obtain ⟨h1, h2, h3, h4, h5⟩ := h
    obtain ⟨c1, c2, c3, c4, c5⟩ := c
    obtain ⟨b1, b2, b3, b4, b5⟩ := b
    dsimp only at h1 h2 h3 h4 h5
    rw [h1, h2, h3, h4, h5]
theorem vc_q {mi pc : Nat} {o : vOp} (h : vbeq (vrow mi pc) o = true) (xs : Option (List Int32)) (S : List Nat) (n : Nat) (b : Bool) (d : Nat) (ml st : List Value) (t : T) (Q : Option Value → T → Prop) : vc xs S (n + 1) b d mi pc ml st t Q = if (vin S pc && b) = true then twp xs d mi pc ml st t Q else vstep xs d o pc ml st t Q (fun pc' ml' st' t' => vc xs S n true d mi pc' ml' st' t' Q) := vc_r (vbeq_ok h) xs S n b d ml st t Q
