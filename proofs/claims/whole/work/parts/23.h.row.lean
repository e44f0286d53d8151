def zH_169 : List Nat := [34]
theorem v_169_0 (xs : Option (List Int32)) (n : Nat) (b : Bool) (d : Nat) (ml : List Value) (t : T) (Q : Option Value → T → Prop) (st : List Value) : vc xs zH_169 (n + 1) b d 169 0 ml st t Q = vga ml 0 (fun v => vc xs zH_169 n true d 169 1 ml (.ref v :: st) t Q) := by
  rw [vc_q (o := (2, 0, 0, 0, [])) (by decide +kernel)]; rfl
theorem v_169_1 (xs : Option (List Int32)) (n : Nat) (b : Bool) (d : Nat) (ml : List Value) (t : T) (Q : Option Value → T → Prop) (u : Nat) (r : List Value) : vc xs zH_169 (n + 1) b d 169 1 ml (.ref u :: r) t Q = (vtag u = 4 ∧ vc xs zH_169 n true d 169 4 ml (.int (t.1 u 0) :: r) t Q) := by
  rw [vc_q (o := (24, 0, 4, 0, [])) (by decide +kernel)]; rfl
theorem v_169_4 (xs : Option (List Int32)) (n : Nat) (b : Bool) (d : Nat) (ml : List Value) (t : T) (Q : Option Value → T → Prop) (st : List Value) : vc xs zH_169 (n + 1) b d 169 4 ml st t Q = vga ml 1 (fun v => vc xs zH_169 n true d 169 5 ml (.ref v :: st) t Q) := by
  rw [vc_q (o := (2, 0, 1, 0, [])) (by decide +kernel)]; rfl
theorem v_169_5 (xs : Option (List Int32)) (n : Nat) (b : Bool) (d : Nat) (ml : List Value) (t : T) (Q : Option Value → T → Prop) (u : Nat) (r : List Value) : vc xs zH_169 (n + 1) b d 169 5 ml (.ref u :: r) t Q = (vtag u = 4 ∧ vc xs zH_169 n true d 169 8 ml (.int (t.1 u 0) :: r) t Q) := by
  rw [vc_q (o := (24, 0, 4, 0, [])) (by decide +kernel)]; rfl
theorem v_169_8 (xs : Option (List Int32)) (n : Nat) (b : Bool) (d : Nat) (ml : List Value) (t : T) (Q : Option Value → T → Prop) (u v : Int32) (r : List Value) : vc xs zH_169 (n + 1) b d 169 8 ml (.int v :: .int u :: r) t Q = (if u = v then vc xs zH_169 n true d 169 21 ml r t Q else vc xs zH_169 n true d 169 11 ml r t Q) := by
  rw [vc_q (o := (20, 0, 21, 0, [])) (by decide +kernel)]; rfl
theorem v_169_11 (xs : Option (List Int32)) (n : Nat) (b : Bool) (d : Nat) (ml : List Value) (t : T) (Q : Option Value → T → Prop) (st : List Value) : vc xs zH_169 (n + 1) b d 169 11 ml st t Q = vga ml 0 (fun v => vc xs zH_169 n true d 169 12 ml (.ref v :: st) t Q) := by
  rw [vc_q (o := (2, 0, 0, 0, [])) (by decide +kernel)]; rfl
theorem v_169_12 (xs : Option (List Int32)) (n : Nat) (b : Bool) (d : Nat) (ml : List Value) (t : T) (Q : Option Value → T → Prop) (u : Nat) (r : List Value) : vc xs zH_169 (n + 1) b d 169 12 ml (.ref u :: r) t Q = (vtag u = 4 ∧ vc xs zH_169 n true d 169 15 ml (.int (t.1 u 0) :: r) t Q) := by
  rw [vc_q (o := (24, 0, 4, 0, [])) (by decide +kernel)]; rfl
theorem v_169_15 (xs : Option (List Int32)) (n : Nat) (b : Bool) (d : Nat) (ml : List Value) (t : T) (Q : Option Value → T → Prop) (st : List Value) : vc xs zH_169 (n + 1) b d 169 15 ml st t Q = vga ml 1 (fun v => vc xs zH_169 n true d 169 16 ml (.ref v :: st) t Q) := by
  rw [vc_q (o := (2, 0, 1, 0, [])) (by decide +kernel)]; rfl
theorem v_169_16 (xs : Option (List Int32)) (n : Nat) (b : Bool) (d : Nat) (ml : List Value) (t : T) (Q : Option Value → T → Prop) (u : Nat) (r : List Value) : vc xs zH_169 (n + 1) b d 169 16 ml (.ref u :: r) t Q = (vtag u = 4 ∧ vc xs zH_169 n true d 169 19 ml (.int (t.1 u 0) :: r) t Q) := by
  rw [vc_q (o := (24, 0, 4, 0, [])) (by decide +kernel)]; rfl
theorem v_169_19 (xs : Option (List Int32)) (n : Nat) (b : Bool) (d : Nat) (ml : List Value) (t : T) (Q : Option Value → T → Prop) (u v : Int32) (r : List Value) : vc xs zH_169 (n + 1) b d 169 19 ml (.int v :: .int u :: r) t Q = vc xs zH_169 n true d 169 20 ml (.int (u - v) :: r) t Q := by
  rw [vc_q (o := (7, 0, 0, 0, [])) (by decide +kernel)]; rfl
theorem v_169_20 (xs : Option (List Int32)) (n : Nat) (b : Bool) (d : Nat) (ml : List Value) (t : T) (Q : Option Value → T → Prop) (v : Int32) : vc xs zH_169 (n + 1) b d 169 20 ml [.int v] t Q = Q (some (.int v)) t := by
  rw [vc_q (o := (40, 0, 0, 0, [])) (by decide +kernel)]; rfl
theorem v_169_21 (xs : Option (List Int32)) (n : Nat) (b : Bool) (d : Nat) (ml : List Value) (t : T) (Q : Option Value → T → Prop) (st : List Value) : vc xs zH_169 (n + 1) b d 169 21 ml st t Q = vc xs zH_169 n true d 169 23 ml (.int 32 :: st) t Q := by
  rw [vc_q (o := (0, 32, 1, 0, [])) (by decide +kernel)]; rfl
theorem v_169_23 (xs : Option (List Int32)) (n : Nat) (b : Bool) (d : Nat) (ml : List Value) (t : T) (Q : Option Value → T → Prop) (st : List Value) : vc xs zH_169 (n + 1) b d 169 23 ml st t Q = vc xs zH_169 n true d 169 25 ml (.int 12 :: st) t Q := by
  rw [vc_q (o := (0, 12, 1, 0, [])) (by decide +kernel)]; rfl
theorem v_169_25 (xs : Option (List Int32)) (n : Nat) (b : Bool) (d : Nat) (ml : List Value) (t : T) (Q : Option Value → T → Prop) (st : List Value) : vc xs zH_169 (n + 1) b d 169 25 ml st t Q = vga ml 0 (fun v => vc xs zH_169 n true d 169 26 ml (.ref v :: st) t Q) := by
  rw [vc_q (o := (2, 0, 0, 0, [])) (by decide +kernel)]; rfl
theorem v_169_26 (xs : Option (List Int32)) (n : Nat) (b : Bool) (d : Nat) (ml : List Value) (t : T) (Q : Option Value → T → Prop) (u : Nat) (r : List Value) : vc xs zH_169 (n + 1) b d 169 26 ml (.ref u :: r) t Q = (vtag u = 4 ∧ vc xs zH_169 n true d 169 29 ml (.int (t.1 u 0) :: r) t Q) := by
  rw [vc_q (o := (24, 0, 4, 0, [])) (by decide +kernel)]; rfl
theorem v_169_29 (xs : Option (List Int32)) (n : Nat) (b : Bool) (d : Nat) (ml : List Value) (t : T) (Q : Option Value → T → Prop) (u v : Int32) (r : List Value) : vc xs zH_169 (n + 1) b d 169 29 ml (.int v :: .int u :: r) t Q = vc xs zH_169 n true d 169 30 ml (.int (u * v) :: r) t Q := by
  rw [vc_q (o := (8, 0, 0, 0, [])) (by decide +kernel)]; rfl
theorem v_169_30 (xs : Option (List Int32)) (n : Nat) (b : Bool) (d : Nat) (ml : List Value) (t : T) (Q : Option Value → T → Prop) (u v : Int32) (r : List Value) : vc xs zH_169 (n + 1) b d 169 30 ml (.int v :: .int u :: r) t Q = vc xs zH_169 n true d 169 31 ml (.int (u + v) :: r) t Q := by
  rw [vc_q (o := (6, 0, 0, 0, [])) (by decide +kernel)]; rfl
theorem v_169_31 (xs : Option (List Int32)) (n : Nat) (b : Bool) (d : Nat) (ml : List Value) (t : T) (Q : Option Value → T → Prop) (v : Int32) (r : List Value) : vc xs zH_169 (n + 1) b d 169 31 ml (.int v :: r) t Q = vset ml 2 (.int v) (fun l => vc xs zH_169 n true d 169 32 l r t Q) := by
  rw [vc_q (o := (3, 0, 2, 0, [])) (by decide +kernel)]; rfl
theorem v_169_32 (xs : Option (List Int32)) (n : Nat) (b : Bool) (d : Nat) (ml : List Value) (t : T) (Q : Option Value → T → Prop) (st : List Value) : vc xs zH_169 (n + 1) b d 169 32 ml st t Q = vc xs zH_169 n true d 169 33 ml (.int 0 :: st) t Q := by
  rw [vc_q (o := (0, 0, 0, 0, [])) (by decide +kernel)]; rfl
theorem v_169_33 (xs : Option (List Int32)) (n : Nat) (b : Bool) (d : Nat) (ml : List Value) (t : T) (Q : Option Value → T → Prop) (v : Int32) (r : List Value) : vc xs zH_169 (n + 1) b d 169 33 ml (.int v :: r) t Q = vset ml 3 (.int v) (fun l => vc xs zH_169 n true d 169 34 l r t Q) := by
  rw [vc_q (o := (3, 0, 3, 0, [])) (by decide +kernel)]; rfl
theorem v_169_34 (xs : Option (List Int32)) (n : Nat) (d : Nat) (ml : List Value) (t : T) (Q : Option Value → T → Prop) (st : List Value) : vc xs zH_169 (n + 1) false d 169 34 ml st t Q = vgi ml 3 (fun v => vc xs zH_169 n true d 169 35 ml (.int v :: st) t Q) := by
  rw [vc_q (o := (1, 0, 3, 0, [])) (by decide +kernel)]; rfl
theorem h_169_34 (xs : Option (List Int32)) (n d : Nat) (ml st : List Value) (t : T) (Q : Option Value → T → Prop) : vc xs zH_169 (n + 1) true d 169 34 ml st t Q = twp xs d 169 34 ml st t Q := id rfl
theorem v_169_35 (xs : Option (List Int32)) (n : Nat) (b : Bool) (d : Nat) (ml : List Value) (t : T) (Q : Option Value → T → Prop) (st : List Value) : vc xs zH_169 (n + 1) b d 169 35 ml st t Q = vgi ml 2 (fun v => vc xs zH_169 n true d 169 36 ml (.int v :: st) t Q) := by
  rw [vc_q (o := (1, 0, 2, 0, [])) (by decide +kernel)]; rfl
theorem v_169_36 (xs : Option (List Int32)) (n : Nat) (b : Bool) (d : Nat) (ml : List Value) (t : T) (Q : Option Value → T → Prop) (u v : Int32) (r : List Value) : vc xs zH_169 (n + 1) b d 169 36 ml (.int v :: .int u :: r) t Q = (if u < v then vc xs zH_169 n true d 169 39 ml r t Q else vc xs zH_169 n true d 169 74 ml r t Q) := by
  rw [vc_q (o := (20, 0, 74, 3, [])) (by decide +kernel)]; rfl
theorem v_169_39 (xs : Option (List Int32)) (n : Nat) (b : Bool) (d : Nat) (ml : List Value) (t : T) (Q : Option Value → T → Prop) (st : List Value) : vc xs zH_169 (n + 1) b d 169 39 ml st t Q = vga ml 0 (fun v => vc xs zH_169 n true d 169 40 ml (.ref v :: st) t Q) := by
  rw [vc_q (o := (2, 0, 0, 0, [])) (by decide +kernel)]; rfl
theorem v_169_40 (xs : Option (List Int32)) (n : Nat) (b : Bool) (d : Nat) (ml : List Value) (t : T) (Q : Option Value → T → Prop) (u : Nat) (r : List Value) : vc xs zH_169 (n + 1) b d 169 40 ml (.ref u :: r) t Q = (vtag u = 4 ∧ vc xs zH_169 n true d 169 43 ml (.ref (tref t u 1) :: r) t Q) := by
  rw [vc_q (o := (25, 0, 4, 1, [])) (by decide +kernel)]; rfl
theorem v_169_43 (xs : Option (List Int32)) (n : Nat) (b : Bool) (d : Nat) (ml : List Value) (t : T) (Q : Option Value → T → Prop) (st : List Value) : vc xs zH_169 (n + 1) b d 169 43 ml st t Q = vgi ml 3 (fun v => vc xs zH_169 n true d 169 44 ml (.int v :: st) t Q) := by
  rw [vc_q (o := (1, 0, 3, 0, [])) (by decide +kernel)]; rfl
theorem v_169_44 (xs : Option (List Int32)) (n : Nat) (b : Bool) (d : Nat) (ml : List Value) (t : T) (Q : Option Value → T → Prop) (v : Int32) (u : Nat) (r : List Value) : vc xs zH_169 (n + 1) b d 169 44 ml (.int v :: .ref u :: r) t Q = (vtag u = 100 ∧ vinb v (vlen u) ∧ vc xs zH_169 n true d 169 45 ml (.int (t.1 u v.toNatClampNeg) :: r) t Q) := by
  rw [vc_q (o := (29, 0, 0, 0, [])) (by decide +kernel)]; rfl
theorem v_169_45 (xs : Option (List Int32)) (n : Nat) (b : Bool) (d : Nat) (ml : List Value) (t : T) (Q : Option Value → T → Prop) (st : List Value) : vc xs zH_169 (n + 1) b d 169 45 ml st t Q = vga ml 1 (fun v => vc xs zH_169 n true d 169 46 ml (.ref v :: st) t Q) := by
  rw [vc_q (o := (2, 0, 1, 0, [])) (by decide +kernel)]; rfl
theorem v_169_46 (xs : Option (List Int32)) (n : Nat) (b : Bool) (d : Nat) (ml : List Value) (t : T) (Q : Option Value → T → Prop) (u : Nat) (r : List Value) : vc xs zH_169 (n + 1) b d 169 46 ml (.ref u :: r) t Q = (vtag u = 4 ∧ vc xs zH_169 n true d 169 49 ml (.ref (tref t u 1) :: r) t Q) := by
  rw [vc_q (o := (25, 0, 4, 1, [])) (by decide +kernel)]; rfl
theorem v_169_49 (xs : Option (List Int32)) (n : Nat) (b : Bool) (d : Nat) (ml : List Value) (t : T) (Q : Option Value → T → Prop) (st : List Value) : vc xs zH_169 (n + 1) b d 169 49 ml st t Q = vgi ml 3 (fun v => vc xs zH_169 n true d 169 50 ml (.int v :: st) t Q) := by
  rw [vc_q (o := (1, 0, 3, 0, [])) (by decide +kernel)]; rfl
theorem v_169_50 (xs : Option (List Int32)) (n : Nat) (b : Bool) (d : Nat) (ml : List Value) (t : T) (Q : Option Value → T → Prop) (v : Int32) (u : Nat) (r : List Value) : vc xs zH_169 (n + 1) b d 169 50 ml (.int v :: .ref u :: r) t Q = (vtag u = 100 ∧ vinb v (vlen u) ∧ vc xs zH_169 n true d 169 51 ml (.int (t.1 u v.toNatClampNeg) :: r) t Q) := by
  rw [vc_q (o := (29, 0, 0, 0, [])) (by decide +kernel)]; rfl
theorem v_169_51 (xs : Option (List Int32)) (n : Nat) (b : Bool) (d : Nat) (ml : List Value) (t : T) (Q : Option Value → T → Prop) (u v : Int32) (r : List Value) : vc xs zH_169 (n + 1) b d 169 51 ml (.int v :: .int u :: r) t Q = (if u = v then vc xs zH_169 n true d 169 68 ml r t Q else vc xs zH_169 n true d 169 54 ml r t Q) := by
  rw [vc_q (o := (20, 0, 68, 0, [])) (by decide +kernel)]; rfl
theorem v_169_54 (xs : Option (List Int32)) (n : Nat) (b : Bool) (d : Nat) (ml : List Value) (t : T) (Q : Option Value → T → Prop) (st : List Value) : vc xs zH_169 (n + 1) b d 169 54 ml st t Q = vga ml 0 (fun v => vc xs zH_169 n true d 169 55 ml (.ref v :: st) t Q) := by
  rw [vc_q (o := (2, 0, 0, 0, [])) (by decide +kernel)]; rfl
theorem v_169_55 (xs : Option (List Int32)) (n : Nat) (b : Bool) (d : Nat) (ml : List Value) (t : T) (Q : Option Value → T → Prop) (u : Nat) (r : List Value) : vc xs zH_169 (n + 1) b d 169 55 ml (.ref u :: r) t Q = (vtag u = 4 ∧ vc xs zH_169 n true d 169 58 ml (.ref (tref t u 1) :: r) t Q) := by
  rw [vc_q (o := (25, 0, 4, 1, [])) (by decide +kernel)]; rfl
theorem v_169_58 (xs : Option (List Int32)) (n : Nat) (b : Bool) (d : Nat) (ml : List Value) (t : T) (Q : Option Value → T → Prop) (st : List Value) : vc xs zH_169 (n + 1) b d 169 58 ml st t Q = vgi ml 3 (fun v => vc xs zH_169 n true d 169 59 ml (.int v :: st) t Q) := by
  rw [vc_q (o := (1, 0, 3, 0, [])) (by decide +kernel)]; rfl
theorem v_169_59 (xs : Option (List Int32)) (n : Nat) (b : Bool) (d : Nat) (ml : List Value) (t : T) (Q : Option Value → T → Prop) (v : Int32) (u : Nat) (r : List Value) : vc xs zH_169 (n + 1) b d 169 59 ml (.int v :: .ref u :: r) t Q = (vtag u = 100 ∧ vinb v (vlen u) ∧ vc xs zH_169 n true d 169 60 ml (.int (t.1 u v.toNatClampNeg) :: r) t Q) := by
  rw [vc_q (o := (29, 0, 0, 0, [])) (by decide +kernel)]; rfl
theorem v_169_60 (xs : Option (List Int32)) (n : Nat) (b : Bool) (d : Nat) (ml : List Value) (t : T) (Q : Option Value → T → Prop) (st : List Value) : vc xs zH_169 (n + 1) b d 169 60 ml st t Q = vga ml 1 (fun v => vc xs zH_169 n true d 169 61 ml (.ref v :: st) t Q) := by
  rw [vc_q (o := (2, 0, 1, 0, [])) (by decide +kernel)]; rfl
theorem v_169_61 (xs : Option (List Int32)) (n : Nat) (b : Bool) (d : Nat) (ml : List Value) (t : T) (Q : Option Value → T → Prop) (u : Nat) (r : List Value) : vc xs zH_169 (n + 1) b d 169 61 ml (.ref u :: r) t Q = (vtag u = 4 ∧ vc xs zH_169 n true d 169 64 ml (.ref (tref t u 1) :: r) t Q) := by
  rw [vc_q (o := (25, 0, 4, 1, [])) (by decide +kernel)]; rfl
theorem v_169_64 (xs : Option (List Int32)) (n : Nat) (b : Bool) (d : Nat) (ml : List Value) (t : T) (Q : Option Value → T → Prop) (st : List Value) : vc xs zH_169 (n + 1) b d 169 64 ml st t Q = vgi ml 3 (fun v => vc xs zH_169 n true d 169 65 ml (.int v :: st) t Q) := by
  rw [vc_q (o := (1, 0, 3, 0, [])) (by decide +kernel)]; rfl
theorem v_169_65 (xs : Option (List Int32)) (n : Nat) (b : Bool) (d : Nat) (ml : List Value) (t : T) (Q : Option Value → T → Prop) (v : Int32) (u : Nat) (r : List Value) : vc xs zH_169 (n + 1) b d 169 65 ml (.int v :: .ref u :: r) t Q = (vtag u = 100 ∧ vinb v (vlen u) ∧ vc xs zH_169 n true d 169 66 ml (.int (t.1 u v.toNatClampNeg) :: r) t Q) := by
  rw [vc_q (o := (29, 0, 0, 0, [])) (by decide +kernel)]; rfl
theorem v_169_66 (xs : Option (List Int32)) (n : Nat) (b : Bool) (d : Nat) (ml : List Value) (t : T) (Q : Option Value → T → Prop) (u v : Int32) (r : List Value) : vc xs zH_169 (n + 1) b d 169 66 ml (.int v :: .int u :: r) t Q = vc xs zH_169 n true d 169 67 ml (.int (u - v) :: r) t Q := by
  rw [vc_q (o := (7, 0, 0, 0, [])) (by decide +kernel)]; rfl
theorem v_169_67 (xs : Option (List Int32)) (n : Nat) (b : Bool) (d : Nat) (ml : List Value) (t : T) (Q : Option Value → T → Prop) (v : Int32) : vc xs zH_169 (n + 1) b d 169 67 ml [.int v] t Q = Q (some (.int v)) t := by
  rw [vc_q (o := (40, 0, 0, 0, [])) (by decide +kernel)]; rfl
theorem v_169_68 (xs : Option (List Int32)) (n : Nat) (b : Bool) (d : Nat) (ml : List Value) (t : T) (Q : Option Value → T → Prop) (st : List Value) : vc xs zH_169 (n + 1) b d 169 68 ml st t Q = vgi ml 3 (fun v => vset ml 3 (.int (v + 1)) (fun l => vc xs zH_169 n true d 169 71 l st t Q)) := by
  rw [vc_q (o := (5, 1, 3, 0, [])) (by decide +kernel)]; rfl
theorem v_169_71 (xs : Option (List Int32)) (n : Nat) (b : Bool) (d : Nat) (ml : List Value) (t : T) (Q : Option Value → T → Prop) (st : List Value) : vc xs zH_169 (n + 1) b d 169 71 ml st t Q = vc xs zH_169 n true d 169 34 ml st t Q := by
  rw [vc_q (o := (22, 0, 34, 0, [])) (by decide +kernel)]; rfl
theorem v_169_74 (xs : Option (List Int32)) (n : Nat) (b : Bool) (d : Nat) (ml : List Value) (t : T) (Q : Option Value → T → Prop) (st : List Value) : vc xs zH_169 (n + 1) b d 169 74 ml st t Q = vc xs zH_169 n true d 169 75 ml (.int 0 :: st) t Q := by
  rw [vc_q (o := (0, 0, 0, 0, [])) (by decide +kernel)]; rfl
theorem v_169_75 (xs : Option (List Int32)) (n : Nat) (b : Bool) (d : Nat) (ml : List Value) (t : T) (Q : Option Value → T → Prop) (v : Int32) : vc xs zH_169 (n + 1) b d 169 75 ml [.int v] t Q = Q (some (.int v)) t := by
  rw [vc_q (o := (40, 0, 0, 0, [])) (by decide +kernel)]; rfl
def zH_170 : List Nat := [40, 49]
theorem v_170_0 (xs : Option (List Int32)) (n : Nat) (b : Bool) (d : Nat) (ml : List Value) (t : T) (Q : Option Value → T → Prop) (st : List Value) : vc xs zH_170 (n + 1) b d 170 0 ml st t Q = vga ml 0 (fun v => vc xs zH_170 n true d 170 1 ml (.ref v :: st) t Q) := by
  rw [vc_q (o := (2, 0, 0, 0, [])) (by decide +kernel)]; rfl
theorem v_170_1 (xs : Option (List Int32)) (n : Nat) (b : Bool) (d : Nat) (ml : List Value) (t : T) (Q : Option Value → T → Prop) (u : Nat) (r : List Value) : vc xs zH_170 (n + 1) b d 170 1 ml (.ref u :: r) t Q = (vtag u = 4 ∧ vc xs zH_170 n true d 170 4 ml (.int (t.1 u 0) :: r) t Q) := by
  rw [vc_q (o := (24, 0, 4, 0, [])) (by decide +kernel)]; rfl
theorem v_170_4 (xs : Option (List Int32)) (n : Nat) (b : Bool) (d : Nat) (ml : List Value) (t : T) (Q : Option Value → T → Prop) (v : Int32) (r : List Value) : vc xs zH_170 (n + 1) b d 170 4 ml (.int v :: r) t Q = vset ml 2 (.int v) (fun l => vc xs zH_170 n true d 170 5 l r t Q) := by
  rw [vc_q (o := (3, 0, 2, 0, [])) (by decide +kernel)]; rfl
theorem v_170_5 (xs : Option (List Int32)) (n : Nat) (b : Bool) (d : Nat) (ml : List Value) (t : T) (Q : Option Value → T → Prop) (st : List Value) : vc xs zH_170 (n + 1) b d 170 5 ml st t Q = vga ml 0 (fun v => vc xs zH_170 n true d 170 6 ml (.ref v :: st) t Q) := by
  rw [vc_q (o := (2, 0, 0, 0, [])) (by decide +kernel)]; rfl
theorem v_170_6_int (xs : Option (List Int32)) (n : Nat) (b : Bool) (d : Nat) (ml : List Value) (t : T) (Q : Option Value → T → Prop) (v : Int32) (r : List Value) : vc xs zH_170 (n + 1) b d 170 6 ml (.int v :: r) t Q = vc xs zH_170 n true d 170 7 ml (.int v :: .int v :: r) t Q := by
  rw [vc_q (o := (17, 0, 0, 0, [])) (by decide +kernel)]; rfl
theorem v_170_6_ref (xs : Option (List Int32)) (n : Nat) (b : Bool) (d : Nat) (ml : List Value) (t : T) (Q : Option Value → T → Prop) (v : Nat) (r : List Value) : vc xs zH_170 (n + 1) b d 170 6 ml (.ref v :: r) t Q = vc xs zH_170 n true d 170 7 ml (.ref v :: .ref v :: r) t Q := by
  rw [vc_q (o := (17, 0, 0, 0, [])) (by decide +kernel)]; rfl
theorem v_170_7 (xs : Option (List Int32)) (n : Nat) (b : Bool) (d : Nat) (ml : List Value) (t : T) (Q : Option Value → T → Prop) (u : Nat) (r : List Value) : vc xs zH_170 (n + 1) b d 170 7 ml (.ref u :: r) t Q = (vtag u = 4 ∧ vc xs zH_170 n true d 170 10 ml (.int (t.1 u 0) :: r) t Q) := by
  rw [vc_q (o := (24, 0, 4, 0, [])) (by decide +kernel)]; rfl
theorem v_170_10 (xs : Option (List Int32)) (n : Nat) (b : Bool) (d : Nat) (ml : List Value) (t : T) (Q : Option Value → T → Prop) (st : List Value) : vc xs zH_170 (n + 1) b d 170 10 ml st t Q = vc xs zH_170 n true d 170 11 ml (.int 1 :: st) t Q := by
  rw [vc_q (o := (0, 1, 0, 0, [])) (by decide +kernel)]; rfl
theorem v_170_11 (xs : Option (List Int32)) (n : Nat) (b : Bool) (d : Nat) (ml : List Value) (t : T) (Q : Option Value → T → Prop) (u v : Int32) (r : List Value) : vc xs zH_170 (n + 1) b d 170 11 ml (.int v :: .int u :: r) t Q = vc xs zH_170 n true d 170 12 ml (.int (u + v) :: r) t Q := by
  rw [vc_q (o := (6, 0, 0, 0, [])) (by decide +kernel)]; rfl
theorem v_170_12 (xs : Option (List Int32)) (n : Nat) (b : Bool) (d : Nat) (ml : List Value) (t : T) (Q : Option Value → T → Prop) (v : Int32) (u : Nat) (r : List Value) : vc xs zH_170 (n + 1) b d 170 12 ml (.int v :: .ref u :: r) t Q = (vtag u = 4 ∧ vc xs zH_170 n true d 170 15 ml r (tsi t u 0 v) Q) := by
  rw [vc_q (o := (26, 0, 4, 0, [])) (by decide +kernel)]; rfl
theorem v_170_15 (xs : Option (List Int32)) (n : Nat) (b : Bool) (d : Nat) (ml : List Value) (t : T) (Q : Option Value → T → Prop) (st : List Value) : vc xs zH_170 (n + 1) b d 170 15 ml st t Q = vga ml 0 (fun v => vc xs zH_170 n true d 170 16 ml (.ref v :: st) t Q) := by
  rw [vc_q (o := (2, 0, 0, 0, [])) (by decide +kernel)]; rfl
theorem v_170_16 (xs : Option (List Int32)) (n : Nat) (b : Bool) (d : Nat) (ml : List Value) (t : T) (Q : Option Value → T → Prop) (u : Nat) (r : List Value) : vc xs zH_170 (n + 1) b d 170 16 ml (.ref u :: r) t Q = (vtag u = 4 ∧ vc xs zH_170 n true d 170 19 ml (.ref (tref t u 1) :: r) t Q) := by
  rw [vc_q (o := (25, 0, 4, 1, [])) (by decide +kernel)]; rfl
theorem v_170_19 (xs : Option (List Int32)) (n : Nat) (b : Bool) (d : Nat) (ml : List Value) (t : T) (Q : Option Value → T → Prop) (st : List Value) : vc xs zH_170 (n + 1) b d 170 19 ml st t Q = vc xs zH_170 n true d 170 20 ml (.int 2 :: st) t Q := by
  rw [vc_q (o := (0, 2, 0, 0, [])) (by decide +kernel)]; rfl
theorem v_170_20 (xs : Option (List Int32)) (n : Nat) (b : Bool) (d : Nat) (ml : List Value) (t : T) (Q : Option Value → T → Prop) (st : List Value) : vc xs zH_170 (n + 1) b d 170 20 ml st t Q = vc xs zH_170 n true d 170 21 ml (.int 5 :: st) t Q := by
  rw [vc_q (o := (0, 5, 0, 0, [])) (by decide +kernel)]; rfl
theorem v_170_21 (xs : Option (List Int32)) (n : Nat) (b : Bool) (d : Nat) (ml : List Value) (t : T) (Q : Option Value → T → Prop) (st : List Value) : vc xs zH_170 (n + 1) b d 170 21 ml st t Q = vgi ml 1 (fun v => vc xs zH_170 n true d 170 22 ml (.int v :: st) t Q) := by
  rw [vc_q (o := (1, 0, 1, 0, [])) (by decide +kernel)]; rfl
theorem v_170_22 (xs : Option (List Int32)) (n : Nat) (b : Bool) (d : Nat) (ml : List Value) (t : T) (Q : Option Value → T → Prop) (u v : Int32) (r : List Value) : vc xs zH_170 (n + 1) b d 170 22 ml (.int v :: .int u :: r) t Q = vc xs zH_170 n true d 170 23 ml (.int (u * v) :: r) t Q := by
  rw [vc_q (o := (8, 0, 0, 0, [])) (by decide +kernel)]; rfl
theorem v_170_23 (xs : Option (List Int32)) (n : Nat) (b : Bool) (d : Nat) (ml : List Value) (t : T) (Q : Option Value → T → Prop) (u v : Int32) (r : List Value) : vc xs zH_170 (n + 1) b d 170 23 ml (.int v :: .int u :: r) t Q = vc xs zH_170 n true d 170 24 ml (.int (u + v) :: r) t Q := by
  rw [vc_q (o := (6, 0, 0, 0, [])) (by decide +kernel)]; rfl
theorem v_170_24 (xs : Option (List Int32)) (n : Nat) (b : Bool) (d : Nat) (ml : List Value) (t : T) (Q : Option Value → T → Prop) (st : List Value) : vc xs zH_170 (n + 1) b d 170 24 ml st t Q = vga ml 0 (fun v => vc xs zH_170 n true d 170 25 ml (.ref v :: st) t Q) := by
  rw [vc_q (o := (2, 0, 0, 0, [])) (by decide +kernel)]; rfl
theorem v_170_25 (xs : Option (List Int32)) (n : Nat) (b : Bool) (d : Nat) (ml : List Value) (t : T) (Q : Option Value → T → Prop) (u : Nat) (r : List Value) : vc xs zH_170 (n + 1) b d 170 25 ml (.ref u :: r) t Q = (vtag u = 4 ∧ vc xs zH_170 n true d 170 28 ml (.ref (tref t u 1) :: r) t Q) := by
  rw [vc_q (o := (25, 0, 4, 1, [])) (by decide +kernel)]; rfl
theorem v_170_28 (xs : Option (List Int32)) (n : Nat) (b : Bool) (d : Nat) (ml : List Value) (t : T) (Q : Option Value → T → Prop) (st : List Value) : vc xs zH_170 (n + 1) b d 170 28 ml st t Q = vc xs zH_170 n true d 170 29 ml (.int 2 :: st) t Q := by
  rw [vc_q (o := (0, 2, 0, 0, [])) (by decide +kernel)]; rfl
theorem v_170_29 (xs : Option (List Int32)) (n : Nat) (b : Bool) (d : Nat) (ml : List Value) (t : T) (Q : Option Value → T → Prop) (st : List Value) : vc xs zH_170 (n + 1) b d 170 29 ml st t Q = vc xs zH_170 n true d 170 30 ml (.int 5 :: st) t Q := by
  rw [vc_q (o := (0, 5, 0, 0, [])) (by decide +kernel)]; rfl
theorem v_170_30 (xs : Option (List Int32)) (n : Nat) (b : Bool) (d : Nat) (ml : List Value) (t : T) (Q : Option Value → T → Prop) (st : List Value) : vc xs zH_170 (n + 1) b d 170 30 ml st t Q = vgi ml 2 (fun v => vc xs zH_170 n true d 170 31 ml (.int v :: st) t Q) := by
  rw [vc_q (o := (1, 0, 2, 0, [])) (by decide +kernel)]; rfl
theorem v_170_31 (xs : Option (List Int32)) (n : Nat) (b : Bool) (d : Nat) (ml : List Value) (t : T) (Q : Option Value → T → Prop) (u v : Int32) (r : List Value) : vc xs zH_170 (n + 1) b d 170 31 ml (.int v :: .int u :: r) t Q = vc xs zH_170 n true d 170 32 ml (.int (u * v) :: r) t Q := by
  rw [vc_q (o := (8, 0, 0, 0, [])) (by decide +kernel)]; rfl
theorem v_170_32 (xs : Option (List Int32)) (n : Nat) (b : Bool) (d : Nat) (ml : List Value) (t : T) (Q : Option Value → T → Prop) (u v : Int32) (r : List Value) : vc xs zH_170 (n + 1) b d 170 32 ml (.int v :: .int u :: r) t Q = vc xs zH_170 n true d 170 33 ml (.int (u + v) :: r) t Q := by
  rw [vc_q (o := (6, 0, 0, 0, [])) (by decide +kernel)]; rfl
theorem v_170_33 (xs : Option (List Int32)) (n : Nat) (b : Bool) (d : Nat) (ml : List Value) (t : T) (Q : Option Value → T → Prop) (st : List Value) : vc xs zH_170 (n + 1) b d 170 33 ml st t Q = vc xs zH_170 n true d 170 34 ml (.int 5 :: st) t Q := by
  rw [vc_q (o := (0, 5, 0, 0, [])) (by decide +kernel)]; rfl
theorem v_170_34 (xs : Option (List Int32)) (n : Nat) (b : Bool) (d : Nat) (ml : List Value) (t : T) (Q : Option Value → T → Prop) (k dp : Int32) (w : Nat) (sp : Int32) (u : Nat) (r : List Value) : vc xs zH_170 (n + 1) b d 170 34 ml (.int k :: .int dp :: .ref w :: .int sp :: .ref u :: r) t Q = (vtag u = 100 ∧ vtag w = 100 ∧ ¬ sp < 0 ∧ ¬ dp < 0 ∧ ¬ k < 0 ∧ sp.toNatClampNeg + k.toNatClampNeg ≤ vlen u ∧ dp.toNatClampNeg + k.toNatClampNeg ≤ vlen w ∧ r.length ≤ 8 ∧ r.all zc1 = true ∧ vc xs zH_170 n true d 170 37 ml r (tcp t u sp.toNatClampNeg w dp.toNatClampNeg k.toNatClampNeg) Q) := by
  rw [vc_q (o := (38, 0, 0, 0, [])) (by decide +kernel)]; rfl
theorem v_170_37 (xs : Option (List Int32)) (n : Nat) (b : Bool) (d : Nat) (ml : List Value) (t : T) (Q : Option Value → T → Prop) (st : List Value) : vc xs zH_170 (n + 1) b d 170 37 ml st t Q = vc xs zH_170 n true d 170 39 ml (.int 6 :: st) t Q := by
  rw [vc_q (o := (0, 6, 1, 0, [])) (by decide +kernel)]; rfl
theorem v_170_39 (xs : Option (List Int32)) (n : Nat) (b : Bool) (d : Nat) (ml : List Value) (t : T) (Q : Option Value → T → Prop) (v : Int32) (r : List Value) : vc xs zH_170 (n + 1) b d 170 39 ml (.int v :: r) t Q = vset ml 3 (.int v) (fun l => vc xs zH_170 n true d 170 40 l r t Q) := by
  rw [vc_q (o := (3, 0, 3, 0, [])) (by decide +kernel)]; rfl
theorem v_170_40 (xs : Option (List Int32)) (n : Nat) (d : Nat) (ml : List Value) (t : T) (Q : Option Value → T → Prop) (st : List Value) : vc xs zH_170 (n + 1) false d 170 40 ml st t Q = vgi ml 3 (fun v => vc xs zH_170 n true d 170 41 ml (.int v :: st) t Q) := by
  rw [vc_q (o := (1, 0, 3, 0, [])) (by decide +kernel)]; rfl
theorem h_170_40 (xs : Option (List Int32)) (n d : Nat) (ml st : List Value) (t : T) (Q : Option Value → T → Prop) : vc xs zH_170 (n + 1) true d 170 40 ml st t Q = twp xs d 170 40 ml st t Q := id rfl
theorem v_170_41 (xs : Option (List Int32)) (n : Nat) (b : Bool) (d : Nat) (ml : List Value) (t : T) (Q : Option Value → T → Prop) (st : List Value) : vc xs zH_170 (n + 1) b d 170 41 ml st t Q = vc xs zH_170 n true d 170 43 ml (.int 8 :: st) t Q := by
  rw [vc_q (o := (0, 8, 1, 0, [])) (by decide +kernel)]; rfl
theorem v_170_43 (xs : Option (List Int32)) (n : Nat) (b : Bool) (d : Nat) (ml : List Value) (t : T) (Q : Option Value → T → Prop) (u v : Int32) (r : List Value) : vc xs zH_170 (n + 1) b d 170 43 ml (.int v :: .int u :: r) t Q = (if u < v then vc xs zH_170 n true d 170 46 ml r t Q else vc xs zH_170 n true d 170 113 ml r t Q) := by
  rw [vc_q (o := (20, 0, 113, 3, [])) (by decide +kernel)]; rfl
theorem v_170_46 (xs : Option (List Int32)) (n : Nat) (b : Bool) (d : Nat) (ml : List Value) (t : T) (Q : Option Value → T → Prop) (st : List Value) : vc xs zH_170 (n + 1) b d 170 46 ml st t Q = vc xs zH_170 n true d 170 47 ml (.int 0 :: st) t Q := by
  rw [vc_q (o := (0, 0, 0, 0, [])) (by decide +kernel)]; rfl
theorem v_170_47 (xs : Option (List Int32)) (n : Nat) (b : Bool) (d : Nat) (ml : List Value) (t : T) (Q : Option Value → T → Prop) (v : Int32) (r : List Value) : vc xs zH_170 (n + 1) b d 170 47 ml (.int v :: r) t Q = vset ml 4 (.int v) (fun l => vc xs zH_170 n true d 170 49 l r t Q) := by
  rw [vc_q (o := (3, 0, 4, 1, [])) (by decide +kernel)]; rfl
theorem v_170_49 (xs : Option (List Int32)) (n : Nat) (d : Nat) (ml : List Value) (t : T) (Q : Option Value → T → Prop) (st : List Value) : vc xs zH_170 (n + 1) false d 170 49 ml st t Q = vgi ml 4 (fun v => vc xs zH_170 n true d 170 51 ml (.int v :: st) t Q) := by
  rw [vc_q (o := (1, 0, 4, 1, [])) (by decide +kernel)]; rfl
theorem h_170_49 (xs : Option (List Int32)) (n d : Nat) (ml st : List Value) (t : T) (Q : Option Value → T → Prop) : vc xs zH_170 (n + 1) true d 170 49 ml st t Q = twp xs d 170 49 ml st t Q := id rfl
theorem v_170_51 (xs : Option (List Int32)) (n : Nat) (b : Bool) (d : Nat) (ml : List Value) (t : T) (Q : Option Value → T → Prop) (st : List Value) : vc xs zH_170 (n + 1) b d 170 51 ml st t Q = vgi ml 2 (fun v => vc xs zH_170 n true d 170 52 ml (.int v :: st) t Q) := by
  rw [vc_q (o := (1, 0, 2, 0, [])) (by decide +kernel)]; rfl
theorem v_170_52 (xs : Option (List Int32)) (n : Nat) (b : Bool) (d : Nat) (ml : List Value) (t : T) (Q : Option Value → T → Prop) (u v : Int32) (r : List Value) : vc xs zH_170 (n + 1) b d 170 52 ml (.int v :: .int u :: r) t Q = (if u < v then vc xs zH_170 n true d 170 55 ml r t Q else vc xs zH_170 n true d 170 93 ml r t Q) := by
  rw [vc_q (o := (20, 0, 93, 3, [])) (by decide +kernel)]; rfl
theorem v_170_55 (xs : Option (List Int32)) (n : Nat) (b : Bool) (d : Nat) (ml : List Value) (t : T) (Q : Option Value → T → Prop) (st : List Value) : vc xs zH_170 (n + 1) b d 170 55 ml st t Q = vga ml 0 (fun v => vc xs zH_170 n true d 170 56 ml (.ref v :: st) t Q) := by
  rw [vc_q (o := (2, 0, 0, 0, [])) (by decide +kernel)]; rfl
theorem v_170_56 (xs : Option (List Int32)) (n : Nat) (b : Bool) (d : Nat) (ml : List Value) (t : T) (Q : Option Value → T → Prop) (st : List Value) : vc xs zH_170 (n + 1) b d 170 56 ml st t Q = vgi ml 3 (fun v => vc xs zH_170 n true d 170 57 ml (.int v :: st) t Q) := by
  rw [vc_q (o := (1, 0, 3, 0, [])) (by decide +kernel)]; rfl
theorem v_170_57 (xs : Option (List Int32)) (n : Nat) (b : Bool) (d : Nat) (ml : List Value) (t : T) (Q : Option Value → T → Prop) (st : List Value) : vc xs zH_170 (n + 1) b d 170 57 ml st t Q = vgi ml 2 (fun v => vc xs zH_170 n true d 170 58 ml (.int v :: st) t Q) := by
  rw [vc_q (o := (1, 0, 2, 0, [])) (by decide +kernel)]; rfl
theorem v_170_58 (xs : Option (List Int32)) (n : Nat) (b : Bool) (d : Nat) (ml : List Value) (t : T) (Q : Option Value → T → Prop) (st : List Value) : vc xs zH_170 (n + 1) b d 170 58 ml st t Q = vgi ml 4 (fun v => vc xs zH_170 n true d 170 60 ml (.int v :: st) t Q) := by
  rw [vc_q (o := (1, 0, 4, 1, [])) (by decide +kernel)]; rfl
theorem v_170_60 (xs : Option (List Int32)) (n : Nat) (b : Bool) (d : Nat) (ml : List Value) (t : T) (Q : Option Value → T → Prop) (st : List Value) : vc xs zH_170 (n + 1) b d 170 60 ml st t Q = vga ml 0 (fun v => vc xs zH_170 n true d 170 61 ml (.ref v :: st) t Q) := by
  rw [vc_q (o := (2, 0, 0, 0, [])) (by decide +kernel)]; rfl
theorem v_170_61 (xs : Option (List Int32)) (n : Nat) (b : Bool) (d : Nat) (ml : List Value) (t : T) (Q : Option Value → T → Prop) (st : List Value) : vc xs zH_170 (n + 1) b d 170 61 ml st t Q = vgi ml 3 (fun v => vc xs zH_170 n true d 170 62 ml (.int v :: st) t Q) := by
  rw [vc_q (o := (1, 0, 3, 0, [])) (by decide +kernel)]; rfl
theorem v_170_62 (xs : Option (List Int32)) (n : Nat) (b : Bool) (d : Nat) (ml : List Value) (t : T) (Q : Option Value → T → Prop) (st : List Value) : vc xs zH_170 (n + 1) b d 170 62 ml st t Q = vgi ml 1 (fun v => vc xs zH_170 n true d 170 63 ml (.int v :: st) t Q) := by
  rw [vc_q (o := (1, 0, 1, 0, [])) (by decide +kernel)]; rfl
theorem v_170_63 (xs : Option (List Int32)) (n : Nat) (b : Bool) (d : Nat) (ml : List Value) (t : T) (Q : Option Value → T → Prop) (st : List Value) : vc xs zH_170 (n + 1) b d 170 63 ml st t Q = vgi ml 4 (fun v => vc xs zH_170 n true d 170 65 ml (.int v :: st) t Q) := by
  rw [vc_q (o := (1, 0, 4, 1, [])) (by decide +kernel)]; rfl
theorem v_170_65 (xs : Option (List Int32)) (n : Nat) (b : Bool) (d : Nat) (ml : List Value) (t : T) (Q : Option Value → T → Prop) (st : List Value) : vc xs zH_170 (n + 1) b d 170 65 ml st t Q = (st.all zc1 = true ∧ vtk 4 st [] (fun as rest => rest.length ≤ 8 ∧ vrc as 4 (twc d 162 as t (fun r t' => vc xs zH_170 n true d 170 68 ml (r.toList ++ rest) t' Q)))) := by
  rw [vc_q (o := (36, 0, 162, 3, [(0, 4)])) (by decide +kernel)]; rfl
theorem v_170_68 (xs : Option (List Int32)) (n : Nat) (b : Bool) (d : Nat) (ml : List Value) (t : T) (Q : Option Value → T → Prop) (st : List Value) : vc xs zH_170 (n + 1) b d 170 68 ml st t Q = (st.all zc1 = true ∧ vtk 5 st [] (fun as rest => rest.length ≤ 8 ∧ vrc as 4 (twc d 163 as t (fun r t' => vc xs zH_170 n true d 170 71 ml (r.toList ++ rest) t' Q)))) := by
  rw [vc_q (o := (36, 0, 163, 4, [(0, 4)])) (by decide +kernel)]; rfl
theorem v_170_71 (xs : Option (List Int32)) (n : Nat) (b : Bool) (d : Nat) (ml : List Value) (t : T) (Q : Option Value → T → Prop) (st : List Value) : vc xs zH_170 (n + 1) b d 170 71 ml st t Q = vga ml 0 (fun v => vc xs zH_170 n true d 170 72 ml (.ref v :: st) t Q) := by
  rw [vc_q (o := (2, 0, 0, 0, [])) (by decide +kernel)]; rfl
theorem v_170_72 (xs : Option (List Int32)) (n : Nat) (b : Bool) (d : Nat) (ml : List Value) (t : T) (Q : Option Value → T → Prop) (st : List Value) : vc xs zH_170 (n + 1) b d 170 72 ml st t Q = vgi ml 3 (fun v => vc xs zH_170 n true d 170 73 ml (.int v :: st) t Q) := by
  rw [vc_q (o := (1, 0, 3, 0, [])) (by decide +kernel)]; rfl
theorem v_170_73 (xs : Option (List Int32)) (n : Nat) (b : Bool) (d : Nat) (ml : List Value) (t : T) (Q : Option Value → T → Prop) (st : List Value) : vc xs zH_170 (n + 1) b d 170 73 ml st t Q = vgi ml 4 (fun v => vc xs zH_170 n true d 170 75 ml (.int v :: st) t Q) := by
  rw [vc_q (o := (1, 0, 4, 1, [])) (by decide +kernel)]; rfl
theorem v_170_75 (xs : Option (List Int32)) (n : Nat) (b : Bool) (d : Nat) (ml : List Value) (t : T) (Q : Option Value → T → Prop) (st : List Value) : vc xs zH_170 (n + 1) b d 170 75 ml st t Q = vgi ml 2 (fun v => vc xs zH_170 n true d 170 76 ml (.int v :: st) t Q) := by
  rw [vc_q (o := (1, 0, 2, 0, [])) (by decide +kernel)]; rfl
theorem v_170_76 (xs : Option (List Int32)) (n : Nat) (b : Bool) (d : Nat) (ml : List Value) (t : T) (Q : Option Value → T → Prop) (st : List Value) : vc xs zH_170 (n + 1) b d 170 76 ml st t Q = vga ml 0 (fun v => vc xs zH_170 n true d 170 77 ml (.ref v :: st) t Q) := by
  rw [vc_q (o := (2, 0, 0, 0, [])) (by decide +kernel)]; rfl
theorem v_170_77 (xs : Option (List Int32)) (n : Nat) (b : Bool) (d : Nat) (ml : List Value) (t : T) (Q : Option Value → T → Prop) (st : List Value) : vc xs zH_170 (n + 1) b d 170 77 ml st t Q = vgi ml 3 (fun v => vc xs zH_170 n true d 170 78 ml (.int v :: st) t Q) := by
  rw [vc_q (o := (1, 0, 3, 0, [])) (by decide +kernel)]; rfl
theorem v_170_78 (xs : Option (List Int32)) (n : Nat) (b : Bool) (d : Nat) (ml : List Value) (t : T) (Q : Option Value → T → Prop) (st : List Value) : vc xs zH_170 (n + 1) b d 170 78 ml st t Q = vgi ml 4 (fun v => vc xs zH_170 n true d 170 80 ml (.int v :: st) t Q) := by
  rw [vc_q (o := (1, 0, 4, 1, [])) (by decide +kernel)]; rfl
theorem v_170_80 (xs : Option (List Int32)) (n : Nat) (b : Bool) (d : Nat) (ml : List Value) (t : T) (Q : Option Value → T → Prop) (st : List Value) : vc xs zH_170 (n + 1) b d 170 80 ml st t Q = vgi ml 1 (fun v => vc xs zH_170 n true d 170 81 ml (.int v :: st) t Q) := by
  rw [vc_q (o := (1, 0, 1, 0, [])) (by decide +kernel)]; rfl
theorem v_170_81 (xs : Option (List Int32)) (n : Nat) (b : Bool) (d : Nat) (ml : List Value) (t : T) (Q : Option Value → T → Prop) (st : List Value) : vc xs zH_170 (n + 1) b d 170 81 ml st t Q = (st.all zc1 = true ∧ vtk 4 st [] (fun as rest => rest.length ≤ 8 ∧ vrc as 4 (twc d 162 as t (fun r t' => vc xs zH_170 n true d 170 84 ml (r.toList ++ rest) t' Q)))) := by
  rw [vc_q (o := (36, 0, 162, 3, [(0, 4)])) (by decide +kernel)]; rfl
theorem v_170_84 (xs : Option (List Int32)) (n : Nat) (b : Bool) (d : Nat) (ml : List Value) (t : T) (Q : Option Value → T → Prop) (st : List Value) : vc xs zH_170 (n + 1) b d 170 84 ml st t Q = (st.all zc1 = true ∧ vtk 5 st [] (fun as rest => rest.length ≤ 8 ∧ vrc as 4 (twc d 163 as t (fun r t' => vc xs zH_170 n true d 170 87 ml (r.toList ++ rest) t' Q)))) := by
  rw [vc_q (o := (36, 0, 163, 4, [(0, 4)])) (by decide +kernel)]; rfl
theorem v_170_87 (xs : Option (List Int32)) (n : Nat) (b : Bool) (d : Nat) (ml : List Value) (t : T) (Q : Option Value → T → Prop) (st : List Value) : vc xs zH_170 (n + 1) b d 170 87 ml st t Q = vgi ml 4 (fun v => vset ml 4 (.int (v + 1)) (fun l => vc xs zH_170 n true d 170 90 l st t Q)) := by
  rw [vc_q (o := (5, 1, 4, 0, [])) (by decide +kernel)]; rfl
theorem v_170_90 (xs : Option (List Int32)) (n : Nat) (b : Bool) (d : Nat) (ml : List Value) (t : T) (Q : Option Value → T → Prop) (st : List Value) : vc xs zH_170 (n + 1) b d 170 90 ml st t Q = vc xs zH_170 n true d 170 49 ml st t Q := by
  rw [vc_q (o := (22, 0, 49, 0, [])) (by decide +kernel)]; rfl
theorem v_170_93 (xs : Option (List Int32)) (n : Nat) (b : Bool) (d : Nat) (ml : List Value) (t : T) (Q : Option Value → T → Prop) (st : List Value) : vc xs zH_170 (n + 1) b d 170 93 ml st t Q = vga ml 0 (fun v => vc xs zH_170 n true d 170 94 ml (.ref v :: st) t Q) := by
  rw [vc_q (o := (2, 0, 0, 0, [])) (by decide +kernel)]; rfl
theorem v_170_94 (xs : Option (List Int32)) (n : Nat) (b : Bool) (d : Nat) (ml : List Value) (t : T) (Q : Option Value → T → Prop) (st : List Value) : vc xs zH_170 (n + 1) b d 170 94 ml st t Q = vgi ml 3 (fun v => vc xs zH_170 n true d 170 95 ml (.int v :: st) t Q) := by
  rw [vc_q (o := (1, 0, 3, 0, [])) (by decide +kernel)]; rfl
theorem v_170_95 (xs : Option (List Int32)) (n : Nat) (b : Bool) (d : Nat) (ml : List Value) (t : T) (Q : Option Value → T → Prop) (st : List Value) : vc xs zH_170 (n + 1) b d 170 95 ml st t Q = vgi ml 2 (fun v => vc xs zH_170 n true d 170 96 ml (.int v :: st) t Q) := by
  rw [vc_q (o := (1, 0, 2, 0, [])) (by decide +kernel)]; rfl
theorem v_170_96 (xs : Option (List Int32)) (n : Nat) (b : Bool) (d : Nat) (ml : List Value) (t : T) (Q : Option Value → T → Prop) (st : List Value) : vc xs zH_170 (n + 1) b d 170 96 ml st t Q = vgi ml 2 (fun v => vc xs zH_170 n true d 170 97 ml (.int v :: st) t Q) := by
  rw [vc_q (o := (1, 0, 2, 0, [])) (by decide +kernel)]; rfl
theorem v_170_97 (xs : Option (List Int32)) (n : Nat) (b : Bool) (d : Nat) (ml : List Value) (t : T) (Q : Option Value → T → Prop) (st : List Value) : vc xs zH_170 (n + 1) b d 170 97 ml st t Q = vga ml 0 (fun v => vc xs zH_170 n true d 170 98 ml (.ref v :: st) t Q) := by
  rw [vc_q (o := (2, 0, 0, 0, [])) (by decide +kernel)]; rfl
theorem v_170_98 (xs : Option (List Int32)) (n : Nat) (b : Bool) (d : Nat) (ml : List Value) (t : T) (Q : Option Value → T → Prop) (st : List Value) : vc xs zH_170 (n + 1) b d 170 98 ml st t Q = vgi ml 3 (fun v => vc xs zH_170 n true d 170 99 ml (.int v :: st) t Q) := by
  rw [vc_q (o := (1, 0, 3, 0, [])) (by decide +kernel)]; rfl
theorem v_170_99 (xs : Option (List Int32)) (n : Nat) (b : Bool) (d : Nat) (ml : List Value) (t : T) (Q : Option Value → T → Prop) (st : List Value) : vc xs zH_170 (n + 1) b d 170 99 ml st t Q = vgi ml 1 (fun v => vc xs zH_170 n true d 170 100 ml (.int v :: st) t Q) := by
  rw [vc_q (o := (1, 0, 1, 0, [])) (by decide +kernel)]; rfl
theorem v_170_100 (xs : Option (List Int32)) (n : Nat) (b : Bool) (d : Nat) (ml : List Value) (t : T) (Q : Option Value → T → Prop) (st : List Value) : vc xs zH_170 (n + 1) b d 170 100 ml st t Q = vgi ml 1 (fun v => vc xs zH_170 n true d 170 101 ml (.int v :: st) t Q) := by
  rw [vc_q (o := (1, 0, 1, 0, [])) (by decide +kernel)]; rfl
theorem v_170_101 (xs : Option (List Int32)) (n : Nat) (b : Bool) (d : Nat) (ml : List Value) (t : T) (Q : Option Value → T → Prop) (st : List Value) : vc xs zH_170 (n + 1) b d 170 101 ml st t Q = (st.all zc1 = true ∧ vtk 4 st [] (fun as rest => rest.length ≤ 8 ∧ vrc as 4 (twc d 162 as t (fun r t' => vc xs zH_170 n true d 170 104 ml (r.toList ++ rest) t' Q)))) := by
  rw [vc_q (o := (36, 0, 162, 3, [(0, 4)])) (by decide +kernel)]; rfl
theorem v_170_104 (xs : Option (List Int32)) (n : Nat) (b : Bool) (d : Nat) (ml : List Value) (t : T) (Q : Option Value → T → Prop) (st : List Value) : vc xs zH_170 (n + 1) b d 170 104 ml st t Q = (st.all zc1 = true ∧ vtk 5 st [] (fun as rest => rest.length ≤ 8 ∧ vrc as 4 (twc d 163 as t (fun r t' => vc xs zH_170 n true d 170 107 ml (r.toList ++ rest) t' Q)))) := by
  rw [vc_q (o := (36, 0, 163, 4, [(0, 4)])) (by decide +kernel)]; rfl
theorem v_170_107 (xs : Option (List Int32)) (n : Nat) (b : Bool) (d : Nat) (ml : List Value) (t : T) (Q : Option Value → T → Prop) (st : List Value) : vc xs zH_170 (n + 1) b d 170 107 ml st t Q = vgi ml 3 (fun v => vset ml 3 (.int (v + 1)) (fun l => vc xs zH_170 n true d 170 110 l st t Q)) := by
  rw [vc_q (o := (5, 1, 3, 0, [])) (by decide +kernel)]; rfl
theorem v_170_110 (xs : Option (List Int32)) (n : Nat) (b : Bool) (d : Nat) (ml : List Value) (t : T) (Q : Option Value → T → Prop) (st : List Value) : vc xs zH_170 (n + 1) b d 170 110 ml st t Q = vc xs zH_170 n true d 170 40 ml st t Q := by
  rw [vc_q (o := (22, 0, 40, 0, [])) (by decide +kernel)]; rfl
theorem v_170_113 (xs : Option (List Int32)) (n : Nat) (b : Bool) (d : Nat) (ml : List Value) (t : T) (Q : Option Value → T → Prop)  : vc xs zH_170 (n + 1) b d 170 113 ml [] t Q = Q none t := by
  rw [vc_q (o := (43, 0, 0, 0, [])) (by decide +kernel)]; rfl
def zH_171 : List Nat := [2]
theorem v_171_0 (xs : Option (List Int32)) (n : Nat) (b : Bool) (d : Nat) (ml : List Value) (t : T) (Q : Option Value → T → Prop) (st : List Value) : vc xs zH_171 (n + 1) b d 171 0 ml st t Q = vc xs zH_171 n true d 171 1 ml (.int 0 :: st) t Q := by
  rw [vc_q (o := (0, 0, 0, 0, [])) (by decide +kernel)]; rfl
theorem v_171_1 (xs : Option (List Int32)) (n : Nat) (b : Bool) (d : Nat) (ml : List Value) (t : T) (Q : Option Value → T → Prop) (v : Int32) (r : List Value) : vc xs zH_171 (n + 1) b d 171 1 ml (.int v :: r) t Q = vset ml 1 (.int v) (fun l => vc xs zH_171 n true d 171 2 l r t Q) := by
  rw [vc_q (o := (3, 0, 1, 0, [])) (by decide +kernel)]; rfl
theorem v_171_2 (xs : Option (List Int32)) (n : Nat) (d : Nat) (ml : List Value) (t : T) (Q : Option Value → T → Prop) (st : List Value) : vc xs zH_171 (n + 1) false d 171 2 ml st t Q = vgi ml 1 (fun v => vc xs zH_171 n true d 171 3 ml (.int v :: st) t Q) := by
  rw [vc_q (o := (1, 0, 1, 0, [])) (by decide +kernel)]; rfl
theorem h_171_2 (xs : Option (List Int32)) (n d : Nat) (ml st : List Value) (t : T) (Q : Option Value → T → Prop) : vc xs zH_171 (n + 1) true d 171 2 ml st t Q = twp xs d 171 2 ml st t Q := id rfl
theorem v_171_3 (xs : Option (List Int32)) (n : Nat) (b : Bool) (d : Nat) (ml : List Value) (t : T) (Q : Option Value → T → Prop) (st : List Value) : vc xs zH_171 (n + 1) b d 171 3 ml st t Q = vga ml 0 (fun v => vc xs zH_171 n true d 171 4 ml (.ref v :: st) t Q) := by
  rw [vc_q (o := (2, 0, 0, 0, [])) (by decide +kernel)]; rfl
theorem v_171_4 (xs : Option (List Int32)) (n : Nat) (b : Bool) (d : Nat) (ml : List Value) (t : T) (Q : Option Value → T → Prop) (u : Nat) (r : List Value) : vc xs zH_171 (n + 1) b d 171 4 ml (.ref u :: r) t Q = (vtag u = 4 ∧ vc xs zH_171 n true d 171 7 ml (.int (t.1 u 0) :: r) t Q) := by
  rw [vc_q (o := (24, 0, 4, 0, [])) (by decide +kernel)]; rfl
theorem v_171_7 (xs : Option (List Int32)) (n : Nat) (b : Bool) (d : Nat) (ml : List Value) (t : T) (Q : Option Value → T → Prop) (u v : Int32) (r : List Value) : vc xs zH_171 (n + 1) b d 171 7 ml (.int v :: .int u :: r) t Q = (if u < v then vc xs zH_171 n true d 171 10 ml r t Q else vc xs zH_171 n true d 171 24 ml r t Q) := by
  rw [vc_q (o := (20, 0, 24, 3, [])) (by decide +kernel)]; rfl
theorem v_171_10 (xs : Option (List Int32)) (n : Nat) (b : Bool) (d : Nat) (ml : List Value) (t : T) (Q : Option Value → T → Prop) (st : List Value) : vc xs zH_171 (n + 1) b d 171 10 ml st t Q = vga ml 0 (fun v => vc xs zH_171 n true d 171 11 ml (.ref v :: st) t Q) := by
  rw [vc_q (o := (2, 0, 0, 0, [])) (by decide +kernel)]; rfl
theorem v_171_11 (xs : Option (List Int32)) (n : Nat) (b : Bool) (d : Nat) (ml : List Value) (t : T) (Q : Option Value → T → Prop) (st : List Value) : vc xs zH_171 (n + 1) b d 171 11 ml st t Q = vc xs zH_171 n true d 171 12 ml (.int 5 :: st) t Q := by
  rw [vc_q (o := (0, 5, 0, 0, [])) (by decide +kernel)]; rfl
theorem v_171_12 (xs : Option (List Int32)) (n : Nat) (b : Bool) (d : Nat) (ml : List Value) (t : T) (Q : Option Value → T → Prop) (st : List Value) : vc xs zH_171 (n + 1) b d 171 12 ml st t Q = vgi ml 1 (fun v => vc xs zH_171 n true d 171 13 ml (.int v :: st) t Q) := by
  rw [vc_q (o := (1, 0, 1, 0, [])) (by decide +kernel)]; rfl
theorem v_171_13 (xs : Option (List Int32)) (n : Nat) (b : Bool) (d : Nat) (ml : List Value) (t : T) (Q : Option Value → T → Prop) (st : List Value) : vc xs zH_171 (n + 1) b d 171 13 ml st t Q = vc xs zH_171 n true d 171 14 ml (.int 0 :: st) t Q := by
  rw [vc_q (o := (0, 0, 0, 0, [])) (by decide +kernel)]; rfl
theorem v_171_14 (xs : Option (List Int32)) (n : Nat) (b : Bool) (d : Nat) (ml : List Value) (t : T) (Q : Option Value → T → Prop) (st : List Value) : vc xs zH_171 (n + 1) b d 171 14 ml st t Q = vc xs zH_171 n true d 171 15 ml (.int 0 :: st) t Q := by
  rw [vc_q (o := (0, 0, 0, 0, [])) (by decide +kernel)]; rfl
theorem v_171_15 (xs : Option (List Int32)) (n : Nat) (b : Bool) (d : Nat) (ml : List Value) (t : T) (Q : Option Value → T → Prop) (st : List Value) : vc xs zH_171 (n + 1) b d 171 15 ml st t Q = (st.all zc1 = true ∧ vtk 5 st [] (fun as rest => rest.length ≤ 8 ∧ vrc as 4 (twc d 163 as t (fun r t' => vc xs zH_171 n true d 171 18 ml (r.toList ++ rest) t' Q)))) := by
  rw [vc_q (o := (36, 0, 163, 4, [(0, 4)])) (by decide +kernel)]; rfl
theorem v_171_18 (xs : Option (List Int32)) (n : Nat) (b : Bool) (d : Nat) (ml : List Value) (t : T) (Q : Option Value → T → Prop) (st : List Value) : vc xs zH_171 (n + 1) b d 171 18 ml st t Q = vgi ml 1 (fun v => vset ml 1 (.int (v + 1)) (fun l => vc xs zH_171 n true d 171 21 l st t Q)) := by
  rw [vc_q (o := (5, 1, 1, 0, [])) (by decide +kernel)]; rfl
theorem v_171_21 (xs : Option (List Int32)) (n : Nat) (b : Bool) (d : Nat) (ml : List Value) (t : T) (Q : Option Value → T → Prop) (st : List Value) : vc xs zH_171 (n + 1) b d 171 21 ml st t Q = vc xs zH_171 n true d 171 2 ml st t Q := by
  rw [vc_q (o := (22, 0, 2, 0, [])) (by decide +kernel)]; rfl
theorem v_171_24 (xs : Option (List Int32)) (n : Nat) (b : Bool) (d : Nat) (ml : List Value) (t : T) (Q : Option Value → T → Prop) (st : List Value) : vc xs zH_171 (n + 1) b d 171 24 ml st t Q = vga ml 0 (fun v => vc xs zH_171 n true d 171 25 ml (.ref v :: st) t Q) := by
  rw [vc_q (o := (2, 0, 0, 0, [])) (by decide +kernel)]; rfl
theorem v_171_25 (xs : Option (List Int32)) (n : Nat) (b : Bool) (d : Nat) (ml : List Value) (t : T) (Q : Option Value → T → Prop) (st : List Value) : vc xs zH_171 (n + 1) b d 171 25 ml st t Q = vc xs zH_171 n true d 171 26 ml (.int 5 :: st) t Q := by
  rw [vc_q (o := (0, 5, 0, 0, [])) (by decide +kernel)]; rfl
theorem v_171_26 (xs : Option (List Int32)) (n : Nat) (b : Bool) (d : Nat) (ml : List Value) (t : T) (Q : Option Value → T → Prop) (st : List Value) : vc xs zH_171 (n + 1) b d 171 26 ml st t Q = vga ml 0 (fun v => vc xs zH_171 n true d 171 27 ml (.ref v :: st) t Q) := by
  rw [vc_q (o := (2, 0, 0, 0, [])) (by decide +kernel)]; rfl
theorem v_171_27 (xs : Option (List Int32)) (n : Nat) (b : Bool) (d : Nat) (ml : List Value) (t : T) (Q : Option Value → T → Prop) (u : Nat) (r : List Value) : vc xs zH_171 (n + 1) b d 171 27 ml (.ref u :: r) t Q = (vtag u = 4 ∧ vc xs zH_171 n true d 171 30 ml (.int (t.1 u 0) :: r) t Q) := by
  rw [vc_q (o := (24, 0, 4, 0, [])) (by decide +kernel)]; rfl
theorem v_171_30 (xs : Option (List Int32)) (n : Nat) (b : Bool) (d : Nat) (ml : List Value) (t : T) (Q : Option Value → T → Prop) (st : List Value) : vc xs zH_171 (n + 1) b d 171 30 ml st t Q = vc xs zH_171 n true d 171 31 ml (.int 0 :: st) t Q := by
  rw [vc_q (o := (0, 0, 0, 0, [])) (by decide +kernel)]; rfl
theorem v_171_31 (xs : Option (List Int32)) (n : Nat) (b : Bool) (d : Nat) (ml : List Value) (t : T) (Q : Option Value → T → Prop) (st : List Value) : vc xs zH_171 (n + 1) b d 171 31 ml st t Q = vc xs zH_171 n true d 171 32 ml (.int 1 :: st) t Q := by
  rw [vc_q (o := (0, 1, 0, 0, [])) (by decide +kernel)]; rfl
theorem v_171_32 (xs : Option (List Int32)) (n : Nat) (b : Bool) (d : Nat) (ml : List Value) (t : T) (Q : Option Value → T → Prop) (st : List Value) : vc xs zH_171 (n + 1) b d 171 32 ml st t Q = (st.all zc1 = true ∧ vtk 5 st [] (fun as rest => rest.length ≤ 8 ∧ vrc as 4 (twc d 163 as t (fun r t' => vc xs zH_171 n true d 171 35 ml (r.toList ++ rest) t' Q)))) := by
  rw [vc_q (o := (36, 0, 163, 4, [(0, 4)])) (by decide +kernel)]; rfl
theorem v_171_35 (xs : Option (List Int32)) (n : Nat) (b : Bool) (d : Nat) (ml : List Value) (t : T) (Q : Option Value → T → Prop) (st : List Value) : vc xs zH_171 (n + 1) b d 171 35 ml st t Q = vga ml 0 (fun v => vc xs zH_171 n true d 171 36 ml (.ref v :: st) t Q) := by
  rw [vc_q (o := (2, 0, 0, 0, [])) (by decide +kernel)]; rfl
theorem v_171_36_int (xs : Option (List Int32)) (n : Nat) (b : Bool) (d : Nat) (ml : List Value) (t : T) (Q : Option Value → T → Prop) (v : Int32) (r : List Value) : vc xs zH_171 (n + 1) b d 171 36 ml (.int v :: r) t Q = vc xs zH_171 n true d 171 37 ml (.int v :: .int v :: r) t Q := by
  rw [vc_q (o := (17, 0, 0, 0, [])) (by decide +kernel)]; rfl
theorem v_171_36_ref (xs : Option (List Int32)) (n : Nat) (b : Bool) (d : Nat) (ml : List Value) (t : T) (Q : Option Value → T → Prop) (v : Nat) (r : List Value) : vc xs zH_171 (n + 1) b d 171 36 ml (.ref v :: r) t Q = vc xs zH_171 n true d 171 37 ml (.ref v :: .ref v :: r) t Q := by
  rw [vc_q (o := (17, 0, 0, 0, [])) (by decide +kernel)]; rfl
theorem v_171_37 (xs : Option (List Int32)) (n : Nat) (b : Bool) (d : Nat) (ml : List Value) (t : T) (Q : Option Value → T → Prop) (u : Nat) (r : List Value) : vc xs zH_171 (n + 1) b d 171 37 ml (.ref u :: r) t Q = (vtag u = 4 ∧ vc xs zH_171 n true d 171 40 ml (.int (t.1 u 0) :: r) t Q) := by
  rw [vc_q (o := (24, 0, 4, 0, [])) (by decide +kernel)]; rfl
theorem v_171_40 (xs : Option (List Int32)) (n : Nat) (b : Bool) (d : Nat) (ml : List Value) (t : T) (Q : Option Value → T → Prop) (st : List Value) : vc xs zH_171 (n + 1) b d 171 40 ml st t Q = vc xs zH_171 n true d 171 41 ml (.int 1 :: st) t Q := by
  rw [vc_q (o := (0, 1, 0, 0, [])) (by decide +kernel)]; rfl
theorem v_171_41 (xs : Option (List Int32)) (n : Nat) (b : Bool) (d : Nat) (ml : List Value) (t : T) (Q : Option Value → T → Prop) (u v : Int32) (r : List Value) : vc xs zH_171 (n + 1) b d 171 41 ml (.int v :: .int u :: r) t Q = vc xs zH_171 n true d 171 42 ml (.int (u + v) :: r) t Q := by
  rw [vc_q (o := (6, 0, 0, 0, [])) (by decide +kernel)]; rfl
theorem v_171_42 (xs : Option (List Int32)) (n : Nat) (b : Bool) (d : Nat) (ml : List Value) (t : T) (Q : Option Value → T → Prop) (v : Int32) (u : Nat) (r : List Value) : vc xs zH_171 (n + 1) b d 171 42 ml (.int v :: .ref u :: r) t Q = (vtag u = 4 ∧ vc xs zH_171 n true d 171 45 ml r (tsi t u 0 v) Q) := by
  rw [vc_q (o := (26, 0, 4, 0, [])) (by decide +kernel)]; rfl
theorem v_171_45 (xs : Option (List Int32)) (n : Nat) (b : Bool) (d : Nat) (ml : List Value) (t : T) (Q : Option Value → T → Prop)  : vc xs zH_171 (n + 1) b d 171 45 ml [] t Q = Q none t := by
  rw [vc_q (o := (43, 0, 0, 0, [])) (by decide +kernel)]; rfl
def zH_172 : List Nat := [5]
theorem v_172_0 (xs : Option (List Int32)) (n : Nat) (b : Bool) (d : Nat) (ml : List Value) (t : T) (Q : Option Value → T → Prop) (st : List Value) : vc xs zH_172 (n + 1) b d 172 0 ml st t Q = vc xs zH_172 n true d 172 1 ml (.int 0 :: st) t Q := by
  rw [vc_q (o := (0, 0, 0, 0, [])) (by decide +kernel)]; rfl
theorem v_172_1 (xs : Option (List Int32)) (n : Nat) (b : Bool) (d : Nat) (ml : List Value) (t : T) (Q : Option Value → T → Prop) (v : Int32) (r : List Value) : vc xs zH_172 (n + 1) b d 172 1 ml (.int v :: r) t Q = vset ml 2 (.int v) (fun l => vc xs zH_172 n true d 172 2 l r t Q) := by
  rw [vc_q (o := (3, 0, 2, 0, [])) (by decide +kernel)]; rfl
theorem v_172_2 (xs : Option (List Int32)) (n : Nat) (b : Bool) (d : Nat) (ml : List Value) (t : T) (Q : Option Value → T → Prop) (st : List Value) : vc xs zH_172 (n + 1) b d 172 2 ml st t Q = vga ml 0 (fun v => vc xs zH_172 n true d 172 3 ml (.ref v :: st) t Q) := by
  rw [vc_q (o := (2, 0, 0, 0, [])) (by decide +kernel)]; rfl
theorem v_172_3 (xs : Option (List Int32)) (n : Nat) (b : Bool) (d : Nat) (ml : List Value) (t : T) (Q : Option Value → T → Prop) (u : Nat) (r : List Value) : vc xs zH_172 (n + 1) b d 172 3 ml (.ref u :: r) t Q = (100 ≤ vtag u ∧ vtag u < 108 ∧ vc xs zH_172 n true d 172 4 ml (.int (Int32.ofNat (vlen u)) :: r) t Q) := by
  rw [vc_q (o := (35, 0, 0, 0, [])) (by decide +kernel)]; rfl
theorem v_172_4 (xs : Option (List Int32)) (n : Nat) (b : Bool) (d : Nat) (ml : List Value) (t : T) (Q : Option Value → T → Prop) (v : Int32) (r : List Value) : vc xs zH_172 (n + 1) b d 172 4 ml (.int v :: r) t Q = vset ml 3 (.int v) (fun l => vc xs zH_172 n true d 172 5 l r t Q) := by
  rw [vc_q (o := (3, 0, 3, 0, [])) (by decide +kernel)]; rfl
theorem v_172_5 (xs : Option (List Int32)) (n : Nat) (d : Nat) (ml : List Value) (t : T) (Q : Option Value → T → Prop) (st : List Value) : vc xs zH_172 (n + 1) false d 172 5 ml st t Q = vgi ml 2 (fun v => vc xs zH_172 n true d 172 6 ml (.int v :: st) t Q) := by
  rw [vc_q (o := (1, 0, 2, 0, [])) (by decide +kernel)]; rfl
theorem h_172_5 (xs : Option (List Int32)) (n d : Nat) (ml st : List Value) (t : T) (Q : Option Value → T → Prop) : vc xs zH_172 (n + 1) true d 172 5 ml st t Q = twp xs d 172 5 ml st t Q := id rfl
theorem v_172_6 (xs : Option (List Int32)) (n : Nat) (b : Bool) (d : Nat) (ml : List Value) (t : T) (Q : Option Value → T → Prop) (st : List Value) : vc xs zH_172 (n + 1) b d 172 6 ml st t Q = vgi ml 3 (fun v => vc xs zH_172 n true d 172 7 ml (.int v :: st) t Q) := by
  rw [vc_q (o := (1, 0, 3, 0, [])) (by decide +kernel)]; rfl
theorem v_172_7 (xs : Option (List Int32)) (n : Nat) (b : Bool) (d : Nat) (ml : List Value) (t : T) (Q : Option Value → T → Prop) (u v : Int32) (r : List Value) : vc xs zH_172 (n + 1) b d 172 7 ml (.int v :: .int u :: r) t Q = (if u < v then vc xs zH_172 n true d 172 10 ml r t Q else vc xs zH_172 n true d 172 20 ml r t Q) := by
  rw [vc_q (o := (20, 0, 20, 3, [])) (by decide +kernel)]; rfl
theorem v_172_10 (xs : Option (List Int32)) (n : Nat) (b : Bool) (d : Nat) (ml : List Value) (t : T) (Q : Option Value → T → Prop) (st : List Value) : vc xs zH_172 (n + 1) b d 172 10 ml st t Q = vga ml 0 (fun v => vc xs zH_172 n true d 172 11 ml (.ref v :: st) t Q) := by
  rw [vc_q (o := (2, 0, 0, 0, [])) (by decide +kernel)]; rfl
theorem v_172_11 (xs : Option (List Int32)) (n : Nat) (b : Bool) (d : Nat) (ml : List Value) (t : T) (Q : Option Value → T → Prop) (st : List Value) : vc xs zH_172 (n + 1) b d 172 11 ml st t Q = vgi ml 2 (fun v => vc xs zH_172 n true d 172 12 ml (.int v :: st) t Q) := by
  rw [vc_q (o := (1, 0, 2, 0, [])) (by decide +kernel)]; rfl
theorem v_172_12 (xs : Option (List Int32)) (n : Nat) (b : Bool) (d : Nat) (ml : List Value) (t : T) (Q : Option Value → T → Prop) (st : List Value) : vc xs zH_172 (n + 1) b d 172 12 ml st t Q = vgi ml 1 (fun v => vc xs zH_172 n true d 172 13 ml (.int v :: st) t Q) := by
  rw [vc_q (o := (1, 0, 1, 0, [])) (by decide +kernel)]; rfl
theorem v_172_13 (xs : Option (List Int32)) (n : Nat) (b : Bool) (d : Nat) (ml : List Value) (t : T) (Q : Option Value → T → Prop) (w v : Int32) (u : Nat) (r : List Value) : vc xs zH_172 (n + 1) b d 172 13 ml (.int w :: .int v :: .ref u :: r) t Q = (vtag u = 100 ∧ vinb v (vlen u) ∧ vc xs zH_172 n true d 172 14 ml r (tsi t u v.toNatClampNeg w) Q) := by
  rw [vc_q (o := (32, 0, 0, 0, [])) (by decide +kernel)]; rfl
theorem v_172_14 (xs : Option (List Int32)) (n : Nat) (b : Bool) (d : Nat) (ml : List Value) (t : T) (Q : Option Value → T → Prop) (st : List Value) : vc xs zH_172 (n + 1) b d 172 14 ml st t Q = vgi ml 2 (fun v => vset ml 2 (.int (v + 1)) (fun l => vc xs zH_172 n true d 172 17 l st t Q)) := by
  rw [vc_q (o := (5, 1, 2, 0, [])) (by decide +kernel)]; rfl
theorem v_172_17 (xs : Option (List Int32)) (n : Nat) (b : Bool) (d : Nat) (ml : List Value) (t : T) (Q : Option Value → T → Prop) (st : List Value) : vc xs zH_172 (n + 1) b d 172 17 ml st t Q = vc xs zH_172 n true d 172 5 ml st t Q := by
  rw [vc_q (o := (22, 0, 5, 0, [])) (by decide +kernel)]; rfl
theorem v_172_20 (xs : Option (List Int32)) (n : Nat) (b : Bool) (d : Nat) (ml : List Value) (t : T) (Q : Option Value → T → Prop)  : vc xs zH_172 (n + 1) b d 172 20 ml [] t Q = Q none t := by
  rw [vc_q (o := (43, 0, 0, 0, [])) (by decide +kernel)]; rfl
def zH_173 : List Nat := [10]
theorem v_173_0 (xs : Option (List Int32)) (n : Nat) (b : Bool) (d : Nat) (ml : List Value) (t : T) (Q : Option Value → T → Prop) (st : List Value) : vc xs zH_173 (n + 1) b d 173 0 ml st t Q = vga ml 0 (fun v => vc xs zH_173 n true d 173 1 ml (.ref v :: st) t Q) := by
  rw [vc_q (o := (2, 0, 0, 0, [])) (by decide +kernel)]; rfl
theorem v_173_1 (xs : Option (List Int32)) (n : Nat) (b : Bool) (d : Nat) (ml : List Value) (t : T) (Q : Option Value → T → Prop) (u : Nat) (r : List Value) : vc xs zH_173 (n + 1) b d 173 1 ml (.ref u :: r) t Q = (100 ≤ vtag u ∧ vtag u < 108 ∧ vc xs zH_173 n true d 173 2 ml (.int (Int32.ofNat (vlen u)) :: r) t Q) := by
  rw [vc_q (o := (35, 0, 0, 0, [])) (by decide +kernel)]; rfl
theorem v_173_2 (xs : Option (List Int32)) (n : Nat) (b : Bool) (d : Nat) (ml : List Value) (t : T) (Q : Option Value → T → Prop) (st : List Value) : vc xs zH_173 (n + 1) b d 173 2 ml st t Q = vgi ml 1 (fun v => vc xs zH_173 n true d 173 3 ml (.int v :: st) t Q) := by
  rw [vc_q (o := (1, 0, 1, 0, [])) (by decide +kernel)]; rfl
theorem v_173_3 (xs : Option (List Int32)) (n : Nat) (b : Bool) (d : Nat) (ml : List Value) (t : T) (Q : Option Value → T → Prop) (st : List Value) : vc xs zH_173 (n + 1) b d 173 3 ml st t Q = vgi ml 2 (fun v => vc xs zH_173 n true d 173 4 ml (.int v :: st) t Q) := by
  rw [vc_q (o := (1, 0, 2, 0, [])) (by decide +kernel)]; rfl
theorem v_173_4 (xs : Option (List Int32)) (n : Nat) (b : Bool) (d : Nat) (ml : List Value) (t : T) (Q : Option Value → T → Prop) (st : List Value) : vc xs zH_173 (n + 1) b d 173 4 ml st t Q = (st.all zc1 = true ∧ vtk 3 st [] (fun as rest => rest.length ≤ 8 ∧ twc d 174 as t (fun r t' => vc xs zH_173 n true d 173 7 ml (r.toList ++ rest) t' Q))) := by
  rw [vc_q (o := (37, 0, 174, 3, [])) (by decide +kernel)]; rfl
theorem v_173_7 (xs : Option (List Int32)) (n : Nat) (b : Bool) (d : Nat) (ml : List Value) (t : T) (Q : Option Value → T → Prop) (st : List Value) : vc xs zH_173 (n + 1) b d 173 7 ml st t Q = vgi ml 1 (fun v => vc xs zH_173 n true d 173 8 ml (.int v :: st) t Q) := by
  rw [vc_q (o := (1, 0, 1, 0, [])) (by decide +kernel)]; rfl
theorem v_173_8 (xs : Option (List Int32)) (n : Nat) (b : Bool) (d : Nat) (ml : List Value) (t : T) (Q : Option Value → T → Prop) (v : Int32) (r : List Value) : vc xs zH_173 (n + 1) b d 173 8 ml (.int v :: r) t Q = vset ml 4 (.int v) (fun l => vc xs zH_173 n true d 173 10 l r t Q) := by
  rw [vc_q (o := (3, 0, 4, 1, [])) (by decide +kernel)]; rfl
theorem v_173_10 (xs : Option (List Int32)) (n : Nat) (d : Nat) (ml : List Value) (t : T) (Q : Option Value → T → Prop) (st : List Value) : vc xs zH_173 (n + 1) false d 173 10 ml st t Q = vgi ml 4 (fun v => vc xs zH_173 n true d 173 12 ml (.int v :: st) t Q) := by
  rw [vc_q (o := (1, 0, 4, 1, [])) (by decide +kernel)]; rfl
theorem h_173_10 (xs : Option (List Int32)) (n d : Nat) (ml st : List Value) (t : T) (Q : Option Value → T → Prop) : vc xs zH_173 (n + 1) true d 173 10 ml st t Q = twp xs d 173 10 ml st t Q := id rfl
theorem v_173_12 (xs : Option (List Int32)) (n : Nat) (b : Bool) (d : Nat) (ml : List Value) (t : T) (Q : Option Value → T → Prop) (st : List Value) : vc xs zH_173 (n + 1) b d 173 12 ml st t Q = vgi ml 2 (fun v => vc xs zH_173 n true d 173 13 ml (.int v :: st) t Q) := by
  rw [vc_q (o := (1, 0, 2, 0, [])) (by decide +kernel)]; rfl
theorem v_173_13 (xs : Option (List Int32)) (n : Nat) (b : Bool) (d : Nat) (ml : List Value) (t : T) (Q : Option Value → T → Prop) (u v : Int32) (r : List Value) : vc xs zH_173 (n + 1) b d 173 13 ml (.int v :: .int u :: r) t Q = (if u < v then vc xs zH_173 n true d 173 16 ml r t Q else vc xs zH_173 n true d 173 27 ml r t Q) := by
  rw [vc_q (o := (20, 0, 27, 3, [])) (by decide +kernel)]; rfl
theorem v_173_16 (xs : Option (List Int32)) (n : Nat) (b : Bool) (d : Nat) (ml : List Value) (t : T) (Q : Option Value → T → Prop) (st : List Value) : vc xs zH_173 (n + 1) b d 173 16 ml st t Q = vga ml 0 (fun v => vc xs zH_173 n true d 173 17 ml (.ref v :: st) t Q) := by
  rw [vc_q (o := (2, 0, 0, 0, [])) (by decide +kernel)]; rfl
theorem v_173_17 (xs : Option (List Int32)) (n : Nat) (b : Bool) (d : Nat) (ml : List Value) (t : T) (Q : Option Value → T → Prop) (st : List Value) : vc xs zH_173 (n + 1) b d 173 17 ml st t Q = vgi ml 4 (fun v => vc xs zH_173 n true d 173 19 ml (.int v :: st) t Q) := by
  rw [vc_q (o := (1, 0, 4, 1, [])) (by decide +kernel)]; rfl
theorem v_173_19 (xs : Option (List Int32)) (n : Nat) (b : Bool) (d : Nat) (ml : List Value) (t : T) (Q : Option Value → T → Prop) (st : List Value) : vc xs zH_173 (n + 1) b d 173 19 ml st t Q = vgi ml 3 (fun v => vc xs zH_173 n true d 173 20 ml (.int v :: st) t Q) := by
  rw [vc_q (o := (1, 0, 3, 0, [])) (by decide +kernel)]; rfl
theorem v_173_20 (xs : Option (List Int32)) (n : Nat) (b : Bool) (d : Nat) (ml : List Value) (t : T) (Q : Option Value → T → Prop) (w v : Int32) (u : Nat) (r : List Value) : vc xs zH_173 (n + 1) b d 173 20 ml (.int w :: .int v :: .ref u :: r) t Q = (vtag u = 100 ∧ vinb v (vlen u) ∧ vc xs zH_173 n true d 173 21 ml r (tsi t u v.toNatClampNeg w) Q) := by
  rw [vc_q (o := (32, 0, 0, 0, [])) (by decide +kernel)]; rfl
theorem v_173_21 (xs : Option (List Int32)) (n : Nat) (b : Bool) (d : Nat) (ml : List Value) (t : T) (Q : Option Value → T → Prop) (st : List Value) : vc xs zH_173 (n + 1) b d 173 21 ml st t Q = vgi ml 4 (fun v => vset ml 4 (.int (v + 1)) (fun l => vc xs zH_173 n true d 173 24 l st t Q)) := by
  rw [vc_q (o := (5, 1, 4, 0, [])) (by decide +kernel)]; rfl
theorem v_173_24 (xs : Option (List Int32)) (n : Nat) (b : Bool) (d : Nat) (ml : List Value) (t : T) (Q : Option Value → T → Prop) (st : List Value) : vc xs zH_173 (n + 1) b d 173 24 ml st t Q = vc xs zH_173 n true d 173 10 ml st t Q := by
  rw [vc_q (o := (22, 0, 10, 0, [])) (by decide +kernel)]; rfl
theorem v_173_27 (xs : Option (List Int32)) (n : Nat) (b : Bool) (d : Nat) (ml : List Value) (t : T) (Q : Option Value → T → Prop)  : vc xs zH_173 (n + 1) b d 173 27 ml [] t Q = Q none t := by
  rw [vc_q (o := (43, 0, 0, 0, [])) (by decide +kernel)]; rfl
def zH_174 : List Nat := []
theorem v_174_0 (xs : Option (List Int32)) (n : Nat) (b : Bool) (d : Nat) (ml : List Value) (t : T) (Q : Option Value → T → Prop) (st : List Value) : vc xs zH_174 (n + 1) b d 174 0 ml st t Q = vgi ml 1 (fun v => vc xs zH_174 n true d 174 1 ml (.int v :: st) t Q) := by
  rw [vc_q (o := (1, 0, 1, 0, [])) (by decide +kernel)]; rfl
theorem v_174_1 (xs : Option (List Int32)) (n : Nat) (b : Bool) (d : Nat) (ml : List Value) (t : T) (Q : Option Value → T → Prop) (st : List Value) : vc xs zH_174 (n + 1) b d 174 1 ml st t Q = vgi ml 2 (fun v => vc xs zH_174 n true d 174 2 ml (.int v :: st) t Q) := by
  rw [vc_q (o := (1, 0, 2, 0, [])) (by decide +kernel)]; rfl
theorem v_174_2 (xs : Option (List Int32)) (n : Nat) (b : Bool) (d : Nat) (ml : List Value) (t : T) (Q : Option Value → T → Prop) (u v : Int32) (r : List Value) : vc xs zH_174 (n + 1) b d 174 2 ml (.int v :: .int u :: r) t Q = (if v < u then vc xs zH_174 n true d 174 5 ml r t Q else vc xs zH_174 n true d 174 46 ml r t Q) := by
  rw [vc_q (o := (20, 0, 46, 5, [])) (by decide +kernel)]; rfl
theorem v_174_8_int (xs : Option (List Int32)) (n : Nat) (b : Bool) (d : Nat) (ml : List Value) (t : T) (Q : Option Value → T → Prop) (v : Int32) (r : List Value) : vc xs zH_174 (n + 1) b d 174 8 ml (.int v :: r) t Q = vc xs zH_174 n true d 174 9 ml (.int v :: .int v :: r) t Q := by
  rw [vc_q (o := (17, 0, 0, 0, [])) (by decide +kernel)]; rfl
theorem v_174_8_ref (xs : Option (List Int32)) (n : Nat) (b : Bool) (d : Nat) (ml : List Value) (t : T) (Q : Option Value → T → Prop) (v : Nat) (r : List Value) : vc xs zH_174 (n + 1) b d 174 8 ml (.ref v :: r) t Q = vc xs zH_174 n true d 174 9 ml (.ref v :: .ref v :: r) t Q := by
  rw [vc_q (o := (17, 0, 0, 0, [])) (by decide +kernel)]; rfl
theorem v_174_12_int (xs : Option (List Int32)) (n : Nat) (b : Bool) (d : Nat) (ml : List Value) (t : T) (Q : Option Value → T → Prop) (v : Int32) (r : List Value) : vc xs zH_174 (n + 1) b d 174 12 ml (.int v :: r) t Q = vc xs zH_174 n true d 174 13 ml (.int v :: .int v :: r) t Q := by
  rw [vc_q (o := (17, 0, 0, 0, [])) (by decide +kernel)]; rfl
theorem v_174_12_ref (xs : Option (List Int32)) (n : Nat) (b : Bool) (d : Nat) (ml : List Value) (t : T) (Q : Option Value → T → Prop) (v : Nat) (r : List Value) : vc xs zH_174 (n + 1) b d 174 12 ml (.ref v :: r) t Q = vc xs zH_174 n true d 174 13 ml (.ref v :: .ref v :: r) t Q := by
  rw [vc_q (o := (17, 0, 0, 0, [])) (by decide +kernel)]; rfl
theorem v_174_21 (xs : Option (List Int32)) (n : Nat) (b : Bool) (d : Nat) (ml : List Value) (t : T) (Q : Option Value → T → Prop) (st : List Value) : vc xs zH_174 (n + 1) b d 174 21 ml st t Q = vgi ml 1 (fun v => vc xs zH_174 n true d 174 22 ml (.int v :: st) t Q) := by
  rw [vc_q (o := (1, 0, 1, 0, [])) (by decide +kernel)]; rfl
theorem v_174_30 (xs : Option (List Int32)) (n : Nat) (b : Bool) (d : Nat) (ml : List Value) (t : T) (Q : Option Value → T → Prop) (st : List Value) : vc xs zH_174 (n + 1) b d 174 30 ml st t Q = vgi ml 2 (fun v => vc xs zH_174 n true d 174 31 ml (.int v :: st) t Q) := by
  rw [vc_q (o := (1, 0, 2, 0, [])) (by decide +kernel)]; rfl
theorem v_174_46 (xs : Option (List Int32)) (n : Nat) (b : Bool) (d : Nat) (ml : List Value) (t : T) (Q : Option Value → T → Prop) (st : List Value) : vc xs zH_174 (n + 1) b d 174 46 ml st t Q = vgi ml 1 (fun v => vc xs zH_174 n true d 174 47 ml (.int v :: st) t Q) := by
  rw [vc_q (o := (1, 0, 1, 0, [])) (by decide +kernel)]; rfl
theorem v_174_47 (xs : Option (List Int32)) (n : Nat) (b : Bool) (d : Nat) (ml : List Value) (t : T) (Q : Option Value → T → Prop) (u : Int32) (r : List Value) : vc xs zH_174 (n + 1) b d 174 47 ml (.int u :: r) t Q = (if u < 0 then vc xs zH_174 n true d 174 50 ml r t Q else vc xs zH_174 n true d 174 59 ml r t Q) := by
  rw [vc_q (o := (21, 0, 59, 3, [])) (by decide +kernel)]; rfl
theorem v_174_53_int (xs : Option (List Int32)) (n : Nat) (b : Bool) (d : Nat) (ml : List Value) (t : T) (Q : Option Value → T → Prop) (v : Int32) (r : List Value) : vc xs zH_174 (n + 1) b d 174 53 ml (.int v :: r) t Q = vc xs zH_174 n true d 174 54 ml (.int v :: .int v :: r) t Q := by
  rw [vc_q (o := (17, 0, 0, 0, [])) (by decide +kernel)]; rfl
theorem v_174_53_ref (xs : Option (List Int32)) (n : Nat) (b : Bool) (d : Nat) (ml : List Value) (t : T) (Q : Option Value → T → Prop) (v : Nat) (r : List Value) : vc xs zH_174 (n + 1) b d 174 53 ml (.ref v :: r) t Q = vc xs zH_174 n true d 174 54 ml (.ref v :: .ref v :: r) t Q := by
  rw [vc_q (o := (17, 0, 0, 0, [])) (by decide +kernel)]; rfl
theorem v_174_54 (xs : Option (List Int32)) (n : Nat) (b : Bool) (d : Nat) (ml : List Value) (t : T) (Q : Option Value → T → Prop) (st : List Value) : vc xs zH_174 (n + 1) b d 174 54 ml st t Q = vgi ml 1 (fun v => vc xs zH_174 n true d 174 55 ml (.int v :: st) t Q) := by
  rw [vc_q (o := (1, 0, 1, 0, [])) (by decide +kernel)]; rfl
theorem v_174_59 (xs : Option (List Int32)) (n : Nat) (b : Bool) (d : Nat) (ml : List Value) (t : T) (Q : Option Value → T → Prop) (st : List Value) : vc xs zH_174 (n + 1) b d 174 59 ml st t Q = vgi ml 2 (fun v => vc xs zH_174 n true d 174 60 ml (.int v :: st) t Q) := by
  rw [vc_q (o := (1, 0, 2, 0, [])) (by decide +kernel)]; rfl
theorem v_174_60 (xs : Option (List Int32)) (n : Nat) (b : Bool) (d : Nat) (ml : List Value) (t : T) (Q : Option Value → T → Prop) (st : List Value) : vc xs zH_174 (n + 1) b d 174 60 ml st t Q = vgi ml 0 (fun v => vc xs zH_174 n true d 174 61 ml (.int v :: st) t Q) := by
  rw [vc_q (o := (1, 0, 0, 0, [])) (by decide +kernel)]; rfl
theorem v_174_61 (xs : Option (List Int32)) (n : Nat) (b : Bool) (d : Nat) (ml : List Value) (t : T) (Q : Option Value → T → Prop) (u v : Int32) (r : List Value) : vc xs zH_174 (n + 1) b d 174 61 ml (.int v :: .int u :: r) t Q = (if v < u then vc xs zH_174 n true d 174 64 ml r t Q else vc xs zH_174 n true d 174 73 ml r t Q) := by
  rw [vc_q (o := (20, 0, 73, 5, [])) (by decide +kernel)]; rfl
theorem v_174_67_int (xs : Option (List Int32)) (n : Nat) (b : Bool) (d : Nat) (ml : List Value) (t : T) (Q : Option Value → T → Prop) (v : Int32) (r : List Value) : vc xs zH_174 (n + 1) b d 174 67 ml (.int v :: r) t Q = vc xs zH_174 n true d 174 68 ml (.int v :: .int v :: r) t Q := by
  rw [vc_q (o := (17, 0, 0, 0, [])) (by decide +kernel)]; rfl
theorem v_174_67_ref (xs : Option (List Int32)) (n : Nat) (b : Bool) (d : Nat) (ml : List Value) (t : T) (Q : Option Value → T → Prop) (v : Nat) (r : List Value) : vc xs zH_174 (n + 1) b d 174 67 ml (.ref v :: r) t Q = vc xs zH_174 n true d 174 68 ml (.ref v :: .ref v :: r) t Q := by
  rw [vc_q (o := (17, 0, 0, 0, [])) (by decide +kernel)]; rfl
theorem v_174_68 (xs : Option (List Int32)) (n : Nat) (b : Bool) (d : Nat) (ml : List Value) (t : T) (Q : Option Value → T → Prop) (st : List Value) : vc xs zH_174 (n + 1) b d 174 68 ml st t Q = vgi ml 2 (fun v => vc xs zH_174 n true d 174 69 ml (.int v :: st) t Q) := by
  rw [vc_q (o := (1, 0, 2, 0, [])) (by decide +kernel)]; rfl
theorem v_174_73 (xs : Option (List Int32)) (n : Nat) (b : Bool) (d : Nat) (ml : List Value) (t : T) (Q : Option Value → T → Prop)  : vc xs zH_174 (n + 1) b d 174 73 ml [] t Q = Q none t := by
  rw [vc_q (o := (43, 0, 0, 0, [])) (by decide +kernel)]; rfl
def zH_175 : List Nat := [18]
theorem v_175_3_int (lx : List Int32) (n : Nat) (b : Bool) (d : Nat) (ml : List Value) (t : T) (Q : Option Value → T → Prop) (v : Int32) (r : List Value) : vc (some lx) zH_175 (n + 1) b d 175 3 ml (.int v :: r) t Q = vc (some lx) zH_175 n true d 175 4 ml (.int v :: .int v :: r) t Q := by
  rw [vc_q (o := (17, 0, 0, 0, [])) (by decide +kernel)]; rfl
theorem v_175_3_ref (lx : List Int32) (n : Nat) (b : Bool) (d : Nat) (ml : List Value) (t : T) (Q : Option Value → T → Prop) (v : Nat) (r : List Value) : vc (some lx) zH_175 (n + 1) b d 175 3 ml (.ref v :: r) t Q = vc (some lx) zH_175 n true d 175 4 ml (.ref v :: .ref v :: r) t Q := by
  rw [vc_q (o := (17, 0, 0, 0, [])) (by decide +kernel)]; rfl
theorem v_175_7 (lx : List Int32) (n : Nat) (b : Bool) (d : Nat) (ml : List Value) (t : T) (Q : Option Value → T → Prop) (v : Nat) (r : List Value) : vc (some lx) zH_175 (n + 1) b d 175 7 ml (.ref v :: r) t Q = vset ml 1 (.ref v) (fun l => vc (some lx) zH_175 n true d 175 8 l r t Q) := by
  rw [vc_q (o := (4, 0, 1, 0, [])) (by decide +kernel)]; rfl
theorem v_175_11_int (lx : List Int32) (n : Nat) (b : Bool) (d : Nat) (ml : List Value) (t : T) (Q : Option Value → T → Prop) (v : Int32) (r : List Value) : vc (some lx) zH_175 (n + 1) b d 175 11 ml (.int v :: r) t Q = vc (some lx) zH_175 n true d 175 12 ml (.int v :: .int v :: r) t Q := by
  rw [vc_q (o := (17, 0, 0, 0, [])) (by decide +kernel)]; rfl
theorem v_175_11_ref (lx : List Int32) (n : Nat) (b : Bool) (d : Nat) (ml : List Value) (t : T) (Q : Option Value → T → Prop) (v : Nat) (r : List Value) : vc (some lx) zH_175 (n + 1) b d 175 11 ml (.ref v :: r) t Q = vc (some lx) zH_175 n true d 175 12 ml (.ref v :: .ref v :: r) t Q := by
  rw [vc_q (o := (17, 0, 0, 0, [])) (by decide +kernel)]; rfl
theorem v_175_15 (lx : List Int32) (n : Nat) (b : Bool) (d : Nat) (ml : List Value) (t : T) (Q : Option Value → T → Prop) (v : Nat) (r : List Value) : vc (some lx) zH_175 (n + 1) b d 175 15 ml (.ref v :: r) t Q = vset ml 2 (.ref v) (fun l => vc (some lx) zH_175 n true d 175 16 l r t Q) := by
  rw [vc_q (o := (4, 0, 2, 0, [])) (by decide +kernel)]; rfl
theorem v_175_16 (lx : List Int32) (n : Nat) (b : Bool) (d : Nat) (ml : List Value) (t : T) (Q : Option Value → T → Prop) (st : List Value) : vc (some lx) zH_175 (n + 1) b d 175 16 ml st t Q = vc (some lx) zH_175 n true d 175 17 ml (.int 0 :: st) t Q := by
  rw [vc_q (o := (0, 0, 0, 0, [])) (by decide +kernel)]; rfl
theorem v_175_17 (lx : List Int32) (n : Nat) (b : Bool) (d : Nat) (ml : List Value) (t : T) (Q : Option Value → T → Prop) (v : Int32) (r : List Value) : vc (some lx) zH_175 (n + 1) b d 175 17 ml (.int v :: r) t Q = vset ml 3 (.int v) (fun l => vc (some lx) zH_175 n true d 175 18 l r t Q) := by
  rw [vc_q (o := (3, 0, 3, 0, [])) (by decide +kernel)]; rfl
theorem v_175_18 (lx : List Int32) (n : Nat) (d : Nat) (ml : List Value) (t : T) (Q : Option Value → T → Prop) (st : List Value) : vc (some lx) zH_175 (n + 1) false d 175 18 ml st t Q = vgi ml 3 (fun v => vc (some lx) zH_175 n true d 175 19 ml (.int v :: st) t Q) := by
  rw [vc_q (o := (1, 0, 3, 0, [])) (by decide +kernel)]; rfl
theorem h_175_18 (xs : Option (List Int32)) (n d : Nat) (ml st : List Value) (t : T) (Q : Option Value → T → Prop) : vc xs zH_175 (n + 1) true d 175 18 ml st t Q = twp xs d 175 18 ml st t Q := id rfl
theorem v_175_19 (lx : List Int32) (n : Nat) (b : Bool) (d : Nat) (ml : List Value) (t : T) (Q : Option Value → T → Prop) (st : List Value) : vc (some lx) zH_175 (n + 1) b d 175 19 ml st t Q = vga ml 0 (fun v => vc (some lx) zH_175 n true d 175 20 ml (.ref v :: st) t Q) := by
  rw [vc_q (o := (2, 0, 0, 0, [])) (by decide +kernel)]; rfl
theorem v_175_20 (lx : List Int32) (n : Nat) (b : Bool) (d : Nat) (ml : List Value) (t : T) (Q : Option Value → T → Prop) (u : Nat) (r : List Value) : vc (some lx) zH_175 (n + 1) b d 175 20 ml (.ref u :: r) t Q = (u = zSCR ∧ vc (some lx) zH_175 n true d 175 21 ml (.int (Int32.ofNat lx.length) :: r) t Q) := by
  rw [vc_q (o := (45, 0, 0, 0, [])) (by decide +kernel)]; rfl
theorem v_175_21 (lx : List Int32) (n : Nat) (b : Bool) (d : Nat) (ml : List Value) (t : T) (Q : Option Value → T → Prop) (st : List Value) : vc (some lx) zH_175 (n + 1) b d 175 21 ml st t Q = vc (some lx) zH_175 n true d 175 23 ml (.int 6 :: st) t Q := by
  rw [vc_q (o := (0, 6, 1, 0, [])) (by decide +kernel)]; rfl
theorem v_175_23 (lx : List Int32) (n : Nat) (b : Bool) (d : Nat) (ml : List Value) (t : T) (Q : Option Value → T → Prop) (u v : Int32) (r : List Value) : vc (some lx) zH_175 (n + 1) b d 175 23 ml (.int v :: .int u :: r) t Q = vc (some lx) zH_175 n true d 175 24 ml (.int (u - v) :: r) t Q := by
  rw [vc_q (o := (7, 0, 0, 0, [])) (by decide +kernel)]; rfl
theorem v_175_24 (lx : List Int32) (n : Nat) (b : Bool) (d : Nat) (ml : List Value) (t : T) (Q : Option Value → T → Prop) (u v : Int32) (r : List Value) : vc (some lx) zH_175 (n + 1) b d 175 24 ml (.int v :: .int u :: r) t Q = (if v < u then vc (some lx) zH_175 n true d 175 937 ml r t Q else vc (some lx) zH_175 n true d 175 27 ml r t Q) := by
  rw [vc_q (o := (20, 0, 937, 4, [])) (by decide +kernel)]; rfl
theorem v_175_27 (lx : List Int32) (n : Nat) (b : Bool) (d : Nat) (ml : List Value) (t : T) (Q : Option Value → T → Prop) (st : List Value) : vc (some lx) zH_175 (n + 1) b d 175 27 ml st t Q = vga ml 0 (fun v => vc (some lx) zH_175 n true d 175 28 ml (.ref v :: st) t Q) := by
  rw [vc_q (o := (2, 0, 0, 0, [])) (by decide +kernel)]; rfl
theorem v_175_28 (lx : List Int32) (n : Nat) (b : Bool) (d : Nat) (ml : List Value) (t : T) (Q : Option Value → T → Prop) (st : List Value) : vc (some lx) zH_175 (n + 1) b d 175 28 ml st t Q = vgi ml 3 (fun v => vc (some lx) zH_175 n true d 175 29 ml (.int v :: st) t Q) := by
  rw [vc_q (o := (1, 0, 3, 0, [])) (by decide +kernel)]; rfl
theorem v_175_29 (lx : List Int32) (n : Nat) (b : Bool) (d : Nat) (ml : List Value) (t : T) (Q : Option Value → T → Prop) (v : Int32) (u : Nat) (r : List Value) : vc (some lx) zH_175 (n + 1) b d 175 29 ml (.int v :: .ref u :: r) t Q = (u = zSCR ∧ vinb v lx.length ∧ vc (some lx) zH_175 n true d 175 30 ml (.int (lx.getD v.toNatClampNeg 0) :: r) t Q) := by
  rw [vc_q (o := (44, 0, 0, 0, [])) (by decide +kernel)]; rfl
theorem v_175_30 (lx : List Int32) (n : Nat) (b : Bool) (d : Nat) (ml : List Value) (t : T) (Q : Option Value → T → Prop) (st : List Value) : vc (some lx) zH_175 (n + 1) b d 175 30 ml st t Q = vc (some lx) zH_175 n true d 175 32 ml (.int 31 :: st) t Q := by
  rw [vc_q (o := (0, 31, 1, 0, [])) (by decide +kernel)]; rfl
theorem v_175_32 (lx : List Int32) (n : Nat) (b : Bool) (d : Nat) (ml : List Value) (t : T) (Q : Option Value → T → Prop) (u v : Int32) (r : List Value) : vc (some lx) zH_175 (n + 1) b d 175 32 ml (.int v :: .int u :: r) t Q = vc (some lx) zH_175 n true d 175 33 ml (.int (u &&& v) :: r) t Q := by
  rw [vc_q (o := (9, 0, 0, 0, [])) (by decide +kernel)]; rfl
theorem v_175_33 (lx : List Int32) (n : Nat) (b : Bool) (d : Nat) (ml : List Value) (t : T) (Q : Option Value → T → Prop) (u : Int32) (r : List Value) : vc (some lx) zH_175 (n + 1) b d 175 33 ml (.int u :: r) t Q = vsw (fun p => vc (some lx) zH_175 n true d 175 p ml r t Q) u [(0, 132), (1, 165), (2, 224), (3, 287), (4, 340), (5, 363), (6, 426), (7, 449), (8, 502), (9, 525), (10, 558), (11, 601), (12, 624), (13, 677), (14, 720), (15, 753), (16, 786), (17, 819), (18, 832), (19, 855), (20, 898)] 931 := by
  rw [vc_q (o := (23, 0, 931, 0, [(0, 132), (1, 165), (2, 224), (3, 287), (4, 340), (5, 363), (6, 426), (7, 449), (8, 502), (9, 525), (10, 558), (11, 601), (12, 624), (13, 677), (14, 720), (15, 753), (16, 786), (17, 819), (18, 832), (19, 855), (20, 898)])) (by decide +kernel)]; rfl
theorem v_175_132 (lx : List Int32) (n : Nat) (b : Bool) (d : Nat) (ml : List Value) (t : T) (Q : Option Value → T → Prop) (st : List Value) : vc (some lx) zH_175 (n + 1) b d 175 132 ml st t Q = vga ml 1 (fun v => vc (some lx) zH_175 n true d 175 133 ml (.ref v :: st) t Q) := by
  rw [vc_q (o := (2, 0, 1, 0, [])) (by decide +kernel)]; rfl
theorem v_175_133 (lx : List Int32) (n : Nat) (b : Bool) (d : Nat) (ml : List Value) (t : T) (Q : Option Value → T → Prop) (st : List Value) : vc (some lx) zH_175 (n + 1) b d 175 133 ml st t Q = vga ml 0 (fun v => vc (some lx) zH_175 n true d 175 134 ml (.ref v :: st) t Q) := by
  rw [vc_q (o := (2, 0, 0, 0, [])) (by decide +kernel)]; rfl
theorem v_175_134 (lx : List Int32) (n : Nat) (b : Bool) (d : Nat) (ml : List Value) (t : T) (Q : Option Value → T → Prop) (st : List Value) : vc (some lx) zH_175 (n + 1) b d 175 134 ml st t Q = vgi ml 3 (fun v => vc (some lx) zH_175 n true d 175 135 ml (.int v :: st) t Q) := by
  rw [vc_q (o := (1, 0, 3, 0, [])) (by decide +kernel)]; rfl
theorem v_175_135 (lx : List Int32) (n : Nat) (b : Bool) (d : Nat) (ml : List Value) (t : T) (Q : Option Value → T → Prop) (st : List Value) : vc (some lx) zH_175 (n + 1) b d 175 135 ml st t Q = vc (some lx) zH_175 n true d 175 136 ml (.int 1 :: st) t Q := by
  rw [vc_q (o := (0, 1, 0, 0, [])) (by decide +kernel)]; rfl
theorem v_175_136 (lx : List Int32) (n : Nat) (b : Bool) (d : Nat) (ml : List Value) (t : T) (Q : Option Value → T → Prop) (u v : Int32) (r : List Value) : vc (some lx) zH_175 (n + 1) b d 175 136 ml (.int v :: .int u :: r) t Q = vc (some lx) zH_175 n true d 175 137 ml (.int (u + v) :: r) t Q := by
  rw [vc_q (o := (6, 0, 0, 0, [])) (by decide +kernel)]; rfl
theorem v_175_137 (lx : List Int32) (n : Nat) (b : Bool) (d : Nat) (ml : List Value) (t : T) (Q : Option Value → T → Prop) (v : Int32) (u : Nat) (r : List Value) : vc (some lx) zH_175 (n + 1) b d 175 137 ml (.int v :: .ref u :: r) t Q = (u = zSCR ∧ vinb v lx.length ∧ vc (some lx) zH_175 n true d 175 138 ml (.int (lx.getD v.toNatClampNeg 0) :: r) t Q) := by
  rw [vc_q (o := (44, 0, 0, 0, [])) (by decide +kernel)]; rfl
theorem v_175_138 (lx : List Int32) (n : Nat) (b : Bool) (d : Nat) (ml : List Value) (t : T) (Q : Option Value → T → Prop) (st : List Value) : vc (some lx) zH_175 (n + 1) b d 175 138 ml st t Q = vga ml 0 (fun v => vc (some lx) zH_175 n true d 175 139 ml (.ref v :: st) t Q) := by
  rw [vc_q (o := (2, 0, 0, 0, [])) (by decide +kernel)]; rfl
theorem v_175_139 (lx : List Int32) (n : Nat) (b : Bool) (d : Nat) (ml : List Value) (t : T) (Q : Option Value → T → Prop) (st : List Value) : vc (some lx) zH_175 (n + 1) b d 175 139 ml st t Q = vgi ml 3 (fun v => vc (some lx) zH_175 n true d 175 140 ml (.int v :: st) t Q) := by
  rw [vc_q (o := (1, 0, 3, 0, [])) (by decide +kernel)]; rfl
theorem v_175_140 (lx : List Int32) (n : Nat) (b : Bool) (d : Nat) (ml : List Value) (t : T) (Q : Option Value → T → Prop) (st : List Value) : vc (some lx) zH_175 (n + 1) b d 175 140 ml st t Q = vc (some lx) zH_175 n true d 175 141 ml (.int 2 :: st) t Q := by
  rw [vc_q (o := (0, 2, 0, 0, [])) (by decide +kernel)]; rfl
theorem v_175_141 (lx : List Int32) (n : Nat) (b : Bool) (d : Nat) (ml : List Value) (t : T) (Q : Option Value → T → Prop) (u v : Int32) (r : List Value) : vc (some lx) zH_175 (n + 1) b d 175 141 ml (.int v :: .int u :: r) t Q = vc (some lx) zH_175 n true d 175 142 ml (.int (u + v) :: r) t Q := by
  rw [vc_q (o := (6, 0, 0, 0, [])) (by decide +kernel)]; rfl
theorem v_175_142 (lx : List Int32) (n : Nat) (b : Bool) (d : Nat) (ml : List Value) (t : T) (Q : Option Value → T → Prop) (v : Int32) (u : Nat) (r : List Value) : vc (some lx) zH_175 (n + 1) b d 175 142 ml (.int v :: .ref u :: r) t Q = (u = zSCR ∧ vinb v lx.length ∧ vc (some lx) zH_175 n true d 175 143 ml (.int (lx.getD v.toNatClampNeg 0) :: r) t Q) := by
  rw [vc_q (o := (44, 0, 0, 0, [])) (by decide +kernel)]; rfl
theorem v_175_143 (lx : List Int32) (n : Nat) (b : Bool) (d : Nat) (ml : List Value) (t : T) (Q : Option Value → T → Prop) (st : List Value) : vc (some lx) zH_175 (n + 1) b d 175 143 ml st t Q = (st.all zc1 = true ∧ vtk 3 st [] (fun as rest => rest.length ≤ 8 ∧ vrc as 0 (twc d 1 as t (fun r t' => vc (some lx) zH_175 n true d 175 146 ml (r.toList ++ rest) t' Q)))) := by
  rw [vc_q (o := (36, 0, 1, 2, [(0, 0)])) (by decide +kernel)]; rfl
theorem v_175_146 (lx : List Int32) (n : Nat) (b : Bool) (d : Nat) (ml : List Value) (t : T) (Q : Option Value → T → Prop) (st : List Value) : vc (some lx) zH_175 (n + 1) b d 175 146 ml st t Q = vga ml 2 (fun v => vc (some lx) zH_175 n true d 175 147 ml (.ref v :: st) t Q) := by
  rw [vc_q (o := (2, 0, 2, 0, [])) (by decide +kernel)]; rfl
theorem v_175_147 (lx : List Int32) (n : Nat) (b : Bool) (d : Nat) (ml : List Value) (t : T) (Q : Option Value → T → Prop) (st : List Value) : vc (some lx) zH_175 (n + 1) b d 175 147 ml st t Q = vga ml 0 (fun v => vc (some lx) zH_175 n true d 175 148 ml (.ref v :: st) t Q) := by
  rw [vc_q (o := (2, 0, 0, 0, [])) (by decide +kernel)]; rfl
theorem v_175_148 (lx : List Int32) (n : Nat) (b : Bool) (d : Nat) (ml : List Value) (t : T) (Q : Option Value → T → Prop) (st : List Value) : vc (some lx) zH_175 (n + 1) b d 175 148 ml st t Q = vgi ml 3 (fun v => vc (some lx) zH_175 n true d 175 149 ml (.int v :: st) t Q) := by
  rw [vc_q (o := (1, 0, 3, 0, [])) (by decide +kernel)]; rfl
theorem v_175_149 (lx : List Int32) (n : Nat) (b : Bool) (d : Nat) (ml : List Value) (t : T) (Q : Option Value → T → Prop) (st : List Value) : vc (some lx) zH_175 (n + 1) b d 175 149 ml st t Q = vc (some lx) zH_175 n true d 175 150 ml (.int 1 :: st) t Q := by
  rw [vc_q (o := (0, 1, 0, 0, [])) (by decide +kernel)]; rfl
theorem v_175_150 (lx : List Int32) (n : Nat) (b : Bool) (d : Nat) (ml : List Value) (t : T) (Q : Option Value → T → Prop) (u v : Int32) (r : List Value) : vc (some lx) zH_175 (n + 1) b d 175 150 ml (.int v :: .int u :: r) t Q = vc (some lx) zH_175 n true d 175 151 ml (.int (u + v) :: r) t Q := by
  rw [vc_q (o := (6, 0, 0, 0, [])) (by decide +kernel)]; rfl
theorem v_175_151 (lx : List Int32) (n : Nat) (b : Bool) (d : Nat) (ml : List Value) (t : T) (Q : Option Value → T → Prop) (v : Int32) (u : Nat) (r : List Value) : vc (some lx) zH_175 (n + 1) b d 175 151 ml (.int v :: .ref u :: r) t Q = (u = zSCR ∧ vinb v lx.length ∧ vc (some lx) zH_175 n true d 175 152 ml (.int (lx.getD v.toNatClampNeg 0) :: r) t Q) := by
  rw [vc_q (o := (44, 0, 0, 0, [])) (by decide +kernel)]; rfl
theorem v_175_152 (lx : List Int32) (n : Nat) (b : Bool) (d : Nat) (ml : List Value) (t : T) (Q : Option Value → T → Prop) (st : List Value) : vc (some lx) zH_175 (n + 1) b d 175 152 ml st t Q = vga ml 0 (fun v => vc (some lx) zH_175 n true d 175 153 ml (.ref v :: st) t Q) := by
  rw [vc_q (o := (2, 0, 0, 0, [])) (by decide +kernel)]; rfl
theorem v_175_153 (lx : List Int32) (n : Nat) (b : Bool) (d : Nat) (ml : List Value) (t : T) (Q : Option Value → T → Prop) (st : List Value) : vc (some lx) zH_175 (n + 1) b d 175 153 ml st t Q = vgi ml 3 (fun v => vc (some lx) zH_175 n true d 175 154 ml (.int v :: st) t Q) := by
  rw [vc_q (o := (1, 0, 3, 0, [])) (by decide +kernel)]; rfl
theorem v_175_154 (lx : List Int32) (n : Nat) (b : Bool) (d : Nat) (ml : List Value) (t : T) (Q : Option Value → T → Prop) (st : List Value) : vc (some lx) zH_175 (n + 1) b d 175 154 ml st t Q = vc (some lx) zH_175 n true d 175 155 ml (.int 2 :: st) t Q := by
  rw [vc_q (o := (0, 2, 0, 0, [])) (by decide +kernel)]; rfl
theorem v_175_155 (lx : List Int32) (n : Nat) (b : Bool) (d : Nat) (ml : List Value) (t : T) (Q : Option Value → T → Prop) (u v : Int32) (r : List Value) : vc (some lx) zH_175 (n + 1) b d 175 155 ml (.int v :: .int u :: r) t Q = vc (some lx) zH_175 n true d 175 156 ml (.int (u + v) :: r) t Q := by
  rw [vc_q (o := (6, 0, 0, 0, [])) (by decide +kernel)]; rfl
theorem v_175_156 (lx : List Int32) (n : Nat) (b : Bool) (d : Nat) (ml : List Value) (t : T) (Q : Option Value → T → Prop) (v : Int32) (u : Nat) (r : List Value) : vc (some lx) zH_175 (n + 1) b d 175 156 ml (.int v :: .ref u :: r) t Q = (u = zSCR ∧ vinb v lx.length ∧ vc (some lx) zH_175 n true d 175 157 ml (.int (lx.getD v.toNatClampNeg 0) :: r) t Q) := by
  rw [vc_q (o := (44, 0, 0, 0, [])) (by decide +kernel)]; rfl
theorem v_175_157 (lx : List Int32) (n : Nat) (b : Bool) (d : Nat) (ml : List Value) (t : T) (Q : Option Value → T → Prop) (st : List Value) : vc (some lx) zH_175 (n + 1) b d 175 157 ml st t Q = (st.all zc1 = true ∧ vtk 3 st [] (fun as rest => rest.length ≤ 8 ∧ vrc as 12 (twc d 49 as t (fun r t' => vc (some lx) zH_175 n true d 175 160 ml (r.toList ++ rest) t' Q)))) := by
  rw [vc_q (o := (36, 0, 49, 2, [(0, 12)])) (by decide +kernel)]; rfl
theorem v_175_160 (lx : List Int32) (n : Nat) (b : Bool) (d : Nat) (ml : List Value) (t : T) (Q : Option Value → T → Prop) (u v : Int32) (r : List Value) : vc (some lx) zH_175 (n + 1) b d 175 160 ml (.int v :: .int u :: r) t Q = (if u = v then vc (some lx) zH_175 n true d 175 931 ml r t Q else vc (some lx) zH_175 n true d 175 163 ml r t Q) := by
  rw [vc_q (o := (20, 0, 931, 0, [])) (by decide +kernel)]; rfl
theorem v_175_163 (lx : List Int32) (n : Nat) (b : Bool) (d : Nat) (ml : List Value) (t : T) (Q : Option Value → T → Prop) (st : List Value) : vc (some lx) zH_175 (n + 1) b d 175 163 ml st t Q = vc (some lx) zH_175 n true d 175 164 ml (.int 0 :: st) t Q := by
  rw [vc_q (o := (0, 0, 0, 0, [])) (by decide +kernel)]; rfl
theorem v_175_164 (lx : List Int32) (n : Nat) (b : Bool) (d : Nat) (ml : List Value) (t : T) (Q : Option Value → T → Prop) (v : Int32) : vc (some lx) zH_175 (n + 1) b d 175 164 ml [.int v] t Q = ((v = 0 ∨ v = 1) ∧ Q (some (.int v)) t) := by
  rw [vc_q (o := (41, 0, 0, 0, [])) (by decide +kernel)]; rfl
theorem v_175_165 (lx : List Int32) (n : Nat) (b : Bool) (d : Nat) (ml : List Value) (t : T) (Q : Option Value → T → Prop) (st : List Value) : vc (some lx) zH_175 (n + 1) b d 175 165 ml st t Q = vga ml 1 (fun v => vc (some lx) zH_175 n true d 175 166 ml (.ref v :: st) t Q) := by
  rw [vc_q (o := (2, 0, 1, 0, [])) (by decide +kernel)]; rfl
theorem v_175_166 (lx : List Int32) (n : Nat) (b : Bool) (d : Nat) (ml : List Value) (t : T) (Q : Option Value → T → Prop) (st : List Value) : vc (some lx) zH_175 (n + 1) b d 175 166 ml st t Q = vga ml 0 (fun v => vc (some lx) zH_175 n true d 175 167 ml (.ref v :: st) t Q) := by
  rw [vc_q (o := (2, 0, 0, 0, [])) (by decide +kernel)]; rfl
theorem v_175_167 (lx : List Int32) (n : Nat) (b : Bool) (d : Nat) (ml : List Value) (t : T) (Q : Option Value → T → Prop) (st : List Value) : vc (some lx) zH_175 (n + 1) b d 175 167 ml st t Q = vgi ml 3 (fun v => vc (some lx) zH_175 n true d 175 168 ml (.int v :: st) t Q) := by
  rw [vc_q (o := (1, 0, 3, 0, [])) (by decide +kernel)]; rfl
theorem v_175_168 (lx : List Int32) (n : Nat) (b : Bool) (d : Nat) (ml : List Value) (t : T) (Q : Option Value → T → Prop) (st : List Value) : vc (some lx) zH_175 (n + 1) b d 175 168 ml st t Q = vc (some lx) zH_175 n true d 175 169 ml (.int 1 :: st) t Q := by
  rw [vc_q (o := (0, 1, 0, 0, [])) (by decide +kernel)]; rfl
theorem v_175_169 (lx : List Int32) (n : Nat) (b : Bool) (d : Nat) (ml : List Value) (t : T) (Q : Option Value → T → Prop) (u v : Int32) (r : List Value) : vc (some lx) zH_175 (n + 1) b d 175 169 ml (.int v :: .int u :: r) t Q = vc (some lx) zH_175 n true d 175 170 ml (.int (u + v) :: r) t Q := by
  rw [vc_q (o := (6, 0, 0, 0, [])) (by decide +kernel)]; rfl
theorem v_175_170 (lx : List Int32) (n : Nat) (b : Bool) (d : Nat) (ml : List Value) (t : T) (Q : Option Value → T → Prop) (v : Int32) (u : Nat) (r : List Value) : vc (some lx) zH_175 (n + 1) b d 175 170 ml (.int v :: .ref u :: r) t Q = (u = zSCR ∧ vinb v lx.length ∧ vc (some lx) zH_175 n true d 175 171 ml (.int (lx.getD v.toNatClampNeg 0) :: r) t Q) := by
  rw [vc_q (o := (44, 0, 0, 0, [])) (by decide +kernel)]; rfl
theorem v_175_171 (lx : List Int32) (n : Nat) (b : Bool) (d : Nat) (ml : List Value) (t : T) (Q : Option Value → T → Prop) (st : List Value) : vc (some lx) zH_175 (n + 1) b d 175 171 ml st t Q = vga ml 0 (fun v => vc (some lx) zH_175 n true d 175 172 ml (.ref v :: st) t Q) := by
  rw [vc_q (o := (2, 0, 0, 0, [])) (by decide +kernel)]; rfl
theorem v_175_172 (lx : List Int32) (n : Nat) (b : Bool) (d : Nat) (ml : List Value) (t : T) (Q : Option Value → T → Prop) (st : List Value) : vc (some lx) zH_175 (n + 1) b d 175 172 ml st t Q = vgi ml 3 (fun v => vc (some lx) zH_175 n true d 175 173 ml (.int v :: st) t Q) := by
  rw [vc_q (o := (1, 0, 3, 0, [])) (by decide +kernel)]; rfl
theorem v_175_173 (lx : List Int32) (n : Nat) (b : Bool) (d : Nat) (ml : List Value) (t : T) (Q : Option Value → T → Prop) (st : List Value) : vc (some lx) zH_175 (n + 1) b d 175 173 ml st t Q = vc (some lx) zH_175 n true d 175 174 ml (.int 2 :: st) t Q := by
  rw [vc_q (o := (0, 2, 0, 0, [])) (by decide +kernel)]; rfl
theorem v_175_174 (lx : List Int32) (n : Nat) (b : Bool) (d : Nat) (ml : List Value) (t : T) (Q : Option Value → T → Prop) (u v : Int32) (r : List Value) : vc (some lx) zH_175 (n + 1) b d 175 174 ml (.int v :: .int u :: r) t Q = vc (some lx) zH_175 n true d 175 175 ml (.int (u + v) :: r) t Q := by
  rw [vc_q (o := (6, 0, 0, 0, [])) (by decide +kernel)]; rfl
theorem v_175_175 (lx : List Int32) (n : Nat) (b : Bool) (d : Nat) (ml : List Value) (t : T) (Q : Option Value → T → Prop) (v : Int32) (u : Nat) (r : List Value) : vc (some lx) zH_175 (n + 1) b d 175 175 ml (.int v :: .ref u :: r) t Q = (u = zSCR ∧ vinb v lx.length ∧ vc (some lx) zH_175 n true d 175 176 ml (.int (lx.getD v.toNatClampNeg 0) :: r) t Q) := by
  rw [vc_q (o := (44, 0, 0, 0, [])) (by decide +kernel)]; rfl
theorem v_175_176 (lx : List Int32) (n : Nat) (b : Bool) (d : Nat) (ml : List Value) (t : T) (Q : Option Value → T → Prop) (st : List Value) : vc (some lx) zH_175 (n + 1) b d 175 176 ml st t Q = vga ml 0 (fun v => vc (some lx) zH_175 n true d 175 177 ml (.ref v :: st) t Q) := by
  rw [vc_q (o := (2, 0, 0, 0, [])) (by decide +kernel)]; rfl
theorem v_175_177 (lx : List Int32) (n : Nat) (b : Bool) (d : Nat) (ml : List Value) (t : T) (Q : Option Value → T → Prop) (st : List Value) : vc (some lx) zH_175 (n + 1) b d 175 177 ml st t Q = vgi ml 3 (fun v => vc (some lx) zH_175 n true d 175 178 ml (.int v :: st) t Q) := by
  rw [vc_q (o := (1, 0, 3, 0, [])) (by decide +kernel)]; rfl
theorem v_175_178 (lx : List Int32) (n : Nat) (b : Bool) (d : Nat) (ml : List Value) (t : T) (Q : Option Value → T → Prop) (st : List Value) : vc (some lx) zH_175 (n + 1) b d 175 178 ml st t Q = vc (some lx) zH_175 n true d 175 179 ml (.int 3 :: st) t Q := by
  rw [vc_q (o := (0, 3, 0, 0, [])) (by decide +kernel)]; rfl
theorem v_175_179 (lx : List Int32) (n : Nat) (b : Bool) (d : Nat) (ml : List Value) (t : T) (Q : Option Value → T → Prop) (u v : Int32) (r : List Value) : vc (some lx) zH_175 (n + 1) b d 175 179 ml (.int v :: .int u :: r) t Q = vc (some lx) zH_175 n true d 175 180 ml (.int (u + v) :: r) t Q := by
  rw [vc_q (o := (6, 0, 0, 0, [])) (by decide +kernel)]; rfl
theorem v_175_180 (lx : List Int32) (n : Nat) (b : Bool) (d : Nat) (ml : List Value) (t : T) (Q : Option Value → T → Prop) (v : Int32) (u : Nat) (r : List Value) : vc (some lx) zH_175 (n + 1) b d 175 180 ml (.int v :: .ref u :: r) t Q = (u = zSCR ∧ vinb v lx.length ∧ vc (some lx) zH_175 n true d 175 181 ml (.int (lx.getD v.toNatClampNeg 0) :: r) t Q) := by
  rw [vc_q (o := (44, 0, 0, 0, [])) (by decide +kernel)]; rfl
theorem v_175_181 (lx : List Int32) (n : Nat) (b : Bool) (d : Nat) (ml : List Value) (t : T) (Q : Option Value → T → Prop) (u : Int32) (r : List Value) : vc (some lx) zH_175 (n + 1) b d 175 181 ml (.int u :: r) t Q = (if u = 0 then vc (some lx) zH_175 n true d 175 188 ml r t Q else vc (some lx) zH_175 n true d 175 184 ml r t Q) := by
  rw [vc_q (o := (21, 0, 188, 0, [])) (by decide +kernel)]; rfl
theorem v_175_184 (lx : List Int32) (n : Nat) (b : Bool) (d : Nat) (ml : List Value) (t : T) (Q : Option Value → T → Prop) (st : List Value) : vc (some lx) zH_175 (n + 1) b d 175 184 ml st t Q = vc (some lx) zH_175 n true d 175 185 ml (.int 1 :: st) t Q := by
  rw [vc_q (o := (0, 1, 0, 0, [])) (by decide +kernel)]; rfl
theorem v_175_185 (lx : List Int32) (n : Nat) (b : Bool) (d : Nat) (ml : List Value) (t : T) (Q : Option Value → T → Prop) (st : List Value) : vc (some lx) zH_175 (n + 1) b d 175 185 ml st t Q = vc (some lx) zH_175 n true d 175 189 ml st t Q := by
  rw [vc_q (o := (22, 0, 189, 0, [])) (by decide +kernel)]; rfl
theorem v_175_188 (lx : List Int32) (n : Nat) (b : Bool) (d : Nat) (ml : List Value) (t : T) (Q : Option Value → T → Prop) (st : List Value) : vc (some lx) zH_175 (n + 1) b d 175 188 ml st t Q = vc (some lx) zH_175 n true d 175 189 ml (.int 0 :: st) t Q := by
  rw [vc_q (o := (0, 0, 0, 0, [])) (by decide +kernel)]; rfl
theorem v_175_189 (lx : List Int32) (n : Nat) (b : Bool) (d : Nat) (ml : List Value) (t : T) (Q : Option Value → T → Prop) (st : List Value) : vc (some lx) zH_175 (n + 1) b d 175 189 ml st t Q = (st.all zc1 = true ∧ vtk 4 st [] (fun as rest => rest.length ≤ 8 ∧ vrc as 0 (twc d 2 as t (fun r t' => vc (some lx) zH_175 n true d 175 192 ml (r.toList ++ rest) t' Q)))) := by
  rw [vc_q (o := (36, 0, 2, 3, [(0, 0)])) (by decide +kernel)]; rfl
theorem v_175_192 (lx : List Int32) (n : Nat) (b : Bool) (d : Nat) (ml : List Value) (t : T) (Q : Option Value → T → Prop) (st : List Value) : vc (some lx) zH_175 (n + 1) b d 175 192 ml st t Q = vga ml 2 (fun v => vc (some lx) zH_175 n true d 175 193 ml (.ref v :: st) t Q) := by
  rw [vc_q (o := (2, 0, 2, 0, [])) (by decide +kernel)]; rfl
theorem v_175_193 (lx : List Int32) (n : Nat) (b : Bool) (d : Nat) (ml : List Value) (t : T) (Q : Option Value → T → Prop) (st : List Value) : vc (some lx) zH_175 (n + 1) b d 175 193 ml st t Q = vga ml 0 (fun v => vc (some lx) zH_175 n true d 175 194 ml (.ref v :: st) t Q) := by
  rw [vc_q (o := (2, 0, 0, 0, [])) (by decide +kernel)]; rfl
theorem v_175_194 (lx : List Int32) (n : Nat) (b : Bool) (d : Nat) (ml : List Value) (t : T) (Q : Option Value → T → Prop) (st : List Value) : vc (some lx) zH_175 (n + 1) b d 175 194 ml st t Q = vgi ml 3 (fun v => vc (some lx) zH_175 n true d 175 195 ml (.int v :: st) t Q) := by
  rw [vc_q (o := (1, 0, 3, 0, [])) (by decide +kernel)]; rfl
theorem v_175_195 (lx : List Int32) (n : Nat) (b : Bool) (d : Nat) (ml : List Value) (t : T) (Q : Option Value → T → Prop) (st : List Value) : vc (some lx) zH_175 (n + 1) b d 175 195 ml st t Q = vc (some lx) zH_175 n true d 175 196 ml (.int 1 :: st) t Q := by
  rw [vc_q (o := (0, 1, 0, 0, [])) (by decide +kernel)]; rfl
theorem v_175_196 (lx : List Int32) (n : Nat) (b : Bool) (d : Nat) (ml : List Value) (t : T) (Q : Option Value → T → Prop) (u v : Int32) (r : List Value) : vc (some lx) zH_175 (n + 1) b d 175 196 ml (.int v :: .int u :: r) t Q = vc (some lx) zH_175 n true d 175 197 ml (.int (u + v) :: r) t Q := by
  rw [vc_q (o := (6, 0, 0, 0, [])) (by decide +kernel)]; rfl
theorem v_175_197 (lx : List Int32) (n : Nat) (b : Bool) (d : Nat) (ml : List Value) (t : T) (Q : Option Value → T → Prop) (v : Int32) (u : Nat) (r : List Value) : vc (some lx) zH_175 (n + 1) b d 175 197 ml (.int v :: .ref u :: r) t Q = (u = zSCR ∧ vinb v lx.length ∧ vc (some lx) zH_175 n true d 175 198 ml (.int (lx.getD v.toNatClampNeg 0) :: r) t Q) := by
  rw [vc_q (o := (44, 0, 0, 0, [])) (by decide +kernel)]; rfl
theorem v_175_198 (lx : List Int32) (n : Nat) (b : Bool) (d : Nat) (ml : List Value) (t : T) (Q : Option Value → T → Prop) (st : List Value) : vc (some lx) zH_175 (n + 1) b d 175 198 ml st t Q = vga ml 0 (fun v => vc (some lx) zH_175 n true d 175 199 ml (.ref v :: st) t Q) := by
  rw [vc_q (o := (2, 0, 0, 0, [])) (by decide +kernel)]; rfl
theorem v_175_199 (lx : List Int32) (n : Nat) (b : Bool) (d : Nat) (ml : List Value) (t : T) (Q : Option Value → T → Prop) (st : List Value) : vc (some lx) zH_175 (n + 1) b d 175 199 ml st t Q = vgi ml 3 (fun v => vc (some lx) zH_175 n true d 175 200 ml (.int v :: st) t Q) := by
  rw [vc_q (o := (1, 0, 3, 0, [])) (by decide +kernel)]; rfl
theorem v_175_200 (lx : List Int32) (n : Nat) (b : Bool) (d : Nat) (ml : List Value) (t : T) (Q : Option Value → T → Prop) (st : List Value) : vc (some lx) zH_175 (n + 1) b d 175 200 ml st t Q = vc (some lx) zH_175 n true d 175 201 ml (.int 2 :: st) t Q := by
  rw [vc_q (o := (0, 2, 0, 0, [])) (by decide +kernel)]; rfl
theorem v_175_201 (lx : List Int32) (n : Nat) (b : Bool) (d : Nat) (ml : List Value) (t : T) (Q : Option Value → T → Prop) (u v : Int32) (r : List Value) : vc (some lx) zH_175 (n + 1) b d 175 201 ml (.int v :: .int u :: r) t Q = vc (some lx) zH_175 n true d 175 202 ml (.int (u + v) :: r) t Q := by
  rw [vc_q (o := (6, 0, 0, 0, [])) (by decide +kernel)]; rfl
theorem v_175_202 (lx : List Int32) (n : Nat) (b : Bool) (d : Nat) (ml : List Value) (t : T) (Q : Option Value → T → Prop) (v : Int32) (u : Nat) (r : List Value) : vc (some lx) zH_175 (n + 1) b d 175 202 ml (.int v :: .ref u :: r) t Q = (u = zSCR ∧ vinb v lx.length ∧ vc (some lx) zH_175 n true d 175 203 ml (.int (lx.getD v.toNatClampNeg 0) :: r) t Q) := by
  rw [vc_q (o := (44, 0, 0, 0, [])) (by decide +kernel)]; rfl
theorem v_175_203 (lx : List Int32) (n : Nat) (b : Bool) (d : Nat) (ml : List Value) (t : T) (Q : Option Value → T → Prop) (st : List Value) : vc (some lx) zH_175 (n + 1) b d 175 203 ml st t Q = vga ml 0 (fun v => vc (some lx) zH_175 n true d 175 204 ml (.ref v :: st) t Q) := by
  rw [vc_q (o := (2, 0, 0, 0, [])) (by decide +kernel)]; rfl
theorem v_175_204 (lx : List Int32) (n : Nat) (b : Bool) (d : Nat) (ml : List Value) (t : T) (Q : Option Value → T → Prop) (st : List Value) : vc (some lx) zH_175 (n + 1) b d 175 204 ml st t Q = vgi ml 3 (fun v => vc (some lx) zH_175 n true d 175 205 ml (.int v :: st) t Q) := by
  rw [vc_q (o := (1, 0, 3, 0, [])) (by decide +kernel)]; rfl
theorem v_175_205 (lx : List Int32) (n : Nat) (b : Bool) (d : Nat) (ml : List Value) (t : T) (Q : Option Value → T → Prop) (st : List Value) : vc (some lx) zH_175 (n + 1) b d 175 205 ml st t Q = vc (some lx) zH_175 n true d 175 206 ml (.int 3 :: st) t Q := by
  rw [vc_q (o := (0, 3, 0, 0, [])) (by decide +kernel)]; rfl
theorem v_175_206 (lx : List Int32) (n : Nat) (b : Bool) (d : Nat) (ml : List Value) (t : T) (Q : Option Value → T → Prop) (u v : Int32) (r : List Value) : vc (some lx) zH_175 (n + 1) b d 175 206 ml (.int v :: .int u :: r) t Q = vc (some lx) zH_175 n true d 175 207 ml (.int (u + v) :: r) t Q := by
  rw [vc_q (o := (6, 0, 0, 0, [])) (by decide +kernel)]; rfl
theorem v_175_207 (lx : List Int32) (n : Nat) (b : Bool) (d : Nat) (ml : List Value) (t : T) (Q : Option Value → T → Prop) (v : Int32) (u : Nat) (r : List Value) : vc (some lx) zH_175 (n + 1) b d 175 207 ml (.int v :: .ref u :: r) t Q = (u = zSCR ∧ vinb v lx.length ∧ vc (some lx) zH_175 n true d 175 208 ml (.int (lx.getD v.toNatClampNeg 0) :: r) t Q) := by
  rw [vc_q (o := (44, 0, 0, 0, [])) (by decide +kernel)]; rfl
theorem v_175_208 (lx : List Int32) (n : Nat) (b : Bool) (d : Nat) (ml : List Value) (t : T) (Q : Option Value → T → Prop) (u : Int32) (r : List Value) : vc (some lx) zH_175 (n + 1) b d 175 208 ml (.int u :: r) t Q = (if u = 0 then vc (some lx) zH_175 n true d 175 215 ml r t Q else vc (some lx) zH_175 n true d 175 211 ml r t Q) := by
  rw [vc_q (o := (21, 0, 215, 0, [])) (by decide +kernel)]; rfl
theorem v_175_211 (lx : List Int32) (n : Nat) (b : Bool) (d : Nat) (ml : List Value) (t : T) (Q : Option Value → T → Prop) (st : List Value) : vc (some lx) zH_175 (n + 1) b d 175 211 ml st t Q = vc (some lx) zH_175 n true d 175 212 ml (.int 1 :: st) t Q := by
  rw [vc_q (o := (0, 1, 0, 0, [])) (by decide +kernel)]; rfl
theorem v_175_212 (lx : List Int32) (n : Nat) (b : Bool) (d : Nat) (ml : List Value) (t : T) (Q : Option Value → T → Prop) (st : List Value) : vc (some lx) zH_175 (n + 1) b d 175 212 ml st t Q = vc (some lx) zH_175 n true d 175 216 ml st t Q := by
  rw [vc_q (o := (22, 0, 216, 0, [])) (by decide +kernel)]; rfl
theorem v_175_215 (lx : List Int32) (n : Nat) (b : Bool) (d : Nat) (ml : List Value) (t : T) (Q : Option Value → T → Prop) (st : List Value) : vc (some lx) zH_175 (n + 1) b d 175 215 ml st t Q = vc (some lx) zH_175 n true d 175 216 ml (.int 0 :: st) t Q := by
  rw [vc_q (o := (0, 0, 0, 0, [])) (by decide +kernel)]; rfl
theorem v_175_216 (lx : List Int32) (n : Nat) (b : Bool) (d : Nat) (ml : List Value) (t : T) (Q : Option Value → T → Prop) (st : List Value) : vc (some lx) zH_175 (n + 1) b d 175 216 ml st t Q = (st.all zc1 = true ∧ vtk 4 st [] (fun as rest => rest.length ≤ 8 ∧ vrc as 12 (twc d 50 as t (fun r t' => vc (some lx) zH_175 n true d 175 219 ml (r.toList ++ rest) t' Q)))) := by
  rw [vc_q (o := (36, 0, 50, 3, [(0, 12)])) (by decide +kernel)]; rfl
theorem v_175_219 (lx : List Int32) (n : Nat) (b : Bool) (d : Nat) (ml : List Value) (t : T) (Q : Option Value → T → Prop) (u v : Int32) (r : List Value) : vc (some lx) zH_175 (n + 1) b d 175 219 ml (.int v :: .int u :: r) t Q = (if u = v then vc (some lx) zH_175 n true d 175 931 ml r t Q else vc (some lx) zH_175 n true d 175 222 ml r t Q) := by
  rw [vc_q (o := (20, 0, 931, 0, [])) (by decide +kernel)]; rfl
theorem v_175_222 (lx : List Int32) (n : Nat) (b : Bool) (d : Nat) (ml : List Value) (t : T) (Q : Option Value → T → Prop) (st : List Value) : vc (some lx) zH_175 (n + 1) b d 175 222 ml st t Q = vc (some lx) zH_175 n true d 175 223 ml (.int 0 :: st) t Q := by
  rw [vc_q (o := (0, 0, 0, 0, [])) (by decide +kernel)]; rfl
theorem v_175_223 (lx : List Int32) (n : Nat) (b : Bool) (d : Nat) (ml : List Value) (t : T) (Q : Option Value → T → Prop) (v : Int32) : vc (some lx) zH_175 (n + 1) b d 175 223 ml [.int v] t Q = ((v = 0 ∨ v = 1) ∧ Q (some (.int v)) t) := by
  rw [vc_q (o := (41, 0, 0, 0, [])) (by decide +kernel)]; rfl
theorem v_175_224 (lx : List Int32) (n : Nat) (b : Bool) (d : Nat) (ml : List Value) (t : T) (Q : Option Value → T → Prop) (st : List Value) : vc (some lx) zH_175 (n + 1) b d 175 224 ml st t Q = vga ml 1 (fun v => vc (some lx) zH_175 n true d 175 225 ml (.ref v :: st) t Q) := by
  rw [vc_q (o := (2, 0, 1, 0, [])) (by decide +kernel)]; rfl
theorem v_175_225 (lx : List Int32) (n : Nat) (b : Bool) (d : Nat) (ml : List Value) (t : T) (Q : Option Value → T → Prop) (st : List Value) : vc (some lx) zH_175 (n + 1) b d 175 225 ml st t Q = vga ml 0 (fun v => vc (some lx) zH_175 n true d 175 226 ml (.ref v :: st) t Q) := by
  rw [vc_q (o := (2, 0, 0, 0, [])) (by decide +kernel)]; rfl
theorem v_175_226 (lx : List Int32) (n : Nat) (b : Bool) (d : Nat) (ml : List Value) (t : T) (Q : Option Value → T → Prop) (st : List Value) : vc (some lx) zH_175 (n + 1) b d 175 226 ml st t Q = vgi ml 3 (fun v => vc (some lx) zH_175 n true d 175 227 ml (.int v :: st) t Q) := by
  rw [vc_q (o := (1, 0, 3, 0, [])) (by decide +kernel)]; rfl
theorem v_175_227 (lx : List Int32) (n : Nat) (b : Bool) (d : Nat) (ml : List Value) (t : T) (Q : Option Value → T → Prop) (st : List Value) : vc (some lx) zH_175 (n + 1) b d 175 227 ml st t Q = vc (some lx) zH_175 n true d 175 228 ml (.int 1 :: st) t Q := by
  rw [vc_q (o := (0, 1, 0, 0, [])) (by decide +kernel)]; rfl
theorem v_175_228 (lx : List Int32) (n : Nat) (b : Bool) (d : Nat) (ml : List Value) (t : T) (Q : Option Value → T → Prop) (u v : Int32) (r : List Value) : vc (some lx) zH_175 (n + 1) b d 175 228 ml (.int v :: .int u :: r) t Q = vc (some lx) zH_175 n true d 175 229 ml (.int (u + v) :: r) t Q := by
  rw [vc_q (o := (6, 0, 0, 0, [])) (by decide +kernel)]; rfl
theorem v_175_229 (lx : List Int32) (n : Nat) (b : Bool) (d : Nat) (ml : List Value) (t : T) (Q : Option Value → T → Prop) (v : Int32) (u : Nat) (r : List Value) : vc (some lx) zH_175 (n + 1) b d 175 229 ml (.int v :: .ref u :: r) t Q = (u = zSCR ∧ vinb v lx.length ∧ vc (some lx) zH_175 n true d 175 230 ml (.int (lx.getD v.toNatClampNeg 0) :: r) t Q) := by
  rw [vc_q (o := (44, 0, 0, 0, [])) (by decide +kernel)]; rfl
theorem v_175_230 (lx : List Int32) (n : Nat) (b : Bool) (d : Nat) (ml : List Value) (t : T) (Q : Option Value → T → Prop) (st : List Value) : vc (some lx) zH_175 (n + 1) b d 175 230 ml st t Q = vga ml 0 (fun v => vc (some lx) zH_175 n true d 175 231 ml (.ref v :: st) t Q) := by
  rw [vc_q (o := (2, 0, 0, 0, [])) (by decide +kernel)]; rfl
theorem v_175_231 (lx : List Int32) (n : Nat) (b : Bool) (d : Nat) (ml : List Value) (t : T) (Q : Option Value → T → Prop) (st : List Value) : vc (some lx) zH_175 (n + 1) b d 175 231 ml st t Q = vgi ml 3 (fun v => vc (some lx) zH_175 n true d 175 232 ml (.int v :: st) t Q) := by
  rw [vc_q (o := (1, 0, 3, 0, [])) (by decide +kernel)]; rfl
theorem v_175_232 (lx : List Int32) (n : Nat) (b : Bool) (d : Nat) (ml : List Value) (t : T) (Q : Option Value → T → Prop) (st : List Value) : vc (some lx) zH_175 (n + 1) b d 175 232 ml st t Q = vc (some lx) zH_175 n true d 175 233 ml (.int 2 :: st) t Q := by
  rw [vc_q (o := (0, 2, 0, 0, [])) (by decide +kernel)]; rfl
theorem v_175_233 (lx : List Int32) (n : Nat) (b : Bool) (d : Nat) (ml : List Value) (t : T) (Q : Option Value → T → Prop) (u v : Int32) (r : List Value) : vc (some lx) zH_175 (n + 1) b d 175 233 ml (.int v :: .int u :: r) t Q = vc (some lx) zH_175 n true d 175 234 ml (.int (u + v) :: r) t Q := by
  rw [vc_q (o := (6, 0, 0, 0, [])) (by decide +kernel)]; rfl
theorem v_175_234 (lx : List Int32) (n : Nat) (b : Bool) (d : Nat) (ml : List Value) (t : T) (Q : Option Value → T → Prop) (v : Int32) (u : Nat) (r : List Value) : vc (some lx) zH_175 (n + 1) b d 175 234 ml (.int v :: .ref u :: r) t Q = (u = zSCR ∧ vinb v lx.length ∧ vc (some lx) zH_175 n true d 175 235 ml (.int (lx.getD v.toNatClampNeg 0) :: r) t Q) := by
  rw [vc_q (o := (44, 0, 0, 0, [])) (by decide +kernel)]; rfl
theorem v_175_235 (lx : List Int32) (n : Nat) (b : Bool) (d : Nat) (ml : List Value) (t : T) (Q : Option Value → T → Prop) (st : List Value) : vc (some lx) zH_175 (n + 1) b d 175 235 ml st t Q = vga ml 0 (fun v => vc (some lx) zH_175 n true d 175 236 ml (.ref v :: st) t Q) := by
  rw [vc_q (o := (2, 0, 0, 0, [])) (by decide +kernel)]; rfl
theorem v_175_236 (lx : List Int32) (n : Nat) (b : Bool) (d : Nat) (ml : List Value) (t : T) (Q : Option Value → T → Prop) (st : List Value) : vc (some lx) zH_175 (n + 1) b d 175 236 ml st t Q = vgi ml 3 (fun v => vc (some lx) zH_175 n true d 175 237 ml (.int v :: st) t Q) := by
  rw [vc_q (o := (1, 0, 3, 0, [])) (by decide +kernel)]; rfl
theorem v_175_237 (lx : List Int32) (n : Nat) (b : Bool) (d : Nat) (ml : List Value) (t : T) (Q : Option Value → T → Prop) (st : List Value) : vc (some lx) zH_175 (n + 1) b d 175 237 ml st t Q = vc (some lx) zH_175 n true d 175 238 ml (.int 3 :: st) t Q := by
  rw [vc_q (o := (0, 3, 0, 0, [])) (by decide +kernel)]; rfl
theorem v_175_238 (lx : List Int32) (n : Nat) (b : Bool) (d : Nat) (ml : List Value) (t : T) (Q : Option Value → T → Prop) (u v : Int32) (r : List Value) : vc (some lx) zH_175 (n + 1) b d 175 238 ml (.int v :: .int u :: r) t Q = vc (some lx) zH_175 n true d 175 239 ml (.int (u + v) :: r) t Q := by
  rw [vc_q (o := (6, 0, 0, 0, [])) (by decide +kernel)]; rfl
theorem v_175_239 (lx : List Int32) (n : Nat) (b : Bool) (d : Nat) (ml : List Value) (t : T) (Q : Option Value → T → Prop) (v : Int32) (u : Nat) (r : List Value) : vc (some lx) zH_175 (n + 1) b d 175 239 ml (.int v :: .ref u :: r) t Q = (u = zSCR ∧ vinb v lx.length ∧ vc (some lx) zH_175 n true d 175 240 ml (.int (lx.getD v.toNatClampNeg 0) :: r) t Q) := by
  rw [vc_q (o := (44, 0, 0, 0, [])) (by decide +kernel)]; rfl
theorem v_175_240 (lx : List Int32) (n : Nat) (b : Bool) (d : Nat) (ml : List Value) (t : T) (Q : Option Value → T → Prop) (st : List Value) : vc (some lx) zH_175 (n + 1) b d 175 240 ml st t Q = vga ml 0 (fun v => vc (some lx) zH_175 n true d 175 241 ml (.ref v :: st) t Q) := by
  rw [vc_q (o := (2, 0, 0, 0, [])) (by decide +kernel)]; rfl
theorem v_175_241 (lx : List Int32) (n : Nat) (b : Bool) (d : Nat) (ml : List Value) (t : T) (Q : Option Value → T → Prop) (st : List Value) : vc (some lx) zH_175 (n + 1) b d 175 241 ml st t Q = vgi ml 3 (fun v => vc (some lx) zH_175 n true d 175 242 ml (.int v :: st) t Q) := by
  rw [vc_q (o := (1, 0, 3, 0, [])) (by decide +kernel)]; rfl
theorem v_175_242 (lx : List Int32) (n : Nat) (b : Bool) (d : Nat) (ml : List Value) (t : T) (Q : Option Value → T → Prop) (st : List Value) : vc (some lx) zH_175 (n + 1) b d 175 242 ml st t Q = vc (some lx) zH_175 n true d 175 243 ml (.int 4 :: st) t Q := by
  rw [vc_q (o := (0, 4, 0, 0, [])) (by decide +kernel)]; rfl
theorem v_175_243 (lx : List Int32) (n : Nat) (b : Bool) (d : Nat) (ml : List Value) (t : T) (Q : Option Value → T → Prop) (u v : Int32) (r : List Value) : vc (some lx) zH_175 (n + 1) b d 175 243 ml (.int v :: .int u :: r) t Q = vc (some lx) zH_175 n true d 175 244 ml (.int (u + v) :: r) t Q := by
  rw [vc_q (o := (6, 0, 0, 0, [])) (by decide +kernel)]; rfl
theorem v_175_244 (lx : List Int32) (n : Nat) (b : Bool) (d : Nat) (ml : List Value) (t : T) (Q : Option Value → T → Prop) (v : Int32) (u : Nat) (r : List Value) : vc (some lx) zH_175 (n + 1) b d 175 244 ml (.int v :: .ref u :: r) t Q = (u = zSCR ∧ vinb v lx.length ∧ vc (some lx) zH_175 n true d 175 245 ml (.int (lx.getD v.toNatClampNeg 0) :: r) t Q) := by
  rw [vc_q (o := (44, 0, 0, 0, [])) (by decide +kernel)]; rfl
theorem v_175_245 (lx : List Int32) (n : Nat) (b : Bool) (d : Nat) (ml : List Value) (t : T) (Q : Option Value → T → Prop) (st : List Value) : vc (some lx) zH_175 (n + 1) b d 175 245 ml st t Q = vga ml 0 (fun v => vc (some lx) zH_175 n true d 175 246 ml (.ref v :: st) t Q) := by
  rw [vc_q (o := (2, 0, 0, 0, [])) (by decide +kernel)]; rfl
theorem v_175_246 (lx : List Int32) (n : Nat) (b : Bool) (d : Nat) (ml : List Value) (t : T) (Q : Option Value → T → Prop) (st : List Value) : vc (some lx) zH_175 (n + 1) b d 175 246 ml st t Q = vgi ml 3 (fun v => vc (some lx) zH_175 n true d 175 247 ml (.int v :: st) t Q) := by
  rw [vc_q (o := (1, 0, 3, 0, [])) (by decide +kernel)]; rfl
theorem v_175_247 (lx : List Int32) (n : Nat) (b : Bool) (d : Nat) (ml : List Value) (t : T) (Q : Option Value → T → Prop) (st : List Value) : vc (some lx) zH_175 (n + 1) b d 175 247 ml st t Q = vc (some lx) zH_175 n true d 175 248 ml (.int 5 :: st) t Q := by
  rw [vc_q (o := (0, 5, 0, 0, [])) (by decide +kernel)]; rfl
theorem v_175_248 (lx : List Int32) (n : Nat) (b : Bool) (d : Nat) (ml : List Value) (t : T) (Q : Option Value → T → Prop) (u v : Int32) (r : List Value) : vc (some lx) zH_175 (n + 1) b d 175 248 ml (.int v :: .int u :: r) t Q = vc (some lx) zH_175 n true d 175 249 ml (.int (u + v) :: r) t Q := by
  rw [vc_q (o := (6, 0, 0, 0, [])) (by decide +kernel)]; rfl
theorem v_175_249 (lx : List Int32) (n : Nat) (b : Bool) (d : Nat) (ml : List Value) (t : T) (Q : Option Value → T → Prop) (v : Int32) (u : Nat) (r : List Value) : vc (some lx) zH_175 (n + 1) b d 175 249 ml (.int v :: .ref u :: r) t Q = (u = zSCR ∧ vinb v lx.length ∧ vc (some lx) zH_175 n true d 175 250 ml (.int (lx.getD v.toNatClampNeg 0) :: r) t Q) := by
  rw [vc_q (o := (44, 0, 0, 0, [])) (by decide +kernel)]; rfl
theorem v_175_250 (lx : List Int32) (n : Nat) (b : Bool) (d : Nat) (ml : List Value) (t : T) (Q : Option Value → T → Prop) (st : List Value) : vc (some lx) zH_175 (n + 1) b d 175 250 ml st t Q = (st.all zc1 = true ∧ vtk 6 st [] (fun as rest => rest.length ≤ 8 ∧ vrc as 0 (twc d 3 as t (fun r t' => vc (some lx) zH_175 n true d 175 253 ml (r.toList ++ rest) t' Q)))) := by
  rw [vc_q (o := (36, 0, 3, 5, [(0, 0)])) (by decide +kernel)]; rfl
theorem v_175_253 (lx : List Int32) (n : Nat) (b : Bool) (d : Nat) (ml : List Value) (t : T) (Q : Option Value → T → Prop) (st : List Value) : vc (some lx) zH_175 (n + 1) b d 175 253 ml st t Q = vga ml 2 (fun v => vc (some lx) zH_175 n true d 175 254 ml (.ref v :: st) t Q) := by
  rw [vc_q (o := (2, 0, 2, 0, [])) (by decide +kernel)]; rfl
theorem v_175_254 (lx : List Int32) (n : Nat) (b : Bool) (d : Nat) (ml : List Value) (t : T) (Q : Option Value → T → Prop) (st : List Value) : vc (some lx) zH_175 (n + 1) b d 175 254 ml st t Q = vga ml 0 (fun v => vc (some lx) zH_175 n true d 175 255 ml (.ref v :: st) t Q) := by
  rw [vc_q (o := (2, 0, 0, 0, [])) (by decide +kernel)]; rfl
theorem v_175_255 (lx : List Int32) (n : Nat) (b : Bool) (d : Nat) (ml : List Value) (t : T) (Q : Option Value → T → Prop) (st : List Value) : vc (some lx) zH_175 (n + 1) b d 175 255 ml st t Q = vgi ml 3 (fun v => vc (some lx) zH_175 n true d 175 256 ml (.int v :: st) t Q) := by
  rw [vc_q (o := (1, 0, 3, 0, [])) (by decide +kernel)]; rfl
theorem v_175_256 (lx : List Int32) (n : Nat) (b : Bool) (d : Nat) (ml : List Value) (t : T) (Q : Option Value → T → Prop) (st : List Value) : vc (some lx) zH_175 (n + 1) b d 175 256 ml st t Q = vc (some lx) zH_175 n true d 175 257 ml (.int 1 :: st) t Q := by
  rw [vc_q (o := (0, 1, 0, 0, [])) (by decide +kernel)]; rfl
theorem v_175_257 (lx : List Int32) (n : Nat) (b : Bool) (d : Nat) (ml : List Value) (t : T) (Q : Option Value → T → Prop) (u v : Int32) (r : List Value) : vc (some lx) zH_175 (n + 1) b d 175 257 ml (.int v :: .int u :: r) t Q = vc (some lx) zH_175 n true d 175 258 ml (.int (u + v) :: r) t Q := by
  rw [vc_q (o := (6, 0, 0, 0, [])) (by decide +kernel)]; rfl
theorem v_175_258 (lx : List Int32) (n : Nat) (b : Bool) (d : Nat) (ml : List Value) (t : T) (Q : Option Value → T → Prop) (v : Int32) (u : Nat) (r : List Value) : vc (some lx) zH_175 (n + 1) b d 175 258 ml (.int v :: .ref u :: r) t Q = (u = zSCR ∧ vinb v lx.length ∧ vc (some lx) zH_175 n true d 175 259 ml (.int (lx.getD v.toNatClampNeg 0) :: r) t Q) := by
  rw [vc_q (o := (44, 0, 0, 0, [])) (by decide +kernel)]; rfl
theorem v_175_259 (lx : List Int32) (n : Nat) (b : Bool) (d : Nat) (ml : List Value) (t : T) (Q : Option Value → T → Prop) (st : List Value) : vc (some lx) zH_175 (n + 1) b d 175 259 ml st t Q = vga ml 0 (fun v => vc (some lx) zH_175 n true d 175 260 ml (.ref v :: st) t Q) := by
  rw [vc_q (o := (2, 0, 0, 0, [])) (by decide +kernel)]; rfl
theorem v_175_260 (lx : List Int32) (n : Nat) (b : Bool) (d : Nat) (ml : List Value) (t : T) (Q : Option Value → T → Prop) (st : List Value) : vc (some lx) zH_175 (n + 1) b d 175 260 ml st t Q = vgi ml 3 (fun v => vc (some lx) zH_175 n true d 175 261 ml (.int v :: st) t Q) := by
  rw [vc_q (o := (1, 0, 3, 0, [])) (by decide +kernel)]; rfl
theorem v_175_261 (lx : List Int32) (n : Nat) (b : Bool) (d : Nat) (ml : List Value) (t : T) (Q : Option Value → T → Prop) (st : List Value) : vc (some lx) zH_175 (n + 1) b d 175 261 ml st t Q = vc (some lx) zH_175 n true d 175 262 ml (.int 2 :: st) t Q := by
  rw [vc_q (o := (0, 2, 0, 0, [])) (by decide +kernel)]; rfl
theorem v_175_262 (lx : List Int32) (n : Nat) (b : Bool) (d : Nat) (ml : List Value) (t : T) (Q : Option Value → T → Prop) (u v : Int32) (r : List Value) : vc (some lx) zH_175 (n + 1) b d 175 262 ml (.int v :: .int u :: r) t Q = vc (some lx) zH_175 n true d 175 263 ml (.int (u + v) :: r) t Q := by
  rw [vc_q (o := (6, 0, 0, 0, [])) (by decide +kernel)]; rfl
theorem v_175_263 (lx : List Int32) (n : Nat) (b : Bool) (d : Nat) (ml : List Value) (t : T) (Q : Option Value → T → Prop) (v : Int32) (u : Nat) (r : List Value) : vc (some lx) zH_175 (n + 1) b d 175 263 ml (.int v :: .ref u :: r) t Q = (u = zSCR ∧ vinb v lx.length ∧ vc (some lx) zH_175 n true d 175 264 ml (.int (lx.getD v.toNatClampNeg 0) :: r) t Q) := by
  rw [vc_q (o := (44, 0, 0, 0, [])) (by decide +kernel)]; rfl
theorem v_175_264 (lx : List Int32) (n : Nat) (b : Bool) (d : Nat) (ml : List Value) (t : T) (Q : Option Value → T → Prop) (st : List Value) : vc (some lx) zH_175 (n + 1) b d 175 264 ml st t Q = vga ml 0 (fun v => vc (some lx) zH_175 n true d 175 265 ml (.ref v :: st) t Q) := by
  rw [vc_q (o := (2, 0, 0, 0, [])) (by decide +kernel)]; rfl
theorem v_175_265 (lx : List Int32) (n : Nat) (b : Bool) (d : Nat) (ml : List Value) (t : T) (Q : Option Value → T → Prop) (st : List Value) : vc (some lx) zH_175 (n + 1) b d 175 265 ml st t Q = vgi ml 3 (fun v => vc (some lx) zH_175 n true d 175 266 ml (.int v :: st) t Q) := by
  rw [vc_q (o := (1, 0, 3, 0, [])) (by decide +kernel)]; rfl
theorem v_175_266 (lx : List Int32) (n : Nat) (b : Bool) (d : Nat) (ml : List Value) (t : T) (Q : Option Value → T → Prop) (st : List Value) : vc (some lx) zH_175 (n + 1) b d 175 266 ml st t Q = vc (some lx) zH_175 n true d 175 267 ml (.int 3 :: st) t Q := by
  rw [vc_q (o := (0, 3, 0, 0, [])) (by decide +kernel)]; rfl
theorem v_175_267 (lx : List Int32) (n : Nat) (b : Bool) (d : Nat) (ml : List Value) (t : T) (Q : Option Value → T → Prop) (u v : Int32) (r : List Value) : vc (some lx) zH_175 (n + 1) b d 175 267 ml (.int v :: .int u :: r) t Q = vc (some lx) zH_175 n true d 175 268 ml (.int (u + v) :: r) t Q := by
  rw [vc_q (o := (6, 0, 0, 0, [])) (by decide +kernel)]; rfl
theorem v_175_268 (lx : List Int32) (n : Nat) (b : Bool) (d : Nat) (ml : List Value) (t : T) (Q : Option Value → T → Prop) (v : Int32) (u : Nat) (r : List Value) : vc (some lx) zH_175 (n + 1) b d 175 268 ml (.int v :: .ref u :: r) t Q = (u = zSCR ∧ vinb v lx.length ∧ vc (some lx) zH_175 n true d 175 269 ml (.int (lx.getD v.toNatClampNeg 0) :: r) t Q) := by
  rw [vc_q (o := (44, 0, 0, 0, [])) (by decide +kernel)]; rfl
theorem v_175_269 (lx : List Int32) (n : Nat) (b : Bool) (d : Nat) (ml : List Value) (t : T) (Q : Option Value → T → Prop) (st : List Value) : vc (some lx) zH_175 (n + 1) b d 175 269 ml st t Q = vga ml 0 (fun v => vc (some lx) zH_175 n true d 175 270 ml (.ref v :: st) t Q) := by
  rw [vc_q (o := (2, 0, 0, 0, [])) (by decide +kernel)]; rfl
theorem v_175_270 (lx : List Int32) (n : Nat) (b : Bool) (d : Nat) (ml : List Value) (t : T) (Q : Option Value → T → Prop) (st : List Value) : vc (some lx) zH_175 (n + 1) b d 175 270 ml st t Q = vgi ml 3 (fun v => vc (some lx) zH_175 n true d 175 271 ml (.int v :: st) t Q) := by
  rw [vc_q (o := (1, 0, 3, 0, [])) (by decide +kernel)]; rfl
theorem v_175_271 (lx : List Int32) (n : Nat) (b : Bool) (d : Nat) (ml : List Value) (t : T) (Q : Option Value → T → Prop) (st : List Value) : vc (some lx) zH_175 (n + 1) b d 175 271 ml st t Q = vc (some lx) zH_175 n true d 175 272 ml (.int 4 :: st) t Q := by
  rw [vc_q (o := (0, 4, 0, 0, [])) (by decide +kernel)]; rfl
theorem v_175_272 (lx : List Int32) (n : Nat) (b : Bool) (d : Nat) (ml : List Value) (t : T) (Q : Option Value → T → Prop) (u v : Int32) (r : List Value) : vc (some lx) zH_175 (n + 1) b d 175 272 ml (.int v :: .int u :: r) t Q = vc (some lx) zH_175 n true d 175 273 ml (.int (u + v) :: r) t Q := by
  rw [vc_q (o := (6, 0, 0, 0, [])) (by decide +kernel)]; rfl
theorem v_175_273 (lx : List Int32) (n : Nat) (b : Bool) (d : Nat) (ml : List Value) (t : T) (Q : Option Value → T → Prop) (v : Int32) (u : Nat) (r : List Value) : vc (some lx) zH_175 (n + 1) b d 175 273 ml (.int v :: .ref u :: r) t Q = (u = zSCR ∧ vinb v lx.length ∧ vc (some lx) zH_175 n true d 175 274 ml (.int (lx.getD v.toNatClampNeg 0) :: r) t Q) := by
  rw [vc_q (o := (44, 0, 0, 0, [])) (by decide +kernel)]; rfl
theorem v_175_274 (lx : List Int32) (n : Nat) (b : Bool) (d : Nat) (ml : List Value) (t : T) (Q : Option Value → T → Prop) (st : List Value) : vc (some lx) zH_175 (n + 1) b d 175 274 ml st t Q = vga ml 0 (fun v => vc (some lx) zH_175 n true d 175 275 ml (.ref v :: st) t Q) := by
  rw [vc_q (o := (2, 0, 0, 0, [])) (by decide +kernel)]; rfl
theorem v_175_275 (lx : List Int32) (n : Nat) (b : Bool) (d : Nat) (ml : List Value) (t : T) (Q : Option Value → T → Prop) (st : List Value) : vc (some lx) zH_175 (n + 1) b d 175 275 ml st t Q = vgi ml 3 (fun v => vc (some lx) zH_175 n true d 175 276 ml (.int v :: st) t Q) := by
  rw [vc_q (o := (1, 0, 3, 0, [])) (by decide +kernel)]; rfl
theorem v_175_276 (lx : List Int32) (n : Nat) (b : Bool) (d : Nat) (ml : List Value) (t : T) (Q : Option Value → T → Prop) (st : List Value) : vc (some lx) zH_175 (n + 1) b d 175 276 ml st t Q = vc (some lx) zH_175 n true d 175 277 ml (.int 5 :: st) t Q := by
  rw [vc_q (o := (0, 5, 0, 0, [])) (by decide +kernel)]; rfl
theorem v_175_277 (lx : List Int32) (n : Nat) (b : Bool) (d : Nat) (ml : List Value) (t : T) (Q : Option Value → T → Prop) (u v : Int32) (r : List Value) : vc (some lx) zH_175 (n + 1) b d 175 277 ml (.int v :: .int u :: r) t Q = vc (some lx) zH_175 n true d 175 278 ml (.int (u + v) :: r) t Q := by
  rw [vc_q (o := (6, 0, 0, 0, [])) (by decide +kernel)]; rfl
theorem v_175_278 (lx : List Int32) (n : Nat) (b : Bool) (d : Nat) (ml : List Value) (t : T) (Q : Option Value → T → Prop) (v : Int32) (u : Nat) (r : List Value) : vc (some lx) zH_175 (n + 1) b d 175 278 ml (.int v :: .ref u :: r) t Q = (u = zSCR ∧ vinb v lx.length ∧ vc (some lx) zH_175 n true d 175 279 ml (.int (lx.getD v.toNatClampNeg 0) :: r) t Q) := by
  rw [vc_q (o := (44, 0, 0, 0, [])) (by decide +kernel)]; rfl
theorem v_175_279 (lx : List Int32) (n : Nat) (b : Bool) (d : Nat) (ml : List Value) (t : T) (Q : Option Value → T → Prop) (st : List Value) : vc (some lx) zH_175 (n + 1) b d 175 279 ml st t Q = (st.all zc1 = true ∧ vtk 6 st [] (fun as rest => rest.length ≤ 8 ∧ vrc as 12 (twc d 52 as t (fun r t' => vc (some lx) zH_175 n true d 175 282 ml (r.toList ++ rest) t' Q)))) := by
  rw [vc_q (o := (36, 0, 52, 5, [(0, 12)])) (by decide +kernel)]; rfl
theorem v_175_282 (lx : List Int32) (n : Nat) (b : Bool) (d : Nat) (ml : List Value) (t : T) (Q : Option Value → T → Prop) (u v : Int32) (r : List Value) : vc (some lx) zH_175 (n + 1) b d 175 282 ml (.int v :: .int u :: r) t Q = (if u = v then vc (some lx) zH_175 n true d 175 931 ml r t Q else vc (some lx) zH_175 n true d 175 285 ml r t Q) := by
  rw [vc_q (o := (20, 0, 931, 0, [])) (by decide +kernel)]; rfl
theorem v_175_285 (lx : List Int32) (n : Nat) (b : Bool) (d : Nat) (ml : List Value) (t : T) (Q : Option Value → T → Prop) (st : List Value) : vc (some lx) zH_175 (n + 1) b d 175 285 ml st t Q = vc (some lx) zH_175 n true d 175 286 ml (.int 0 :: st) t Q := by
  rw [vc_q (o := (0, 0, 0, 0, [])) (by decide +kernel)]; rfl
theorem v_175_286 (lx : List Int32) (n : Nat) (b : Bool) (d : Nat) (ml : List Value) (t : T) (Q : Option Value → T → Prop) (v : Int32) : vc (some lx) zH_175 (n + 1) b d 175 286 ml [.int v] t Q = ((v = 0 ∨ v = 1) ∧ Q (some (.int v)) t) := by
  rw [vc_q (o := (41, 0, 0, 0, [])) (by decide +kernel)]; rfl
theorem v_175_287 (lx : List Int32) (n : Nat) (b : Bool) (d : Nat) (ml : List Value) (t : T) (Q : Option Value → T → Prop) (st : List Value) : vc (some lx) zH_175 (n + 1) b d 175 287 ml st t Q = vga ml 1 (fun v => vc (some lx) zH_175 n true d 175 288 ml (.ref v :: st) t Q) := by
  rw [vc_q (o := (2, 0, 1, 0, [])) (by decide +kernel)]; rfl
theorem v_175_288 (lx : List Int32) (n : Nat) (b : Bool) (d : Nat) (ml : List Value) (t : T) (Q : Option Value → T → Prop) (st : List Value) : vc (some lx) zH_175 (n + 1) b d 175 288 ml st t Q = vga ml 0 (fun v => vc (some lx) zH_175 n true d 175 289 ml (.ref v :: st) t Q) := by
  rw [vc_q (o := (2, 0, 0, 0, [])) (by decide +kernel)]; rfl
theorem v_175_289 (lx : List Int32) (n : Nat) (b : Bool) (d : Nat) (ml : List Value) (t : T) (Q : Option Value → T → Prop) (st : List Value) : vc (some lx) zH_175 (n + 1) b d 175 289 ml st t Q = vgi ml 3 (fun v => vc (some lx) zH_175 n true d 175 290 ml (.int v :: st) t Q) := by
  rw [vc_q (o := (1, 0, 3, 0, [])) (by decide +kernel)]; rfl
theorem v_175_290 (lx : List Int32) (n : Nat) (b : Bool) (d : Nat) (ml : List Value) (t : T) (Q : Option Value → T → Prop) (st : List Value) : vc (some lx) zH_175 (n + 1) b d 175 290 ml st t Q = vc (some lx) zH_175 n true d 175 291 ml (.int 1 :: st) t Q := by
  rw [vc_q (o := (0, 1, 0, 0, [])) (by decide +kernel)]; rfl
theorem v_175_291 (lx : List Int32) (n : Nat) (b : Bool) (d : Nat) (ml : List Value) (t : T) (Q : Option Value → T → Prop) (u v : Int32) (r : List Value) : vc (some lx) zH_175 (n + 1) b d 175 291 ml (.int v :: .int u :: r) t Q = vc (some lx) zH_175 n true d 175 292 ml (.int (u + v) :: r) t Q := by
  rw [vc_q (o := (6, 0, 0, 0, [])) (by decide +kernel)]; rfl
theorem v_175_292 (lx : List Int32) (n : Nat) (b : Bool) (d : Nat) (ml : List Value) (t : T) (Q : Option Value → T → Prop) (v : Int32) (u : Nat) (r : List Value) : vc (some lx) zH_175 (n + 1) b d 175 292 ml (.int v :: .ref u :: r) t Q = (u = zSCR ∧ vinb v lx.length ∧ vc (some lx) zH_175 n true d 175 293 ml (.int (lx.getD v.toNatClampNeg 0) :: r) t Q) := by
  rw [vc_q (o := (44, 0, 0, 0, [])) (by decide +kernel)]; rfl
theorem v_175_293 (lx : List Int32) (n : Nat) (b : Bool) (d : Nat) (ml : List Value) (t : T) (Q : Option Value → T → Prop) (st : List Value) : vc (some lx) zH_175 (n + 1) b d 175 293 ml st t Q = vga ml 0 (fun v => vc (some lx) zH_175 n true d 175 294 ml (.ref v :: st) t Q) := by
  rw [vc_q (o := (2, 0, 0, 0, [])) (by decide +kernel)]; rfl
theorem v_175_294 (lx : List Int32) (n : Nat) (b : Bool) (d : Nat) (ml : List Value) (t : T) (Q : Option Value → T → Prop) (st : List Value) : vc (some lx) zH_175 (n + 1) b d 175 294 ml st t Q = vgi ml 3 (fun v => vc (some lx) zH_175 n true d 175 295 ml (.int v :: st) t Q) := by
  rw [vc_q (o := (1, 0, 3, 0, [])) (by decide +kernel)]; rfl
theorem v_175_295 (lx : List Int32) (n : Nat) (b : Bool) (d : Nat) (ml : List Value) (t : T) (Q : Option Value → T → Prop) (st : List Value) : vc (some lx) zH_175 (n + 1) b d 175 295 ml st t Q = vc (some lx) zH_175 n true d 175 296 ml (.int 2 :: st) t Q := by
  rw [vc_q (o := (0, 2, 0, 0, [])) (by decide +kernel)]; rfl
theorem v_175_296 (lx : List Int32) (n : Nat) (b : Bool) (d : Nat) (ml : List Value) (t : T) (Q : Option Value → T → Prop) (u v : Int32) (r : List Value) : vc (some lx) zH_175 (n + 1) b d 175 296 ml (.int v :: .int u :: r) t Q = vc (some lx) zH_175 n true d 175 297 ml (.int (u + v) :: r) t Q := by
  rw [vc_q (o := (6, 0, 0, 0, [])) (by decide +kernel)]; rfl
theorem v_175_297 (lx : List Int32) (n : Nat) (b : Bool) (d : Nat) (ml : List Value) (t : T) (Q : Option Value → T → Prop) (v : Int32) (u : Nat) (r : List Value) : vc (some lx) zH_175 (n + 1) b d 175 297 ml (.int v :: .ref u :: r) t Q = (u = zSCR ∧ vinb v lx.length ∧ vc (some lx) zH_175 n true d 175 298 ml (.int (lx.getD v.toNatClampNeg 0) :: r) t Q) := by
  rw [vc_q (o := (44, 0, 0, 0, [])) (by decide +kernel)]; rfl
theorem v_175_298 (lx : List Int32) (n : Nat) (b : Bool) (d : Nat) (ml : List Value) (t : T) (Q : Option Value → T → Prop) (st : List Value) : vc (some lx) zH_175 (n + 1) b d 175 298 ml st t Q = vga ml 0 (fun v => vc (some lx) zH_175 n true d 175 299 ml (.ref v :: st) t Q) := by
  rw [vc_q (o := (2, 0, 0, 0, [])) (by decide +kernel)]; rfl
theorem v_175_299 (lx : List Int32) (n : Nat) (b : Bool) (d : Nat) (ml : List Value) (t : T) (Q : Option Value → T → Prop) (st : List Value) : vc (some lx) zH_175 (n + 1) b d 175 299 ml st t Q = vgi ml 3 (fun v => vc (some lx) zH_175 n true d 175 300 ml (.int v :: st) t Q) := by
  rw [vc_q (o := (1, 0, 3, 0, [])) (by decide +kernel)]; rfl
theorem v_175_300 (lx : List Int32) (n : Nat) (b : Bool) (d : Nat) (ml : List Value) (t : T) (Q : Option Value → T → Prop) (st : List Value) : vc (some lx) zH_175 (n + 1) b d 175 300 ml st t Q = vc (some lx) zH_175 n true d 175 301 ml (.int 3 :: st) t Q := by
  rw [vc_q (o := (0, 3, 0, 0, [])) (by decide +kernel)]; rfl
theorem v_175_301 (lx : List Int32) (n : Nat) (b : Bool) (d : Nat) (ml : List Value) (t : T) (Q : Option Value → T → Prop) (u v : Int32) (r : List Value) : vc (some lx) zH_175 (n + 1) b d 175 301 ml (.int v :: .int u :: r) t Q = vc (some lx) zH_175 n true d 175 302 ml (.int (u + v) :: r) t Q := by
  rw [vc_q (o := (6, 0, 0, 0, [])) (by decide +kernel)]; rfl
theorem v_175_302 (lx : List Int32) (n : Nat) (b : Bool) (d : Nat) (ml : List Value) (t : T) (Q : Option Value → T → Prop) (v : Int32) (u : Nat) (r : List Value) : vc (some lx) zH_175 (n + 1) b d 175 302 ml (.int v :: .ref u :: r) t Q = (u = zSCR ∧ vinb v lx.length ∧ vc (some lx) zH_175 n true d 175 303 ml (.int (lx.getD v.toNatClampNeg 0) :: r) t Q) := by
  rw [vc_q (o := (44, 0, 0, 0, [])) (by decide +kernel)]; rfl
theorem v_175_303 (lx : List Int32) (n : Nat) (b : Bool) (d : Nat) (ml : List Value) (t : T) (Q : Option Value → T → Prop) (st : List Value) : vc (some lx) zH_175 (n + 1) b d 175 303 ml st t Q = vga ml 0 (fun v => vc (some lx) zH_175 n true d 175 304 ml (.ref v :: st) t Q) := by
  rw [vc_q (o := (2, 0, 0, 0, [])) (by decide +kernel)]; rfl
theorem v_175_304 (lx : List Int32) (n : Nat) (b : Bool) (d : Nat) (ml : List Value) (t : T) (Q : Option Value → T → Prop) (st : List Value) : vc (some lx) zH_175 (n + 1) b d 175 304 ml st t Q = vgi ml 3 (fun v => vc (some lx) zH_175 n true d 175 305 ml (.int v :: st) t Q) := by
  rw [vc_q (o := (1, 0, 3, 0, [])) (by decide +kernel)]; rfl
theorem v_175_305 (lx : List Int32) (n : Nat) (b : Bool) (d : Nat) (ml : List Value) (t : T) (Q : Option Value → T → Prop) (st : List Value) : vc (some lx) zH_175 (n + 1) b d 175 305 ml st t Q = vc (some lx) zH_175 n true d 175 306 ml (.int 4 :: st) t Q := by
  rw [vc_q (o := (0, 4, 0, 0, [])) (by decide +kernel)]; rfl
theorem v_175_306 (lx : List Int32) (n : Nat) (b : Bool) (d : Nat) (ml : List Value) (t : T) (Q : Option Value → T → Prop) (u v : Int32) (r : List Value) : vc (some lx) zH_175 (n + 1) b d 175 306 ml (.int v :: .int u :: r) t Q = vc (some lx) zH_175 n true d 175 307 ml (.int (u + v) :: r) t Q := by
  rw [vc_q (o := (6, 0, 0, 0, [])) (by decide +kernel)]; rfl
theorem v_175_307 (lx : List Int32) (n : Nat) (b : Bool) (d : Nat) (ml : List Value) (t : T) (Q : Option Value → T → Prop) (v : Int32) (u : Nat) (r : List Value) : vc (some lx) zH_175 (n + 1) b d 175 307 ml (.int v :: .ref u :: r) t Q = (u = zSCR ∧ vinb v lx.length ∧ vc (some lx) zH_175 n true d 175 308 ml (.int (lx.getD v.toNatClampNeg 0) :: r) t Q) := by
  rw [vc_q (o := (44, 0, 0, 0, [])) (by decide +kernel)]; rfl
theorem v_175_308 (lx : List Int32) (n : Nat) (b : Bool) (d : Nat) (ml : List Value) (t : T) (Q : Option Value → T → Prop) (st : List Value) : vc (some lx) zH_175 (n + 1) b d 175 308 ml st t Q = (st.all zc1 = true ∧ vtk 5 st [] (fun as rest => rest.length ≤ 8 ∧ vrc as 0 (twc d 4 as t (fun r t' => vc (some lx) zH_175 n true d 175 311 ml (r.toList ++ rest) t' Q)))) := by
  rw [vc_q (o := (36, 0, 4, 4, [(0, 0)])) (by decide +kernel)]; rfl
theorem v_175_311 (lx : List Int32) (n : Nat) (b : Bool) (d : Nat) (ml : List Value) (t : T) (Q : Option Value → T → Prop) (st : List Value) : vc (some lx) zH_175 (n + 1) b d 175 311 ml st t Q = vga ml 2 (fun v => vc (some lx) zH_175 n true d 175 312 ml (.ref v :: st) t Q) := by
  rw [vc_q (o := (2, 0, 2, 0, [])) (by decide +kernel)]; rfl
theorem v_175_312 (lx : List Int32) (n : Nat) (b : Bool) (d : Nat) (ml : List Value) (t : T) (Q : Option Value → T → Prop) (st : List Value) : vc (some lx) zH_175 (n + 1) b d 175 312 ml st t Q = vga ml 0 (fun v => vc (some lx) zH_175 n true d 175 313 ml (.ref v :: st) t Q) := by
  rw [vc_q (o := (2, 0, 0, 0, [])) (by decide +kernel)]; rfl
theorem v_175_313 (lx : List Int32) (n : Nat) (b : Bool) (d : Nat) (ml : List Value) (t : T) (Q : Option Value → T → Prop) (st : List Value) : vc (some lx) zH_175 (n + 1) b d 175 313 ml st t Q = vgi ml 3 (fun v => vc (some lx) zH_175 n true d 175 314 ml (.int v :: st) t Q) := by
  rw [vc_q (o := (1, 0, 3, 0, [])) (by decide +kernel)]; rfl
theorem v_175_314 (lx : List Int32) (n : Nat) (b : Bool) (d : Nat) (ml : List Value) (t : T) (Q : Option Value → T → Prop) (st : List Value) : vc (some lx) zH_175 (n + 1) b d 175 314 ml st t Q = vc (some lx) zH_175 n true d 175 315 ml (.int 1 :: st) t Q := by
  rw [vc_q (o := (0, 1, 0, 0, [])) (by decide +kernel)]; rfl
theorem v_175_315 (lx : List Int32) (n : Nat) (b : Bool) (d : Nat) (ml : List Value) (t : T) (Q : Option Value → T → Prop) (u v : Int32) (r : List Value) : vc (some lx) zH_175 (n + 1) b d 175 315 ml (.int v :: .int u :: r) t Q = vc (some lx) zH_175 n true d 175 316 ml (.int (u + v) :: r) t Q := by
  rw [vc_q (o := (6, 0, 0, 0, [])) (by decide +kernel)]; rfl
theorem v_175_316 (lx : List Int32) (n : Nat) (b : Bool) (d : Nat) (ml : List Value) (t : T) (Q : Option Value → T → Prop) (v : Int32) (u : Nat) (r : List Value) : vc (some lx) zH_175 (n + 1) b d 175 316 ml (.int v :: .ref u :: r) t Q = (u = zSCR ∧ vinb v lx.length ∧ vc (some lx) zH_175 n true d 175 317 ml (.int (lx.getD v.toNatClampNeg 0) :: r) t Q) := by
  rw [vc_q (o := (44, 0, 0, 0, [])) (by decide +kernel)]; rfl
theorem v_175_317 (lx : List Int32) (n : Nat) (b : Bool) (d : Nat) (ml : List Value) (t : T) (Q : Option Value → T → Prop) (st : List Value) : vc (some lx) zH_175 (n + 1) b d 175 317 ml st t Q = vga ml 0 (fun v => vc (some lx) zH_175 n true d 175 318 ml (.ref v :: st) t Q) := by
  rw [vc_q (o := (2, 0, 0, 0, [])) (by decide +kernel)]; rfl
theorem v_175_318 (lx : List Int32) (n : Nat) (b : Bool) (d : Nat) (ml : List Value) (t : T) (Q : Option Value → T → Prop) (st : List Value) : vc (some lx) zH_175 (n + 1) b d 175 318 ml st t Q = vgi ml 3 (fun v => vc (some lx) zH_175 n true d 175 319 ml (.int v :: st) t Q) := by
  rw [vc_q (o := (1, 0, 3, 0, [])) (by decide +kernel)]; rfl
theorem v_175_319 (lx : List Int32) (n : Nat) (b : Bool) (d : Nat) (ml : List Value) (t : T) (Q : Option Value → T → Prop) (st : List Value) : vc (some lx) zH_175 (n + 1) b d 175 319 ml st t Q = vc (some lx) zH_175 n true d 175 320 ml (.int 2 :: st) t Q := by
  rw [vc_q (o := (0, 2, 0, 0, [])) (by decide +kernel)]; rfl
theorem v_175_320 (lx : List Int32) (n : Nat) (b : Bool) (d : Nat) (ml : List Value) (t : T) (Q : Option Value → T → Prop) (u v : Int32) (r : List Value) : vc (some lx) zH_175 (n + 1) b d 175 320 ml (.int v :: .int u :: r) t Q = vc (some lx) zH_175 n true d 175 321 ml (.int (u + v) :: r) t Q := by
  rw [vc_q (o := (6, 0, 0, 0, [])) (by decide +kernel)]; rfl
theorem v_175_321 (lx : List Int32) (n : Nat) (b : Bool) (d : Nat) (ml : List Value) (t : T) (Q : Option Value → T → Prop) (v : Int32) (u : Nat) (r : List Value) : vc (some lx) zH_175 (n + 1) b d 175 321 ml (.int v :: .ref u :: r) t Q = (u = zSCR ∧ vinb v lx.length ∧ vc (some lx) zH_175 n true d 175 322 ml (.int (lx.getD v.toNatClampNeg 0) :: r) t Q) := by
  rw [vc_q (o := (44, 0, 0, 0, [])) (by decide +kernel)]; rfl
theorem v_175_322 (lx : List Int32) (n : Nat) (b : Bool) (d : Nat) (ml : List Value) (t : T) (Q : Option Value → T → Prop) (st : List Value) : vc (some lx) zH_175 (n + 1) b d 175 322 ml st t Q = vga ml 0 (fun v => vc (some lx) zH_175 n true d 175 323 ml (.ref v :: st) t Q) := by
  rw [vc_q (o := (2, 0, 0, 0, [])) (by decide +kernel)]; rfl
theorem v_175_323 (lx : List Int32) (n : Nat) (b : Bool) (d : Nat) (ml : List Value) (t : T) (Q : Option Value → T → Prop) (st : List Value) : vc (some lx) zH_175 (n + 1) b d 175 323 ml st t Q = vgi ml 3 (fun v => vc (some lx) zH_175 n true d 175 324 ml (.int v :: st) t Q) := by
  rw [vc_q (o := (1, 0, 3, 0, [])) (by decide +kernel)]; rfl
theorem v_175_324 (lx : List Int32) (n : Nat) (b : Bool) (d : Nat) (ml : List Value) (t : T) (Q : Option Value → T → Prop) (st : List Value) : vc (some lx) zH_175 (n + 1) b d 175 324 ml st t Q = vc (some lx) zH_175 n true d 175 325 ml (.int 3 :: st) t Q := by
  rw [vc_q (o := (0, 3, 0, 0, [])) (by decide +kernel)]; rfl
theorem v_175_325 (lx : List Int32) (n : Nat) (b : Bool) (d : Nat) (ml : List Value) (t : T) (Q : Option Value → T → Prop) (u v : Int32) (r : List Value) : vc (some lx) zH_175 (n + 1) b d 175 325 ml (.int v :: .int u :: r) t Q = vc (some lx) zH_175 n true d 175 326 ml (.int (u + v) :: r) t Q := by
  rw [vc_q (o := (6, 0, 0, 0, [])) (by decide +kernel)]; rfl
theorem v_175_326 (lx : List Int32) (n : Nat) (b : Bool) (d : Nat) (ml : List Value) (t : T) (Q : Option Value → T → Prop) (v : Int32) (u : Nat) (r : List Value) : vc (some lx) zH_175 (n + 1) b d 175 326 ml (.int v :: .ref u :: r) t Q = (u = zSCR ∧ vinb v lx.length ∧ vc (some lx) zH_175 n true d 175 327 ml (.int (lx.getD v.toNatClampNeg 0) :: r) t Q) := by
  rw [vc_q (o := (44, 0, 0, 0, [])) (by decide +kernel)]; rfl
theorem v_175_327 (lx : List Int32) (n : Nat) (b : Bool) (d : Nat) (ml : List Value) (t : T) (Q : Option Value → T → Prop) (st : List Value) : vc (some lx) zH_175 (n + 1) b d 175 327 ml st t Q = vga ml 0 (fun v => vc (some lx) zH_175 n true d 175 328 ml (.ref v :: st) t Q) := by
  rw [vc_q (o := (2, 0, 0, 0, [])) (by decide +kernel)]; rfl
theorem v_175_328 (lx : List Int32) (n : Nat) (b : Bool) (d : Nat) (ml : List Value) (t : T) (Q : Option Value → T → Prop) (st : List Value) : vc (some lx) zH_175 (n + 1) b d 175 328 ml st t Q = vgi ml 3 (fun v => vc (some lx) zH_175 n true d 175 329 ml (.int v :: st) t Q) := by
  rw [vc_q (o := (1, 0, 3, 0, [])) (by decide +kernel)]; rfl
theorem v_175_329 (lx : List Int32) (n : Nat) (b : Bool) (d : Nat) (ml : List Value) (t : T) (Q : Option Value → T → Prop) (st : List Value) : vc (some lx) zH_175 (n + 1) b d 175 329 ml st t Q = vc (some lx) zH_175 n true d 175 330 ml (.int 4 :: st) t Q := by
  rw [vc_q (o := (0, 4, 0, 0, [])) (by decide +kernel)]; rfl
theorem v_175_330 (lx : List Int32) (n : Nat) (b : Bool) (d : Nat) (ml : List Value) (t : T) (Q : Option Value → T → Prop) (u v : Int32) (r : List Value) : vc (some lx) zH_175 (n + 1) b d 175 330 ml (.int v :: .int u :: r) t Q = vc (some lx) zH_175 n true d 175 331 ml (.int (u + v) :: r) t Q := by
  rw [vc_q (o := (6, 0, 0, 0, [])) (by decide +kernel)]; rfl
theorem v_175_331 (lx : List Int32) (n : Nat) (b : Bool) (d : Nat) (ml : List Value) (t : T) (Q : Option Value → T → Prop) (v : Int32) (u : Nat) (r : List Value) : vc (some lx) zH_175 (n + 1) b d 175 331 ml (.int v :: .ref u :: r) t Q = (u = zSCR ∧ vinb v lx.length ∧ vc (some lx) zH_175 n true d 175 332 ml (.int (lx.getD v.toNatClampNeg 0) :: r) t Q) := by
  rw [vc_q (o := (44, 0, 0, 0, [])) (by decide +kernel)]; rfl
theorem v_175_332 (lx : List Int32) (n : Nat) (b : Bool) (d : Nat) (ml : List Value) (t : T) (Q : Option Value → T → Prop) (st : List Value) : vc (some lx) zH_175 (n + 1) b d 175 332 ml st t Q = (st.all zc1 = true ∧ vtk 5 st [] (fun as rest => rest.length ≤ 8 ∧ vrc as 12 (twc d 53 as t (fun r t' => vc (some lx) zH_175 n true d 175 335 ml (r.toList ++ rest) t' Q)))) := by
  rw [vc_q (o := (36, 0, 53, 4, [(0, 12)])) (by decide +kernel)]; rfl
theorem v_175_335 (lx : List Int32) (n : Nat) (b : Bool) (d : Nat) (ml : List Value) (t : T) (Q : Option Value → T → Prop) (u v : Int32) (r : List Value) : vc (some lx) zH_175 (n + 1) b d 175 335 ml (.int v :: .int u :: r) t Q = (if u = v then vc (some lx) zH_175 n true d 175 931 ml r t Q else vc (some lx) zH_175 n true d 175 338 ml r t Q) := by
  rw [vc_q (o := (20, 0, 931, 0, [])) (by decide +kernel)]; rfl
theorem v_175_338 (lx : List Int32) (n : Nat) (b : Bool) (d : Nat) (ml : List Value) (t : T) (Q : Option Value → T → Prop) (st : List Value) : vc (some lx) zH_175 (n + 1) b d 175 338 ml st t Q = vc (some lx) zH_175 n true d 175 339 ml (.int 0 :: st) t Q := by
  rw [vc_q (o := (0, 0, 0, 0, [])) (by decide +kernel)]; rfl
theorem v_175_339 (lx : List Int32) (n : Nat) (b : Bool) (d : Nat) (ml : List Value) (t : T) (Q : Option Value → T → Prop) (v : Int32) : vc (some lx) zH_175 (n + 1) b d 175 339 ml [.int v] t Q = ((v = 0 ∨ v = 1) ∧ Q (some (.int v)) t) := by
  rw [vc_q (o := (41, 0, 0, 0, [])) (by decide +kernel)]; rfl
theorem v_175_340 (lx : List Int32) (n : Nat) (b : Bool) (d : Nat) (ml : List Value) (t : T) (Q : Option Value → T → Prop) (st : List Value) : vc (some lx) zH_175 (n + 1) b d 175 340 ml st t Q = vga ml 1 (fun v => vc (some lx) zH_175 n true d 175 341 ml (.ref v :: st) t Q) := by
  rw [vc_q (o := (2, 0, 1, 0, [])) (by decide +kernel)]; rfl
theorem v_175_341 (lx : List Int32) (n : Nat) (b : Bool) (d : Nat) (ml : List Value) (t : T) (Q : Option Value → T → Prop) (st : List Value) : vc (some lx) zH_175 (n + 1) b d 175 341 ml st t Q = vga ml 0 (fun v => vc (some lx) zH_175 n true d 175 342 ml (.ref v :: st) t Q) := by
  rw [vc_q (o := (2, 0, 0, 0, [])) (by decide +kernel)]; rfl
theorem v_175_342 (lx : List Int32) (n : Nat) (b : Bool) (d : Nat) (ml : List Value) (t : T) (Q : Option Value → T → Prop) (st : List Value) : vc (some lx) zH_175 (n + 1) b d 175 342 ml st t Q = vgi ml 3 (fun v => vc (some lx) zH_175 n true d 175 343 ml (.int v :: st) t Q) := by
  rw [vc_q (o := (1, 0, 3, 0, [])) (by decide +kernel)]; rfl
theorem v_175_343 (lx : List Int32) (n : Nat) (b : Bool) (d : Nat) (ml : List Value) (t : T) (Q : Option Value → T → Prop) (st : List Value) : vc (some lx) zH_175 (n + 1) b d 175 343 ml st t Q = vc (some lx) zH_175 n true d 175 344 ml (.int 1 :: st) t Q := by
  rw [vc_q (o := (0, 1, 0, 0, [])) (by decide +kernel)]; rfl
theorem v_175_344 (lx : List Int32) (n : Nat) (b : Bool) (d : Nat) (ml : List Value) (t : T) (Q : Option Value → T → Prop) (u v : Int32) (r : List Value) : vc (some lx) zH_175 (n + 1) b d 175 344 ml (.int v :: .int u :: r) t Q = vc (some lx) zH_175 n true d 175 345 ml (.int (u + v) :: r) t Q := by
  rw [vc_q (o := (6, 0, 0, 0, [])) (by decide +kernel)]; rfl
theorem v_175_345 (lx : List Int32) (n : Nat) (b : Bool) (d : Nat) (ml : List Value) (t : T) (Q : Option Value → T → Prop) (v : Int32) (u : Nat) (r : List Value) : vc (some lx) zH_175 (n + 1) b d 175 345 ml (.int v :: .ref u :: r) t Q = (u = zSCR ∧ vinb v lx.length ∧ vc (some lx) zH_175 n true d 175 346 ml (.int (lx.getD v.toNatClampNeg 0) :: r) t Q) := by
  rw [vc_q (o := (44, 0, 0, 0, [])) (by decide +kernel)]; rfl
theorem v_175_346 (lx : List Int32) (n : Nat) (b : Bool) (d : Nat) (ml : List Value) (t : T) (Q : Option Value → T → Prop) (st : List Value) : vc (some lx) zH_175 (n + 1) b d 175 346 ml st t Q = (st.all zc1 = true ∧ vtk 2 st [] (fun as rest => rest.length ≤ 8 ∧ vrc as 0 (twc d 5 as t (fun r t' => vc (some lx) zH_175 n true d 175 349 ml (r.toList ++ rest) t' Q)))) := by
  rw [vc_q (o := (36, 0, 5, 1, [(0, 0)])) (by decide +kernel)]; rfl
theorem v_175_349 (lx : List Int32) (n : Nat) (b : Bool) (d : Nat) (ml : List Value) (t : T) (Q : Option Value → T → Prop) (st : List Value) : vc (some lx) zH_175 (n + 1) b d 175 349 ml st t Q = vga ml 2 (fun v => vc (some lx) zH_175 n true d 175 350 ml (.ref v :: st) t Q) := by
  rw [vc_q (o := (2, 0, 2, 0, [])) (by decide +kernel)]; rfl
theorem v_175_350 (lx : List Int32) (n : Nat) (b : Bool) (d : Nat) (ml : List Value) (t : T) (Q : Option Value → T → Prop) (st : List Value) : vc (some lx) zH_175 (n + 1) b d 175 350 ml st t Q = vga ml 0 (fun v => vc (some lx) zH_175 n true d 175 351 ml (.ref v :: st) t Q) := by
  rw [vc_q (o := (2, 0, 0, 0, [])) (by decide +kernel)]; rfl
theorem v_175_351 (lx : List Int32) (n : Nat) (b : Bool) (d : Nat) (ml : List Value) (t : T) (Q : Option Value → T → Prop) (st : List Value) : vc (some lx) zH_175 (n + 1) b d 175 351 ml st t Q = vgi ml 3 (fun v => vc (some lx) zH_175 n true d 175 352 ml (.int v :: st) t Q) := by
  rw [vc_q (o := (1, 0, 3, 0, [])) (by decide +kernel)]; rfl
theorem v_175_352 (lx : List Int32) (n : Nat) (b : Bool) (d : Nat) (ml : List Value) (t : T) (Q : Option Value → T → Prop) (st : List Value) : vc (some lx) zH_175 (n + 1) b d 175 352 ml st t Q = vc (some lx) zH_175 n true d 175 353 ml (.int 1 :: st) t Q := by
  rw [vc_q (o := (0, 1, 0, 0, [])) (by decide +kernel)]; rfl
theorem v_175_353 (lx : List Int32) (n : Nat) (b : Bool) (d : Nat) (ml : List Value) (t : T) (Q : Option Value → T → Prop) (u v : Int32) (r : List Value) : vc (some lx) zH_175 (n + 1) b d 175 353 ml (.int v :: .int u :: r) t Q = vc (some lx) zH_175 n true d 175 354 ml (.int (u + v) :: r) t Q := by
  rw [vc_q (o := (6, 0, 0, 0, [])) (by decide +kernel)]; rfl
theorem v_175_354 (lx : List Int32) (n : Nat) (b : Bool) (d : Nat) (ml : List Value) (t : T) (Q : Option Value → T → Prop) (v : Int32) (u : Nat) (r : List Value) : vc (some lx) zH_175 (n + 1) b d 175 354 ml (.int v :: .ref u :: r) t Q = (u = zSCR ∧ vinb v lx.length ∧ vc (some lx) zH_175 n true d 175 355 ml (.int (lx.getD v.toNatClampNeg 0) :: r) t Q) := by
  rw [vc_q (o := (44, 0, 0, 0, [])) (by decide +kernel)]; rfl
theorem v_175_355 (lx : List Int32) (n : Nat) (b : Bool) (d : Nat) (ml : List Value) (t : T) (Q : Option Value → T → Prop) (st : List Value) : vc (some lx) zH_175 (n + 1) b d 175 355 ml st t Q = (st.all zc1 = true ∧ vtk 2 st [] (fun as rest => rest.length ≤ 8 ∧ vrc as 12 (twc d 54 as t (fun r t' => vc (some lx) zH_175 n true d 175 358 ml (r.toList ++ rest) t' Q)))) := by
  rw [vc_q (o := (36, 0, 54, 1, [(0, 12)])) (by decide +kernel)]; rfl
theorem v_175_358 (lx : List Int32) (n : Nat) (b : Bool) (d : Nat) (ml : List Value) (t : T) (Q : Option Value → T → Prop) (u v : Int32) (r : List Value) : vc (some lx) zH_175 (n + 1) b d 175 358 ml (.int v :: .int u :: r) t Q = (if u = v then vc (some lx) zH_175 n true d 175 931 ml r t Q else vc (some lx) zH_175 n true d 175 361 ml r t Q) := by
  rw [vc_q (o := (20, 0, 931, 0, [])) (by decide +kernel)]; rfl
theorem v_175_361 (lx : List Int32) (n : Nat) (b : Bool) (d : Nat) (ml : List Value) (t : T) (Q : Option Value → T → Prop) (st : List Value) : vc (some lx) zH_175 (n + 1) b d 175 361 ml st t Q = vc (some lx) zH_175 n true d 175 362 ml (.int 0 :: st) t Q := by
  rw [vc_q (o := (0, 0, 0, 0, [])) (by decide +kernel)]; rfl
theorem v_175_362 (lx : List Int32) (n : Nat) (b : Bool) (d : Nat) (ml : List Value) (t : T) (Q : Option Value → T → Prop) (v : Int32) : vc (some lx) zH_175 (n + 1) b d 175 362 ml [.int v] t Q = ((v = 0 ∨ v = 1) ∧ Q (some (.int v)) t) := by
  rw [vc_q (o := (41, 0, 0, 0, [])) (by decide +kernel)]; rfl
theorem v_175_363 (lx : List Int32) (n : Nat) (b : Bool) (d : Nat) (ml : List Value) (t : T) (Q : Option Value → T → Prop) (st : List Value) : vc (some lx) zH_175 (n + 1) b d 175 363 ml st t Q = vga ml 1 (fun v => vc (some lx) zH_175 n true d 175 364 ml (.ref v :: st) t Q) := by
  rw [vc_q (o := (2, 0, 1, 0, [])) (by decide +kernel)]; rfl
theorem v_175_364 (lx : List Int32) (n : Nat) (b : Bool) (d : Nat) (ml : List Value) (t : T) (Q : Option Value → T → Prop) (st : List Value) : vc (some lx) zH_175 (n + 1) b d 175 364 ml st t Q = vga ml 0 (fun v => vc (some lx) zH_175 n true d 175 365 ml (.ref v :: st) t Q) := by
  rw [vc_q (o := (2, 0, 0, 0, [])) (by decide +kernel)]; rfl
theorem v_175_365 (lx : List Int32) (n : Nat) (b : Bool) (d : Nat) (ml : List Value) (t : T) (Q : Option Value → T → Prop) (st : List Value) : vc (some lx) zH_175 (n + 1) b d 175 365 ml st t Q = vgi ml 3 (fun v => vc (some lx) zH_175 n true d 175 366 ml (.int v :: st) t Q) := by
  rw [vc_q (o := (1, 0, 3, 0, [])) (by decide +kernel)]; rfl
theorem v_175_366 (lx : List Int32) (n : Nat) (b : Bool) (d : Nat) (ml : List Value) (t : T) (Q : Option Value → T → Prop) (st : List Value) : vc (some lx) zH_175 (n + 1) b d 175 366 ml st t Q = vc (some lx) zH_175 n true d 175 367 ml (.int 1 :: st) t Q := by
  rw [vc_q (o := (0, 1, 0, 0, [])) (by decide +kernel)]; rfl
theorem v_175_367 (lx : List Int32) (n : Nat) (b : Bool) (d : Nat) (ml : List Value) (t : T) (Q : Option Value → T → Prop) (u v : Int32) (r : List Value) : vc (some lx) zH_175 (n + 1) b d 175 367 ml (.int v :: .int u :: r) t Q = vc (some lx) zH_175 n true d 175 368 ml (.int (u + v) :: r) t Q := by
  rw [vc_q (o := (6, 0, 0, 0, [])) (by decide +kernel)]; rfl
theorem v_175_368 (lx : List Int32) (n : Nat) (b : Bool) (d : Nat) (ml : List Value) (t : T) (Q : Option Value → T → Prop) (v : Int32) (u : Nat) (r : List Value) : vc (some lx) zH_175 (n + 1) b d 175 368 ml (.int v :: .ref u :: r) t Q = (u = zSCR ∧ vinb v lx.length ∧ vc (some lx) zH_175 n true d 175 369 ml (.int (lx.getD v.toNatClampNeg 0) :: r) t Q) := by
  rw [vc_q (o := (44, 0, 0, 0, [])) (by decide +kernel)]; rfl
theorem v_175_369 (lx : List Int32) (n : Nat) (b : Bool) (d : Nat) (ml : List Value) (t : T) (Q : Option Value → T → Prop) (st : List Value) : vc (some lx) zH_175 (n + 1) b d 175 369 ml st t Q = vga ml 0 (fun v => vc (some lx) zH_175 n true d 175 370 ml (.ref v :: st) t Q) := by
  rw [vc_q (o := (2, 0, 0, 0, [])) (by decide +kernel)]; rfl
theorem v_175_370 (lx : List Int32) (n : Nat) (b : Bool) (d : Nat) (ml : List Value) (t : T) (Q : Option Value → T → Prop) (st : List Value) : vc (some lx) zH_175 (n + 1) b d 175 370 ml st t Q = vgi ml 3 (fun v => vc (some lx) zH_175 n true d 175 371 ml (.int v :: st) t Q) := by
  rw [vc_q (o := (1, 0, 3, 0, [])) (by decide +kernel)]; rfl
theorem v_175_371 (lx : List Int32) (n : Nat) (b : Bool) (d : Nat) (ml : List Value) (t : T) (Q : Option Value → T → Prop) (st : List Value) : vc (some lx) zH_175 (n + 1) b d 175 371 ml st t Q = vc (some lx) zH_175 n true d 175 372 ml (.int 2 :: st) t Q := by
  rw [vc_q (o := (0, 2, 0, 0, [])) (by decide +kernel)]; rfl
theorem v_175_372 (lx : List Int32) (n : Nat) (b : Bool) (d : Nat) (ml : List Value) (t : T) (Q : Option Value → T → Prop) (u v : Int32) (r : List Value) : vc (some lx) zH_175 (n + 1) b d 175 372 ml (.int v :: .int u :: r) t Q = vc (some lx) zH_175 n true d 175 373 ml (.int (u + v) :: r) t Q := by
  rw [vc_q (o := (6, 0, 0, 0, [])) (by decide +kernel)]; rfl
theorem v_175_373 (lx : List Int32) (n : Nat) (b : Bool) (d : Nat) (ml : List Value) (t : T) (Q : Option Value → T → Prop) (v : Int32) (u : Nat) (r : List Value) : vc (some lx) zH_175 (n + 1) b d 175 373 ml (.int v :: .ref u :: r) t Q = (u = zSCR ∧ vinb v lx.length ∧ vc (some lx) zH_175 n true d 175 374 ml (.int (lx.getD v.toNatClampNeg 0) :: r) t Q) := by
  rw [vc_q (o := (44, 0, 0, 0, [])) (by decide +kernel)]; rfl
theorem v_175_374 (lx : List Int32) (n : Nat) (b : Bool) (d : Nat) (ml : List Value) (t : T) (Q : Option Value → T → Prop) (st : List Value) : vc (some lx) zH_175 (n + 1) b d 175 374 ml st t Q = vga ml 0 (fun v => vc (some lx) zH_175 n true d 175 375 ml (.ref v :: st) t Q) := by
  rw [vc_q (o := (2, 0, 0, 0, [])) (by decide +kernel)]; rfl
theorem v_175_375 (lx : List Int32) (n : Nat) (b : Bool) (d : Nat) (ml : List Value) (t : T) (Q : Option Value → T → Prop) (st : List Value) : vc (some lx) zH_175 (n + 1) b d 175 375 ml st t Q = vgi ml 3 (fun v => vc (some lx) zH_175 n true d 175 376 ml (.int v :: st) t Q) := by
  rw [vc_q (o := (1, 0, 3, 0, [])) (by decide +kernel)]; rfl
theorem v_175_376 (lx : List Int32) (n : Nat) (b : Bool) (d : Nat) (ml : List Value) (t : T) (Q : Option Value → T → Prop) (st : List Value) : vc (some lx) zH_175 (n + 1) b d 175 376 ml st t Q = vc (some lx) zH_175 n true d 175 377 ml (.int 3 :: st) t Q := by
  rw [vc_q (o := (0, 3, 0, 0, [])) (by decide +kernel)]; rfl
theorem v_175_377 (lx : List Int32) (n : Nat) (b : Bool) (d : Nat) (ml : List Value) (t : T) (Q : Option Value → T → Prop) (u v : Int32) (r : List Value) : vc (some lx) zH_175 (n + 1) b d 175 377 ml (.int v :: .int u :: r) t Q = vc (some lx) zH_175 n true d 175 378 ml (.int (u + v) :: r) t Q := by
  rw [vc_q (o := (6, 0, 0, 0, [])) (by decide +kernel)]; rfl
theorem v_175_378 (lx : List Int32) (n : Nat) (b : Bool) (d : Nat) (ml : List Value) (t : T) (Q : Option Value → T → Prop) (v : Int32) (u : Nat) (r : List Value) : vc (some lx) zH_175 (n + 1) b d 175 378 ml (.int v :: .ref u :: r) t Q = (u = zSCR ∧ vinb v lx.length ∧ vc (some lx) zH_175 n true d 175 379 ml (.int (lx.getD v.toNatClampNeg 0) :: r) t Q) := by
  rw [vc_q (o := (44, 0, 0, 0, [])) (by decide +kernel)]; rfl
theorem v_175_379 (lx : List Int32) (n : Nat) (b : Bool) (d : Nat) (ml : List Value) (t : T) (Q : Option Value → T → Prop) (st : List Value) : vc (some lx) zH_175 (n + 1) b d 175 379 ml st t Q = vga ml 0 (fun v => vc (some lx) zH_175 n true d 175 380 ml (.ref v :: st) t Q) := by
  rw [vc_q (o := (2, 0, 0, 0, [])) (by decide +kernel)]; rfl
theorem v_175_380 (lx : List Int32) (n : Nat) (b : Bool) (d : Nat) (ml : List Value) (t : T) (Q : Option Value → T → Prop) (st : List Value) : vc (some lx) zH_175 (n + 1) b d 175 380 ml st t Q = vgi ml 3 (fun v => vc (some lx) zH_175 n true d 175 381 ml (.int v :: st) t Q) := by
  rw [vc_q (o := (1, 0, 3, 0, [])) (by decide +kernel)]; rfl
theorem v_175_381 (lx : List Int32) (n : Nat) (b : Bool) (d : Nat) (ml : List Value) (t : T) (Q : Option Value → T → Prop) (st : List Value) : vc (some lx) zH_175 (n + 1) b d 175 381 ml st t Q = vc (some lx) zH_175 n true d 175 382 ml (.int 4 :: st) t Q := by
  rw [vc_q (o := (0, 4, 0, 0, [])) (by decide +kernel)]; rfl
theorem v_175_382 (lx : List Int32) (n : Nat) (b : Bool) (d : Nat) (ml : List Value) (t : T) (Q : Option Value → T → Prop) (u v : Int32) (r : List Value) : vc (some lx) zH_175 (n + 1) b d 175 382 ml (.int v :: .int u :: r) t Q = vc (some lx) zH_175 n true d 175 383 ml (.int (u + v) :: r) t Q := by
  rw [vc_q (o := (6, 0, 0, 0, [])) (by decide +kernel)]; rfl
theorem v_175_383 (lx : List Int32) (n : Nat) (b : Bool) (d : Nat) (ml : List Value) (t : T) (Q : Option Value → T → Prop) (v : Int32) (u : Nat) (r : List Value) : vc (some lx) zH_175 (n + 1) b d 175 383 ml (.int v :: .ref u :: r) t Q = (u = zSCR ∧ vinb v lx.length ∧ vc (some lx) zH_175 n true d 175 384 ml (.int (lx.getD v.toNatClampNeg 0) :: r) t Q) := by
  rw [vc_q (o := (44, 0, 0, 0, [])) (by decide +kernel)]; rfl
theorem v_175_384 (lx : List Int32) (n : Nat) (b : Bool) (d : Nat) (ml : List Value) (t : T) (Q : Option Value → T → Prop) (st : List Value) : vc (some lx) zH_175 (n + 1) b d 175 384 ml st t Q = vga ml 0 (fun v => vc (some lx) zH_175 n true d 175 385 ml (.ref v :: st) t Q) := by
  rw [vc_q (o := (2, 0, 0, 0, [])) (by decide +kernel)]; rfl
theorem v_175_385 (lx : List Int32) (n : Nat) (b : Bool) (d : Nat) (ml : List Value) (t : T) (Q : Option Value → T → Prop) (st : List Value) : vc (some lx) zH_175 (n + 1) b d 175 385 ml st t Q = vgi ml 3 (fun v => vc (some lx) zH_175 n true d 175 386 ml (.int v :: st) t Q) := by
  rw [vc_q (o := (1, 0, 3, 0, [])) (by decide +kernel)]; rfl
theorem v_175_386 (lx : List Int32) (n : Nat) (b : Bool) (d : Nat) (ml : List Value) (t : T) (Q : Option Value → T → Prop) (st : List Value) : vc (some lx) zH_175 (n + 1) b d 175 386 ml st t Q = vc (some lx) zH_175 n true d 175 387 ml (.int 5 :: st) t Q := by
  rw [vc_q (o := (0, 5, 0, 0, [])) (by decide +kernel)]; rfl
theorem v_175_387 (lx : List Int32) (n : Nat) (b : Bool) (d : Nat) (ml : List Value) (t : T) (Q : Option Value → T → Prop) (u v : Int32) (r : List Value) : vc (some lx) zH_175 (n + 1) b d 175 387 ml (.int v :: .int u :: r) t Q = vc (some lx) zH_175 n true d 175 388 ml (.int (u + v) :: r) t Q := by
  rw [vc_q (o := (6, 0, 0, 0, [])) (by decide +kernel)]; rfl
theorem v_175_388 (lx : List Int32) (n : Nat) (b : Bool) (d : Nat) (ml : List Value) (t : T) (Q : Option Value → T → Prop) (v : Int32) (u : Nat) (r : List Value) : vc (some lx) zH_175 (n + 1) b d 175 388 ml (.int v :: .ref u :: r) t Q = (u = zSCR ∧ vinb v lx.length ∧ vc (some lx) zH_175 n true d 175 389 ml (.int (lx.getD v.toNatClampNeg 0) :: r) t Q) := by
  rw [vc_q (o := (44, 0, 0, 0, [])) (by decide +kernel)]; rfl
theorem v_175_389 (lx : List Int32) (n : Nat) (b : Bool) (d : Nat) (ml : List Value) (t : T) (Q : Option Value → T → Prop) (st : List Value) : vc (some lx) zH_175 (n + 1) b d 175 389 ml st t Q = (st.all zc1 = true ∧ vtk 6 st [] (fun as rest => rest.length ≤ 8 ∧ vrc as 0 (twc d 6 as t (fun r t' => vc (some lx) zH_175 n true d 175 392 ml (r.toList ++ rest) t' Q)))) := by
  rw [vc_q (o := (36, 0, 6, 5, [(0, 0)])) (by decide +kernel)]; rfl
theorem v_175_392 (lx : List Int32) (n : Nat) (b : Bool) (d : Nat) (ml : List Value) (t : T) (Q : Option Value → T → Prop) (st : List Value) : vc (some lx) zH_175 (n + 1) b d 175 392 ml st t Q = vga ml 2 (fun v => vc (some lx) zH_175 n true d 175 393 ml (.ref v :: st) t Q) := by
  rw [vc_q (o := (2, 0, 2, 0, [])) (by decide +kernel)]; rfl
theorem v_175_393 (lx : List Int32) (n : Nat) (b : Bool) (d : Nat) (ml : List Value) (t : T) (Q : Option Value → T → Prop) (st : List Value) : vc (some lx) zH_175 (n + 1) b d 175 393 ml st t Q = vga ml 0 (fun v => vc (some lx) zH_175 n true d 175 394 ml (.ref v :: st) t Q) := by
  rw [vc_q (o := (2, 0, 0, 0, [])) (by decide +kernel)]; rfl
theorem v_175_394 (lx : List Int32) (n : Nat) (b : Bool) (d : Nat) (ml : List Value) (t : T) (Q : Option Value → T → Prop) (st : List Value) : vc (some lx) zH_175 (n + 1) b d 175 394 ml st t Q = vgi ml 3 (fun v => vc (some lx) zH_175 n true d 175 395 ml (.int v :: st) t Q) := by
  rw [vc_q (o := (1, 0, 3, 0, [])) (by decide +kernel)]; rfl
theorem v_175_395 (lx : List Int32) (n : Nat) (b : Bool) (d : Nat) (ml : List Value) (t : T) (Q : Option Value → T → Prop) (st : List Value) : vc (some lx) zH_175 (n + 1) b d 175 395 ml st t Q = vc (some lx) zH_175 n true d 175 396 ml (.int 1 :: st) t Q := by
  rw [vc_q (o := (0, 1, 0, 0, [])) (by decide +kernel)]; rfl
theorem v_175_396 (lx : List Int32) (n : Nat) (b : Bool) (d : Nat) (ml : List Value) (t : T) (Q : Option Value → T → Prop) (u v : Int32) (r : List Value) : vc (some lx) zH_175 (n + 1) b d 175 396 ml (.int v :: .int u :: r) t Q = vc (some lx) zH_175 n true d 175 397 ml (.int (u + v) :: r) t Q := by
  rw [vc_q (o := (6, 0, 0, 0, [])) (by decide +kernel)]; rfl
theorem v_175_397 (lx : List Int32) (n : Nat) (b : Bool) (d : Nat) (ml : List Value) (t : T) (Q : Option Value → T → Prop) (v : Int32) (u : Nat) (r : List Value) : vc (some lx) zH_175 (n + 1) b d 175 397 ml (.int v :: .ref u :: r) t Q = (u = zSCR ∧ vinb v lx.length ∧ vc (some lx) zH_175 n true d 175 398 ml (.int (lx.getD v.toNatClampNeg 0) :: r) t Q) := by
  rw [vc_q (o := (44, 0, 0, 0, [])) (by decide +kernel)]; rfl
theorem v_175_398 (lx : List Int32) (n : Nat) (b : Bool) (d : Nat) (ml : List Value) (t : T) (Q : Option Value → T → Prop) (st : List Value) : vc (some lx) zH_175 (n + 1) b d 175 398 ml st t Q = vga ml 0 (fun v => vc (some lx) zH_175 n true d 175 399 ml (.ref v :: st) t Q) := by
  rw [vc_q (o := (2, 0, 0, 0, [])) (by decide +kernel)]; rfl
theorem v_175_399 (lx : List Int32) (n : Nat) (b : Bool) (d : Nat) (ml : List Value) (t : T) (Q : Option Value → T → Prop) (st : List Value) : vc (some lx) zH_175 (n + 1) b d 175 399 ml st t Q = vgi ml 3 (fun v => vc (some lx) zH_175 n true d 175 400 ml (.int v :: st) t Q) := by
  rw [vc_q (o := (1, 0, 3, 0, [])) (by decide +kernel)]; rfl
theorem v_175_400 (lx : List Int32) (n : Nat) (b : Bool) (d : Nat) (ml : List Value) (t : T) (Q : Option Value → T → Prop) (st : List Value) : vc (some lx) zH_175 (n + 1) b d 175 400 ml st t Q = vc (some lx) zH_175 n true d 175 401 ml (.int 2 :: st) t Q := by
  rw [vc_q (o := (0, 2, 0, 0, [])) (by decide +kernel)]; rfl
theorem v_175_401 (lx : List Int32) (n : Nat) (b : Bool) (d : Nat) (ml : List Value) (t : T) (Q : Option Value → T → Prop) (u v : Int32) (r : List Value) : vc (some lx) zH_175 (n + 1) b d 175 401 ml (.int v :: .int u :: r) t Q = vc (some lx) zH_175 n true d 175 402 ml (.int (u + v) :: r) t Q := by
  rw [vc_q (o := (6, 0, 0, 0, [])) (by decide +kernel)]; rfl
theorem v_175_402 (lx : List Int32) (n : Nat) (b : Bool) (d : Nat) (ml : List Value) (t : T) (Q : Option Value → T → Prop) (v : Int32) (u : Nat) (r : List Value) : vc (some lx) zH_175 (n + 1) b d 175 402 ml (.int v :: .ref u :: r) t Q = (u = zSCR ∧ vinb v lx.length ∧ vc (some lx) zH_175 n true d 175 403 ml (.int (lx.getD v.toNatClampNeg 0) :: r) t Q) := by
  rw [vc_q (o := (44, 0, 0, 0, [])) (by decide +kernel)]; rfl
theorem v_175_403 (lx : List Int32) (n : Nat) (b : Bool) (d : Nat) (ml : List Value) (t : T) (Q : Option Value → T → Prop) (st : List Value) : vc (some lx) zH_175 (n + 1) b d 175 403 ml st t Q = vga ml 0 (fun v => vc (some lx) zH_175 n true d 175 404 ml (.ref v :: st) t Q) := by
  rw [vc_q (o := (2, 0, 0, 0, [])) (by decide +kernel)]; rfl
theorem v_175_404 (lx : List Int32) (n : Nat) (b : Bool) (d : Nat) (ml : List Value) (t : T) (Q : Option Value → T → Prop) (st : List Value) : vc (some lx) zH_175 (n + 1) b d 175 404 ml st t Q = vgi ml 3 (fun v => vc (some lx) zH_175 n true d 175 405 ml (.int v :: st) t Q) := by
  rw [vc_q (o := (1, 0, 3, 0, [])) (by decide +kernel)]; rfl
theorem v_175_405 (lx : List Int32) (n : Nat) (b : Bool) (d : Nat) (ml : List Value) (t : T) (Q : Option Value → T → Prop) (st : List Value) : vc (some lx) zH_175 (n + 1) b d 175 405 ml st t Q = vc (some lx) zH_175 n true d 175 406 ml (.int 3 :: st) t Q := by
  rw [vc_q (o := (0, 3, 0, 0, [])) (by decide +kernel)]; rfl
theorem v_175_406 (lx : List Int32) (n : Nat) (b : Bool) (d : Nat) (ml : List Value) (t : T) (Q : Option Value → T → Prop) (u v : Int32) (r : List Value) : vc (some lx) zH_175 (n + 1) b d 175 406 ml (.int v :: .int u :: r) t Q = vc (some lx) zH_175 n true d 175 407 ml (.int (u + v) :: r) t Q := by
  rw [vc_q (o := (6, 0, 0, 0, [])) (by decide +kernel)]; rfl
theorem v_175_407 (lx : List Int32) (n : Nat) (b : Bool) (d : Nat) (ml : List Value) (t : T) (Q : Option Value → T → Prop) (v : Int32) (u : Nat) (r : List Value) : vc (some lx) zH_175 (n + 1) b d 175 407 ml (.int v :: .ref u :: r) t Q = (u = zSCR ∧ vinb v lx.length ∧ vc (some lx) zH_175 n true d 175 408 ml (.int (lx.getD v.toNatClampNeg 0) :: r) t Q) := by
  rw [vc_q (o := (44, 0, 0, 0, [])) (by decide +kernel)]; rfl
theorem v_175_408 (lx : List Int32) (n : Nat) (b : Bool) (d : Nat) (ml : List Value) (t : T) (Q : Option Value → T → Prop) (st : List Value) : vc (some lx) zH_175 (n + 1) b d 175 408 ml st t Q = vga ml 0 (fun v => vc (some lx) zH_175 n true d 175 409 ml (.ref v :: st) t Q) := by
  rw [vc_q (o := (2, 0, 0, 0, [])) (by decide +kernel)]; rfl
theorem v_175_409 (lx : List Int32) (n : Nat) (b : Bool) (d : Nat) (ml : List Value) (t : T) (Q : Option Value → T → Prop) (st : List Value) : vc (some lx) zH_175 (n + 1) b d 175 409 ml st t Q = vgi ml 3 (fun v => vc (some lx) zH_175 n true d 175 410 ml (.int v :: st) t Q) := by
  rw [vc_q (o := (1, 0, 3, 0, [])) (by decide +kernel)]; rfl
theorem v_175_410 (lx : List Int32) (n : Nat) (b : Bool) (d : Nat) (ml : List Value) (t : T) (Q : Option Value → T → Prop) (st : List Value) : vc (some lx) zH_175 (n + 1) b d 175 410 ml st t Q = vc (some lx) zH_175 n true d 175 411 ml (.int 4 :: st) t Q := by
  rw [vc_q (o := (0, 4, 0, 0, [])) (by decide +kernel)]; rfl
theorem v_175_411 (lx : List Int32) (n : Nat) (b : Bool) (d : Nat) (ml : List Value) (t : T) (Q : Option Value → T → Prop) (u v : Int32) (r : List Value) : vc (some lx) zH_175 (n + 1) b d 175 411 ml (.int v :: .int u :: r) t Q = vc (some lx) zH_175 n true d 175 412 ml (.int (u + v) :: r) t Q := by
  rw [vc_q (o := (6, 0, 0, 0, [])) (by decide +kernel)]; rfl
theorem v_175_412 (lx : List Int32) (n : Nat) (b : Bool) (d : Nat) (ml : List Value) (t : T) (Q : Option Value → T → Prop) (v : Int32) (u : Nat) (r : List Value) : vc (some lx) zH_175 (n + 1) b d 175 412 ml (.int v :: .ref u :: r) t Q = (u = zSCR ∧ vinb v lx.length ∧ vc (some lx) zH_175 n true d 175 413 ml (.int (lx.getD v.toNatClampNeg 0) :: r) t Q) := by
  rw [vc_q (o := (44, 0, 0, 0, [])) (by decide +kernel)]; rfl
theorem v_175_413 (lx : List Int32) (n : Nat) (b : Bool) (d : Nat) (ml : List Value) (t : T) (Q : Option Value → T → Prop) (st : List Value) : vc (some lx) zH_175 (n + 1) b d 175 413 ml st t Q = vga ml 0 (fun v => vc (some lx) zH_175 n true d 175 414 ml (.ref v :: st) t Q) := by
  rw [vc_q (o := (2, 0, 0, 0, [])) (by decide +kernel)]; rfl
theorem v_175_414 (lx : List Int32) (n : Nat) (b : Bool) (d : Nat) (ml : List Value) (t : T) (Q : Option Value → T → Prop) (st : List Value) : vc (some lx) zH_175 (n + 1) b d 175 414 ml st t Q = vgi ml 3 (fun v => vc (some lx) zH_175 n true d 175 415 ml (.int v :: st) t Q) := by
  rw [vc_q (o := (1, 0, 3, 0, [])) (by decide +kernel)]; rfl
theorem v_175_415 (lx : List Int32) (n : Nat) (b : Bool) (d : Nat) (ml : List Value) (t : T) (Q : Option Value → T → Prop) (st : List Value) : vc (some lx) zH_175 (n + 1) b d 175 415 ml st t Q = vc (some lx) zH_175 n true d 175 416 ml (.int 5 :: st) t Q := by
  rw [vc_q (o := (0, 5, 0, 0, [])) (by decide +kernel)]; rfl
theorem v_175_416 (lx : List Int32) (n : Nat) (b : Bool) (d : Nat) (ml : List Value) (t : T) (Q : Option Value → T → Prop) (u v : Int32) (r : List Value) : vc (some lx) zH_175 (n + 1) b d 175 416 ml (.int v :: .int u :: r) t Q = vc (some lx) zH_175 n true d 175 417 ml (.int (u + v) :: r) t Q := by
  rw [vc_q (o := (6, 0, 0, 0, [])) (by decide +kernel)]; rfl
theorem v_175_417 (lx : List Int32) (n : Nat) (b : Bool) (d : Nat) (ml : List Value) (t : T) (Q : Option Value → T → Prop) (v : Int32) (u : Nat) (r : List Value) : vc (some lx) zH_175 (n + 1) b d 175 417 ml (.int v :: .ref u :: r) t Q = (u = zSCR ∧ vinb v lx.length ∧ vc (some lx) zH_175 n true d 175 418 ml (.int (lx.getD v.toNatClampNeg 0) :: r) t Q) := by
  rw [vc_q (o := (44, 0, 0, 0, [])) (by decide +kernel)]; rfl
theorem v_175_418 (lx : List Int32) (n : Nat) (b : Bool) (d : Nat) (ml : List Value) (t : T) (Q : Option Value → T → Prop) (st : List Value) : vc (some lx) zH_175 (n + 1) b d 175 418 ml st t Q = (st.all zc1 = true ∧ vtk 6 st [] (fun as rest => rest.length ≤ 8 ∧ vrc as 12 (twc d 60 as t (fun r t' => vc (some lx) zH_175 n true d 175 421 ml (r.toList ++ rest) t' Q)))) := by
  rw [vc_q (o := (36, 0, 60, 5, [(0, 12)])) (by decide +kernel)]; rfl
theorem v_175_421 (lx : List Int32) (n : Nat) (b : Bool) (d : Nat) (ml : List Value) (t : T) (Q : Option Value → T → Prop) (u v : Int32) (r : List Value) : vc (some lx) zH_175 (n + 1) b d 175 421 ml (.int v :: .int u :: r) t Q = (if u = v then vc (some lx) zH_175 n true d 175 931 ml r t Q else vc (some lx) zH_175 n true d 175 424 ml r t Q) := by
  rw [vc_q (o := (20, 0, 931, 0, [])) (by decide +kernel)]; rfl
theorem v_175_424 (lx : List Int32) (n : Nat) (b : Bool) (d : Nat) (ml : List Value) (t : T) (Q : Option Value → T → Prop) (st : List Value) : vc (some lx) zH_175 (n + 1) b d 175 424 ml st t Q = vc (some lx) zH_175 n true d 175 425 ml (.int 0 :: st) t Q := by
  rw [vc_q (o := (0, 0, 0, 0, [])) (by decide +kernel)]; rfl
theorem v_175_425 (lx : List Int32) (n : Nat) (b : Bool) (d : Nat) (ml : List Value) (t : T) (Q : Option Value → T → Prop) (v : Int32) : vc (some lx) zH_175 (n + 1) b d 175 425 ml [.int v] t Q = ((v = 0 ∨ v = 1) ∧ Q (some (.int v)) t) := by
  rw [vc_q (o := (41, 0, 0, 0, [])) (by decide +kernel)]; rfl
theorem v_175_426 (lx : List Int32) (n : Nat) (b : Bool) (d : Nat) (ml : List Value) (t : T) (Q : Option Value → T → Prop) (st : List Value) : vc (some lx) zH_175 (n + 1) b d 175 426 ml st t Q = vga ml 1 (fun v => vc (some lx) zH_175 n true d 175 427 ml (.ref v :: st) t Q) := by
  rw [vc_q (o := (2, 0, 1, 0, [])) (by decide +kernel)]; rfl
theorem v_175_427 (lx : List Int32) (n : Nat) (b : Bool) (d : Nat) (ml : List Value) (t : T) (Q : Option Value → T → Prop) (st : List Value) : vc (some lx) zH_175 (n + 1) b d 175 427 ml st t Q = vga ml 0 (fun v => vc (some lx) zH_175 n true d 175 428 ml (.ref v :: st) t Q) := by
  rw [vc_q (o := (2, 0, 0, 0, [])) (by decide +kernel)]; rfl
theorem v_175_428 (lx : List Int32) (n : Nat) (b : Bool) (d : Nat) (ml : List Value) (t : T) (Q : Option Value → T → Prop) (st : List Value) : vc (some lx) zH_175 (n + 1) b d 175 428 ml st t Q = vgi ml 3 (fun v => vc (some lx) zH_175 n true d 175 429 ml (.int v :: st) t Q) := by
  rw [vc_q (o := (1, 0, 3, 0, [])) (by decide +kernel)]; rfl
theorem v_175_429 (lx : List Int32) (n : Nat) (b : Bool) (d : Nat) (ml : List Value) (t : T) (Q : Option Value → T → Prop) (st : List Value) : vc (some lx) zH_175 (n + 1) b d 175 429 ml st t Q = vc (some lx) zH_175 n true d 175 430 ml (.int 1 :: st) t Q := by
  rw [vc_q (o := (0, 1, 0, 0, [])) (by decide +kernel)]; rfl
theorem v_175_430 (lx : List Int32) (n : Nat) (b : Bool) (d : Nat) (ml : List Value) (t : T) (Q : Option Value → T → Prop) (u v : Int32) (r : List Value) : vc (some lx) zH_175 (n + 1) b d 175 430 ml (.int v :: .int u :: r) t Q = vc (some lx) zH_175 n true d 175 431 ml (.int (u + v) :: r) t Q := by
  rw [vc_q (o := (6, 0, 0, 0, [])) (by decide +kernel)]; rfl
theorem v_175_431 (lx : List Int32) (n : Nat) (b : Bool) (d : Nat) (ml : List Value) (t : T) (Q : Option Value → T → Prop) (v : Int32) (u : Nat) (r : List Value) : vc (some lx) zH_175 (n + 1) b d 175 431 ml (.int v :: .ref u :: r) t Q = (u = zSCR ∧ vinb v lx.length ∧ vc (some lx) zH_175 n true d 175 432 ml (.int (lx.getD v.toNatClampNeg 0) :: r) t Q) := by
  rw [vc_q (o := (44, 0, 0, 0, [])) (by decide +kernel)]; rfl
theorem v_175_432 (lx : List Int32) (n : Nat) (b : Bool) (d : Nat) (ml : List Value) (t : T) (Q : Option Value → T → Prop) (st : List Value) : vc (some lx) zH_175 (n + 1) b d 175 432 ml st t Q = (st.all zc1 = true ∧ vtk 2 st [] (fun as rest => rest.length ≤ 8 ∧ vrc as 0 (twc d 7 as t (fun r t' => vc (some lx) zH_175 n true d 175 435 ml (r.toList ++ rest) t' Q)))) := by
  rw [vc_q (o := (36, 0, 7, 1, [(0, 0)])) (by decide +kernel)]; rfl
theorem v_175_435 (lx : List Int32) (n : Nat) (b : Bool) (d : Nat) (ml : List Value) (t : T) (Q : Option Value → T → Prop) (st : List Value) : vc (some lx) zH_175 (n + 1) b d 175 435 ml st t Q = vga ml 2 (fun v => vc (some lx) zH_175 n true d 175 436 ml (.ref v :: st) t Q) := by
  rw [vc_q (o := (2, 0, 2, 0, [])) (by decide +kernel)]; rfl
theorem v_175_436 (lx : List Int32) (n : Nat) (b : Bool) (d : Nat) (ml : List Value) (t : T) (Q : Option Value → T → Prop) (st : List Value) : vc (some lx) zH_175 (n + 1) b d 175 436 ml st t Q = vga ml 0 (fun v => vc (some lx) zH_175 n true d 175 437 ml (.ref v :: st) t Q) := by
  rw [vc_q (o := (2, 0, 0, 0, [])) (by decide +kernel)]; rfl
theorem v_175_437 (lx : List Int32) (n : Nat) (b : Bool) (d : Nat) (ml : List Value) (t : T) (Q : Option Value → T → Prop) (st : List Value) : vc (some lx) zH_175 (n + 1) b d 175 437 ml st t Q = vgi ml 3 (fun v => vc (some lx) zH_175 n true d 175 438 ml (.int v :: st) t Q) := by
  rw [vc_q (o := (1, 0, 3, 0, [])) (by decide +kernel)]; rfl
theorem v_175_438 (lx : List Int32) (n : Nat) (b : Bool) (d : Nat) (ml : List Value) (t : T) (Q : Option Value → T → Prop) (st : List Value) : vc (some lx) zH_175 (n + 1) b d 175 438 ml st t Q = vc (some lx) zH_175 n true d 175 439 ml (.int 1 :: st) t Q := by
  rw [vc_q (o := (0, 1, 0, 0, [])) (by decide +kernel)]; rfl
theorem v_175_439 (lx : List Int32) (n : Nat) (b : Bool) (d : Nat) (ml : List Value) (t : T) (Q : Option Value → T → Prop) (u v : Int32) (r : List Value) : vc (some lx) zH_175 (n + 1) b d 175 439 ml (.int v :: .int u :: r) t Q = vc (some lx) zH_175 n true d 175 440 ml (.int (u + v) :: r) t Q := by
  rw [vc_q (o := (6, 0, 0, 0, [])) (by decide +kernel)]; rfl
theorem v_175_440 (lx : List Int32) (n : Nat) (b : Bool) (d : Nat) (ml : List Value) (t : T) (Q : Option Value → T → Prop) (v : Int32) (u : Nat) (r : List Value) : vc (some lx) zH_175 (n + 1) b d 175 440 ml (.int v :: .ref u :: r) t Q = (u = zSCR ∧ vinb v lx.length ∧ vc (some lx) zH_175 n true d 175 441 ml (.int (lx.getD v.toNatClampNeg 0) :: r) t Q) := by
  rw [vc_q (o := (44, 0, 0, 0, [])) (by decide +kernel)]; rfl
theorem v_175_441 (lx : List Int32) (n : Nat) (b : Bool) (d : Nat) (ml : List Value) (t : T) (Q : Option Value → T → Prop) (st : List Value) : vc (some lx) zH_175 (n + 1) b d 175 441 ml st t Q = (st.all zc1 = true ∧ vtk 2 st [] (fun as rest => rest.length ≤ 8 ∧ vrc as 12 (twc d 61 as t (fun r t' => vc (some lx) zH_175 n true d 175 444 ml (r.toList ++ rest) t' Q)))) := by
  rw [vc_q (o := (36, 0, 61, 1, [(0, 12)])) (by decide +kernel)]; rfl
theorem v_175_444 (lx : List Int32) (n : Nat) (b : Bool) (d : Nat) (ml : List Value) (t : T) (Q : Option Value → T → Prop) (u v : Int32) (r : List Value) : vc (some lx) zH_175 (n + 1) b d 175 444 ml (.int v :: .int u :: r) t Q = (if u = v then vc (some lx) zH_175 n true d 175 931 ml r t Q else vc (some lx) zH_175 n true d 175 447 ml r t Q) := by
  rw [vc_q (o := (20, 0, 931, 0, [])) (by decide +kernel)]; rfl
theorem v_175_447 (lx : List Int32) (n : Nat) (b : Bool) (d : Nat) (ml : List Value) (t : T) (Q : Option Value → T → Prop) (st : List Value) : vc (some lx) zH_175 (n + 1) b d 175 447 ml st t Q = vc (some lx) zH_175 n true d 175 448 ml (.int 0 :: st) t Q := by
  rw [vc_q (o := (0, 0, 0, 0, [])) (by decide +kernel)]; rfl
theorem v_175_448 (lx : List Int32) (n : Nat) (b : Bool) (d : Nat) (ml : List Value) (t : T) (Q : Option Value → T → Prop) (v : Int32) : vc (some lx) zH_175 (n + 1) b d 175 448 ml [.int v] t Q = ((v = 0 ∨ v = 1) ∧ Q (some (.int v)) t) := by
  rw [vc_q (o := (41, 0, 0, 0, [])) (by decide +kernel)]; rfl
theorem v_175_449 (lx : List Int32) (n : Nat) (b : Bool) (d : Nat) (ml : List Value) (t : T) (Q : Option Value → T → Prop) (st : List Value) : vc (some lx) zH_175 (n + 1) b d 175 449 ml st t Q = vga ml 1 (fun v => vc (some lx) zH_175 n true d 175 450 ml (.ref v :: st) t Q) := by
  rw [vc_q (o := (2, 0, 1, 0, [])) (by decide +kernel)]; rfl
theorem v_175_450 (lx : List Int32) (n : Nat) (b : Bool) (d : Nat) (ml : List Value) (t : T) (Q : Option Value → T → Prop) (st : List Value) : vc (some lx) zH_175 (n + 1) b d 175 450 ml st t Q = vga ml 0 (fun v => vc (some lx) zH_175 n true d 175 451 ml (.ref v :: st) t Q) := by
  rw [vc_q (o := (2, 0, 0, 0, [])) (by decide +kernel)]; rfl
theorem v_175_451 (lx : List Int32) (n : Nat) (b : Bool) (d : Nat) (ml : List Value) (t : T) (Q : Option Value → T → Prop) (st : List Value) : vc (some lx) zH_175 (n + 1) b d 175 451 ml st t Q = vgi ml 3 (fun v => vc (some lx) zH_175 n true d 175 452 ml (.int v :: st) t Q) := by
  rw [vc_q (o := (1, 0, 3, 0, [])) (by decide +kernel)]; rfl
theorem v_175_452 (lx : List Int32) (n : Nat) (b : Bool) (d : Nat) (ml : List Value) (t : T) (Q : Option Value → T → Prop) (st : List Value) : vc (some lx) zH_175 (n + 1) b d 175 452 ml st t Q = vc (some lx) zH_175 n true d 175 453 ml (.int 1 :: st) t Q := by
  rw [vc_q (o := (0, 1, 0, 0, [])) (by decide +kernel)]; rfl
theorem v_175_453 (lx : List Int32) (n : Nat) (b : Bool) (d : Nat) (ml : List Value) (t : T) (Q : Option Value → T → Prop) (u v : Int32) (r : List Value) : vc (some lx) zH_175 (n + 1) b d 175 453 ml (.int v :: .int u :: r) t Q = vc (some lx) zH_175 n true d 175 454 ml (.int (u + v) :: r) t Q := by
  rw [vc_q (o := (6, 0, 0, 0, [])) (by decide +kernel)]; rfl
theorem v_175_454 (lx : List Int32) (n : Nat) (b : Bool) (d : Nat) (ml : List Value) (t : T) (Q : Option Value → T → Prop) (v : Int32) (u : Nat) (r : List Value) : vc (some lx) zH_175 (n + 1) b d 175 454 ml (.int v :: .ref u :: r) t Q = (u = zSCR ∧ vinb v lx.length ∧ vc (some lx) zH_175 n true d 175 455 ml (.int (lx.getD v.toNatClampNeg 0) :: r) t Q) := by
  rw [vc_q (o := (44, 0, 0, 0, [])) (by decide +kernel)]; rfl
theorem v_175_455 (lx : List Int32) (n : Nat) (b : Bool) (d : Nat) (ml : List Value) (t : T) (Q : Option Value → T → Prop) (st : List Value) : vc (some lx) zH_175 (n + 1) b d 175 455 ml st t Q = vga ml 0 (fun v => vc (some lx) zH_175 n true d 175 456 ml (.ref v :: st) t Q) := by
  rw [vc_q (o := (2, 0, 0, 0, [])) (by decide +kernel)]; rfl
theorem v_175_456 (lx : List Int32) (n : Nat) (b : Bool) (d : Nat) (ml : List Value) (t : T) (Q : Option Value → T → Prop) (st : List Value) : vc (some lx) zH_175 (n + 1) b d 175 456 ml st t Q = vgi ml 3 (fun v => vc (some lx) zH_175 n true d 175 457 ml (.int v :: st) t Q) := by
  rw [vc_q (o := (1, 0, 3, 0, [])) (by decide +kernel)]; rfl
theorem v_175_457 (lx : List Int32) (n : Nat) (b : Bool) (d : Nat) (ml : List Value) (t : T) (Q : Option Value → T → Prop) (st : List Value) : vc (some lx) zH_175 (n + 1) b d 175 457 ml st t Q = vc (some lx) zH_175 n true d 175 458 ml (.int 2 :: st) t Q := by
  rw [vc_q (o := (0, 2, 0, 0, [])) (by decide +kernel)]; rfl
theorem v_175_458 (lx : List Int32) (n : Nat) (b : Bool) (d : Nat) (ml : List Value) (t : T) (Q : Option Value → T → Prop) (u v : Int32) (r : List Value) : vc (some lx) zH_175 (n + 1) b d 175 458 ml (.int v :: .int u :: r) t Q = vc (some lx) zH_175 n true d 175 459 ml (.int (u + v) :: r) t Q := by
  rw [vc_q (o := (6, 0, 0, 0, [])) (by decide +kernel)]; rfl
theorem v_175_459 (lx : List Int32) (n : Nat) (b : Bool) (d : Nat) (ml : List Value) (t : T) (Q : Option Value → T → Prop) (v : Int32) (u : Nat) (r : List Value) : vc (some lx) zH_175 (n + 1) b d 175 459 ml (.int v :: .ref u :: r) t Q = (u = zSCR ∧ vinb v lx.length ∧ vc (some lx) zH_175 n true d 175 460 ml (.int (lx.getD v.toNatClampNeg 0) :: r) t Q) := by
  rw [vc_q (o := (44, 0, 0, 0, [])) (by decide +kernel)]; rfl
theorem v_175_460 (lx : List Int32) (n : Nat) (b : Bool) (d : Nat) (ml : List Value) (t : T) (Q : Option Value → T → Prop) (st : List Value) : vc (some lx) zH_175 (n + 1) b d 175 460 ml st t Q = vga ml 0 (fun v => vc (some lx) zH_175 n true d 175 461 ml (.ref v :: st) t Q) := by
  rw [vc_q (o := (2, 0, 0, 0, [])) (by decide +kernel)]; rfl
theorem v_175_461 (lx : List Int32) (n : Nat) (b : Bool) (d : Nat) (ml : List Value) (t : T) (Q : Option Value → T → Prop) (st : List Value) : vc (some lx) zH_175 (n + 1) b d 175 461 ml st t Q = vgi ml 3 (fun v => vc (some lx) zH_175 n true d 175 462 ml (.int v :: st) t Q) := by
  rw [vc_q (o := (1, 0, 3, 0, [])) (by decide +kernel)]; rfl
theorem v_175_462 (lx : List Int32) (n : Nat) (b : Bool) (d : Nat) (ml : List Value) (t : T) (Q : Option Value → T → Prop) (st : List Value) : vc (some lx) zH_175 (n + 1) b d 175 462 ml st t Q = vc (some lx) zH_175 n true d 175 463 ml (.int 3 :: st) t Q := by
  rw [vc_q (o := (0, 3, 0, 0, [])) (by decide +kernel)]; rfl
theorem v_175_463 (lx : List Int32) (n : Nat) (b : Bool) (d : Nat) (ml : List Value) (t : T) (Q : Option Value → T → Prop) (u v : Int32) (r : List Value) : vc (some lx) zH_175 (n + 1) b d 175 463 ml (.int v :: .int u :: r) t Q = vc (some lx) zH_175 n true d 175 464 ml (.int (u + v) :: r) t Q := by
  rw [vc_q (o := (6, 0, 0, 0, [])) (by decide +kernel)]; rfl
theorem v_175_464 (lx : List Int32) (n : Nat) (b : Bool) (d : Nat) (ml : List Value) (t : T) (Q : Option Value → T → Prop) (v : Int32) (u : Nat) (r : List Value) : vc (some lx) zH_175 (n + 1) b d 175 464 ml (.int v :: .ref u :: r) t Q = (u = zSCR ∧ vinb v lx.length ∧ vc (some lx) zH_175 n true d 175 465 ml (.int (lx.getD v.toNatClampNeg 0) :: r) t Q) := by
  rw [vc_q (o := (44, 0, 0, 0, [])) (by decide +kernel)]; rfl
theorem v_175_465 (lx : List Int32) (n : Nat) (b : Bool) (d : Nat) (ml : List Value) (t : T) (Q : Option Value → T → Prop) (st : List Value) : vc (some lx) zH_175 (n + 1) b d 175 465 ml st t Q = vga ml 0 (fun v => vc (some lx) zH_175 n true d 175 466 ml (.ref v :: st) t Q) := by
  rw [vc_q (o := (2, 0, 0, 0, [])) (by decide +kernel)]; rfl
theorem v_175_466 (lx : List Int32) (n : Nat) (b : Bool) (d : Nat) (ml : List Value) (t : T) (Q : Option Value → T → Prop) (st : List Value) : vc (some lx) zH_175 (n + 1) b d 175 466 ml st t Q = vgi ml 3 (fun v => vc (some lx) zH_175 n true d 175 467 ml (.int v :: st) t Q) := by
  rw [vc_q (o := (1, 0, 3, 0, [])) (by decide +kernel)]; rfl
theorem v_175_467 (lx : List Int32) (n : Nat) (b : Bool) (d : Nat) (ml : List Value) (t : T) (Q : Option Value → T → Prop) (st : List Value) : vc (some lx) zH_175 (n + 1) b d 175 467 ml st t Q = vc (some lx) zH_175 n true d 175 468 ml (.int 4 :: st) t Q := by
  rw [vc_q (o := (0, 4, 0, 0, [])) (by decide +kernel)]; rfl
theorem v_175_468 (lx : List Int32) (n : Nat) (b : Bool) (d : Nat) (ml : List Value) (t : T) (Q : Option Value → T → Prop) (u v : Int32) (r : List Value) : vc (some lx) zH_175 (n + 1) b d 175 468 ml (.int v :: .int u :: r) t Q = vc (some lx) zH_175 n true d 175 469 ml (.int (u + v) :: r) t Q := by
  rw [vc_q (o := (6, 0, 0, 0, [])) (by decide +kernel)]; rfl
theorem v_175_469 (lx : List Int32) (n : Nat) (b : Bool) (d : Nat) (ml : List Value) (t : T) (Q : Option Value → T → Prop) (v : Int32) (u : Nat) (r : List Value) : vc (some lx) zH_175 (n + 1) b d 175 469 ml (.int v :: .ref u :: r) t Q = (u = zSCR ∧ vinb v lx.length ∧ vc (some lx) zH_175 n true d 175 470 ml (.int (lx.getD v.toNatClampNeg 0) :: r) t Q) := by
  rw [vc_q (o := (44, 0, 0, 0, [])) (by decide +kernel)]; rfl
theorem v_175_470 (lx : List Int32) (n : Nat) (b : Bool) (d : Nat) (ml : List Value) (t : T) (Q : Option Value → T → Prop) (st : List Value) : vc (some lx) zH_175 (n + 1) b d 175 470 ml st t Q = (st.all zc1 = true ∧ vtk 5 st [] (fun as rest => rest.length ≤ 8 ∧ vrc as 0 (twc d 8 as t (fun r t' => vc (some lx) zH_175 n true d 175 473 ml (r.toList ++ rest) t' Q)))) := by
  rw [vc_q (o := (36, 0, 8, 4, [(0, 0)])) (by decide +kernel)]; rfl
theorem v_175_473 (lx : List Int32) (n : Nat) (b : Bool) (d : Nat) (ml : List Value) (t : T) (Q : Option Value → T → Prop) (st : List Value) : vc (some lx) zH_175 (n + 1) b d 175 473 ml st t Q = vga ml 2 (fun v => vc (some lx) zH_175 n true d 175 474 ml (.ref v :: st) t Q) := by
  rw [vc_q (o := (2, 0, 2, 0, [])) (by decide +kernel)]; rfl
theorem v_175_474 (lx : List Int32) (n : Nat) (b : Bool) (d : Nat) (ml : List Value) (t : T) (Q : Option Value → T → Prop) (st : List Value) : vc (some lx) zH_175 (n + 1) b d 175 474 ml st t Q = vga ml 0 (fun v => vc (some lx) zH_175 n true d 175 475 ml (.ref v :: st) t Q) := by
  rw [vc_q (o := (2, 0, 0, 0, [])) (by decide +kernel)]; rfl
theorem v_175_475 (lx : List Int32) (n : Nat) (b : Bool) (d : Nat) (ml : List Value) (t : T) (Q : Option Value → T → Prop) (st : List Value) : vc (some lx) zH_175 (n + 1) b d 175 475 ml st t Q = vgi ml 3 (fun v => vc (some lx) zH_175 n true d 175 476 ml (.int v :: st) t Q) := by
  rw [vc_q (o := (1, 0, 3, 0, [])) (by decide +kernel)]; rfl
theorem v_175_476 (lx : List Int32) (n : Nat) (b : Bool) (d : Nat) (ml : List Value) (t : T) (Q : Option Value → T → Prop) (st : List Value) : vc (some lx) zH_175 (n + 1) b d 175 476 ml st t Q = vc (some lx) zH_175 n true d 175 477 ml (.int 1 :: st) t Q := by
  rw [vc_q (o := (0, 1, 0, 0, [])) (by decide +kernel)]; rfl
theorem v_175_477 (lx : List Int32) (n : Nat) (b : Bool) (d : Nat) (ml : List Value) (t : T) (Q : Option Value → T → Prop) (u v : Int32) (r : List Value) : vc (some lx) zH_175 (n + 1) b d 175 477 ml (.int v :: .int u :: r) t Q = vc (some lx) zH_175 n true d 175 478 ml (.int (u + v) :: r) t Q := by
  rw [vc_q (o := (6, 0, 0, 0, [])) (by decide +kernel)]; rfl
theorem v_175_478 (lx : List Int32) (n : Nat) (b : Bool) (d : Nat) (ml : List Value) (t : T) (Q : Option Value → T → Prop) (v : Int32) (u : Nat) (r : List Value) : vc (some lx) zH_175 (n + 1) b d 175 478 ml (.int v :: .ref u :: r) t Q = (u = zSCR ∧ vinb v lx.length ∧ vc (some lx) zH_175 n true d 175 479 ml (.int (lx.getD v.toNatClampNeg 0) :: r) t Q) := by
  rw [vc_q (o := (44, 0, 0, 0, [])) (by decide +kernel)]; rfl
theorem v_175_479 (lx : List Int32) (n : Nat) (b : Bool) (d : Nat) (ml : List Value) (t : T) (Q : Option Value → T → Prop) (st : List Value) : vc (some lx) zH_175 (n + 1) b d 175 479 ml st t Q = vga ml 0 (fun v => vc (some lx) zH_175 n true d 175 480 ml (.ref v :: st) t Q) := by
  rw [vc_q (o := (2, 0, 0, 0, [])) (by decide +kernel)]; rfl
theorem v_175_480 (lx : List Int32) (n : Nat) (b : Bool) (d : Nat) (ml : List Value) (t : T) (Q : Option Value → T → Prop) (st : List Value) : vc (some lx) zH_175 (n + 1) b d 175 480 ml st t Q = vgi ml 3 (fun v => vc (some lx) zH_175 n true d 175 481 ml (.int v :: st) t Q) := by
  rw [vc_q (o := (1, 0, 3, 0, [])) (by decide +kernel)]; rfl
theorem v_175_481 (lx : List Int32) (n : Nat) (b : Bool) (d : Nat) (ml : List Value) (t : T) (Q : Option Value → T → Prop) (st : List Value) : vc (some lx) zH_175 (n + 1) b d 175 481 ml st t Q = vc (some lx) zH_175 n true d 175 482 ml (.int 2 :: st) t Q := by
  rw [vc_q (o := (0, 2, 0, 0, [])) (by decide +kernel)]; rfl
theorem v_175_482 (lx : List Int32) (n : Nat) (b : Bool) (d : Nat) (ml : List Value) (t : T) (Q : Option Value → T → Prop) (u v : Int32) (r : List Value) : vc (some lx) zH_175 (n + 1) b d 175 482 ml (.int v :: .int u :: r) t Q = vc (some lx) zH_175 n true d 175 483 ml (.int (u + v) :: r) t Q := by
  rw [vc_q (o := (6, 0, 0, 0, [])) (by decide +kernel)]; rfl
theorem v_175_483 (lx : List Int32) (n : Nat) (b : Bool) (d : Nat) (ml : List Value) (t : T) (Q : Option Value → T → Prop) (v : Int32) (u : Nat) (r : List Value) : vc (some lx) zH_175 (n + 1) b d 175 483 ml (.int v :: .ref u :: r) t Q = (u = zSCR ∧ vinb v lx.length ∧ vc (some lx) zH_175 n true d 175 484 ml (.int (lx.getD v.toNatClampNeg 0) :: r) t Q) := by
  rw [vc_q (o := (44, 0, 0, 0, [])) (by decide +kernel)]; rfl
theorem v_175_484 (lx : List Int32) (n : Nat) (b : Bool) (d : Nat) (ml : List Value) (t : T) (Q : Option Value → T → Prop) (st : List Value) : vc (some lx) zH_175 (n + 1) b d 175 484 ml st t Q = vga ml 0 (fun v => vc (some lx) zH_175 n true d 175 485 ml (.ref v :: st) t Q) := by
  rw [vc_q (o := (2, 0, 0, 0, [])) (by decide +kernel)]; rfl
theorem v_175_485 (lx : List Int32) (n : Nat) (b : Bool) (d : Nat) (ml : List Value) (t : T) (Q : Option Value → T → Prop) (st : List Value) : vc (some lx) zH_175 (n + 1) b d 175 485 ml st t Q = vgi ml 3 (fun v => vc (some lx) zH_175 n true d 175 486 ml (.int v :: st) t Q) := by
  rw [vc_q (o := (1, 0, 3, 0, [])) (by decide +kernel)]; rfl
theorem v_175_486 (lx : List Int32) (n : Nat) (b : Bool) (d : Nat) (ml : List Value) (t : T) (Q : Option Value → T → Prop) (st : List Value) : vc (some lx) zH_175 (n + 1) b d 175 486 ml st t Q = vc (some lx) zH_175 n true d 175 487 ml (.int 3 :: st) t Q := by
  rw [vc_q (o := (0, 3, 0, 0, [])) (by decide +kernel)]; rfl
theorem v_175_487 (lx : List Int32) (n : Nat) (b : Bool) (d : Nat) (ml : List Value) (t : T) (Q : Option Value → T → Prop) (u v : Int32) (r : List Value) : vc (some lx) zH_175 (n + 1) b d 175 487 ml (.int v :: .int u :: r) t Q = vc (some lx) zH_175 n true d 175 488 ml (.int (u + v) :: r) t Q := by
  rw [vc_q (o := (6, 0, 0, 0, [])) (by decide +kernel)]; rfl
theorem v_175_488 (lx : List Int32) (n : Nat) (b : Bool) (d : Nat) (ml : List Value) (t : T) (Q : Option Value → T → Prop) (v : Int32) (u : Nat) (r : List Value) : vc (some lx) zH_175 (n + 1) b d 175 488 ml (.int v :: .ref u :: r) t Q = (u = zSCR ∧ vinb v lx.length ∧ vc (some lx) zH_175 n true d 175 489 ml (.int (lx.getD v.toNatClampNeg 0) :: r) t Q) := by
  rw [vc_q (o := (44, 0, 0, 0, [])) (by decide +kernel)]; rfl
theorem v_175_489 (lx : List Int32) (n : Nat) (b : Bool) (d : Nat) (ml : List Value) (t : T) (Q : Option Value → T → Prop) (st : List Value) : vc (some lx) zH_175 (n + 1) b d 175 489 ml st t Q = vga ml 0 (fun v => vc (some lx) zH_175 n true d 175 490 ml (.ref v :: st) t Q) := by
  rw [vc_q (o := (2, 0, 0, 0, [])) (by decide +kernel)]; rfl
theorem v_175_490 (lx : List Int32) (n : Nat) (b : Bool) (d : Nat) (ml : List Value) (t : T) (Q : Option Value → T → Prop) (st : List Value) : vc (some lx) zH_175 (n + 1) b d 175 490 ml st t Q = vgi ml 3 (fun v => vc (some lx) zH_175 n true d 175 491 ml (.int v :: st) t Q) := by
  rw [vc_q (o := (1, 0, 3, 0, [])) (by decide +kernel)]; rfl
theorem v_175_491 (lx : List Int32) (n : Nat) (b : Bool) (d : Nat) (ml : List Value) (t : T) (Q : Option Value → T → Prop) (st : List Value) : vc (some lx) zH_175 (n + 1) b d 175 491 ml st t Q = vc (some lx) zH_175 n true d 175 492 ml (.int 4 :: st) t Q := by
  rw [vc_q (o := (0, 4, 0, 0, [])) (by decide +kernel)]; rfl
theorem v_175_492 (lx : List Int32) (n : Nat) (b : Bool) (d : Nat) (ml : List Value) (t : T) (Q : Option Value → T → Prop) (u v : Int32) (r : List Value) : vc (some lx) zH_175 (n + 1) b d 175 492 ml (.int v :: .int u :: r) t Q = vc (some lx) zH_175 n true d 175 493 ml (.int (u + v) :: r) t Q := by
  rw [vc_q (o := (6, 0, 0, 0, [])) (by decide +kernel)]; rfl
theorem v_175_493 (lx : List Int32) (n : Nat) (b : Bool) (d : Nat) (ml : List Value) (t : T) (Q : Option Value → T → Prop) (v : Int32) (u : Nat) (r : List Value) : vc (some lx) zH_175 (n + 1) b d 175 493 ml (.int v :: .ref u :: r) t Q = (u = zSCR ∧ vinb v lx.length ∧ vc (some lx) zH_175 n true d 175 494 ml (.int (lx.getD v.toNatClampNeg 0) :: r) t Q) := by
  rw [vc_q (o := (44, 0, 0, 0, [])) (by decide +kernel)]; rfl
theorem v_175_494 (lx : List Int32) (n : Nat) (b : Bool) (d : Nat) (ml : List Value) (t : T) (Q : Option Value → T → Prop) (st : List Value) : vc (some lx) zH_175 (n + 1) b d 175 494 ml st t Q = (st.all zc1 = true ∧ vtk 5 st [] (fun as rest => rest.length ≤ 8 ∧ vrc as 12 (twc d 69 as t (fun r t' => vc (some lx) zH_175 n true d 175 497 ml (r.toList ++ rest) t' Q)))) := by
  rw [vc_q (o := (36, 0, 69, 4, [(0, 12)])) (by decide +kernel)]; rfl
theorem v_175_497 (lx : List Int32) (n : Nat) (b : Bool) (d : Nat) (ml : List Value) (t : T) (Q : Option Value → T → Prop) (u v : Int32) (r : List Value) : vc (some lx) zH_175 (n + 1) b d 175 497 ml (.int v :: .int u :: r) t Q = (if u = v then vc (some lx) zH_175 n true d 175 931 ml r t Q else vc (some lx) zH_175 n true d 175 500 ml r t Q) := by
  rw [vc_q (o := (20, 0, 931, 0, [])) (by decide +kernel)]; rfl
theorem v_175_500 (lx : List Int32) (n : Nat) (b : Bool) (d : Nat) (ml : List Value) (t : T) (Q : Option Value → T → Prop) (st : List Value) : vc (some lx) zH_175 (n + 1) b d 175 500 ml st t Q = vc (some lx) zH_175 n true d 175 501 ml (.int 0 :: st) t Q := by
  rw [vc_q (o := (0, 0, 0, 0, [])) (by decide +kernel)]; rfl
theorem v_175_501 (lx : List Int32) (n : Nat) (b : Bool) (d : Nat) (ml : List Value) (t : T) (Q : Option Value → T → Prop) (v : Int32) : vc (some lx) zH_175 (n + 1) b d 175 501 ml [.int v] t Q = ((v = 0 ∨ v = 1) ∧ Q (some (.int v)) t) := by
  rw [vc_q (o := (41, 0, 0, 0, [])) (by decide +kernel)]; rfl
theorem v_175_502 (lx : List Int32) (n : Nat) (b : Bool) (d : Nat) (ml : List Value) (t : T) (Q : Option Value → T → Prop) (st : List Value) : vc (some lx) zH_175 (n + 1) b d 175 502 ml st t Q = vga ml 1 (fun v => vc (some lx) zH_175 n true d 175 503 ml (.ref v :: st) t Q) := by
  rw [vc_q (o := (2, 0, 1, 0, [])) (by decide +kernel)]; rfl
theorem v_175_503 (lx : List Int32) (n : Nat) (b : Bool) (d : Nat) (ml : List Value) (t : T) (Q : Option Value → T → Prop) (st : List Value) : vc (some lx) zH_175 (n + 1) b d 175 503 ml st t Q = vga ml 0 (fun v => vc (some lx) zH_175 n true d 175 504 ml (.ref v :: st) t Q) := by
  rw [vc_q (o := (2, 0, 0, 0, [])) (by decide +kernel)]; rfl
theorem v_175_504 (lx : List Int32) (n : Nat) (b : Bool) (d : Nat) (ml : List Value) (t : T) (Q : Option Value → T → Prop) (st : List Value) : vc (some lx) zH_175 (n + 1) b d 175 504 ml st t Q = vgi ml 3 (fun v => vc (some lx) zH_175 n true d 175 505 ml (.int v :: st) t Q) := by
  rw [vc_q (o := (1, 0, 3, 0, [])) (by decide +kernel)]; rfl
theorem v_175_505 (lx : List Int32) (n : Nat) (b : Bool) (d : Nat) (ml : List Value) (t : T) (Q : Option Value → T → Prop) (st : List Value) : vc (some lx) zH_175 (n + 1) b d 175 505 ml st t Q = vc (some lx) zH_175 n true d 175 506 ml (.int 1 :: st) t Q := by
  rw [vc_q (o := (0, 1, 0, 0, [])) (by decide +kernel)]; rfl
theorem v_175_506 (lx : List Int32) (n : Nat) (b : Bool) (d : Nat) (ml : List Value) (t : T) (Q : Option Value → T → Prop) (u v : Int32) (r : List Value) : vc (some lx) zH_175 (n + 1) b d 175 506 ml (.int v :: .int u :: r) t Q = vc (some lx) zH_175 n true d 175 507 ml (.int (u + v) :: r) t Q := by
  rw [vc_q (o := (6, 0, 0, 0, [])) (by decide +kernel)]; rfl
theorem v_175_507 (lx : List Int32) (n : Nat) (b : Bool) (d : Nat) (ml : List Value) (t : T) (Q : Option Value → T → Prop) (v : Int32) (u : Nat) (r : List Value) : vc (some lx) zH_175 (n + 1) b d 175 507 ml (.int v :: .ref u :: r) t Q = (u = zSCR ∧ vinb v lx.length ∧ vc (some lx) zH_175 n true d 175 508 ml (.int (lx.getD v.toNatClampNeg 0) :: r) t Q) := by
  rw [vc_q (o := (44, 0, 0, 0, [])) (by decide +kernel)]; rfl
theorem v_175_508 (lx : List Int32) (n : Nat) (b : Bool) (d : Nat) (ml : List Value) (t : T) (Q : Option Value → T → Prop) (st : List Value) : vc (some lx) zH_175 (n + 1) b d 175 508 ml st t Q = (st.all zc1 = true ∧ vtk 2 st [] (fun as rest => rest.length ≤ 8 ∧ vrc as 0 (twc d 9 as t (fun r t' => vc (some lx) zH_175 n true d 175 511 ml (r.toList ++ rest) t' Q)))) := by
  rw [vc_q (o := (36, 0, 9, 1, [(0, 0)])) (by decide +kernel)]; rfl
theorem v_175_511 (lx : List Int32) (n : Nat) (b : Bool) (d : Nat) (ml : List Value) (t : T) (Q : Option Value → T → Prop) (st : List Value) : vc (some lx) zH_175 (n + 1) b d 175 511 ml st t Q = vga ml 2 (fun v => vc (some lx) zH_175 n true d 175 512 ml (.ref v :: st) t Q) := by
  rw [vc_q (o := (2, 0, 2, 0, [])) (by decide +kernel)]; rfl
theorem v_175_512 (lx : List Int32) (n : Nat) (b : Bool) (d : Nat) (ml : List Value) (t : T) (Q : Option Value → T → Prop) (st : List Value) : vc (some lx) zH_175 (n + 1) b d 175 512 ml st t Q = vga ml 0 (fun v => vc (some lx) zH_175 n true d 175 513 ml (.ref v :: st) t Q) := by
  rw [vc_q (o := (2, 0, 0, 0, [])) (by decide +kernel)]; rfl
theorem v_175_513 (lx : List Int32) (n : Nat) (b : Bool) (d : Nat) (ml : List Value) (t : T) (Q : Option Value → T → Prop) (st : List Value) : vc (some lx) zH_175 (n + 1) b d 175 513 ml st t Q = vgi ml 3 (fun v => vc (some lx) zH_175 n true d 175 514 ml (.int v :: st) t Q) := by
  rw [vc_q (o := (1, 0, 3, 0, [])) (by decide +kernel)]; rfl
theorem v_175_514 (lx : List Int32) (n : Nat) (b : Bool) (d : Nat) (ml : List Value) (t : T) (Q : Option Value → T → Prop) (st : List Value) : vc (some lx) zH_175 (n + 1) b d 175 514 ml st t Q = vc (some lx) zH_175 n true d 175 515 ml (.int 1 :: st) t Q := by
  rw [vc_q (o := (0, 1, 0, 0, [])) (by decide +kernel)]; rfl
theorem v_175_515 (lx : List Int32) (n : Nat) (b : Bool) (d : Nat) (ml : List Value) (t : T) (Q : Option Value → T → Prop) (u v : Int32) (r : List Value) : vc (some lx) zH_175 (n + 1) b d 175 515 ml (.int v :: .int u :: r) t Q = vc (some lx) zH_175 n true d 175 516 ml (.int (u + v) :: r) t Q := by
  rw [vc_q (o := (6, 0, 0, 0, [])) (by decide +kernel)]; rfl
theorem v_175_516 (lx : List Int32) (n : Nat) (b : Bool) (d : Nat) (ml : List Value) (t : T) (Q : Option Value → T → Prop) (v : Int32) (u : Nat) (r : List Value) : vc (some lx) zH_175 (n + 1) b d 175 516 ml (.int v :: .ref u :: r) t Q = (u = zSCR ∧ vinb v lx.length ∧ vc (some lx) zH_175 n true d 175 517 ml (.int (lx.getD v.toNatClampNeg 0) :: r) t Q) := by
  rw [vc_q (o := (44, 0, 0, 0, [])) (by decide +kernel)]; rfl
theorem v_175_517 (lx : List Int32) (n : Nat) (b : Bool) (d : Nat) (ml : List Value) (t : T) (Q : Option Value → T → Prop) (st : List Value) : vc (some lx) zH_175 (n + 1) b d 175 517 ml st t Q = (st.all zc1 = true ∧ vtk 2 st [] (fun as rest => rest.length ≤ 8 ∧ vrc as 12 (twc d 73 as t (fun r t' => vc (some lx) zH_175 n true d 175 520 ml (r.toList ++ rest) t' Q)))) := by
  rw [vc_q (o := (36, 0, 73, 1, [(0, 12)])) (by decide +kernel)]; rfl
theorem v_175_520 (lx : List Int32) (n : Nat) (b : Bool) (d : Nat) (ml : List Value) (t : T) (Q : Option Value → T → Prop) (u v : Int32) (r : List Value) : vc (some lx) zH_175 (n + 1) b d 175 520 ml (.int v :: .int u :: r) t Q = (if u = v then vc (some lx) zH_175 n true d 175 931 ml r t Q else vc (some lx) zH_175 n true d 175 523 ml r t Q) := by
  rw [vc_q (o := (20, 0, 931, 0, [])) (by decide +kernel)]; rfl
theorem v_175_523 (lx : List Int32) (n : Nat) (b : Bool) (d : Nat) (ml : List Value) (t : T) (Q : Option Value → T → Prop) (st : List Value) : vc (some lx) zH_175 (n + 1) b d 175 523 ml st t Q = vc (some lx) zH_175 n true d 175 524 ml (.int 0 :: st) t Q := by
  rw [vc_q (o := (0, 0, 0, 0, [])) (by decide +kernel)]; rfl
theorem v_175_524 (lx : List Int32) (n : Nat) (b : Bool) (d : Nat) (ml : List Value) (t : T) (Q : Option Value → T → Prop) (v : Int32) : vc (some lx) zH_175 (n + 1) b d 175 524 ml [.int v] t Q = ((v = 0 ∨ v = 1) ∧ Q (some (.int v)) t) := by
  rw [vc_q (o := (41, 0, 0, 0, [])) (by decide +kernel)]; rfl
theorem v_175_525 (lx : List Int32) (n : Nat) (b : Bool) (d : Nat) (ml : List Value) (t : T) (Q : Option Value → T → Prop) (st : List Value) : vc (some lx) zH_175 (n + 1) b d 175 525 ml st t Q = vga ml 1 (fun v => vc (some lx) zH_175 n true d 175 526 ml (.ref v :: st) t Q) := by
  rw [vc_q (o := (2, 0, 1, 0, [])) (by decide +kernel)]; rfl
theorem v_175_526 (lx : List Int32) (n : Nat) (b : Bool) (d : Nat) (ml : List Value) (t : T) (Q : Option Value → T → Prop) (st : List Value) : vc (some lx) zH_175 (n + 1) b d 175 526 ml st t Q = vga ml 0 (fun v => vc (some lx) zH_175 n true d 175 527 ml (.ref v :: st) t Q) := by
  rw [vc_q (o := (2, 0, 0, 0, [])) (by decide +kernel)]; rfl
theorem v_175_527 (lx : List Int32) (n : Nat) (b : Bool) (d : Nat) (ml : List Value) (t : T) (Q : Option Value → T → Prop) (st : List Value) : vc (some lx) zH_175 (n + 1) b d 175 527 ml st t Q = vgi ml 3 (fun v => vc (some lx) zH_175 n true d 175 528 ml (.int v :: st) t Q) := by
  rw [vc_q (o := (1, 0, 3, 0, [])) (by decide +kernel)]; rfl
theorem v_175_528 (lx : List Int32) (n : Nat) (b : Bool) (d : Nat) (ml : List Value) (t : T) (Q : Option Value → T → Prop) (st : List Value) : vc (some lx) zH_175 (n + 1) b d 175 528 ml st t Q = vc (some lx) zH_175 n true d 175 529 ml (.int 1 :: st) t Q := by
  rw [vc_q (o := (0, 1, 0, 0, [])) (by decide +kernel)]; rfl
theorem v_175_529 (lx : List Int32) (n : Nat) (b : Bool) (d : Nat) (ml : List Value) (t : T) (Q : Option Value → T → Prop) (u v : Int32) (r : List Value) : vc (some lx) zH_175 (n + 1) b d 175 529 ml (.int v :: .int u :: r) t Q = vc (some lx) zH_175 n true d 175 530 ml (.int (u + v) :: r) t Q := by
  rw [vc_q (o := (6, 0, 0, 0, [])) (by decide +kernel)]; rfl
theorem v_175_530 (lx : List Int32) (n : Nat) (b : Bool) (d : Nat) (ml : List Value) (t : T) (Q : Option Value → T → Prop) (v : Int32) (u : Nat) (r : List Value) : vc (some lx) zH_175 (n + 1) b d 175 530 ml (.int v :: .ref u :: r) t Q = (u = zSCR ∧ vinb v lx.length ∧ vc (some lx) zH_175 n true d 175 531 ml (.int (lx.getD v.toNatClampNeg 0) :: r) t Q) := by
  rw [vc_q (o := (44, 0, 0, 0, [])) (by decide +kernel)]; rfl
theorem v_175_531 (lx : List Int32) (n : Nat) (b : Bool) (d : Nat) (ml : List Value) (t : T) (Q : Option Value → T → Prop) (st : List Value) : vc (some lx) zH_175 (n + 1) b d 175 531 ml st t Q = vga ml 0 (fun v => vc (some lx) zH_175 n true d 175 532 ml (.ref v :: st) t Q) := by
  rw [vc_q (o := (2, 0, 0, 0, [])) (by decide +kernel)]; rfl
theorem v_175_532 (lx : List Int32) (n : Nat) (b : Bool) (d : Nat) (ml : List Value) (t : T) (Q : Option Value → T → Prop) (st : List Value) : vc (some lx) zH_175 (n + 1) b d 175 532 ml st t Q = vgi ml 3 (fun v => vc (some lx) zH_175 n true d 175 533 ml (.int v :: st) t Q) := by
  rw [vc_q (o := (1, 0, 3, 0, [])) (by decide +kernel)]; rfl
theorem v_175_533 (lx : List Int32) (n : Nat) (b : Bool) (d : Nat) (ml : List Value) (t : T) (Q : Option Value → T → Prop) (st : List Value) : vc (some lx) zH_175 (n + 1) b d 175 533 ml st t Q = vc (some lx) zH_175 n true d 175 534 ml (.int 2 :: st) t Q := by
  rw [vc_q (o := (0, 2, 0, 0, [])) (by decide +kernel)]; rfl
theorem v_175_534 (lx : List Int32) (n : Nat) (b : Bool) (d : Nat) (ml : List Value) (t : T) (Q : Option Value → T → Prop) (u v : Int32) (r : List Value) : vc (some lx) zH_175 (n + 1) b d 175 534 ml (.int v :: .int u :: r) t Q = vc (some lx) zH_175 n true d 175 535 ml (.int (u + v) :: r) t Q := by
  rw [vc_q (o := (6, 0, 0, 0, [])) (by decide +kernel)]; rfl
theorem v_175_535 (lx : List Int32) (n : Nat) (b : Bool) (d : Nat) (ml : List Value) (t : T) (Q : Option Value → T → Prop) (v : Int32) (u : Nat) (r : List Value) : vc (some lx) zH_175 (n + 1) b d 175 535 ml (.int v :: .ref u :: r) t Q = (u = zSCR ∧ vinb v lx.length ∧ vc (some lx) zH_175 n true d 175 536 ml (.int (lx.getD v.toNatClampNeg 0) :: r) t Q) := by
  rw [vc_q (o := (44, 0, 0, 0, [])) (by decide +kernel)]; rfl
theorem v_175_536 (lx : List Int32) (n : Nat) (b : Bool) (d : Nat) (ml : List Value) (t : T) (Q : Option Value → T → Prop) (st : List Value) : vc (some lx) zH_175 (n + 1) b d 175 536 ml st t Q = (st.all zc1 = true ∧ vtk 3 st [] (fun as rest => rest.length ≤ 8 ∧ vrc as 0 (twc d 10 as t (fun r t' => vc (some lx) zH_175 n true d 175 539 ml (r.toList ++ rest) t' Q)))) := by
  rw [vc_q (o := (36, 0, 10, 2, [(0, 0)])) (by decide +kernel)]; rfl
theorem v_175_539 (lx : List Int32) (n : Nat) (b : Bool) (d : Nat) (ml : List Value) (t : T) (Q : Option Value → T → Prop) (st : List Value) : vc (some lx) zH_175 (n + 1) b d 175 539 ml st t Q = vga ml 2 (fun v => vc (some lx) zH_175 n true d 175 540 ml (.ref v :: st) t Q) := by
  rw [vc_q (o := (2, 0, 2, 0, [])) (by decide +kernel)]; rfl
theorem v_175_540 (lx : List Int32) (n : Nat) (b : Bool) (d : Nat) (ml : List Value) (t : T) (Q : Option Value → T → Prop) (st : List Value) : vc (some lx) zH_175 (n + 1) b d 175 540 ml st t Q = vga ml 0 (fun v => vc (some lx) zH_175 n true d 175 541 ml (.ref v :: st) t Q) := by
  rw [vc_q (o := (2, 0, 0, 0, [])) (by decide +kernel)]; rfl
theorem v_175_541 (lx : List Int32) (n : Nat) (b : Bool) (d : Nat) (ml : List Value) (t : T) (Q : Option Value → T → Prop) (st : List Value) : vc (some lx) zH_175 (n + 1) b d 175 541 ml st t Q = vgi ml 3 (fun v => vc (some lx) zH_175 n true d 175 542 ml (.int v :: st) t Q) := by
  rw [vc_q (o := (1, 0, 3, 0, [])) (by decide +kernel)]; rfl
theorem v_175_542 (lx : List Int32) (n : Nat) (b : Bool) (d : Nat) (ml : List Value) (t : T) (Q : Option Value → T → Prop) (st : List Value) : vc (some lx) zH_175 (n + 1) b d 175 542 ml st t Q = vc (some lx) zH_175 n true d 175 543 ml (.int 1 :: st) t Q := by
  rw [vc_q (o := (0, 1, 0, 0, [])) (by decide +kernel)]; rfl
theorem v_175_543 (lx : List Int32) (n : Nat) (b : Bool) (d : Nat) (ml : List Value) (t : T) (Q : Option Value → T → Prop) (u v : Int32) (r : List Value) : vc (some lx) zH_175 (n + 1) b d 175 543 ml (.int v :: .int u :: r) t Q = vc (some lx) zH_175 n true d 175 544 ml (.int (u + v) :: r) t Q := by
  rw [vc_q (o := (6, 0, 0, 0, [])) (by decide +kernel)]; rfl
theorem v_175_544 (lx : List Int32) (n : Nat) (b : Bool) (d : Nat) (ml : List Value) (t : T) (Q : Option Value → T → Prop) (v : Int32) (u : Nat) (r : List Value) : vc (some lx) zH_175 (n + 1) b d 175 544 ml (.int v :: .ref u :: r) t Q = (u = zSCR ∧ vinb v lx.length ∧ vc (some lx) zH_175 n true d 175 545 ml (.int (lx.getD v.toNatClampNeg 0) :: r) t Q) := by
  rw [vc_q (o := (44, 0, 0, 0, [])) (by decide +kernel)]; rfl
theorem v_175_545 (lx : List Int32) (n : Nat) (b : Bool) (d : Nat) (ml : List Value) (t : T) (Q : Option Value → T → Prop) (st : List Value) : vc (some lx) zH_175 (n + 1) b d 175 545 ml st t Q = vga ml 0 (fun v => vc (some lx) zH_175 n true d 175 546 ml (.ref v :: st) t Q) := by
  rw [vc_q (o := (2, 0, 0, 0, [])) (by decide +kernel)]; rfl
theorem v_175_546 (lx : List Int32) (n : Nat) (b : Bool) (d : Nat) (ml : List Value) (t : T) (Q : Option Value → T → Prop) (st : List Value) : vc (some lx) zH_175 (n + 1) b d 175 546 ml st t Q = vgi ml 3 (fun v => vc (some lx) zH_175 n true d 175 547 ml (.int v :: st) t Q) := by
  rw [vc_q (o := (1, 0, 3, 0, [])) (by decide +kernel)]; rfl
theorem v_175_547 (lx : List Int32) (n : Nat) (b : Bool) (d : Nat) (ml : List Value) (t : T) (Q : Option Value → T → Prop) (st : List Value) : vc (some lx) zH_175 (n + 1) b d 175 547 ml st t Q = vc (some lx) zH_175 n true d 175 548 ml (.int 2 :: st) t Q := by
  rw [vc_q (o := (0, 2, 0, 0, [])) (by decide +kernel)]; rfl
theorem v_175_548 (lx : List Int32) (n : Nat) (b : Bool) (d : Nat) (ml : List Value) (t : T) (Q : Option Value → T → Prop) (u v : Int32) (r : List Value) : vc (some lx) zH_175 (n + 1) b d 175 548 ml (.int v :: .int u :: r) t Q = vc (some lx) zH_175 n true d 175 549 ml (.int (u + v) :: r) t Q := by
  rw [vc_q (o := (6, 0, 0, 0, [])) (by decide +kernel)]; rfl
theorem v_175_549 (lx : List Int32) (n : Nat) (b : Bool) (d : Nat) (ml : List Value) (t : T) (Q : Option Value → T → Prop) (v : Int32) (u : Nat) (r : List Value) : vc (some lx) zH_175 (n + 1) b d 175 549 ml (.int v :: .ref u :: r) t Q = (u = zSCR ∧ vinb v lx.length ∧ vc (some lx) zH_175 n true d 175 550 ml (.int (lx.getD v.toNatClampNeg 0) :: r) t Q) := by
  rw [vc_q (o := (44, 0, 0, 0, [])) (by decide +kernel)]; rfl
theorem v_175_550 (lx : List Int32) (n : Nat) (b : Bool) (d : Nat) (ml : List Value) (t : T) (Q : Option Value → T → Prop) (st : List Value) : vc (some lx) zH_175 (n + 1) b d 175 550 ml st t Q = (st.all zc1 = true ∧ vtk 3 st [] (fun as rest => rest.length ≤ 8 ∧ vrc as 12 (twc d 77 as t (fun r t' => vc (some lx) zH_175 n true d 175 553 ml (r.toList ++ rest) t' Q)))) := by
  rw [vc_q (o := (36, 0, 77, 2, [(0, 12)])) (by decide +kernel)]; rfl
theorem v_175_553 (lx : List Int32) (n : Nat) (b : Bool) (d : Nat) (ml : List Value) (t : T) (Q : Option Value → T → Prop) (u v : Int32) (r : List Value) : vc (some lx) zH_175 (n + 1) b d 175 553 ml (.int v :: .int u :: r) t Q = (if u = v then vc (some lx) zH_175 n true d 175 931 ml r t Q else vc (some lx) zH_175 n true d 175 556 ml r t Q) := by
  rw [vc_q (o := (20, 0, 931, 0, [])) (by decide +kernel)]; rfl
theorem v_175_556 (lx : List Int32) (n : Nat) (b : Bool) (d : Nat) (ml : List Value) (t : T) (Q : Option Value → T → Prop) (st : List Value) : vc (some lx) zH_175 (n + 1) b d 175 556 ml st t Q = vc (some lx) zH_175 n true d 175 557 ml (.int 0 :: st) t Q := by
  rw [vc_q (o := (0, 0, 0, 0, [])) (by decide +kernel)]; rfl
theorem v_175_557 (lx : List Int32) (n : Nat) (b : Bool) (d : Nat) (ml : List Value) (t : T) (Q : Option Value → T → Prop) (v : Int32) : vc (some lx) zH_175 (n + 1) b d 175 557 ml [.int v] t Q = ((v = 0 ∨ v = 1) ∧ Q (some (.int v)) t) := by
  rw [vc_q (o := (41, 0, 0, 0, [])) (by decide +kernel)]; rfl
theorem v_175_558 (lx : List Int32) (n : Nat) (b : Bool) (d : Nat) (ml : List Value) (t : T) (Q : Option Value → T → Prop) (st : List Value) : vc (some lx) zH_175 (n + 1) b d 175 558 ml st t Q = vga ml 1 (fun v => vc (some lx) zH_175 n true d 175 559 ml (.ref v :: st) t Q) := by
  rw [vc_q (o := (2, 0, 1, 0, [])) (by decide +kernel)]; rfl
theorem v_175_559 (lx : List Int32) (n : Nat) (b : Bool) (d : Nat) (ml : List Value) (t : T) (Q : Option Value → T → Prop) (st : List Value) : vc (some lx) zH_175 (n + 1) b d 175 559 ml st t Q = vga ml 0 (fun v => vc (some lx) zH_175 n true d 175 560 ml (.ref v :: st) t Q) := by
  rw [vc_q (o := (2, 0, 0, 0, [])) (by decide +kernel)]; rfl
theorem v_175_560 (lx : List Int32) (n : Nat) (b : Bool) (d : Nat) (ml : List Value) (t : T) (Q : Option Value → T → Prop) (st : List Value) : vc (some lx) zH_175 (n + 1) b d 175 560 ml st t Q = vgi ml 3 (fun v => vc (some lx) zH_175 n true d 175 561 ml (.int v :: st) t Q) := by
  rw [vc_q (o := (1, 0, 3, 0, [])) (by decide +kernel)]; rfl
theorem v_175_561 (lx : List Int32) (n : Nat) (b : Bool) (d : Nat) (ml : List Value) (t : T) (Q : Option Value → T → Prop) (st : List Value) : vc (some lx) zH_175 (n + 1) b d 175 561 ml st t Q = vc (some lx) zH_175 n true d 175 562 ml (.int 1 :: st) t Q := by
  rw [vc_q (o := (0, 1, 0, 0, [])) (by decide +kernel)]; rfl
theorem v_175_562 (lx : List Int32) (n : Nat) (b : Bool) (d : Nat) (ml : List Value) (t : T) (Q : Option Value → T → Prop) (u v : Int32) (r : List Value) : vc (some lx) zH_175 (n + 1) b d 175 562 ml (.int v :: .int u :: r) t Q = vc (some lx) zH_175 n true d 175 563 ml (.int (u + v) :: r) t Q := by
  rw [vc_q (o := (6, 0, 0, 0, [])) (by decide +kernel)]; rfl
theorem v_175_563 (lx : List Int32) (n : Nat) (b : Bool) (d : Nat) (ml : List Value) (t : T) (Q : Option Value → T → Prop) (v : Int32) (u : Nat) (r : List Value) : vc (some lx) zH_175 (n + 1) b d 175 563 ml (.int v :: .ref u :: r) t Q = (u = zSCR ∧ vinb v lx.length ∧ vc (some lx) zH_175 n true d 175 564 ml (.int (lx.getD v.toNatClampNeg 0) :: r) t Q) := by
  rw [vc_q (o := (44, 0, 0, 0, [])) (by decide +kernel)]; rfl
theorem v_175_564 (lx : List Int32) (n : Nat) (b : Bool) (d : Nat) (ml : List Value) (t : T) (Q : Option Value → T → Prop) (st : List Value) : vc (some lx) zH_175 (n + 1) b d 175 564 ml st t Q = vga ml 0 (fun v => vc (some lx) zH_175 n true d 175 565 ml (.ref v :: st) t Q) := by
  rw [vc_q (o := (2, 0, 0, 0, [])) (by decide +kernel)]; rfl
theorem v_175_565 (lx : List Int32) (n : Nat) (b : Bool) (d : Nat) (ml : List Value) (t : T) (Q : Option Value → T → Prop) (st : List Value) : vc (some lx) zH_175 (n + 1) b d 175 565 ml st t Q = vgi ml 3 (fun v => vc (some lx) zH_175 n true d 175 566 ml (.int v :: st) t Q) := by
  rw [vc_q (o := (1, 0, 3, 0, [])) (by decide +kernel)]; rfl
theorem v_175_566 (lx : List Int32) (n : Nat) (b : Bool) (d : Nat) (ml : List Value) (t : T) (Q : Option Value → T → Prop) (st : List Value) : vc (some lx) zH_175 (n + 1) b d 175 566 ml st t Q = vc (some lx) zH_175 n true d 175 567 ml (.int 2 :: st) t Q := by
  rw [vc_q (o := (0, 2, 0, 0, [])) (by decide +kernel)]; rfl
theorem v_175_567 (lx : List Int32) (n : Nat) (b : Bool) (d : Nat) (ml : List Value) (t : T) (Q : Option Value → T → Prop) (u v : Int32) (r : List Value) : vc (some lx) zH_175 (n + 1) b d 175 567 ml (.int v :: .int u :: r) t Q = vc (some lx) zH_175 n true d 175 568 ml (.int (u + v) :: r) t Q := by
  rw [vc_q (o := (6, 0, 0, 0, [])) (by decide +kernel)]; rfl
theorem v_175_568 (lx : List Int32) (n : Nat) (b : Bool) (d : Nat) (ml : List Value) (t : T) (Q : Option Value → T → Prop) (v : Int32) (u : Nat) (r : List Value) : vc (some lx) zH_175 (n + 1) b d 175 568 ml (.int v :: .ref u :: r) t Q = (u = zSCR ∧ vinb v lx.length ∧ vc (some lx) zH_175 n true d 175 569 ml (.int (lx.getD v.toNatClampNeg 0) :: r) t Q) := by
  rw [vc_q (o := (44, 0, 0, 0, [])) (by decide +kernel)]; rfl
theorem v_175_569 (lx : List Int32) (n : Nat) (b : Bool) (d : Nat) (ml : List Value) (t : T) (Q : Option Value → T → Prop) (st : List Value) : vc (some lx) zH_175 (n + 1) b d 175 569 ml st t Q = vga ml 0 (fun v => vc (some lx) zH_175 n true d 175 570 ml (.ref v :: st) t Q) := by
  rw [vc_q (o := (2, 0, 0, 0, [])) (by decide +kernel)]; rfl
theorem v_175_570 (lx : List Int32) (n : Nat) (b : Bool) (d : Nat) (ml : List Value) (t : T) (Q : Option Value → T → Prop) (st : List Value) : vc (some lx) zH_175 (n + 1) b d 175 570 ml st t Q = vgi ml 3 (fun v => vc (some lx) zH_175 n true d 175 571 ml (.int v :: st) t Q) := by
  rw [vc_q (o := (1, 0, 3, 0, [])) (by decide +kernel)]; rfl
theorem v_175_571 (lx : List Int32) (n : Nat) (b : Bool) (d : Nat) (ml : List Value) (t : T) (Q : Option Value → T → Prop) (st : List Value) : vc (some lx) zH_175 (n + 1) b d 175 571 ml st t Q = vc (some lx) zH_175 n true d 175 572 ml (.int 3 :: st) t Q := by
  rw [vc_q (o := (0, 3, 0, 0, [])) (by decide +kernel)]; rfl
theorem v_175_572 (lx : List Int32) (n : Nat) (b : Bool) (d : Nat) (ml : List Value) (t : T) (Q : Option Value → T → Prop) (u v : Int32) (r : List Value) : vc (some lx) zH_175 (n + 1) b d 175 572 ml (.int v :: .int u :: r) t Q = vc (some lx) zH_175 n true d 175 573 ml (.int (u + v) :: r) t Q := by
  rw [vc_q (o := (6, 0, 0, 0, [])) (by decide +kernel)]; rfl
theorem v_175_573 (lx : List Int32) (n : Nat) (b : Bool) (d : Nat) (ml : List Value) (t : T) (Q : Option Value → T → Prop) (v : Int32) (u : Nat) (r : List Value) : vc (some lx) zH_175 (n + 1) b d 175 573 ml (.int v :: .ref u :: r) t Q = (u = zSCR ∧ vinb v lx.length ∧ vc (some lx) zH_175 n true d 175 574 ml (.int (lx.getD v.toNatClampNeg 0) :: r) t Q) := by
  rw [vc_q (o := (44, 0, 0, 0, [])) (by decide +kernel)]; rfl
theorem v_175_574 (lx : List Int32) (n : Nat) (b : Bool) (d : Nat) (ml : List Value) (t : T) (Q : Option Value → T → Prop) (st : List Value) : vc (some lx) zH_175 (n + 1) b d 175 574 ml st t Q = (st.all zc1 = true ∧ vtk 4 st [] (fun as rest => rest.length ≤ 8 ∧ vrc as 0 (twc d 11 as t (fun r t' => vc (some lx) zH_175 n true d 175 577 ml (r.toList ++ rest) t' Q)))) := by
  rw [vc_q (o := (36, 0, 11, 3, [(0, 0)])) (by decide +kernel)]; rfl
theorem v_175_577 (lx : List Int32) (n : Nat) (b : Bool) (d : Nat) (ml : List Value) (t : T) (Q : Option Value → T → Prop) (st : List Value) : vc (some lx) zH_175 (n + 1) b d 175 577 ml st t Q = vga ml 2 (fun v => vc (some lx) zH_175 n true d 175 578 ml (.ref v :: st) t Q) := by
  rw [vc_q (o := (2, 0, 2, 0, [])) (by decide +kernel)]; rfl
theorem v_175_578 (lx : List Int32) (n : Nat) (b : Bool) (d : Nat) (ml : List Value) (t : T) (Q : Option Value → T → Prop) (st : List Value) : vc (some lx) zH_175 (n + 1) b d 175 578 ml st t Q = vga ml 0 (fun v => vc (some lx) zH_175 n true d 175 579 ml (.ref v :: st) t Q) := by
  rw [vc_q (o := (2, 0, 0, 0, [])) (by decide +kernel)]; rfl
theorem v_175_579 (lx : List Int32) (n : Nat) (b : Bool) (d : Nat) (ml : List Value) (t : T) (Q : Option Value → T → Prop) (st : List Value) : vc (some lx) zH_175 (n + 1) b d 175 579 ml st t Q = vgi ml 3 (fun v => vc (some lx) zH_175 n true d 175 580 ml (.int v :: st) t Q) := by
  rw [vc_q (o := (1, 0, 3, 0, [])) (by decide +kernel)]; rfl
theorem v_175_580 (lx : List Int32) (n : Nat) (b : Bool) (d : Nat) (ml : List Value) (t : T) (Q : Option Value → T → Prop) (st : List Value) : vc (some lx) zH_175 (n + 1) b d 175 580 ml st t Q = vc (some lx) zH_175 n true d 175 581 ml (.int 1 :: st) t Q := by
  rw [vc_q (o := (0, 1, 0, 0, [])) (by decide +kernel)]; rfl
theorem v_175_581 (lx : List Int32) (n : Nat) (b : Bool) (d : Nat) (ml : List Value) (t : T) (Q : Option Value → T → Prop) (u v : Int32) (r : List Value) : vc (some lx) zH_175 (n + 1) b d 175 581 ml (.int v :: .int u :: r) t Q = vc (some lx) zH_175 n true d 175 582 ml (.int (u + v) :: r) t Q := by
  rw [vc_q (o := (6, 0, 0, 0, [])) (by decide +kernel)]; rfl
theorem v_175_582 (lx : List Int32) (n : Nat) (b : Bool) (d : Nat) (ml : List Value) (t : T) (Q : Option Value → T → Prop) (v : Int32) (u : Nat) (r : List Value) : vc (some lx) zH_175 (n + 1) b d 175 582 ml (.int v :: .ref u :: r) t Q = (u = zSCR ∧ vinb v lx.length ∧ vc (some lx) zH_175 n true d 175 583 ml (.int (lx.getD v.toNatClampNeg 0) :: r) t Q) := by
  rw [vc_q (o := (44, 0, 0, 0, [])) (by decide +kernel)]; rfl
theorem v_175_583 (lx : List Int32) (n : Nat) (b : Bool) (d : Nat) (ml : List Value) (t : T) (Q : Option Value → T → Prop) (st : List Value) : vc (some lx) zH_175 (n + 1) b d 175 583 ml st t Q = vga ml 0 (fun v => vc (some lx) zH_175 n true d 175 584 ml (.ref v :: st) t Q) := by
  rw [vc_q (o := (2, 0, 0, 0, [])) (by decide +kernel)]; rfl
theorem v_175_584 (lx : List Int32) (n : Nat) (b : Bool) (d : Nat) (ml : List Value) (t : T) (Q : Option Value → T → Prop) (st : List Value) : vc (some lx) zH_175 (n + 1) b d 175 584 ml st t Q = vgi ml 3 (fun v => vc (some lx) zH_175 n true d 175 585 ml (.int v :: st) t Q) := by
  rw [vc_q (o := (1, 0, 3, 0, [])) (by decide +kernel)]; rfl
theorem v_175_585 (lx : List Int32) (n : Nat) (b : Bool) (d : Nat) (ml : List Value) (t : T) (Q : Option Value → T → Prop) (st : List Value) : vc (some lx) zH_175 (n + 1) b d 175 585 ml st t Q = vc (some lx) zH_175 n true d 175 586 ml (.int 2 :: st) t Q := by
  rw [vc_q (o := (0, 2, 0, 0, [])) (by decide +kernel)]; rfl
theorem v_175_586 (lx : List Int32) (n : Nat) (b : Bool) (d : Nat) (ml : List Value) (t : T) (Q : Option Value → T → Prop) (u v : Int32) (r : List Value) : vc (some lx) zH_175 (n + 1) b d 175 586 ml (.int v :: .int u :: r) t Q = vc (some lx) zH_175 n true d 175 587 ml (.int (u + v) :: r) t Q := by
  rw [vc_q (o := (6, 0, 0, 0, [])) (by decide +kernel)]; rfl
theorem v_175_587 (lx : List Int32) (n : Nat) (b : Bool) (d : Nat) (ml : List Value) (t : T) (Q : Option Value → T → Prop) (v : Int32) (u : Nat) (r : List Value) : vc (some lx) zH_175 (n + 1) b d 175 587 ml (.int v :: .ref u :: r) t Q = (u = zSCR ∧ vinb v lx.length ∧ vc (some lx) zH_175 n true d 175 588 ml (.int (lx.getD v.toNatClampNeg 0) :: r) t Q) := by
  rw [vc_q (o := (44, 0, 0, 0, [])) (by decide +kernel)]; rfl
theorem v_175_588 (lx : List Int32) (n : Nat) (b : Bool) (d : Nat) (ml : List Value) (t : T) (Q : Option Value → T → Prop) (st : List Value) : vc (some lx) zH_175 (n + 1) b d 175 588 ml st t Q = vga ml 0 (fun v => vc (some lx) zH_175 n true d 175 589 ml (.ref v :: st) t Q) := by
  rw [vc_q (o := (2, 0, 0, 0, [])) (by decide +kernel)]; rfl
theorem v_175_589 (lx : List Int32) (n : Nat) (b : Bool) (d : Nat) (ml : List Value) (t : T) (Q : Option Value → T → Prop) (st : List Value) : vc (some lx) zH_175 (n + 1) b d 175 589 ml st t Q = vgi ml 3 (fun v => vc (some lx) zH_175 n true d 175 590 ml (.int v :: st) t Q) := by
  rw [vc_q (o := (1, 0, 3, 0, [])) (by decide +kernel)]; rfl
theorem v_175_590 (lx : List Int32) (n : Nat) (b : Bool) (d : Nat) (ml : List Value) (t : T) (Q : Option Value → T → Prop) (st : List Value) : vc (some lx) zH_175 (n + 1) b d 175 590 ml st t Q = vc (some lx) zH_175 n true d 175 591 ml (.int 3 :: st) t Q := by
  rw [vc_q (o := (0, 3, 0, 0, [])) (by decide +kernel)]; rfl
theorem v_175_591 (lx : List Int32) (n : Nat) (b : Bool) (d : Nat) (ml : List Value) (t : T) (Q : Option Value → T → Prop) (u v : Int32) (r : List Value) : vc (some lx) zH_175 (n + 1) b d 175 591 ml (.int v :: .int u :: r) t Q = vc (some lx) zH_175 n true d 175 592 ml (.int (u + v) :: r) t Q := by
  rw [vc_q (o := (6, 0, 0, 0, [])) (by decide +kernel)]; rfl
theorem v_175_592 (lx : List Int32) (n : Nat) (b : Bool) (d : Nat) (ml : List Value) (t : T) (Q : Option Value → T → Prop) (v : Int32) (u : Nat) (r : List Value) : vc (some lx) zH_175 (n + 1) b d 175 592 ml (.int v :: .ref u :: r) t Q = (u = zSCR ∧ vinb v lx.length ∧ vc (some lx) zH_175 n true d 175 593 ml (.int (lx.getD v.toNatClampNeg 0) :: r) t Q) := by
  rw [vc_q (o := (44, 0, 0, 0, [])) (by decide +kernel)]; rfl
theorem v_175_593 (lx : List Int32) (n : Nat) (b : Bool) (d : Nat) (ml : List Value) (t : T) (Q : Option Value → T → Prop) (st : List Value) : vc (some lx) zH_175 (n + 1) b d 175 593 ml st t Q = (st.all zc1 = true ∧ vtk 4 st [] (fun as rest => rest.length ≤ 8 ∧ vrc as 12 (twc d 84 as t (fun r t' => vc (some lx) zH_175 n true d 175 596 ml (r.toList ++ rest) t' Q)))) := by
  rw [vc_q (o := (36, 0, 84, 3, [(0, 12)])) (by decide +kernel)]; rfl
theorem v_175_596 (lx : List Int32) (n : Nat) (b : Bool) (d : Nat) (ml : List Value) (t : T) (Q : Option Value → T → Prop) (u v : Int32) (r : List Value) : vc (some lx) zH_175 (n + 1) b d 175 596 ml (.int v :: .int u :: r) t Q = (if u = v then vc (some lx) zH_175 n true d 175 931 ml r t Q else vc (some lx) zH_175 n true d 175 599 ml r t Q) := by
  rw [vc_q (o := (20, 0, 931, 0, [])) (by decide +kernel)]; rfl
theorem v_175_599 (lx : List Int32) (n : Nat) (b : Bool) (d : Nat) (ml : List Value) (t : T) (Q : Option Value → T → Prop) (st : List Value) : vc (some lx) zH_175 (n + 1) b d 175 599 ml st t Q = vc (some lx) zH_175 n true d 175 600 ml (.int 0 :: st) t Q := by
  rw [vc_q (o := (0, 0, 0, 0, [])) (by decide +kernel)]; rfl
theorem v_175_600 (lx : List Int32) (n : Nat) (b : Bool) (d : Nat) (ml : List Value) (t : T) (Q : Option Value → T → Prop) (v : Int32) : vc (some lx) zH_175 (n + 1) b d 175 600 ml [.int v] t Q = ((v = 0 ∨ v = 1) ∧ Q (some (.int v)) t) := by
  rw [vc_q (o := (41, 0, 0, 0, [])) (by decide +kernel)]; rfl
theorem v_175_601 (lx : List Int32) (n : Nat) (b : Bool) (d : Nat) (ml : List Value) (t : T) (Q : Option Value → T → Prop) (st : List Value) : vc (some lx) zH_175 (n + 1) b d 175 601 ml st t Q = vga ml 1 (fun v => vc (some lx) zH_175 n true d 175 602 ml (.ref v :: st) t Q) := by
  rw [vc_q (o := (2, 0, 1, 0, [])) (by decide +kernel)]; rfl
theorem v_175_602 (lx : List Int32) (n : Nat) (b : Bool) (d : Nat) (ml : List Value) (t : T) (Q : Option Value → T → Prop) (st : List Value) : vc (some lx) zH_175 (n + 1) b d 175 602 ml st t Q = vga ml 0 (fun v => vc (some lx) zH_175 n true d 175 603 ml (.ref v :: st) t Q) := by
  rw [vc_q (o := (2, 0, 0, 0, [])) (by decide +kernel)]; rfl
theorem v_175_603 (lx : List Int32) (n : Nat) (b : Bool) (d : Nat) (ml : List Value) (t : T) (Q : Option Value → T → Prop) (st : List Value) : vc (some lx) zH_175 (n + 1) b d 175 603 ml st t Q = vgi ml 3 (fun v => vc (some lx) zH_175 n true d 175 604 ml (.int v :: st) t Q) := by
  rw [vc_q (o := (1, 0, 3, 0, [])) (by decide +kernel)]; rfl
theorem v_175_604 (lx : List Int32) (n : Nat) (b : Bool) (d : Nat) (ml : List Value) (t : T) (Q : Option Value → T → Prop) (st : List Value) : vc (some lx) zH_175 (n + 1) b d 175 604 ml st t Q = vc (some lx) zH_175 n true d 175 605 ml (.int 1 :: st) t Q := by
  rw [vc_q (o := (0, 1, 0, 0, [])) (by decide +kernel)]; rfl
theorem v_175_605 (lx : List Int32) (n : Nat) (b : Bool) (d : Nat) (ml : List Value) (t : T) (Q : Option Value → T → Prop) (u v : Int32) (r : List Value) : vc (some lx) zH_175 (n + 1) b d 175 605 ml (.int v :: .int u :: r) t Q = vc (some lx) zH_175 n true d 175 606 ml (.int (u + v) :: r) t Q := by
  rw [vc_q (o := (6, 0, 0, 0, [])) (by decide +kernel)]; rfl
theorem v_175_606 (lx : List Int32) (n : Nat) (b : Bool) (d : Nat) (ml : List Value) (t : T) (Q : Option Value → T → Prop) (v : Int32) (u : Nat) (r : List Value) : vc (some lx) zH_175 (n + 1) b d 175 606 ml (.int v :: .ref u :: r) t Q = (u = zSCR ∧ vinb v lx.length ∧ vc (some lx) zH_175 n true d 175 607 ml (.int (lx.getD v.toNatClampNeg 0) :: r) t Q) := by
  rw [vc_q (o := (44, 0, 0, 0, [])) (by decide +kernel)]; rfl
theorem v_175_607 (lx : List Int32) (n : Nat) (b : Bool) (d : Nat) (ml : List Value) (t : T) (Q : Option Value → T → Prop) (st : List Value) : vc (some lx) zH_175 (n + 1) b d 175 607 ml st t Q = (st.all zc1 = true ∧ vtk 2 st [] (fun as rest => rest.length ≤ 8 ∧ vrc as 0 (twc d 12 as t (fun r t' => vc (some lx) zH_175 n true d 175 610 ml (r.toList ++ rest) t' Q)))) := by
  rw [vc_q (o := (36, 0, 12, 1, [(0, 0)])) (by decide +kernel)]; rfl
theorem v_175_610 (lx : List Int32) (n : Nat) (b : Bool) (d : Nat) (ml : List Value) (t : T) (Q : Option Value → T → Prop) (st : List Value) : vc (some lx) zH_175 (n + 1) b d 175 610 ml st t Q = vga ml 2 (fun v => vc (some lx) zH_175 n true d 175 611 ml (.ref v :: st) t Q) := by
  rw [vc_q (o := (2, 0, 2, 0, [])) (by decide +kernel)]; rfl
theorem v_175_611 (lx : List Int32) (n : Nat) (b : Bool) (d : Nat) (ml : List Value) (t : T) (Q : Option Value → T → Prop) (st : List Value) : vc (some lx) zH_175 (n + 1) b d 175 611 ml st t Q = vga ml 0 (fun v => vc (some lx) zH_175 n true d 175 612 ml (.ref v :: st) t Q) := by
  rw [vc_q (o := (2, 0, 0, 0, [])) (by decide +kernel)]; rfl
theorem v_175_612 (lx : List Int32) (n : Nat) (b : Bool) (d : Nat) (ml : List Value) (t : T) (Q : Option Value → T → Prop) (st : List Value) : vc (some lx) zH_175 (n + 1) b d 175 612 ml st t Q = vgi ml 3 (fun v => vc (some lx) zH_175 n true d 175 613 ml (.int v :: st) t Q) := by
  rw [vc_q (o := (1, 0, 3, 0, [])) (by decide +kernel)]; rfl
theorem v_175_613 (lx : List Int32) (n : Nat) (b : Bool) (d : Nat) (ml : List Value) (t : T) (Q : Option Value → T → Prop) (st : List Value) : vc (some lx) zH_175 (n + 1) b d 175 613 ml st t Q = vc (some lx) zH_175 n true d 175 614 ml (.int 1 :: st) t Q := by
  rw [vc_q (o := (0, 1, 0, 0, [])) (by decide +kernel)]; rfl
theorem v_175_614 (lx : List Int32) (n : Nat) (b : Bool) (d : Nat) (ml : List Value) (t : T) (Q : Option Value → T → Prop) (u v : Int32) (r : List Value) : vc (some lx) zH_175 (n + 1) b d 175 614 ml (.int v :: .int u :: r) t Q = vc (some lx) zH_175 n true d 175 615 ml (.int (u + v) :: r) t Q := by
  rw [vc_q (o := (6, 0, 0, 0, [])) (by decide +kernel)]; rfl
theorem v_175_615 (lx : List Int32) (n : Nat) (b : Bool) (d : Nat) (ml : List Value) (t : T) (Q : Option Value → T → Prop) (v : Int32) (u : Nat) (r : List Value) : vc (some lx) zH_175 (n + 1) b d 175 615 ml (.int v :: .ref u :: r) t Q = (u = zSCR ∧ vinb v lx.length ∧ vc (some lx) zH_175 n true d 175 616 ml (.int (lx.getD v.toNatClampNeg 0) :: r) t Q) := by
  rw [vc_q (o := (44, 0, 0, 0, [])) (by decide +kernel)]; rfl
theorem v_175_616 (lx : List Int32) (n : Nat) (b : Bool) (d : Nat) (ml : List Value) (t : T) (Q : Option Value → T → Prop) (st : List Value) : vc (some lx) zH_175 (n + 1) b d 175 616 ml st t Q = (st.all zc1 = true ∧ vtk 2 st [] (fun as rest => rest.length ≤ 8 ∧ vrc as 12 (twc d 85 as t (fun r t' => vc (some lx) zH_175 n true d 175 619 ml (r.toList ++ rest) t' Q)))) := by
  rw [vc_q (o := (36, 0, 85, 1, [(0, 12)])) (by decide +kernel)]; rfl
theorem v_175_619 (lx : List Int32) (n : Nat) (b : Bool) (d : Nat) (ml : List Value) (t : T) (Q : Option Value → T → Prop) (u v : Int32) (r : List Value) : vc (some lx) zH_175 (n + 1) b d 175 619 ml (.int v :: .int u :: r) t Q = (if u = v then vc (some lx) zH_175 n true d 175 931 ml r t Q else vc (some lx) zH_175 n true d 175 622 ml r t Q) := by
  rw [vc_q (o := (20, 0, 931, 0, [])) (by decide +kernel)]; rfl
theorem v_175_622 (lx : List Int32) (n : Nat) (b : Bool) (d : Nat) (ml : List Value) (t : T) (Q : Option Value → T → Prop) (st : List Value) : vc (some lx) zH_175 (n + 1) b d 175 622 ml st t Q = vc (some lx) zH_175 n true d 175 623 ml (.int 0 :: st) t Q := by
  rw [vc_q (o := (0, 0, 0, 0, [])) (by decide +kernel)]; rfl
theorem v_175_623 (lx : List Int32) (n : Nat) (b : Bool) (d : Nat) (ml : List Value) (t : T) (Q : Option Value → T → Prop) (v : Int32) : vc (some lx) zH_175 (n + 1) b d 175 623 ml [.int v] t Q = ((v = 0 ∨ v = 1) ∧ Q (some (.int v)) t) := by
  rw [vc_q (o := (41, 0, 0, 0, [])) (by decide +kernel)]; rfl
theorem v_175_624 (lx : List Int32) (n : Nat) (b : Bool) (d : Nat) (ml : List Value) (t : T) (Q : Option Value → T → Prop) (st : List Value) : vc (some lx) zH_175 (n + 1) b d 175 624 ml st t Q = vga ml 1 (fun v => vc (some lx) zH_175 n true d 175 625 ml (.ref v :: st) t Q) := by
  rw [vc_q (o := (2, 0, 1, 0, [])) (by decide +kernel)]; rfl
theorem v_175_625 (lx : List Int32) (n : Nat) (b : Bool) (d : Nat) (ml : List Value) (t : T) (Q : Option Value → T → Prop) (st : List Value) : vc (some lx) zH_175 (n + 1) b d 175 625 ml st t Q = vga ml 0 (fun v => vc (some lx) zH_175 n true d 175 626 ml (.ref v :: st) t Q) := by
  rw [vc_q (o := (2, 0, 0, 0, [])) (by decide +kernel)]; rfl
theorem v_175_626 (lx : List Int32) (n : Nat) (b : Bool) (d : Nat) (ml : List Value) (t : T) (Q : Option Value → T → Prop) (st : List Value) : vc (some lx) zH_175 (n + 1) b d 175 626 ml st t Q = vgi ml 3 (fun v => vc (some lx) zH_175 n true d 175 627 ml (.int v :: st) t Q) := by
  rw [vc_q (o := (1, 0, 3, 0, [])) (by decide +kernel)]; rfl
theorem v_175_627 (lx : List Int32) (n : Nat) (b : Bool) (d : Nat) (ml : List Value) (t : T) (Q : Option Value → T → Prop) (st : List Value) : vc (some lx) zH_175 (n + 1) b d 175 627 ml st t Q = vc (some lx) zH_175 n true d 175 628 ml (.int 1 :: st) t Q := by
  rw [vc_q (o := (0, 1, 0, 0, [])) (by decide +kernel)]; rfl
theorem v_175_628 (lx : List Int32) (n : Nat) (b : Bool) (d : Nat) (ml : List Value) (t : T) (Q : Option Value → T → Prop) (u v : Int32) (r : List Value) : vc (some lx) zH_175 (n + 1) b d 175 628 ml (.int v :: .int u :: r) t Q = vc (some lx) zH_175 n true d 175 629 ml (.int (u + v) :: r) t Q := by
  rw [vc_q (o := (6, 0, 0, 0, [])) (by decide +kernel)]; rfl
theorem v_175_629 (lx : List Int32) (n : Nat) (b : Bool) (d : Nat) (ml : List Value) (t : T) (Q : Option Value → T → Prop) (v : Int32) (u : Nat) (r : List Value) : vc (some lx) zH_175 (n + 1) b d 175 629 ml (.int v :: .ref u :: r) t Q = (u = zSCR ∧ vinb v lx.length ∧ vc (some lx) zH_175 n true d 175 630 ml (.int (lx.getD v.toNatClampNeg 0) :: r) t Q) := by
  rw [vc_q (o := (44, 0, 0, 0, [])) (by decide +kernel)]; rfl
theorem v_175_630 (lx : List Int32) (n : Nat) (b : Bool) (d : Nat) (ml : List Value) (t : T) (Q : Option Value → T → Prop) (st : List Value) : vc (some lx) zH_175 (n + 1) b d 175 630 ml st t Q = vga ml 0 (fun v => vc (some lx) zH_175 n true d 175 631 ml (.ref v :: st) t Q) := by
  rw [vc_q (o := (2, 0, 0, 0, [])) (by decide +kernel)]; rfl
theorem v_175_631 (lx : List Int32) (n : Nat) (b : Bool) (d : Nat) (ml : List Value) (t : T) (Q : Option Value → T → Prop) (st : List Value) : vc (some lx) zH_175 (n + 1) b d 175 631 ml st t Q = vgi ml 3 (fun v => vc (some lx) zH_175 n true d 175 632 ml (.int v :: st) t Q) := by
  rw [vc_q (o := (1, 0, 3, 0, [])) (by decide +kernel)]; rfl
theorem v_175_632 (lx : List Int32) (n : Nat) (b : Bool) (d : Nat) (ml : List Value) (t : T) (Q : Option Value → T → Prop) (st : List Value) : vc (some lx) zH_175 (n + 1) b d 175 632 ml st t Q = vc (some lx) zH_175 n true d 175 633 ml (.int 2 :: st) t Q := by
  rw [vc_q (o := (0, 2, 0, 0, [])) (by decide +kernel)]; rfl
theorem v_175_633 (lx : List Int32) (n : Nat) (b : Bool) (d : Nat) (ml : List Value) (t : T) (Q : Option Value → T → Prop) (u v : Int32) (r : List Value) : vc (some lx) zH_175 (n + 1) b d 175 633 ml (.int v :: .int u :: r) t Q = vc (some lx) zH_175 n true d 175 634 ml (.int (u + v) :: r) t Q := by
  rw [vc_q (o := (6, 0, 0, 0, [])) (by decide +kernel)]; rfl
theorem v_175_634 (lx : List Int32) (n : Nat) (b : Bool) (d : Nat) (ml : List Value) (t : T) (Q : Option Value → T → Prop) (v : Int32) (u : Nat) (r : List Value) : vc (some lx) zH_175 (n + 1) b d 175 634 ml (.int v :: .ref u :: r) t Q = (u = zSCR ∧ vinb v lx.length ∧ vc (some lx) zH_175 n true d 175 635 ml (.int (lx.getD v.toNatClampNeg 0) :: r) t Q) := by
  rw [vc_q (o := (44, 0, 0, 0, [])) (by decide +kernel)]; rfl
theorem v_175_635 (lx : List Int32) (n : Nat) (b : Bool) (d : Nat) (ml : List Value) (t : T) (Q : Option Value → T → Prop) (st : List Value) : vc (some lx) zH_175 (n + 1) b d 175 635 ml st t Q = vga ml 0 (fun v => vc (some lx) zH_175 n true d 175 636 ml (.ref v :: st) t Q) := by
  rw [vc_q (o := (2, 0, 0, 0, [])) (by decide +kernel)]; rfl
theorem v_175_636 (lx : List Int32) (n : Nat) (b : Bool) (d : Nat) (ml : List Value) (t : T) (Q : Option Value → T → Prop) (st : List Value) : vc (some lx) zH_175 (n + 1) b d 175 636 ml st t Q = vgi ml 3 (fun v => vc (some lx) zH_175 n true d 175 637 ml (.int v :: st) t Q) := by
  rw [vc_q (o := (1, 0, 3, 0, [])) (by decide +kernel)]; rfl
theorem v_175_637 (lx : List Int32) (n : Nat) (b : Bool) (d : Nat) (ml : List Value) (t : T) (Q : Option Value → T → Prop) (st : List Value) : vc (some lx) zH_175 (n + 1) b d 175 637 ml st t Q = vc (some lx) zH_175 n true d 175 638 ml (.int 3 :: st) t Q := by
  rw [vc_q (o := (0, 3, 0, 0, [])) (by decide +kernel)]; rfl
theorem v_175_638 (lx : List Int32) (n : Nat) (b : Bool) (d : Nat) (ml : List Value) (t : T) (Q : Option Value → T → Prop) (u v : Int32) (r : List Value) : vc (some lx) zH_175 (n + 1) b d 175 638 ml (.int v :: .int u :: r) t Q = vc (some lx) zH_175 n true d 175 639 ml (.int (u + v) :: r) t Q := by
  rw [vc_q (o := (6, 0, 0, 0, [])) (by decide +kernel)]; rfl
theorem v_175_639 (lx : List Int32) (n : Nat) (b : Bool) (d : Nat) (ml : List Value) (t : T) (Q : Option Value → T → Prop) (v : Int32) (u : Nat) (r : List Value) : vc (some lx) zH_175 (n + 1) b d 175 639 ml (.int v :: .ref u :: r) t Q = (u = zSCR ∧ vinb v lx.length ∧ vc (some lx) zH_175 n true d 175 640 ml (.int (lx.getD v.toNatClampNeg 0) :: r) t Q) := by
  rw [vc_q (o := (44, 0, 0, 0, [])) (by decide +kernel)]; rfl
theorem v_175_640 (lx : List Int32) (n : Nat) (b : Bool) (d : Nat) (ml : List Value) (t : T) (Q : Option Value → T → Prop) (st : List Value) : vc (some lx) zH_175 (n + 1) b d 175 640 ml st t Q = vga ml 0 (fun v => vc (some lx) zH_175 n true d 175 641 ml (.ref v :: st) t Q) := by
  rw [vc_q (o := (2, 0, 0, 0, [])) (by decide +kernel)]; rfl
theorem v_175_641 (lx : List Int32) (n : Nat) (b : Bool) (d : Nat) (ml : List Value) (t : T) (Q : Option Value → T → Prop) (st : List Value) : vc (some lx) zH_175 (n + 1) b d 175 641 ml st t Q = vgi ml 3 (fun v => vc (some lx) zH_175 n true d 175 642 ml (.int v :: st) t Q) := by
  rw [vc_q (o := (1, 0, 3, 0, [])) (by decide +kernel)]; rfl
theorem v_175_642 (lx : List Int32) (n : Nat) (b : Bool) (d : Nat) (ml : List Value) (t : T) (Q : Option Value → T → Prop) (st : List Value) : vc (some lx) zH_175 (n + 1) b d 175 642 ml st t Q = vc (some lx) zH_175 n true d 175 643 ml (.int 4 :: st) t Q := by
  rw [vc_q (o := (0, 4, 0, 0, [])) (by decide +kernel)]; rfl
theorem v_175_643 (lx : List Int32) (n : Nat) (b : Bool) (d : Nat) (ml : List Value) (t : T) (Q : Option Value → T → Prop) (u v : Int32) (r : List Value) : vc (some lx) zH_175 (n + 1) b d 175 643 ml (.int v :: .int u :: r) t Q = vc (some lx) zH_175 n true d 175 644 ml (.int (u + v) :: r) t Q := by
  rw [vc_q (o := (6, 0, 0, 0, [])) (by decide +kernel)]; rfl
theorem v_175_644 (lx : List Int32) (n : Nat) (b : Bool) (d : Nat) (ml : List Value) (t : T) (Q : Option Value → T → Prop) (v : Int32) (u : Nat) (r : List Value) : vc (some lx) zH_175 (n + 1) b d 175 644 ml (.int v :: .ref u :: r) t Q = (u = zSCR ∧ vinb v lx.length ∧ vc (some lx) zH_175 n true d 175 645 ml (.int (lx.getD v.toNatClampNeg 0) :: r) t Q) := by
  rw [vc_q (o := (44, 0, 0, 0, [])) (by decide +kernel)]; rfl
theorem v_175_645 (lx : List Int32) (n : Nat) (b : Bool) (d : Nat) (ml : List Value) (t : T) (Q : Option Value → T → Prop) (st : List Value) : vc (some lx) zH_175 (n + 1) b d 175 645 ml st t Q = (st.all zc1 = true ∧ vtk 5 st [] (fun as rest => rest.length ≤ 8 ∧ vrc as 0 (twc d 13 as t (fun r t' => vc (some lx) zH_175 n true d 175 648 ml (r.toList ++ rest) t' Q)))) := by
  rw [vc_q (o := (36, 0, 13, 4, [(0, 0)])) (by decide +kernel)]; rfl
theorem v_175_648 (lx : List Int32) (n : Nat) (b : Bool) (d : Nat) (ml : List Value) (t : T) (Q : Option Value → T → Prop) (st : List Value) : vc (some lx) zH_175 (n + 1) b d 175 648 ml st t Q = vga ml 2 (fun v => vc (some lx) zH_175 n true d 175 649 ml (.ref v :: st) t Q) := by
  rw [vc_q (o := (2, 0, 2, 0, [])) (by decide +kernel)]; rfl
theorem v_175_649 (lx : List Int32) (n : Nat) (b : Bool) (d : Nat) (ml : List Value) (t : T) (Q : Option Value → T → Prop) (st : List Value) : vc (some lx) zH_175 (n + 1) b d 175 649 ml st t Q = vga ml 0 (fun v => vc (some lx) zH_175 n true d 175 650 ml (.ref v :: st) t Q) := by
  rw [vc_q (o := (2, 0, 0, 0, [])) (by decide +kernel)]; rfl
theorem v_175_650 (lx : List Int32) (n : Nat) (b : Bool) (d : Nat) (ml : List Value) (t : T) (Q : Option Value → T → Prop) (st : List Value) : vc (some lx) zH_175 (n + 1) b d 175 650 ml st t Q = vgi ml 3 (fun v => vc (some lx) zH_175 n true d 175 651 ml (.int v :: st) t Q) := by
  rw [vc_q (o := (1, 0, 3, 0, [])) (by decide +kernel)]; rfl
theorem v_175_651 (lx : List Int32) (n : Nat) (b : Bool) (d : Nat) (ml : List Value) (t : T) (Q : Option Value → T → Prop) (st : List Value) : vc (some lx) zH_175 (n + 1) b d 175 651 ml st t Q = vc (some lx) zH_175 n true d 175 652 ml (.int 1 :: st) t Q := by
  rw [vc_q (o := (0, 1, 0, 0, [])) (by decide +kernel)]; rfl
theorem v_175_652 (lx : List Int32) (n : Nat) (b : Bool) (d : Nat) (ml : List Value) (t : T) (Q : Option Value → T → Prop) (u v : Int32) (r : List Value) : vc (some lx) zH_175 (n + 1) b d 175 652 ml (.int v :: .int u :: r) t Q = vc (some lx) zH_175 n true d 175 653 ml (.int (u + v) :: r) t Q := by
  rw [vc_q (o := (6, 0, 0, 0, [])) (by decide +kernel)]; rfl
theorem v_175_653 (lx : List Int32) (n : Nat) (b : Bool) (d : Nat) (ml : List Value) (t : T) (Q : Option Value → T → Prop) (v : Int32) (u : Nat) (r : List Value) : vc (some lx) zH_175 (n + 1) b d 175 653 ml (.int v :: .ref u :: r) t Q = (u = zSCR ∧ vinb v lx.length ∧ vc (some lx) zH_175 n true d 175 654 ml (.int (lx.getD v.toNatClampNeg 0) :: r) t Q) := by
  rw [vc_q (o := (44, 0, 0, 0, [])) (by decide +kernel)]; rfl
theorem v_175_654 (lx : List Int32) (n : Nat) (b : Bool) (d : Nat) (ml : List Value) (t : T) (Q : Option Value → T → Prop) (st : List Value) : vc (some lx) zH_175 (n + 1) b d 175 654 ml st t Q = vga ml 0 (fun v => vc (some lx) zH_175 n true d 175 655 ml (.ref v :: st) t Q) := by
  rw [vc_q (o := (2, 0, 0, 0, [])) (by decide +kernel)]; rfl
theorem v_175_655 (lx : List Int32) (n : Nat) (b : Bool) (d : Nat) (ml : List Value) (t : T) (Q : Option Value → T → Prop) (st : List Value) : vc (some lx) zH_175 (n + 1) b d 175 655 ml st t Q = vgi ml 3 (fun v => vc (some lx) zH_175 n true d 175 656 ml (.int v :: st) t Q) := by
  rw [vc_q (o := (1, 0, 3, 0, [])) (by decide +kernel)]; rfl
theorem v_175_656 (lx : List Int32) (n : Nat) (b : Bool) (d : Nat) (ml : List Value) (t : T) (Q : Option Value → T → Prop) (st : List Value) : vc (some lx) zH_175 (n + 1) b d 175 656 ml st t Q = vc (some lx) zH_175 n true d 175 657 ml (.int 2 :: st) t Q := by
  rw [vc_q (o := (0, 2, 0, 0, [])) (by decide +kernel)]; rfl
theorem v_175_657 (lx : List Int32) (n : Nat) (b : Bool) (d : Nat) (ml : List Value) (t : T) (Q : Option Value → T → Prop) (u v : Int32) (r : List Value) : vc (some lx) zH_175 (n + 1) b d 175 657 ml (.int v :: .int u :: r) t Q = vc (some lx) zH_175 n true d 175 658 ml (.int (u + v) :: r) t Q := by
  rw [vc_q (o := (6, 0, 0, 0, [])) (by decide +kernel)]; rfl
theorem v_175_658 (lx : List Int32) (n : Nat) (b : Bool) (d : Nat) (ml : List Value) (t : T) (Q : Option Value → T → Prop) (v : Int32) (u : Nat) (r : List Value) : vc (some lx) zH_175 (n + 1) b d 175 658 ml (.int v :: .ref u :: r) t Q = (u = zSCR ∧ vinb v lx.length ∧ vc (some lx) zH_175 n true d 175 659 ml (.int (lx.getD v.toNatClampNeg 0) :: r) t Q) := by
  rw [vc_q (o := (44, 0, 0, 0, [])) (by decide +kernel)]; rfl
theorem v_175_659 (lx : List Int32) (n : Nat) (b : Bool) (d : Nat) (ml : List Value) (t : T) (Q : Option Value → T → Prop) (st : List Value) : vc (some lx) zH_175 (n + 1) b d 175 659 ml st t Q = vga ml 0 (fun v => vc (some lx) zH_175 n true d 175 660 ml (.ref v :: st) t Q) := by
  rw [vc_q (o := (2, 0, 0, 0, [])) (by decide +kernel)]; rfl
theorem v_175_660 (lx : List Int32) (n : Nat) (b : Bool) (d : Nat) (ml : List Value) (t : T) (Q : Option Value → T → Prop) (st : List Value) : vc (some lx) zH_175 (n + 1) b d 175 660 ml st t Q = vgi ml 3 (fun v => vc (some lx) zH_175 n true d 175 661 ml (.int v :: st) t Q) := by
  rw [vc_q (o := (1, 0, 3, 0, [])) (by decide +kernel)]; rfl
theorem v_175_661 (lx : List Int32) (n : Nat) (b : Bool) (d : Nat) (ml : List Value) (t : T) (Q : Option Value → T → Prop) (st : List Value) : vc (some lx) zH_175 (n + 1) b d 175 661 ml st t Q = vc (some lx) zH_175 n true d 175 662 ml (.int 3 :: st) t Q := by
  rw [vc_q (o := (0, 3, 0, 0, [])) (by decide +kernel)]; rfl
theorem v_175_662 (lx : List Int32) (n : Nat) (b : Bool) (d : Nat) (ml : List Value) (t : T) (Q : Option Value → T → Prop) (u v : Int32) (r : List Value) : vc (some lx) zH_175 (n + 1) b d 175 662 ml (.int v :: .int u :: r) t Q = vc (some lx) zH_175 n true d 175 663 ml (.int (u + v) :: r) t Q := by
  rw [vc_q (o := (6, 0, 0, 0, [])) (by decide +kernel)]; rfl
theorem v_175_663 (lx : List Int32) (n : Nat) (b : Bool) (d : Nat) (ml : List Value) (t : T) (Q : Option Value → T → Prop) (v : Int32) (u : Nat) (r : List Value) : vc (some lx) zH_175 (n + 1) b d 175 663 ml (.int v :: .ref u :: r) t Q = (u = zSCR ∧ vinb v lx.length ∧ vc (some lx) zH_175 n true d 175 664 ml (.int (lx.getD v.toNatClampNeg 0) :: r) t Q) := by
  rw [vc_q (o := (44, 0, 0, 0, [])) (by decide +kernel)]; rfl
theorem v_175_664 (lx : List Int32) (n : Nat) (b : Bool) (d : Nat) (ml : List Value) (t : T) (Q : Option Value → T → Prop) (st : List Value) : vc (some lx) zH_175 (n + 1) b d 175 664 ml st t Q = vga ml 0 (fun v => vc (some lx) zH_175 n true d 175 665 ml (.ref v :: st) t Q) := by
  rw [vc_q (o := (2, 0, 0, 0, [])) (by decide +kernel)]; rfl
theorem v_175_665 (lx : List Int32) (n : Nat) (b : Bool) (d : Nat) (ml : List Value) (t : T) (Q : Option Value → T → Prop) (st : List Value) : vc (some lx) zH_175 (n + 1) b d 175 665 ml st t Q = vgi ml 3 (fun v => vc (some lx) zH_175 n true d 175 666 ml (.int v :: st) t Q) := by
  rw [vc_q (o := (1, 0, 3, 0, [])) (by decide +kernel)]; rfl
theorem v_175_666 (lx : List Int32) (n : Nat) (b : Bool) (d : Nat) (ml : List Value) (t : T) (Q : Option Value → T → Prop) (st : List Value) : vc (some lx) zH_175 (n + 1) b d 175 666 ml st t Q = vc (some lx) zH_175 n true d 175 667 ml (.int 4 :: st) t Q := by
  rw [vc_q (o := (0, 4, 0, 0, [])) (by decide +kernel)]; rfl
theorem v_175_667 (lx : List Int32) (n : Nat) (b : Bool) (d : Nat) (ml : List Value) (t : T) (Q : Option Value → T → Prop) (u v : Int32) (r : List Value) : vc (some lx) zH_175 (n + 1) b d 175 667 ml (.int v :: .int u :: r) t Q = vc (some lx) zH_175 n true d 175 668 ml (.int (u + v) :: r) t Q := by
  rw [vc_q (o := (6, 0, 0, 0, [])) (by decide +kernel)]; rfl
theorem v_175_668 (lx : List Int32) (n : Nat) (b : Bool) (d : Nat) (ml : List Value) (t : T) (Q : Option Value → T → Prop) (v : Int32) (u : Nat) (r : List Value) : vc (some lx) zH_175 (n + 1) b d 175 668 ml (.int v :: .ref u :: r) t Q = (u = zSCR ∧ vinb v lx.length ∧ vc (some lx) zH_175 n true d 175 669 ml (.int (lx.getD v.toNatClampNeg 0) :: r) t Q) := by
  rw [vc_q (o := (44, 0, 0, 0, [])) (by decide +kernel)]; rfl
theorem v_175_669 (lx : List Int32) (n : Nat) (b : Bool) (d : Nat) (ml : List Value) (t : T) (Q : Option Value → T → Prop) (st : List Value) : vc (some lx) zH_175 (n + 1) b d 175 669 ml st t Q = (st.all zc1 = true ∧ vtk 5 st [] (fun as rest => rest.length ≤ 8 ∧ vrc as 12 (twc d 86 as t (fun r t' => vc (some lx) zH_175 n true d 175 672 ml (r.toList ++ rest) t' Q)))) := by
  rw [vc_q (o := (36, 0, 86, 4, [(0, 12)])) (by decide +kernel)]; rfl
theorem v_175_672 (lx : List Int32) (n : Nat) (b : Bool) (d : Nat) (ml : List Value) (t : T) (Q : Option Value → T → Prop) (u v : Int32) (r : List Value) : vc (some lx) zH_175 (n + 1) b d 175 672 ml (.int v :: .int u :: r) t Q = (if u = v then vc (some lx) zH_175 n true d 175 931 ml r t Q else vc (some lx) zH_175 n true d 175 675 ml r t Q) := by
  rw [vc_q (o := (20, 0, 931, 0, [])) (by decide +kernel)]; rfl
theorem v_175_675 (lx : List Int32) (n : Nat) (b : Bool) (d : Nat) (ml : List Value) (t : T) (Q : Option Value → T → Prop) (st : List Value) : vc (some lx) zH_175 (n + 1) b d 175 675 ml st t Q = vc (some lx) zH_175 n true d 175 676 ml (.int 0 :: st) t Q := by
  rw [vc_q (o := (0, 0, 0, 0, [])) (by decide +kernel)]; rfl
theorem v_175_676 (lx : List Int32) (n : Nat) (b : Bool) (d : Nat) (ml : List Value) (t : T) (Q : Option Value → T → Prop) (v : Int32) : vc (some lx) zH_175 (n + 1) b d 175 676 ml [.int v] t Q = ((v = 0 ∨ v = 1) ∧ Q (some (.int v)) t) := by
  rw [vc_q (o := (41, 0, 0, 0, [])) (by decide +kernel)]; rfl
theorem v_175_677 (lx : List Int32) (n : Nat) (b : Bool) (d : Nat) (ml : List Value) (t : T) (Q : Option Value → T → Prop) (st : List Value) : vc (some lx) zH_175 (n + 1) b d 175 677 ml st t Q = vga ml 1 (fun v => vc (some lx) zH_175 n true d 175 678 ml (.ref v :: st) t Q) := by
  rw [vc_q (o := (2, 0, 1, 0, [])) (by decide +kernel)]; rfl
theorem v_175_678 (lx : List Int32) (n : Nat) (b : Bool) (d : Nat) (ml : List Value) (t : T) (Q : Option Value → T → Prop) (st : List Value) : vc (some lx) zH_175 (n + 1) b d 175 678 ml st t Q = vga ml 0 (fun v => vc (some lx) zH_175 n true d 175 679 ml (.ref v :: st) t Q) := by
  rw [vc_q (o := (2, 0, 0, 0, [])) (by decide +kernel)]; rfl
theorem v_175_679 (lx : List Int32) (n : Nat) (b : Bool) (d : Nat) (ml : List Value) (t : T) (Q : Option Value → T → Prop) (st : List Value) : vc (some lx) zH_175 (n + 1) b d 175 679 ml st t Q = vgi ml 3 (fun v => vc (some lx) zH_175 n true d 175 680 ml (.int v :: st) t Q) := by
  rw [vc_q (o := (1, 0, 3, 0, [])) (by decide +kernel)]; rfl
theorem v_175_680 (lx : List Int32) (n : Nat) (b : Bool) (d : Nat) (ml : List Value) (t : T) (Q : Option Value → T → Prop) (st : List Value) : vc (some lx) zH_175 (n + 1) b d 175 680 ml st t Q = vc (some lx) zH_175 n true d 175 681 ml (.int 1 :: st) t Q := by
  rw [vc_q (o := (0, 1, 0, 0, [])) (by decide +kernel)]; rfl
theorem v_175_681 (lx : List Int32) (n : Nat) (b : Bool) (d : Nat) (ml : List Value) (t : T) (Q : Option Value → T → Prop) (u v : Int32) (r : List Value) : vc (some lx) zH_175 (n + 1) b d 175 681 ml (.int v :: .int u :: r) t Q = vc (some lx) zH_175 n true d 175 682 ml (.int (u + v) :: r) t Q := by
  rw [vc_q (o := (6, 0, 0, 0, [])) (by decide +kernel)]; rfl
theorem v_175_682 (lx : List Int32) (n : Nat) (b : Bool) (d : Nat) (ml : List Value) (t : T) (Q : Option Value → T → Prop) (v : Int32) (u : Nat) (r : List Value) : vc (some lx) zH_175 (n + 1) b d 175 682 ml (.int v :: .ref u :: r) t Q = (u = zSCR ∧ vinb v lx.length ∧ vc (some lx) zH_175 n true d 175 683 ml (.int (lx.getD v.toNatClampNeg 0) :: r) t Q) := by
  rw [vc_q (o := (44, 0, 0, 0, [])) (by decide +kernel)]; rfl
theorem v_175_683 (lx : List Int32) (n : Nat) (b : Bool) (d : Nat) (ml : List Value) (t : T) (Q : Option Value → T → Prop) (st : List Value) : vc (some lx) zH_175 (n + 1) b d 175 683 ml st t Q = vga ml 0 (fun v => vc (some lx) zH_175 n true d 175 684 ml (.ref v :: st) t Q) := by
  rw [vc_q (o := (2, 0, 0, 0, [])) (by decide +kernel)]; rfl
theorem v_175_684 (lx : List Int32) (n : Nat) (b : Bool) (d : Nat) (ml : List Value) (t : T) (Q : Option Value → T → Prop) (st : List Value) : vc (some lx) zH_175 (n + 1) b d 175 684 ml st t Q = vgi ml 3 (fun v => vc (some lx) zH_175 n true d 175 685 ml (.int v :: st) t Q) := by
  rw [vc_q (o := (1, 0, 3, 0, [])) (by decide +kernel)]; rfl
theorem v_175_685 (lx : List Int32) (n : Nat) (b : Bool) (d : Nat) (ml : List Value) (t : T) (Q : Option Value → T → Prop) (st : List Value) : vc (some lx) zH_175 (n + 1) b d 175 685 ml st t Q = vc (some lx) zH_175 n true d 175 686 ml (.int 2 :: st) t Q := by
  rw [vc_q (o := (0, 2, 0, 0, [])) (by decide +kernel)]; rfl
theorem v_175_686 (lx : List Int32) (n : Nat) (b : Bool) (d : Nat) (ml : List Value) (t : T) (Q : Option Value → T → Prop) (u v : Int32) (r : List Value) : vc (some lx) zH_175 (n + 1) b d 175 686 ml (.int v :: .int u :: r) t Q = vc (some lx) zH_175 n true d 175 687 ml (.int (u + v) :: r) t Q := by
  rw [vc_q (o := (6, 0, 0, 0, [])) (by decide +kernel)]; rfl
theorem v_175_687 (lx : List Int32) (n : Nat) (b : Bool) (d : Nat) (ml : List Value) (t : T) (Q : Option Value → T → Prop) (v : Int32) (u : Nat) (r : List Value) : vc (some lx) zH_175 (n + 1) b d 175 687 ml (.int v :: .ref u :: r) t Q = (u = zSCR ∧ vinb v lx.length ∧ vc (some lx) zH_175 n true d 175 688 ml (.int (lx.getD v.toNatClampNeg 0) :: r) t Q) := by
  rw [vc_q (o := (44, 0, 0, 0, [])) (by decide +kernel)]; rfl
theorem v_175_688 (lx : List Int32) (n : Nat) (b : Bool) (d : Nat) (ml : List Value) (t : T) (Q : Option Value → T → Prop) (st : List Value) : vc (some lx) zH_175 (n + 1) b d 175 688 ml st t Q = vga ml 0 (fun v => vc (some lx) zH_175 n true d 175 689 ml (.ref v :: st) t Q) := by
  rw [vc_q (o := (2, 0, 0, 0, [])) (by decide +kernel)]; rfl
theorem v_175_689 (lx : List Int32) (n : Nat) (b : Bool) (d : Nat) (ml : List Value) (t : T) (Q : Option Value → T → Prop) (st : List Value) : vc (some lx) zH_175 (n + 1) b d 175 689 ml st t Q = vgi ml 3 (fun v => vc (some lx) zH_175 n true d 175 690 ml (.int v :: st) t Q) := by
  rw [vc_q (o := (1, 0, 3, 0, [])) (by decide +kernel)]; rfl
theorem v_175_690 (lx : List Int32) (n : Nat) (b : Bool) (d : Nat) (ml : List Value) (t : T) (Q : Option Value → T → Prop) (st : List Value) : vc (some lx) zH_175 (n + 1) b d 175 690 ml st t Q = vc (some lx) zH_175 n true d 175 691 ml (.int 3 :: st) t Q := by
  rw [vc_q (o := (0, 3, 0, 0, [])) (by decide +kernel)]; rfl
theorem v_175_691 (lx : List Int32) (n : Nat) (b : Bool) (d : Nat) (ml : List Value) (t : T) (Q : Option Value → T → Prop) (u v : Int32) (r : List Value) : vc (some lx) zH_175 (n + 1) b d 175 691 ml (.int v :: .int u :: r) t Q = vc (some lx) zH_175 n true d 175 692 ml (.int (u + v) :: r) t Q := by
  rw [vc_q (o := (6, 0, 0, 0, [])) (by decide +kernel)]; rfl
theorem v_175_692 (lx : List Int32) (n : Nat) (b : Bool) (d : Nat) (ml : List Value) (t : T) (Q : Option Value → T → Prop) (v : Int32) (u : Nat) (r : List Value) : vc (some lx) zH_175 (n + 1) b d 175 692 ml (.int v :: .ref u :: r) t Q = (u = zSCR ∧ vinb v lx.length ∧ vc (some lx) zH_175 n true d 175 693 ml (.int (lx.getD v.toNatClampNeg 0) :: r) t Q) := by
  rw [vc_q (o := (44, 0, 0, 0, [])) (by decide +kernel)]; rfl
theorem v_175_693 (lx : List Int32) (n : Nat) (b : Bool) (d : Nat) (ml : List Value) (t : T) (Q : Option Value → T → Prop) (st : List Value) : vc (some lx) zH_175 (n + 1) b d 175 693 ml st t Q = (st.all zc1 = true ∧ vtk 4 st [] (fun as rest => rest.length ≤ 8 ∧ vrc as 0 (twc d 14 as t (fun r t' => vc (some lx) zH_175 n true d 175 696 ml (r.toList ++ rest) t' Q)))) := by
  rw [vc_q (o := (36, 0, 14, 3, [(0, 0)])) (by decide +kernel)]; rfl
theorem v_175_696 (lx : List Int32) (n : Nat) (b : Bool) (d : Nat) (ml : List Value) (t : T) (Q : Option Value → T → Prop) (st : List Value) : vc (some lx) zH_175 (n + 1) b d 175 696 ml st t Q = vga ml 2 (fun v => vc (some lx) zH_175 n true d 175 697 ml (.ref v :: st) t Q) := by
  rw [vc_q (o := (2, 0, 2, 0, [])) (by decide +kernel)]; rfl
theorem v_175_697 (lx : List Int32) (n : Nat) (b : Bool) (d : Nat) (ml : List Value) (t : T) (Q : Option Value → T → Prop) (st : List Value) : vc (some lx) zH_175 (n + 1) b d 175 697 ml st t Q = vga ml 0 (fun v => vc (some lx) zH_175 n true d 175 698 ml (.ref v :: st) t Q) := by
  rw [vc_q (o := (2, 0, 0, 0, [])) (by decide +kernel)]; rfl
theorem v_175_698 (lx : List Int32) (n : Nat) (b : Bool) (d : Nat) (ml : List Value) (t : T) (Q : Option Value → T → Prop) (st : List Value) : vc (some lx) zH_175 (n + 1) b d 175 698 ml st t Q = vgi ml 3 (fun v => vc (some lx) zH_175 n true d 175 699 ml (.int v :: st) t Q) := by
  rw [vc_q (o := (1, 0, 3, 0, [])) (by decide +kernel)]; rfl
theorem v_175_699 (lx : List Int32) (n : Nat) (b : Bool) (d : Nat) (ml : List Value) (t : T) (Q : Option Value → T → Prop) (st : List Value) : vc (some lx) zH_175 (n + 1) b d 175 699 ml st t Q = vc (some lx) zH_175 n true d 175 700 ml (.int 1 :: st) t Q := by
  rw [vc_q (o := (0, 1, 0, 0, [])) (by decide +kernel)]; rfl
theorem v_175_700 (lx : List Int32) (n : Nat) (b : Bool) (d : Nat) (ml : List Value) (t : T) (Q : Option Value → T → Prop) (u v : Int32) (r : List Value) : vc (some lx) zH_175 (n + 1) b d 175 700 ml (.int v :: .int u :: r) t Q = vc (some lx) zH_175 n true d 175 701 ml (.int (u + v) :: r) t Q := by
  rw [vc_q (o := (6, 0, 0, 0, [])) (by decide +kernel)]; rfl
theorem v_175_701 (lx : List Int32) (n : Nat) (b : Bool) (d : Nat) (ml : List Value) (t : T) (Q : Option Value → T → Prop) (v : Int32) (u : Nat) (r : List Value) : vc (some lx) zH_175 (n + 1) b d 175 701 ml (.int v :: .ref u :: r) t Q = (u = zSCR ∧ vinb v lx.length ∧ vc (some lx) zH_175 n true d 175 702 ml (.int (lx.getD v.toNatClampNeg 0) :: r) t Q) := by
  rw [vc_q (o := (44, 0, 0, 0, [])) (by decide +kernel)]; rfl
theorem v_175_702 (lx : List Int32) (n : Nat) (b : Bool) (d : Nat) (ml : List Value) (t : T) (Q : Option Value → T → Prop) (st : List Value) : vc (some lx) zH_175 (n + 1) b d 175 702 ml st t Q = vga ml 0 (fun v => vc (some lx) zH_175 n true d 175 703 ml (.ref v :: st) t Q) := by
  rw [vc_q (o := (2, 0, 0, 0, [])) (by decide +kernel)]; rfl
theorem v_175_703 (lx : List Int32) (n : Nat) (b : Bool) (d : Nat) (ml : List Value) (t : T) (Q : Option Value → T → Prop) (st : List Value) : vc (some lx) zH_175 (n + 1) b d 175 703 ml st t Q = vgi ml 3 (fun v => vc (some lx) zH_175 n true d 175 704 ml (.int v :: st) t Q) := by
  rw [vc_q (o := (1, 0, 3, 0, [])) (by decide +kernel)]; rfl
theorem v_175_704 (lx : List Int32) (n : Nat) (b : Bool) (d : Nat) (ml : List Value) (t : T) (Q : Option Value → T → Prop) (st : List Value) : vc (some lx) zH_175 (n + 1) b d 175 704 ml st t Q = vc (some lx) zH_175 n true d 175 705 ml (.int 2 :: st) t Q := by
  rw [vc_q (o := (0, 2, 0, 0, [])) (by decide +kernel)]; rfl
theorem v_175_705 (lx : List Int32) (n : Nat) (b : Bool) (d : Nat) (ml : List Value) (t : T) (Q : Option Value → T → Prop) (u v : Int32) (r : List Value) : vc (some lx) zH_175 (n + 1) b d 175 705 ml (.int v :: .int u :: r) t Q = vc (some lx) zH_175 n true d 175 706 ml (.int (u + v) :: r) t Q := by
  rw [vc_q (o := (6, 0, 0, 0, [])) (by decide +kernel)]; rfl
theorem v_175_706 (lx : List Int32) (n : Nat) (b : Bool) (d : Nat) (ml : List Value) (t : T) (Q : Option Value → T → Prop) (v : Int32) (u : Nat) (r : List Value) : vc (some lx) zH_175 (n + 1) b d 175 706 ml (.int v :: .ref u :: r) t Q = (u = zSCR ∧ vinb v lx.length ∧ vc (some lx) zH_175 n true d 175 707 ml (.int (lx.getD v.toNatClampNeg 0) :: r) t Q) := by
  rw [vc_q (o := (44, 0, 0, 0, [])) (by decide +kernel)]; rfl
theorem v_175_707 (lx : List Int32) (n : Nat) (b : Bool) (d : Nat) (ml : List Value) (t : T) (Q : Option Value → T → Prop) (st : List Value) : vc (some lx) zH_175 (n + 1) b d 175 707 ml st t Q = vga ml 0 (fun v => vc (some lx) zH_175 n true d 175 708 ml (.ref v :: st) t Q) := by
  rw [vc_q (o := (2, 0, 0, 0, [])) (by decide +kernel)]; rfl
theorem v_175_708 (lx : List Int32) (n : Nat) (b : Bool) (d : Nat) (ml : List Value) (t : T) (Q : Option Value → T → Prop) (st : List Value) : vc (some lx) zH_175 (n + 1) b d 175 708 ml st t Q = vgi ml 3 (fun v => vc (some lx) zH_175 n true d 175 709 ml (.int v :: st) t Q) := by
  rw [vc_q (o := (1, 0, 3, 0, [])) (by decide +kernel)]; rfl
theorem v_175_709 (lx : List Int32) (n : Nat) (b : Bool) (d : Nat) (ml : List Value) (t : T) (Q : Option Value → T → Prop) (st : List Value) : vc (some lx) zH_175 (n + 1) b d 175 709 ml st t Q = vc (some lx) zH_175 n true d 175 710 ml (.int 3 :: st) t Q := by
  rw [vc_q (o := (0, 3, 0, 0, [])) (by decide +kernel)]; rfl
theorem v_175_710 (lx : List Int32) (n : Nat) (b : Bool) (d : Nat) (ml : List Value) (t : T) (Q : Option Value → T → Prop) (u v : Int32) (r : List Value) : vc (some lx) zH_175 (n + 1) b d 175 710 ml (.int v :: .int u :: r) t Q = vc (some lx) zH_175 n true d 175 711 ml (.int (u + v) :: r) t Q := by
  rw [vc_q (o := (6, 0, 0, 0, [])) (by decide +kernel)]; rfl
theorem v_175_711 (lx : List Int32) (n : Nat) (b : Bool) (d : Nat) (ml : List Value) (t : T) (Q : Option Value → T → Prop) (v : Int32) (u : Nat) (r : List Value) : vc (some lx) zH_175 (n + 1) b d 175 711 ml (.int v :: .ref u :: r) t Q = (u = zSCR ∧ vinb v lx.length ∧ vc (some lx) zH_175 n true d 175 712 ml (.int (lx.getD v.toNatClampNeg 0) :: r) t Q) := by
  rw [vc_q (o := (44, 0, 0, 0, [])) (by decide +kernel)]; rfl
theorem v_175_712 (lx : List Int32) (n : Nat) (b : Bool) (d : Nat) (ml : List Value) (t : T) (Q : Option Value → T → Prop) (st : List Value) : vc (some lx) zH_175 (n + 1) b d 175 712 ml st t Q = (st.all zc1 = true ∧ vtk 4 st [] (fun as rest => rest.length ≤ 8 ∧ vrc as 12 (twc d 87 as t (fun r t' => vc (some lx) zH_175 n true d 175 715 ml (r.toList ++ rest) t' Q)))) := by
  rw [vc_q (o := (36, 0, 87, 3, [(0, 12)])) (by decide +kernel)]; rfl
theorem v_175_715 (lx : List Int32) (n : Nat) (b : Bool) (d : Nat) (ml : List Value) (t : T) (Q : Option Value → T → Prop) (u v : Int32) (r : List Value) : vc (some lx) zH_175 (n + 1) b d 175 715 ml (.int v :: .int u :: r) t Q = (if u = v then vc (some lx) zH_175 n true d 175 931 ml r t Q else vc (some lx) zH_175 n true d 175 718 ml r t Q) := by
  rw [vc_q (o := (20, 0, 931, 0, [])) (by decide +kernel)]; rfl
theorem v_175_718 (lx : List Int32) (n : Nat) (b : Bool) (d : Nat) (ml : List Value) (t : T) (Q : Option Value → T → Prop) (st : List Value) : vc (some lx) zH_175 (n + 1) b d 175 718 ml st t Q = vc (some lx) zH_175 n true d 175 719 ml (.int 0 :: st) t Q := by
  rw [vc_q (o := (0, 0, 0, 0, [])) (by decide +kernel)]; rfl
theorem v_175_719 (lx : List Int32) (n : Nat) (b : Bool) (d : Nat) (ml : List Value) (t : T) (Q : Option Value → T → Prop) (v : Int32) : vc (some lx) zH_175 (n + 1) b d 175 719 ml [.int v] t Q = ((v = 0 ∨ v = 1) ∧ Q (some (.int v)) t) := by
  rw [vc_q (o := (41, 0, 0, 0, [])) (by decide +kernel)]; rfl
theorem v_175_720 (lx : List Int32) (n : Nat) (b : Bool) (d : Nat) (ml : List Value) (t : T) (Q : Option Value → T → Prop) (st : List Value) : vc (some lx) zH_175 (n + 1) b d 175 720 ml st t Q = vga ml 1 (fun v => vc (some lx) zH_175 n true d 175 721 ml (.ref v :: st) t Q) := by
  rw [vc_q (o := (2, 0, 1, 0, [])) (by decide +kernel)]; rfl
theorem v_175_721 (lx : List Int32) (n : Nat) (b : Bool) (d : Nat) (ml : List Value) (t : T) (Q : Option Value → T → Prop) (st : List Value) : vc (some lx) zH_175 (n + 1) b d 175 721 ml st t Q = vga ml 0 (fun v => vc (some lx) zH_175 n true d 175 722 ml (.ref v :: st) t Q) := by
  rw [vc_q (o := (2, 0, 0, 0, [])) (by decide +kernel)]; rfl
theorem v_175_722 (lx : List Int32) (n : Nat) (b : Bool) (d : Nat) (ml : List Value) (t : T) (Q : Option Value → T → Prop) (st : List Value) : vc (some lx) zH_175 (n + 1) b d 175 722 ml st t Q = vgi ml 3 (fun v => vc (some lx) zH_175 n true d 175 723 ml (.int v :: st) t Q) := by
  rw [vc_q (o := (1, 0, 3, 0, [])) (by decide +kernel)]; rfl
theorem v_175_723 (lx : List Int32) (n : Nat) (b : Bool) (d : Nat) (ml : List Value) (t : T) (Q : Option Value → T → Prop) (st : List Value) : vc (some lx) zH_175 (n + 1) b d 175 723 ml st t Q = vc (some lx) zH_175 n true d 175 724 ml (.int 1 :: st) t Q := by
  rw [vc_q (o := (0, 1, 0, 0, [])) (by decide +kernel)]; rfl
theorem v_175_724 (lx : List Int32) (n : Nat) (b : Bool) (d : Nat) (ml : List Value) (t : T) (Q : Option Value → T → Prop) (u v : Int32) (r : List Value) : vc (some lx) zH_175 (n + 1) b d 175 724 ml (.int v :: .int u :: r) t Q = vc (some lx) zH_175 n true d 175 725 ml (.int (u + v) :: r) t Q := by
  rw [vc_q (o := (6, 0, 0, 0, [])) (by decide +kernel)]; rfl
theorem v_175_725 (lx : List Int32) (n : Nat) (b : Bool) (d : Nat) (ml : List Value) (t : T) (Q : Option Value → T → Prop) (v : Int32) (u : Nat) (r : List Value) : vc (some lx) zH_175 (n + 1) b d 175 725 ml (.int v :: .ref u :: r) t Q = (u = zSCR ∧ vinb v lx.length ∧ vc (some lx) zH_175 n true d 175 726 ml (.int (lx.getD v.toNatClampNeg 0) :: r) t Q) := by
  rw [vc_q (o := (44, 0, 0, 0, [])) (by decide +kernel)]; rfl
theorem v_175_726 (lx : List Int32) (n : Nat) (b : Bool) (d : Nat) (ml : List Value) (t : T) (Q : Option Value → T → Prop) (st : List Value) : vc (some lx) zH_175 (n + 1) b d 175 726 ml st t Q = vga ml 0 (fun v => vc (some lx) zH_175 n true d 175 727 ml (.ref v :: st) t Q) := by
  rw [vc_q (o := (2, 0, 0, 0, [])) (by decide +kernel)]; rfl
theorem v_175_727 (lx : List Int32) (n : Nat) (b : Bool) (d : Nat) (ml : List Value) (t : T) (Q : Option Value → T → Prop) (st : List Value) : vc (some lx) zH_175 (n + 1) b d 175 727 ml st t Q = vgi ml 3 (fun v => vc (some lx) zH_175 n true d 175 728 ml (.int v :: st) t Q) := by
  rw [vc_q (o := (1, 0, 3, 0, [])) (by decide +kernel)]; rfl
theorem v_175_728 (lx : List Int32) (n : Nat) (b : Bool) (d : Nat) (ml : List Value) (t : T) (Q : Option Value → T → Prop) (st : List Value) : vc (some lx) zH_175 (n + 1) b d 175 728 ml st t Q = vc (some lx) zH_175 n true d 175 729 ml (.int 2 :: st) t Q := by
  rw [vc_q (o := (0, 2, 0, 0, [])) (by decide +kernel)]; rfl
theorem v_175_729 (lx : List Int32) (n : Nat) (b : Bool) (d : Nat) (ml : List Value) (t : T) (Q : Option Value → T → Prop) (u v : Int32) (r : List Value) : vc (some lx) zH_175 (n + 1) b d 175 729 ml (.int v :: .int u :: r) t Q = vc (some lx) zH_175 n true d 175 730 ml (.int (u + v) :: r) t Q := by
  rw [vc_q (o := (6, 0, 0, 0, [])) (by decide +kernel)]; rfl
theorem v_175_730 (lx : List Int32) (n : Nat) (b : Bool) (d : Nat) (ml : List Value) (t : T) (Q : Option Value → T → Prop) (v : Int32) (u : Nat) (r : List Value) : vc (some lx) zH_175 (n + 1) b d 175 730 ml (.int v :: .ref u :: r) t Q = (u = zSCR ∧ vinb v lx.length ∧ vc (some lx) zH_175 n true d 175 731 ml (.int (lx.getD v.toNatClampNeg 0) :: r) t Q) := by
  rw [vc_q (o := (44, 0, 0, 0, [])) (by decide +kernel)]; rfl
theorem v_175_731 (lx : List Int32) (n : Nat) (b : Bool) (d : Nat) (ml : List Value) (t : T) (Q : Option Value → T → Prop) (st : List Value) : vc (some lx) zH_175 (n + 1) b d 175 731 ml st t Q = (st.all zc1 = true ∧ vtk 3 st [] (fun as rest => rest.length ≤ 8 ∧ vrc as 0 (twc d 15 as t (fun r t' => vc (some lx) zH_175 n true d 175 734 ml (r.toList ++ rest) t' Q)))) := by
  rw [vc_q (o := (36, 0, 15, 2, [(0, 0)])) (by decide +kernel)]; rfl
theorem v_175_734 (lx : List Int32) (n : Nat) (b : Bool) (d : Nat) (ml : List Value) (t : T) (Q : Option Value → T → Prop) (st : List Value) : vc (some lx) zH_175 (n + 1) b d 175 734 ml st t Q = vga ml 2 (fun v => vc (some lx) zH_175 n true d 175 735 ml (.ref v :: st) t Q) := by
  rw [vc_q (o := (2, 0, 2, 0, [])) (by decide +kernel)]; rfl
theorem v_175_735 (lx : List Int32) (n : Nat) (b : Bool) (d : Nat) (ml : List Value) (t : T) (Q : Option Value → T → Prop) (st : List Value) : vc (some lx) zH_175 (n + 1) b d 175 735 ml st t Q = vga ml 0 (fun v => vc (some lx) zH_175 n true d 175 736 ml (.ref v :: st) t Q) := by
  rw [vc_q (o := (2, 0, 0, 0, [])) (by decide +kernel)]; rfl
theorem v_175_736 (lx : List Int32) (n : Nat) (b : Bool) (d : Nat) (ml : List Value) (t : T) (Q : Option Value → T → Prop) (st : List Value) : vc (some lx) zH_175 (n + 1) b d 175 736 ml st t Q = vgi ml 3 (fun v => vc (some lx) zH_175 n true d 175 737 ml (.int v :: st) t Q) := by
  rw [vc_q (o := (1, 0, 3, 0, [])) (by decide +kernel)]; rfl
theorem v_175_737 (lx : List Int32) (n : Nat) (b : Bool) (d : Nat) (ml : List Value) (t : T) (Q : Option Value → T → Prop) (st : List Value) : vc (some lx) zH_175 (n + 1) b d 175 737 ml st t Q = vc (some lx) zH_175 n true d 175 738 ml (.int 1 :: st) t Q := by
  rw [vc_q (o := (0, 1, 0, 0, [])) (by decide +kernel)]; rfl
theorem v_175_738 (lx : List Int32) (n : Nat) (b : Bool) (d : Nat) (ml : List Value) (t : T) (Q : Option Value → T → Prop) (u v : Int32) (r : List Value) : vc (some lx) zH_175 (n + 1) b d 175 738 ml (.int v :: .int u :: r) t Q = vc (some lx) zH_175 n true d 175 739 ml (.int (u + v) :: r) t Q := by
  rw [vc_q (o := (6, 0, 0, 0, [])) (by decide +kernel)]; rfl
theorem v_175_739 (lx : List Int32) (n : Nat) (b : Bool) (d : Nat) (ml : List Value) (t : T) (Q : Option Value → T → Prop) (v : Int32) (u : Nat) (r : List Value) : vc (some lx) zH_175 (n + 1) b d 175 739 ml (.int v :: .ref u :: r) t Q = (u = zSCR ∧ vinb v lx.length ∧ vc (some lx) zH_175 n true d 175 740 ml (.int (lx.getD v.toNatClampNeg 0) :: r) t Q) := by
  rw [vc_q (o := (44, 0, 0, 0, [])) (by decide +kernel)]; rfl
theorem v_175_740 (lx : List Int32) (n : Nat) (b : Bool) (d : Nat) (ml : List Value) (t : T) (Q : Option Value → T → Prop) (st : List Value) : vc (some lx) zH_175 (n + 1) b d 175 740 ml st t Q = vga ml 0 (fun v => vc (some lx) zH_175 n true d 175 741 ml (.ref v :: st) t Q) := by
  rw [vc_q (o := (2, 0, 0, 0, [])) (by decide +kernel)]; rfl
theorem v_175_741 (lx : List Int32) (n : Nat) (b : Bool) (d : Nat) (ml : List Value) (t : T) (Q : Option Value → T → Prop) (st : List Value) : vc (some lx) zH_175 (n + 1) b d 175 741 ml st t Q = vgi ml 3 (fun v => vc (some lx) zH_175 n true d 175 742 ml (.int v :: st) t Q) := by
  rw [vc_q (o := (1, 0, 3, 0, [])) (by decide +kernel)]; rfl
theorem v_175_742 (lx : List Int32) (n : Nat) (b : Bool) (d : Nat) (ml : List Value) (t : T) (Q : Option Value → T → Prop) (st : List Value) : vc (some lx) zH_175 (n + 1) b d 175 742 ml st t Q = vc (some lx) zH_175 n true d 175 743 ml (.int 2 :: st) t Q := by
  rw [vc_q (o := (0, 2, 0, 0, [])) (by decide +kernel)]; rfl
theorem v_175_743 (lx : List Int32) (n : Nat) (b : Bool) (d : Nat) (ml : List Value) (t : T) (Q : Option Value → T → Prop) (u v : Int32) (r : List Value) : vc (some lx) zH_175 (n + 1) b d 175 743 ml (.int v :: .int u :: r) t Q = vc (some lx) zH_175 n true d 175 744 ml (.int (u + v) :: r) t Q := by
  rw [vc_q (o := (6, 0, 0, 0, [])) (by decide +kernel)]; rfl
theorem v_175_744 (lx : List Int32) (n : Nat) (b : Bool) (d : Nat) (ml : List Value) (t : T) (Q : Option Value → T → Prop) (v : Int32) (u : Nat) (r : List Value) : vc (some lx) zH_175 (n + 1) b d 175 744 ml (.int v :: .ref u :: r) t Q = (u = zSCR ∧ vinb v lx.length ∧ vc (some lx) zH_175 n true d 175 745 ml (.int (lx.getD v.toNatClampNeg 0) :: r) t Q) := by
  rw [vc_q (o := (44, 0, 0, 0, [])) (by decide +kernel)]; rfl
theorem v_175_745 (lx : List Int32) (n : Nat) (b : Bool) (d : Nat) (ml : List Value) (t : T) (Q : Option Value → T → Prop) (st : List Value) : vc (some lx) zH_175 (n + 1) b d 175 745 ml st t Q = (st.all zc1 = true ∧ vtk 3 st [] (fun as rest => rest.length ≤ 8 ∧ vrc as 12 (twc d 91 as t (fun r t' => vc (some lx) zH_175 n true d 175 748 ml (r.toList ++ rest) t' Q)))) := by
  rw [vc_q (o := (36, 0, 91, 2, [(0, 12)])) (by decide +kernel)]; rfl
theorem v_175_748 (lx : List Int32) (n : Nat) (b : Bool) (d : Nat) (ml : List Value) (t : T) (Q : Option Value → T → Prop) (u v : Int32) (r : List Value) : vc (some lx) zH_175 (n + 1) b d 175 748 ml (.int v :: .int u :: r) t Q = (if u = v then vc (some lx) zH_175 n true d 175 931 ml r t Q else vc (some lx) zH_175 n true d 175 751 ml r t Q) := by
  rw [vc_q (o := (20, 0, 931, 0, [])) (by decide +kernel)]; rfl
theorem v_175_751 (lx : List Int32) (n : Nat) (b : Bool) (d : Nat) (ml : List Value) (t : T) (Q : Option Value → T → Prop) (st : List Value) : vc (some lx) zH_175 (n + 1) b d 175 751 ml st t Q = vc (some lx) zH_175 n true d 175 752 ml (.int 0 :: st) t Q := by
  rw [vc_q (o := (0, 0, 0, 0, [])) (by decide +kernel)]; rfl
theorem v_175_752 (lx : List Int32) (n : Nat) (b : Bool) (d : Nat) (ml : List Value) (t : T) (Q : Option Value → T → Prop) (v : Int32) : vc (some lx) zH_175 (n + 1) b d 175 752 ml [.int v] t Q = ((v = 0 ∨ v = 1) ∧ Q (some (.int v)) t) := by
  rw [vc_q (o := (41, 0, 0, 0, [])) (by decide +kernel)]; rfl
theorem v_175_753 (lx : List Int32) (n : Nat) (b : Bool) (d : Nat) (ml : List Value) (t : T) (Q : Option Value → T → Prop) (st : List Value) : vc (some lx) zH_175 (n + 1) b d 175 753 ml st t Q = vga ml 1 (fun v => vc (some lx) zH_175 n true d 175 754 ml (.ref v :: st) t Q) := by
  rw [vc_q (o := (2, 0, 1, 0, [])) (by decide +kernel)]; rfl
theorem v_175_754 (lx : List Int32) (n : Nat) (b : Bool) (d : Nat) (ml : List Value) (t : T) (Q : Option Value → T → Prop) (st : List Value) : vc (some lx) zH_175 (n + 1) b d 175 754 ml st t Q = vga ml 0 (fun v => vc (some lx) zH_175 n true d 175 755 ml (.ref v :: st) t Q) := by
  rw [vc_q (o := (2, 0, 0, 0, [])) (by decide +kernel)]; rfl
theorem v_175_755 (lx : List Int32) (n : Nat) (b : Bool) (d : Nat) (ml : List Value) (t : T) (Q : Option Value → T → Prop) (st : List Value) : vc (some lx) zH_175 (n + 1) b d 175 755 ml st t Q = vgi ml 3 (fun v => vc (some lx) zH_175 n true d 175 756 ml (.int v :: st) t Q) := by
  rw [vc_q (o := (1, 0, 3, 0, [])) (by decide +kernel)]; rfl
theorem v_175_756 (lx : List Int32) (n : Nat) (b : Bool) (d : Nat) (ml : List Value) (t : T) (Q : Option Value → T → Prop) (st : List Value) : vc (some lx) zH_175 (n + 1) b d 175 756 ml st t Q = vc (some lx) zH_175 n true d 175 757 ml (.int 1 :: st) t Q := by
  rw [vc_q (o := (0, 1, 0, 0, [])) (by decide +kernel)]; rfl
theorem v_175_757 (lx : List Int32) (n : Nat) (b : Bool) (d : Nat) (ml : List Value) (t : T) (Q : Option Value → T → Prop) (u v : Int32) (r : List Value) : vc (some lx) zH_175 (n + 1) b d 175 757 ml (.int v :: .int u :: r) t Q = vc (some lx) zH_175 n true d 175 758 ml (.int (u + v) :: r) t Q := by
  rw [vc_q (o := (6, 0, 0, 0, [])) (by decide +kernel)]; rfl
theorem v_175_758 (lx : List Int32) (n : Nat) (b : Bool) (d : Nat) (ml : List Value) (t : T) (Q : Option Value → T → Prop) (v : Int32) (u : Nat) (r : List Value) : vc (some lx) zH_175 (n + 1) b d 175 758 ml (.int v :: .ref u :: r) t Q = (u = zSCR ∧ vinb v lx.length ∧ vc (some lx) zH_175 n true d 175 759 ml (.int (lx.getD v.toNatClampNeg 0) :: r) t Q) := by
  rw [vc_q (o := (44, 0, 0, 0, [])) (by decide +kernel)]; rfl
theorem v_175_759 (lx : List Int32) (n : Nat) (b : Bool) (d : Nat) (ml : List Value) (t : T) (Q : Option Value → T → Prop) (st : List Value) : vc (some lx) zH_175 (n + 1) b d 175 759 ml st t Q = vga ml 0 (fun v => vc (some lx) zH_175 n true d 175 760 ml (.ref v :: st) t Q) := by
  rw [vc_q (o := (2, 0, 0, 0, [])) (by decide +kernel)]; rfl
theorem v_175_760 (lx : List Int32) (n : Nat) (b : Bool) (d : Nat) (ml : List Value) (t : T) (Q : Option Value → T → Prop) (st : List Value) : vc (some lx) zH_175 (n + 1) b d 175 760 ml st t Q = vgi ml 3 (fun v => vc (some lx) zH_175 n true d 175 761 ml (.int v :: st) t Q) := by
  rw [vc_q (o := (1, 0, 3, 0, [])) (by decide +kernel)]; rfl
theorem v_175_761 (lx : List Int32) (n : Nat) (b : Bool) (d : Nat) (ml : List Value) (t : T) (Q : Option Value → T → Prop) (st : List Value) : vc (some lx) zH_175 (n + 1) b d 175 761 ml st t Q = vc (some lx) zH_175 n true d 175 762 ml (.int 2 :: st) t Q := by
  rw [vc_q (o := (0, 2, 0, 0, [])) (by decide +kernel)]; rfl
theorem v_175_762 (lx : List Int32) (n : Nat) (b : Bool) (d : Nat) (ml : List Value) (t : T) (Q : Option Value → T → Prop) (u v : Int32) (r : List Value) : vc (some lx) zH_175 (n + 1) b d 175 762 ml (.int v :: .int u :: r) t Q = vc (some lx) zH_175 n true d 175 763 ml (.int (u + v) :: r) t Q := by
  rw [vc_q (o := (6, 0, 0, 0, [])) (by decide +kernel)]; rfl
theorem v_175_763 (lx : List Int32) (n : Nat) (b : Bool) (d : Nat) (ml : List Value) (t : T) (Q : Option Value → T → Prop) (v : Int32) (u : Nat) (r : List Value) : vc (some lx) zH_175 (n + 1) b d 175 763 ml (.int v :: .ref u :: r) t Q = (u = zSCR ∧ vinb v lx.length ∧ vc (some lx) zH_175 n true d 175 764 ml (.int (lx.getD v.toNatClampNeg 0) :: r) t Q) := by
  rw [vc_q (o := (44, 0, 0, 0, [])) (by decide +kernel)]; rfl
theorem v_175_764 (lx : List Int32) (n : Nat) (b : Bool) (d : Nat) (ml : List Value) (t : T) (Q : Option Value → T → Prop) (st : List Value) : vc (some lx) zH_175 (n + 1) b d 175 764 ml st t Q = (st.all zc1 = true ∧ vtk 3 st [] (fun as rest => rest.length ≤ 8 ∧ vrc as 0 (twc d 16 as t (fun r t' => vc (some lx) zH_175 n true d 175 767 ml (r.toList ++ rest) t' Q)))) := by
  rw [vc_q (o := (36, 0, 16, 2, [(0, 0)])) (by decide +kernel)]; rfl
theorem v_175_767 (lx : List Int32) (n : Nat) (b : Bool) (d : Nat) (ml : List Value) (t : T) (Q : Option Value → T → Prop) (st : List Value) : vc (some lx) zH_175 (n + 1) b d 175 767 ml st t Q = vga ml 2 (fun v => vc (some lx) zH_175 n true d 175 768 ml (.ref v :: st) t Q) := by
  rw [vc_q (o := (2, 0, 2, 0, [])) (by decide +kernel)]; rfl
theorem v_175_768 (lx : List Int32) (n : Nat) (b : Bool) (d : Nat) (ml : List Value) (t : T) (Q : Option Value → T → Prop) (st : List Value) : vc (some lx) zH_175 (n + 1) b d 175 768 ml st t Q = vga ml 0 (fun v => vc (some lx) zH_175 n true d 175 769 ml (.ref v :: st) t Q) := by
  rw [vc_q (o := (2, 0, 0, 0, [])) (by decide +kernel)]; rfl
theorem v_175_769 (lx : List Int32) (n : Nat) (b : Bool) (d : Nat) (ml : List Value) (t : T) (Q : Option Value → T → Prop) (st : List Value) : vc (some lx) zH_175 (n + 1) b d 175 769 ml st t Q = vgi ml 3 (fun v => vc (some lx) zH_175 n true d 175 770 ml (.int v :: st) t Q) := by
  rw [vc_q (o := (1, 0, 3, 0, [])) (by decide +kernel)]; rfl
theorem v_175_770 (lx : List Int32) (n : Nat) (b : Bool) (d : Nat) (ml : List Value) (t : T) (Q : Option Value → T → Prop) (st : List Value) : vc (some lx) zH_175 (n + 1) b d 175 770 ml st t Q = vc (some lx) zH_175 n true d 175 771 ml (.int 1 :: st) t Q := by
  rw [vc_q (o := (0, 1, 0, 0, [])) (by decide +kernel)]; rfl
theorem v_175_771 (lx : List Int32) (n : Nat) (b : Bool) (d : Nat) (ml : List Value) (t : T) (Q : Option Value → T → Prop) (u v : Int32) (r : List Value) : vc (some lx) zH_175 (n + 1) b d 175 771 ml (.int v :: .int u :: r) t Q = vc (some lx) zH_175 n true d 175 772 ml (.int (u + v) :: r) t Q := by
  rw [vc_q (o := (6, 0, 0, 0, [])) (by decide +kernel)]; rfl
theorem v_175_772 (lx : List Int32) (n : Nat) (b : Bool) (d : Nat) (ml : List Value) (t : T) (Q : Option Value → T → Prop) (v : Int32) (u : Nat) (r : List Value) : vc (some lx) zH_175 (n + 1) b d 175 772 ml (.int v :: .ref u :: r) t Q = (u = zSCR ∧ vinb v lx.length ∧ vc (some lx) zH_175 n true d 175 773 ml (.int (lx.getD v.toNatClampNeg 0) :: r) t Q) := by
  rw [vc_q (o := (44, 0, 0, 0, [])) (by decide +kernel)]; rfl
theorem v_175_773 (lx : List Int32) (n : Nat) (b : Bool) (d : Nat) (ml : List Value) (t : T) (Q : Option Value → T → Prop) (st : List Value) : vc (some lx) zH_175 (n + 1) b d 175 773 ml st t Q = vga ml 0 (fun v => vc (some lx) zH_175 n true d 175 774 ml (.ref v :: st) t Q) := by
  rw [vc_q (o := (2, 0, 0, 0, [])) (by decide +kernel)]; rfl
theorem v_175_774 (lx : List Int32) (n : Nat) (b : Bool) (d : Nat) (ml : List Value) (t : T) (Q : Option Value → T → Prop) (st : List Value) : vc (some lx) zH_175 (n + 1) b d 175 774 ml st t Q = vgi ml 3 (fun v => vc (some lx) zH_175 n true d 175 775 ml (.int v :: st) t Q) := by
  rw [vc_q (o := (1, 0, 3, 0, [])) (by decide +kernel)]; rfl
theorem v_175_775 (lx : List Int32) (n : Nat) (b : Bool) (d : Nat) (ml : List Value) (t : T) (Q : Option Value → T → Prop) (st : List Value) : vc (some lx) zH_175 (n + 1) b d 175 775 ml st t Q = vc (some lx) zH_175 n true d 175 776 ml (.int 2 :: st) t Q := by
  rw [vc_q (o := (0, 2, 0, 0, [])) (by decide +kernel)]; rfl
theorem v_175_776 (lx : List Int32) (n : Nat) (b : Bool) (d : Nat) (ml : List Value) (t : T) (Q : Option Value → T → Prop) (u v : Int32) (r : List Value) : vc (some lx) zH_175 (n + 1) b d 175 776 ml (.int v :: .int u :: r) t Q = vc (some lx) zH_175 n true d 175 777 ml (.int (u + v) :: r) t Q := by
  rw [vc_q (o := (6, 0, 0, 0, [])) (by decide +kernel)]; rfl
theorem v_175_777 (lx : List Int32) (n : Nat) (b : Bool) (d : Nat) (ml : List Value) (t : T) (Q : Option Value → T → Prop) (v : Int32) (u : Nat) (r : List Value) : vc (some lx) zH_175 (n + 1) b d 175 777 ml (.int v :: .ref u :: r) t Q = (u = zSCR ∧ vinb v lx.length ∧ vc (some lx) zH_175 n true d 175 778 ml (.int (lx.getD v.toNatClampNeg 0) :: r) t Q) := by
  rw [vc_q (o := (44, 0, 0, 0, [])) (by decide +kernel)]; rfl
theorem v_175_778 (lx : List Int32) (n : Nat) (b : Bool) (d : Nat) (ml : List Value) (t : T) (Q : Option Value → T → Prop) (st : List Value) : vc (some lx) zH_175 (n + 1) b d 175 778 ml st t Q = (st.all zc1 = true ∧ vtk 3 st [] (fun as rest => rest.length ≤ 8 ∧ vrc as 12 (twc d 92 as t (fun r t' => vc (some lx) zH_175 n true d 175 781 ml (r.toList ++ rest) t' Q)))) := by
  rw [vc_q (o := (36, 0, 92, 2, [(0, 12)])) (by decide +kernel)]; rfl
theorem v_175_781 (lx : List Int32) (n : Nat) (b : Bool) (d : Nat) (ml : List Value) (t : T) (Q : Option Value → T → Prop) (u v : Int32) (r : List Value) : vc (some lx) zH_175 (n + 1) b d 175 781 ml (.int v :: .int u :: r) t Q = (if u = v then vc (some lx) zH_175 n true d 175 931 ml r t Q else vc (some lx) zH_175 n true d 175 784 ml r t Q) := by
  rw [vc_q (o := (20, 0, 931, 0, [])) (by decide +kernel)]; rfl
theorem v_175_784 (lx : List Int32) (n : Nat) (b : Bool) (d : Nat) (ml : List Value) (t : T) (Q : Option Value → T → Prop) (st : List Value) : vc (some lx) zH_175 (n + 1) b d 175 784 ml st t Q = vc (some lx) zH_175 n true d 175 785 ml (.int 0 :: st) t Q := by
  rw [vc_q (o := (0, 0, 0, 0, [])) (by decide +kernel)]; rfl
theorem v_175_785 (lx : List Int32) (n : Nat) (b : Bool) (d : Nat) (ml : List Value) (t : T) (Q : Option Value → T → Prop) (v : Int32) : vc (some lx) zH_175 (n + 1) b d 175 785 ml [.int v] t Q = ((v = 0 ∨ v = 1) ∧ Q (some (.int v)) t) := by
  rw [vc_q (o := (41, 0, 0, 0, [])) (by decide +kernel)]; rfl
theorem v_175_786 (lx : List Int32) (n : Nat) (b : Bool) (d : Nat) (ml : List Value) (t : T) (Q : Option Value → T → Prop) (st : List Value) : vc (some lx) zH_175 (n + 1) b d 175 786 ml st t Q = vga ml 1 (fun v => vc (some lx) zH_175 n true d 175 787 ml (.ref v :: st) t Q) := by
  rw [vc_q (o := (2, 0, 1, 0, [])) (by decide +kernel)]; rfl
theorem v_175_787 (lx : List Int32) (n : Nat) (b : Bool) (d : Nat) (ml : List Value) (t : T) (Q : Option Value → T → Prop) (st : List Value) : vc (some lx) zH_175 (n + 1) b d 175 787 ml st t Q = vga ml 0 (fun v => vc (some lx) zH_175 n true d 175 788 ml (.ref v :: st) t Q) := by
  rw [vc_q (o := (2, 0, 0, 0, [])) (by decide +kernel)]; rfl
theorem v_175_788 (lx : List Int32) (n : Nat) (b : Bool) (d : Nat) (ml : List Value) (t : T) (Q : Option Value → T → Prop) (st : List Value) : vc (some lx) zH_175 (n + 1) b d 175 788 ml st t Q = vgi ml 3 (fun v => vc (some lx) zH_175 n true d 175 789 ml (.int v :: st) t Q) := by
  rw [vc_q (o := (1, 0, 3, 0, [])) (by decide +kernel)]; rfl
theorem v_175_789 (lx : List Int32) (n : Nat) (b : Bool) (d : Nat) (ml : List Value) (t : T) (Q : Option Value → T → Prop) (st : List Value) : vc (some lx) zH_175 (n + 1) b d 175 789 ml st t Q = vc (some lx) zH_175 n true d 175 790 ml (.int 1 :: st) t Q := by
  rw [vc_q (o := (0, 1, 0, 0, [])) (by decide +kernel)]; rfl
theorem v_175_790 (lx : List Int32) (n : Nat) (b : Bool) (d : Nat) (ml : List Value) (t : T) (Q : Option Value → T → Prop) (u v : Int32) (r : List Value) : vc (some lx) zH_175 (n + 1) b d 175 790 ml (.int v :: .int u :: r) t Q = vc (some lx) zH_175 n true d 175 791 ml (.int (u + v) :: r) t Q := by
  rw [vc_q (o := (6, 0, 0, 0, [])) (by decide +kernel)]; rfl
theorem v_175_791 (lx : List Int32) (n : Nat) (b : Bool) (d : Nat) (ml : List Value) (t : T) (Q : Option Value → T → Prop) (v : Int32) (u : Nat) (r : List Value) : vc (some lx) zH_175 (n + 1) b d 175 791 ml (.int v :: .ref u :: r) t Q = (u = zSCR ∧ vinb v lx.length ∧ vc (some lx) zH_175 n true d 175 792 ml (.int (lx.getD v.toNatClampNeg 0) :: r) t Q) := by
  rw [vc_q (o := (44, 0, 0, 0, [])) (by decide +kernel)]; rfl
theorem v_175_792 (lx : List Int32) (n : Nat) (b : Bool) (d : Nat) (ml : List Value) (t : T) (Q : Option Value → T → Prop) (st : List Value) : vc (some lx) zH_175 (n + 1) b d 175 792 ml st t Q = vga ml 0 (fun v => vc (some lx) zH_175 n true d 175 793 ml (.ref v :: st) t Q) := by
  rw [vc_q (o := (2, 0, 0, 0, [])) (by decide +kernel)]; rfl
theorem v_175_793 (lx : List Int32) (n : Nat) (b : Bool) (d : Nat) (ml : List Value) (t : T) (Q : Option Value → T → Prop) (st : List Value) : vc (some lx) zH_175 (n + 1) b d 175 793 ml st t Q = vgi ml 3 (fun v => vc (some lx) zH_175 n true d 175 794 ml (.int v :: st) t Q) := by
  rw [vc_q (o := (1, 0, 3, 0, [])) (by decide +kernel)]; rfl
theorem v_175_794 (lx : List Int32) (n : Nat) (b : Bool) (d : Nat) (ml : List Value) (t : T) (Q : Option Value → T → Prop) (st : List Value) : vc (some lx) zH_175 (n + 1) b d 175 794 ml st t Q = vc (some lx) zH_175 n true d 175 795 ml (.int 2 :: st) t Q := by
  rw [vc_q (o := (0, 2, 0, 0, [])) (by decide +kernel)]; rfl
theorem v_175_795 (lx : List Int32) (n : Nat) (b : Bool) (d : Nat) (ml : List Value) (t : T) (Q : Option Value → T → Prop) (u v : Int32) (r : List Value) : vc (some lx) zH_175 (n + 1) b d 175 795 ml (.int v :: .int u :: r) t Q = vc (some lx) zH_175 n true d 175 796 ml (.int (u + v) :: r) t Q := by
  rw [vc_q (o := (6, 0, 0, 0, [])) (by decide +kernel)]; rfl
theorem v_175_796 (lx : List Int32) (n : Nat) (b : Bool) (d : Nat) (ml : List Value) (t : T) (Q : Option Value → T → Prop) (v : Int32) (u : Nat) (r : List Value) : vc (some lx) zH_175 (n + 1) b d 175 796 ml (.int v :: .ref u :: r) t Q = (u = zSCR ∧ vinb v lx.length ∧ vc (some lx) zH_175 n true d 175 797 ml (.int (lx.getD v.toNatClampNeg 0) :: r) t Q) := by
  rw [vc_q (o := (44, 0, 0, 0, [])) (by decide +kernel)]; rfl
theorem v_175_797 (lx : List Int32) (n : Nat) (b : Bool) (d : Nat) (ml : List Value) (t : T) (Q : Option Value → T → Prop) (st : List Value) : vc (some lx) zH_175 (n + 1) b d 175 797 ml st t Q = (st.all zc1 = true ∧ vtk 3 st [] (fun as rest => rest.length ≤ 8 ∧ vrc as 0 (twc d 17 as t (fun r t' => vc (some lx) zH_175 n true d 175 800 ml (r.toList ++ rest) t' Q)))) := by
  rw [vc_q (o := (36, 0, 17, 2, [(0, 0)])) (by decide +kernel)]; rfl
theorem v_175_800 (lx : List Int32) (n : Nat) (b : Bool) (d : Nat) (ml : List Value) (t : T) (Q : Option Value → T → Prop) (st : List Value) : vc (some lx) zH_175 (n + 1) b d 175 800 ml st t Q = vga ml 2 (fun v => vc (some lx) zH_175 n true d 175 801 ml (.ref v :: st) t Q) := by
  rw [vc_q (o := (2, 0, 2, 0, [])) (by decide +kernel)]; rfl
theorem v_175_801 (lx : List Int32) (n : Nat) (b : Bool) (d : Nat) (ml : List Value) (t : T) (Q : Option Value → T → Prop) (st : List Value) : vc (some lx) zH_175 (n + 1) b d 175 801 ml st t Q = vga ml 0 (fun v => vc (some lx) zH_175 n true d 175 802 ml (.ref v :: st) t Q) := by
  rw [vc_q (o := (2, 0, 0, 0, [])) (by decide +kernel)]; rfl
theorem v_175_802 (lx : List Int32) (n : Nat) (b : Bool) (d : Nat) (ml : List Value) (t : T) (Q : Option Value → T → Prop) (st : List Value) : vc (some lx) zH_175 (n + 1) b d 175 802 ml st t Q = vgi ml 3 (fun v => vc (some lx) zH_175 n true d 175 803 ml (.int v :: st) t Q) := by
  rw [vc_q (o := (1, 0, 3, 0, [])) (by decide +kernel)]; rfl
theorem v_175_803 (lx : List Int32) (n : Nat) (b : Bool) (d : Nat) (ml : List Value) (t : T) (Q : Option Value → T → Prop) (st : List Value) : vc (some lx) zH_175 (n + 1) b d 175 803 ml st t Q = vc (some lx) zH_175 n true d 175 804 ml (.int 1 :: st) t Q := by
  rw [vc_q (o := (0, 1, 0, 0, [])) (by decide +kernel)]; rfl
theorem v_175_804 (lx : List Int32) (n : Nat) (b : Bool) (d : Nat) (ml : List Value) (t : T) (Q : Option Value → T → Prop) (u v : Int32) (r : List Value) : vc (some lx) zH_175 (n + 1) b d 175 804 ml (.int v :: .int u :: r) t Q = vc (some lx) zH_175 n true d 175 805 ml (.int (u + v) :: r) t Q := by
  rw [vc_q (o := (6, 0, 0, 0, [])) (by decide +kernel)]; rfl
theorem v_175_805 (lx : List Int32) (n : Nat) (b : Bool) (d : Nat) (ml : List Value) (t : T) (Q : Option Value → T → Prop) (v : Int32) (u : Nat) (r : List Value) : vc (some lx) zH_175 (n + 1) b d 175 805 ml (.int v :: .ref u :: r) t Q = (u = zSCR ∧ vinb v lx.length ∧ vc (some lx) zH_175 n true d 175 806 ml (.int (lx.getD v.toNatClampNeg 0) :: r) t Q) := by
  rw [vc_q (o := (44, 0, 0, 0, [])) (by decide +kernel)]; rfl
theorem v_175_806 (lx : List Int32) (n : Nat) (b : Bool) (d : Nat) (ml : List Value) (t : T) (Q : Option Value → T → Prop) (st : List Value) : vc (some lx) zH_175 (n + 1) b d 175 806 ml st t Q = vga ml 0 (fun v => vc (some lx) zH_175 n true d 175 807 ml (.ref v :: st) t Q) := by
  rw [vc_q (o := (2, 0, 0, 0, [])) (by decide +kernel)]; rfl
theorem v_175_807 (lx : List Int32) (n : Nat) (b : Bool) (d : Nat) (ml : List Value) (t : T) (Q : Option Value → T → Prop) (st : List Value) : vc (some lx) zH_175 (n + 1) b d 175 807 ml st t Q = vgi ml 3 (fun v => vc (some lx) zH_175 n true d 175 808 ml (.int v :: st) t Q) := by
  rw [vc_q (o := (1, 0, 3, 0, [])) (by decide +kernel)]; rfl
theorem v_175_808 (lx : List Int32) (n : Nat) (b : Bool) (d : Nat) (ml : List Value) (t : T) (Q : Option Value → T → Prop) (st : List Value) : vc (some lx) zH_175 (n + 1) b d 175 808 ml st t Q = vc (some lx) zH_175 n true d 175 809 ml (.int 2 :: st) t Q := by
  rw [vc_q (o := (0, 2, 0, 0, [])) (by decide +kernel)]; rfl
theorem v_175_809 (lx : List Int32) (n : Nat) (b : Bool) (d : Nat) (ml : List Value) (t : T) (Q : Option Value → T → Prop) (u v : Int32) (r : List Value) : vc (some lx) zH_175 (n + 1) b d 175 809 ml (.int v :: .int u :: r) t Q = vc (some lx) zH_175 n true d 175 810 ml (.int (u + v) :: r) t Q := by
  rw [vc_q (o := (6, 0, 0, 0, [])) (by decide +kernel)]; rfl
theorem v_175_810 (lx : List Int32) (n : Nat) (b : Bool) (d : Nat) (ml : List Value) (t : T) (Q : Option Value → T → Prop) (v : Int32) (u : Nat) (r : List Value) : vc (some lx) zH_175 (n + 1) b d 175 810 ml (.int v :: .ref u :: r) t Q = (u = zSCR ∧ vinb v lx.length ∧ vc (some lx) zH_175 n true d 175 811 ml (.int (lx.getD v.toNatClampNeg 0) :: r) t Q) := by
  rw [vc_q (o := (44, 0, 0, 0, [])) (by decide +kernel)]; rfl
theorem v_175_811 (lx : List Int32) (n : Nat) (b : Bool) (d : Nat) (ml : List Value) (t : T) (Q : Option Value → T → Prop) (st : List Value) : vc (some lx) zH_175 (n + 1) b d 175 811 ml st t Q = (st.all zc1 = true ∧ vtk 3 st [] (fun as rest => rest.length ≤ 8 ∧ vrc as 12 (twc d 97 as t (fun r t' => vc (some lx) zH_175 n true d 175 814 ml (r.toList ++ rest) t' Q)))) := by
  rw [vc_q (o := (36, 0, 97, 2, [(0, 12)])) (by decide +kernel)]; rfl
theorem v_175_814 (lx : List Int32) (n : Nat) (b : Bool) (d : Nat) (ml : List Value) (t : T) (Q : Option Value → T → Prop) (u v : Int32) (r : List Value) : vc (some lx) zH_175 (n + 1) b d 175 814 ml (.int v :: .int u :: r) t Q = (if u = v then vc (some lx) zH_175 n true d 175 931 ml r t Q else vc (some lx) zH_175 n true d 175 817 ml r t Q) := by
  rw [vc_q (o := (20, 0, 931, 0, [])) (by decide +kernel)]; rfl
theorem v_175_817 (lx : List Int32) (n : Nat) (b : Bool) (d : Nat) (ml : List Value) (t : T) (Q : Option Value → T → Prop) (st : List Value) : vc (some lx) zH_175 (n + 1) b d 175 817 ml st t Q = vc (some lx) zH_175 n true d 175 818 ml (.int 0 :: st) t Q := by
  rw [vc_q (o := (0, 0, 0, 0, [])) (by decide +kernel)]; rfl
theorem v_175_818 (lx : List Int32) (n : Nat) (b : Bool) (d : Nat) (ml : List Value) (t : T) (Q : Option Value → T → Prop) (v : Int32) : vc (some lx) zH_175 (n + 1) b d 175 818 ml [.int v] t Q = ((v = 0 ∨ v = 1) ∧ Q (some (.int v)) t) := by
  rw [vc_q (o := (41, 0, 0, 0, [])) (by decide +kernel)]; rfl
theorem v_175_819 (lx : List Int32) (n : Nat) (b : Bool) (d : Nat) (ml : List Value) (t : T) (Q : Option Value → T → Prop) (st : List Value) : vc (some lx) zH_175 (n + 1) b d 175 819 ml st t Q = vga ml 1 (fun v => vc (some lx) zH_175 n true d 175 820 ml (.ref v :: st) t Q) := by
  rw [vc_q (o := (2, 0, 1, 0, [])) (by decide +kernel)]; rfl
theorem v_175_820 (lx : List Int32) (n : Nat) (b : Bool) (d : Nat) (ml : List Value) (t : T) (Q : Option Value → T → Prop) (st : List Value) : vc (some lx) zH_175 (n + 1) b d 175 820 ml st t Q = (st.all zc1 = true ∧ vtk 1 st [] (fun as rest => rest.length ≤ 8 ∧ vrc as 0 (twc d 18 as t (fun r t' => vc (some lx) zH_175 n true d 175 823 ml (r.toList ++ rest) t' Q)))) := by
  rw [vc_q (o := (36, 0, 18, 0, [(0, 0)])) (by decide +kernel)]; rfl
theorem v_175_823 (lx : List Int32) (n : Nat) (b : Bool) (d : Nat) (ml : List Value) (t : T) (Q : Option Value → T → Prop) (st : List Value) : vc (some lx) zH_175 (n + 1) b d 175 823 ml st t Q = vga ml 2 (fun v => vc (some lx) zH_175 n true d 175 824 ml (.ref v :: st) t Q) := by
  rw [vc_q (o := (2, 0, 2, 0, [])) (by decide +kernel)]; rfl
theorem v_175_824 (lx : List Int32) (n : Nat) (b : Bool) (d : Nat) (ml : List Value) (t : T) (Q : Option Value → T → Prop) (st : List Value) : vc (some lx) zH_175 (n + 1) b d 175 824 ml st t Q = (st.all zc1 = true ∧ vtk 1 st [] (fun as rest => rest.length ≤ 8 ∧ vrc as 12 (twc d 100 as t (fun r t' => vc (some lx) zH_175 n true d 175 827 ml (r.toList ++ rest) t' Q)))) := by
  rw [vc_q (o := (36, 0, 100, 0, [(0, 12)])) (by decide +kernel)]; rfl
theorem v_175_827 (lx : List Int32) (n : Nat) (b : Bool) (d : Nat) (ml : List Value) (t : T) (Q : Option Value → T → Prop) (u v : Int32) (r : List Value) : vc (some lx) zH_175 (n + 1) b d 175 827 ml (.int v :: .int u :: r) t Q = (if u = v then vc (some lx) zH_175 n true d 175 931 ml r t Q else vc (some lx) zH_175 n true d 175 830 ml r t Q) := by
  rw [vc_q (o := (20, 0, 931, 0, [])) (by decide +kernel)]; rfl
theorem v_175_830 (lx : List Int32) (n : Nat) (b : Bool) (d : Nat) (ml : List Value) (t : T) (Q : Option Value → T → Prop) (st : List Value) : vc (some lx) zH_175 (n + 1) b d 175 830 ml st t Q = vc (some lx) zH_175 n true d 175 831 ml (.int 0 :: st) t Q := by
  rw [vc_q (o := (0, 0, 0, 0, [])) (by decide +kernel)]; rfl
theorem v_175_831 (lx : List Int32) (n : Nat) (b : Bool) (d : Nat) (ml : List Value) (t : T) (Q : Option Value → T → Prop) (v : Int32) : vc (some lx) zH_175 (n + 1) b d 175 831 ml [.int v] t Q = ((v = 0 ∨ v = 1) ∧ Q (some (.int v)) t) := by
  rw [vc_q (o := (41, 0, 0, 0, [])) (by decide +kernel)]; rfl
theorem v_175_832 (lx : List Int32) (n : Nat) (b : Bool) (d : Nat) (ml : List Value) (t : T) (Q : Option Value → T → Prop) (st : List Value) : vc (some lx) zH_175 (n + 1) b d 175 832 ml st t Q = vga ml 1 (fun v => vc (some lx) zH_175 n true d 175 833 ml (.ref v :: st) t Q) := by
  rw [vc_q (o := (2, 0, 1, 0, [])) (by decide +kernel)]; rfl
theorem v_175_833 (lx : List Int32) (n : Nat) (b : Bool) (d : Nat) (ml : List Value) (t : T) (Q : Option Value → T → Prop) (st : List Value) : vc (some lx) zH_175 (n + 1) b d 175 833 ml st t Q = vga ml 0 (fun v => vc (some lx) zH_175 n true d 175 834 ml (.ref v :: st) t Q) := by
  rw [vc_q (o := (2, 0, 0, 0, [])) (by decide +kernel)]; rfl
theorem v_175_834 (lx : List Int32) (n : Nat) (b : Bool) (d : Nat) (ml : List Value) (t : T) (Q : Option Value → T → Prop) (st : List Value) : vc (some lx) zH_175 (n + 1) b d 175 834 ml st t Q = vgi ml 3 (fun v => vc (some lx) zH_175 n true d 175 835 ml (.int v :: st) t Q) := by
  rw [vc_q (o := (1, 0, 3, 0, [])) (by decide +kernel)]; rfl
theorem v_175_835 (lx : List Int32) (n : Nat) (b : Bool) (d : Nat) (ml : List Value) (t : T) (Q : Option Value → T → Prop) (st : List Value) : vc (some lx) zH_175 (n + 1) b d 175 835 ml st t Q = vc (some lx) zH_175 n true d 175 836 ml (.int 1 :: st) t Q := by
  rw [vc_q (o := (0, 1, 0, 0, [])) (by decide +kernel)]; rfl
theorem v_175_836 (lx : List Int32) (n : Nat) (b : Bool) (d : Nat) (ml : List Value) (t : T) (Q : Option Value → T → Prop) (u v : Int32) (r : List Value) : vc (some lx) zH_175 (n + 1) b d 175 836 ml (.int v :: .int u :: r) t Q = vc (some lx) zH_175 n true d 175 837 ml (.int (u + v) :: r) t Q := by
  rw [vc_q (o := (6, 0, 0, 0, [])) (by decide +kernel)]; rfl
theorem v_175_837 (lx : List Int32) (n : Nat) (b : Bool) (d : Nat) (ml : List Value) (t : T) (Q : Option Value → T → Prop) (v : Int32) (u : Nat) (r : List Value) : vc (some lx) zH_175 (n + 1) b d 175 837 ml (.int v :: .ref u :: r) t Q = (u = zSCR ∧ vinb v lx.length ∧ vc (some lx) zH_175 n true d 175 838 ml (.int (lx.getD v.toNatClampNeg 0) :: r) t Q) := by
  rw [vc_q (o := (44, 0, 0, 0, [])) (by decide +kernel)]; rfl
theorem v_175_838 (lx : List Int32) (n : Nat) (b : Bool) (d : Nat) (ml : List Value) (t : T) (Q : Option Value → T → Prop) (st : List Value) : vc (some lx) zH_175 (n + 1) b d 175 838 ml st t Q = (st.all zc1 = true ∧ vtk 2 st [] (fun as rest => rest.length ≤ 8 ∧ vrc as 0 (twc d 19 as t (fun r t' => vc (some lx) zH_175 n true d 175 841 ml (r.toList ++ rest) t' Q)))) := by
  rw [vc_q (o := (36, 0, 19, 1, [(0, 0)])) (by decide +kernel)]; rfl
theorem v_175_841 (lx : List Int32) (n : Nat) (b : Bool) (d : Nat) (ml : List Value) (t : T) (Q : Option Value → T → Prop) (st : List Value) : vc (some lx) zH_175 (n + 1) b d 175 841 ml st t Q = vga ml 2 (fun v => vc (some lx) zH_175 n true d 175 842 ml (.ref v :: st) t Q) := by
  rw [vc_q (o := (2, 0, 2, 0, [])) (by decide +kernel)]; rfl
theorem v_175_842 (lx : List Int32) (n : Nat) (b : Bool) (d : Nat) (ml : List Value) (t : T) (Q : Option Value → T → Prop) (st : List Value) : vc (some lx) zH_175 (n + 1) b d 175 842 ml st t Q = vga ml 0 (fun v => vc (some lx) zH_175 n true d 175 843 ml (.ref v :: st) t Q) := by
  rw [vc_q (o := (2, 0, 0, 0, [])) (by decide +kernel)]; rfl
theorem v_175_843 (lx : List Int32) (n : Nat) (b : Bool) (d : Nat) (ml : List Value) (t : T) (Q : Option Value → T → Prop) (st : List Value) : vc (some lx) zH_175 (n + 1) b d 175 843 ml st t Q = vgi ml 3 (fun v => vc (some lx) zH_175 n true d 175 844 ml (.int v :: st) t Q) := by
  rw [vc_q (o := (1, 0, 3, 0, [])) (by decide +kernel)]; rfl
theorem v_175_844 (lx : List Int32) (n : Nat) (b : Bool) (d : Nat) (ml : List Value) (t : T) (Q : Option Value → T → Prop) (st : List Value) : vc (some lx) zH_175 (n + 1) b d 175 844 ml st t Q = vc (some lx) zH_175 n true d 175 845 ml (.int 1 :: st) t Q := by
  rw [vc_q (o := (0, 1, 0, 0, [])) (by decide +kernel)]; rfl
theorem v_175_845 (lx : List Int32) (n : Nat) (b : Bool) (d : Nat) (ml : List Value) (t : T) (Q : Option Value → T → Prop) (u v : Int32) (r : List Value) : vc (some lx) zH_175 (n + 1) b d 175 845 ml (.int v :: .int u :: r) t Q = vc (some lx) zH_175 n true d 175 846 ml (.int (u + v) :: r) t Q := by
  rw [vc_q (o := (6, 0, 0, 0, [])) (by decide +kernel)]; rfl
theorem v_175_846 (lx : List Int32) (n : Nat) (b : Bool) (d : Nat) (ml : List Value) (t : T) (Q : Option Value → T → Prop) (v : Int32) (u : Nat) (r : List Value) : vc (some lx) zH_175 (n + 1) b d 175 846 ml (.int v :: .ref u :: r) t Q = (u = zSCR ∧ vinb v lx.length ∧ vc (some lx) zH_175 n true d 175 847 ml (.int (lx.getD v.toNatClampNeg 0) :: r) t Q) := by
  rw [vc_q (o := (44, 0, 0, 0, [])) (by decide +kernel)]; rfl
theorem v_175_847 (lx : List Int32) (n : Nat) (b : Bool) (d : Nat) (ml : List Value) (t : T) (Q : Option Value → T → Prop) (st : List Value) : vc (some lx) zH_175 (n + 1) b d 175 847 ml st t Q = (st.all zc1 = true ∧ vtk 2 st [] (fun as rest => rest.length ≤ 8 ∧ vrc as 12 (twc d 101 as t (fun r t' => vc (some lx) zH_175 n true d 175 850 ml (r.toList ++ rest) t' Q)))) := by
  rw [vc_q (o := (36, 0, 101, 1, [(0, 12)])) (by decide +kernel)]; rfl
theorem v_175_850 (lx : List Int32) (n : Nat) (b : Bool) (d : Nat) (ml : List Value) (t : T) (Q : Option Value → T → Prop) (u v : Int32) (r : List Value) : vc (some lx) zH_175 (n + 1) b d 175 850 ml (.int v :: .int u :: r) t Q = (if u = v then vc (some lx) zH_175 n true d 175 931 ml r t Q else vc (some lx) zH_175 n true d 175 853 ml r t Q) := by
  rw [vc_q (o := (20, 0, 931, 0, [])) (by decide +kernel)]; rfl
theorem v_175_853 (lx : List Int32) (n : Nat) (b : Bool) (d : Nat) (ml : List Value) (t : T) (Q : Option Value → T → Prop) (st : List Value) : vc (some lx) zH_175 (n + 1) b d 175 853 ml st t Q = vc (some lx) zH_175 n true d 175 854 ml (.int 0 :: st) t Q := by
  rw [vc_q (o := (0, 0, 0, 0, [])) (by decide +kernel)]; rfl
theorem v_175_854 (lx : List Int32) (n : Nat) (b : Bool) (d : Nat) (ml : List Value) (t : T) (Q : Option Value → T → Prop) (v : Int32) : vc (some lx) zH_175 (n + 1) b d 175 854 ml [.int v] t Q = ((v = 0 ∨ v = 1) ∧ Q (some (.int v)) t) := by
  rw [vc_q (o := (41, 0, 0, 0, [])) (by decide +kernel)]; rfl
theorem v_175_855 (lx : List Int32) (n : Nat) (b : Bool) (d : Nat) (ml : List Value) (t : T) (Q : Option Value → T → Prop) (st : List Value) : vc (some lx) zH_175 (n + 1) b d 175 855 ml st t Q = vga ml 1 (fun v => vc (some lx) zH_175 n true d 175 856 ml (.ref v :: st) t Q) := by
  rw [vc_q (o := (2, 0, 1, 0, [])) (by decide +kernel)]; rfl
theorem v_175_856 (lx : List Int32) (n : Nat) (b : Bool) (d : Nat) (ml : List Value) (t : T) (Q : Option Value → T → Prop) (st : List Value) : vc (some lx) zH_175 (n + 1) b d 175 856 ml st t Q = vga ml 0 (fun v => vc (some lx) zH_175 n true d 175 857 ml (.ref v :: st) t Q) := by
  rw [vc_q (o := (2, 0, 0, 0, [])) (by decide +kernel)]; rfl
theorem v_175_857 (lx : List Int32) (n : Nat) (b : Bool) (d : Nat) (ml : List Value) (t : T) (Q : Option Value → T → Prop) (st : List Value) : vc (some lx) zH_175 (n + 1) b d 175 857 ml st t Q = vgi ml 3 (fun v => vc (some lx) zH_175 n true d 175 858 ml (.int v :: st) t Q) := by
  rw [vc_q (o := (1, 0, 3, 0, [])) (by decide +kernel)]; rfl
theorem v_175_858 (lx : List Int32) (n : Nat) (b : Bool) (d : Nat) (ml : List Value) (t : T) (Q : Option Value → T → Prop) (st : List Value) : vc (some lx) zH_175 (n + 1) b d 175 858 ml st t Q = vc (some lx) zH_175 n true d 175 859 ml (.int 1 :: st) t Q := by
  rw [vc_q (o := (0, 1, 0, 0, [])) (by decide +kernel)]; rfl
theorem v_175_859 (lx : List Int32) (n : Nat) (b : Bool) (d : Nat) (ml : List Value) (t : T) (Q : Option Value → T → Prop) (u v : Int32) (r : List Value) : vc (some lx) zH_175 (n + 1) b d 175 859 ml (.int v :: .int u :: r) t Q = vc (some lx) zH_175 n true d 175 860 ml (.int (u + v) :: r) t Q := by
  rw [vc_q (o := (6, 0, 0, 0, [])) (by decide +kernel)]; rfl
theorem v_175_860 (lx : List Int32) (n : Nat) (b : Bool) (d : Nat) (ml : List Value) (t : T) (Q : Option Value → T → Prop) (v : Int32) (u : Nat) (r : List Value) : vc (some lx) zH_175 (n + 1) b d 175 860 ml (.int v :: .ref u :: r) t Q = (u = zSCR ∧ vinb v lx.length ∧ vc (some lx) zH_175 n true d 175 861 ml (.int (lx.getD v.toNatClampNeg 0) :: r) t Q) := by
  rw [vc_q (o := (44, 0, 0, 0, [])) (by decide +kernel)]; rfl
theorem v_175_861 (lx : List Int32) (n : Nat) (b : Bool) (d : Nat) (ml : List Value) (t : T) (Q : Option Value → T → Prop) (st : List Value) : vc (some lx) zH_175 (n + 1) b d 175 861 ml st t Q = vga ml 0 (fun v => vc (some lx) zH_175 n true d 175 862 ml (.ref v :: st) t Q) := by
  rw [vc_q (o := (2, 0, 0, 0, [])) (by decide +kernel)]; rfl
theorem v_175_862 (lx : List Int32) (n : Nat) (b : Bool) (d : Nat) (ml : List Value) (t : T) (Q : Option Value → T → Prop) (st : List Value) : vc (some lx) zH_175 (n + 1) b d 175 862 ml st t Q = vgi ml 3 (fun v => vc (some lx) zH_175 n true d 175 863 ml (.int v :: st) t Q) := by
  rw [vc_q (o := (1, 0, 3, 0, [])) (by decide +kernel)]; rfl
theorem v_175_863 (lx : List Int32) (n : Nat) (b : Bool) (d : Nat) (ml : List Value) (t : T) (Q : Option Value → T → Prop) (st : List Value) : vc (some lx) zH_175 (n + 1) b d 175 863 ml st t Q = vc (some lx) zH_175 n true d 175 864 ml (.int 2 :: st) t Q := by
  rw [vc_q (o := (0, 2, 0, 0, [])) (by decide +kernel)]; rfl
theorem v_175_864 (lx : List Int32) (n : Nat) (b : Bool) (d : Nat) (ml : List Value) (t : T) (Q : Option Value → T → Prop) (u v : Int32) (r : List Value) : vc (some lx) zH_175 (n + 1) b d 175 864 ml (.int v :: .int u :: r) t Q = vc (some lx) zH_175 n true d 175 865 ml (.int (u + v) :: r) t Q := by
  rw [vc_q (o := (6, 0, 0, 0, [])) (by decide +kernel)]; rfl
theorem v_175_865 (lx : List Int32) (n : Nat) (b : Bool) (d : Nat) (ml : List Value) (t : T) (Q : Option Value → T → Prop) (v : Int32) (u : Nat) (r : List Value) : vc (some lx) zH_175 (n + 1) b d 175 865 ml (.int v :: .ref u :: r) t Q = (u = zSCR ∧ vinb v lx.length ∧ vc (some lx) zH_175 n true d 175 866 ml (.int (lx.getD v.toNatClampNeg 0) :: r) t Q) := by
  rw [vc_q (o := (44, 0, 0, 0, [])) (by decide +kernel)]; rfl
theorem v_175_866 (lx : List Int32) (n : Nat) (b : Bool) (d : Nat) (ml : List Value) (t : T) (Q : Option Value → T → Prop) (st : List Value) : vc (some lx) zH_175 (n + 1) b d 175 866 ml st t Q = vga ml 0 (fun v => vc (some lx) zH_175 n true d 175 867 ml (.ref v :: st) t Q) := by
  rw [vc_q (o := (2, 0, 0, 0, [])) (by decide +kernel)]; rfl
theorem v_175_867 (lx : List Int32) (n : Nat) (b : Bool) (d : Nat) (ml : List Value) (t : T) (Q : Option Value → T → Prop) (st : List Value) : vc (some lx) zH_175 (n + 1) b d 175 867 ml st t Q = vgi ml 3 (fun v => vc (some lx) zH_175 n true d 175 868 ml (.int v :: st) t Q) := by
  rw [vc_q (o := (1, 0, 3, 0, [])) (by decide +kernel)]; rfl
theorem v_175_868 (lx : List Int32) (n : Nat) (b : Bool) (d : Nat) (ml : List Value) (t : T) (Q : Option Value → T → Prop) (st : List Value) : vc (some lx) zH_175 (n + 1) b d 175 868 ml st t Q = vc (some lx) zH_175 n true d 175 869 ml (.int 3 :: st) t Q := by
  rw [vc_q (o := (0, 3, 0, 0, [])) (by decide +kernel)]; rfl
theorem v_175_869 (lx : List Int32) (n : Nat) (b : Bool) (d : Nat) (ml : List Value) (t : T) (Q : Option Value → T → Prop) (u v : Int32) (r : List Value) : vc (some lx) zH_175 (n + 1) b d 175 869 ml (.int v :: .int u :: r) t Q = vc (some lx) zH_175 n true d 175 870 ml (.int (u + v) :: r) t Q := by
  rw [vc_q (o := (6, 0, 0, 0, [])) (by decide +kernel)]; rfl
theorem v_175_870 (lx : List Int32) (n : Nat) (b : Bool) (d : Nat) (ml : List Value) (t : T) (Q : Option Value → T → Prop) (v : Int32) (u : Nat) (r : List Value) : vc (some lx) zH_175 (n + 1) b d 175 870 ml (.int v :: .ref u :: r) t Q = (u = zSCR ∧ vinb v lx.length ∧ vc (some lx) zH_175 n true d 175 871 ml (.int (lx.getD v.toNatClampNeg 0) :: r) t Q) := by
  rw [vc_q (o := (44, 0, 0, 0, [])) (by decide +kernel)]; rfl
theorem v_175_871 (lx : List Int32) (n : Nat) (b : Bool) (d : Nat) (ml : List Value) (t : T) (Q : Option Value → T → Prop) (st : List Value) : vc (some lx) zH_175 (n + 1) b d 175 871 ml st t Q = (st.all zc1 = true ∧ vtk 4 st [] (fun as rest => rest.length ≤ 8 ∧ vrc as 0 (twc d 20 as t (fun r t' => vc (some lx) zH_175 n true d 175 874 ml (r.toList ++ rest) t' Q)))) := by
  rw [vc_q (o := (36, 0, 20, 3, [(0, 0)])) (by decide +kernel)]; rfl
theorem v_175_874 (lx : List Int32) (n : Nat) (b : Bool) (d : Nat) (ml : List Value) (t : T) (Q : Option Value → T → Prop) (st : List Value) : vc (some lx) zH_175 (n + 1) b d 175 874 ml st t Q = vga ml 2 (fun v => vc (some lx) zH_175 n true d 175 875 ml (.ref v :: st) t Q) := by
  rw [vc_q (o := (2, 0, 2, 0, [])) (by decide +kernel)]; rfl
theorem v_175_875 (lx : List Int32) (n : Nat) (b : Bool) (d : Nat) (ml : List Value) (t : T) (Q : Option Value → T → Prop) (st : List Value) : vc (some lx) zH_175 (n + 1) b d 175 875 ml st t Q = vga ml 0 (fun v => vc (some lx) zH_175 n true d 175 876 ml (.ref v :: st) t Q) := by
  rw [vc_q (o := (2, 0, 0, 0, [])) (by decide +kernel)]; rfl
theorem v_175_876 (lx : List Int32) (n : Nat) (b : Bool) (d : Nat) (ml : List Value) (t : T) (Q : Option Value → T → Prop) (st : List Value) : vc (some lx) zH_175 (n + 1) b d 175 876 ml st t Q = vgi ml 3 (fun v => vc (some lx) zH_175 n true d 175 877 ml (.int v :: st) t Q) := by
  rw [vc_q (o := (1, 0, 3, 0, [])) (by decide +kernel)]; rfl
theorem v_175_877 (lx : List Int32) (n : Nat) (b : Bool) (d : Nat) (ml : List Value) (t : T) (Q : Option Value → T → Prop) (st : List Value) : vc (some lx) zH_175 (n + 1) b d 175 877 ml st t Q = vc (some lx) zH_175 n true d 175 878 ml (.int 1 :: st) t Q := by
  rw [vc_q (o := (0, 1, 0, 0, [])) (by decide +kernel)]; rfl
theorem v_175_878 (lx : List Int32) (n : Nat) (b : Bool) (d : Nat) (ml : List Value) (t : T) (Q : Option Value → T → Prop) (u v : Int32) (r : List Value) : vc (some lx) zH_175 (n + 1) b d 175 878 ml (.int v :: .int u :: r) t Q = vc (some lx) zH_175 n true d 175 879 ml (.int (u + v) :: r) t Q := by
  rw [vc_q (o := (6, 0, 0, 0, [])) (by decide +kernel)]; rfl
theorem v_175_879 (lx : List Int32) (n : Nat) (b : Bool) (d : Nat) (ml : List Value) (t : T) (Q : Option Value → T → Prop) (v : Int32) (u : Nat) (r : List Value) : vc (some lx) zH_175 (n + 1) b d 175 879 ml (.int v :: .ref u :: r) t Q = (u = zSCR ∧ vinb v lx.length ∧ vc (some lx) zH_175 n true d 175 880 ml (.int (lx.getD v.toNatClampNeg 0) :: r) t Q) := by
  rw [vc_q (o := (44, 0, 0, 0, [])) (by decide +kernel)]; rfl
theorem v_175_880 (lx : List Int32) (n : Nat) (b : Bool) (d : Nat) (ml : List Value) (t : T) (Q : Option Value → T → Prop) (st : List Value) : vc (some lx) zH_175 (n + 1) b d 175 880 ml st t Q = vga ml 0 (fun v => vc (some lx) zH_175 n true d 175 881 ml (.ref v :: st) t Q) := by
  rw [vc_q (o := (2, 0, 0, 0, [])) (by decide +kernel)]; rfl
theorem v_175_881 (lx : List Int32) (n : Nat) (b : Bool) (d : Nat) (ml : List Value) (t : T) (Q : Option Value → T → Prop) (st : List Value) : vc (some lx) zH_175 (n + 1) b d 175 881 ml st t Q = vgi ml 3 (fun v => vc (some lx) zH_175 n true d 175 882 ml (.int v :: st) t Q) := by
  rw [vc_q (o := (1, 0, 3, 0, [])) (by decide +kernel)]; rfl
theorem v_175_882 (lx : List Int32) (n : Nat) (b : Bool) (d : Nat) (ml : List Value) (t : T) (Q : Option Value → T → Prop) (st : List Value) : vc (some lx) zH_175 (n + 1) b d 175 882 ml st t Q = vc (some lx) zH_175 n true d 175 883 ml (.int 2 :: st) t Q := by
  rw [vc_q (o := (0, 2, 0, 0, [])) (by decide +kernel)]; rfl
theorem v_175_883 (lx : List Int32) (n : Nat) (b : Bool) (d : Nat) (ml : List Value) (t : T) (Q : Option Value → T → Prop) (u v : Int32) (r : List Value) : vc (some lx) zH_175 (n + 1) b d 175 883 ml (.int v :: .int u :: r) t Q = vc (some lx) zH_175 n true d 175 884 ml (.int (u + v) :: r) t Q := by
  rw [vc_q (o := (6, 0, 0, 0, [])) (by decide +kernel)]; rfl
theorem v_175_884 (lx : List Int32) (n : Nat) (b : Bool) (d : Nat) (ml : List Value) (t : T) (Q : Option Value → T → Prop) (v : Int32) (u : Nat) (r : List Value) : vc (some lx) zH_175 (n + 1) b d 175 884 ml (.int v :: .ref u :: r) t Q = (u = zSCR ∧ vinb v lx.length ∧ vc (some lx) zH_175 n true d 175 885 ml (.int (lx.getD v.toNatClampNeg 0) :: r) t Q) := by
  rw [vc_q (o := (44, 0, 0, 0, [])) (by decide +kernel)]; rfl
theorem v_175_885 (lx : List Int32) (n : Nat) (b : Bool) (d : Nat) (ml : List Value) (t : T) (Q : Option Value → T → Prop) (st : List Value) : vc (some lx) zH_175 (n + 1) b d 175 885 ml st t Q = vga ml 0 (fun v => vc (some lx) zH_175 n true d 175 886 ml (.ref v :: st) t Q) := by
  rw [vc_q (o := (2, 0, 0, 0, [])) (by decide +kernel)]; rfl
theorem v_175_886 (lx : List Int32) (n : Nat) (b : Bool) (d : Nat) (ml : List Value) (t : T) (Q : Option Value → T → Prop) (st : List Value) : vc (some lx) zH_175 (n + 1) b d 175 886 ml st t Q = vgi ml 3 (fun v => vc (some lx) zH_175 n true d 175 887 ml (.int v :: st) t Q) := by
  rw [vc_q (o := (1, 0, 3, 0, [])) (by decide +kernel)]; rfl
theorem v_175_887 (lx : List Int32) (n : Nat) (b : Bool) (d : Nat) (ml : List Value) (t : T) (Q : Option Value → T → Prop) (st : List Value) : vc (some lx) zH_175 (n + 1) b d 175 887 ml st t Q = vc (some lx) zH_175 n true d 175 888 ml (.int 3 :: st) t Q := by
  rw [vc_q (o := (0, 3, 0, 0, [])) (by decide +kernel)]; rfl
theorem v_175_888 (lx : List Int32) (n : Nat) (b : Bool) (d : Nat) (ml : List Value) (t : T) (Q : Option Value → T → Prop) (u v : Int32) (r : List Value) : vc (some lx) zH_175 (n + 1) b d 175 888 ml (.int v :: .int u :: r) t Q = vc (some lx) zH_175 n true d 175 889 ml (.int (u + v) :: r) t Q := by
  rw [vc_q (o := (6, 0, 0, 0, [])) (by decide +kernel)]; rfl
theorem v_175_889 (lx : List Int32) (n : Nat) (b : Bool) (d : Nat) (ml : List Value) (t : T) (Q : Option Value → T → Prop) (v : Int32) (u : Nat) (r : List Value) : vc (some lx) zH_175 (n + 1) b d 175 889 ml (.int v :: .ref u :: r) t Q = (u = zSCR ∧ vinb v lx.length ∧ vc (some lx) zH_175 n true d 175 890 ml (.int (lx.getD v.toNatClampNeg 0) :: r) t Q) := by
  rw [vc_q (o := (44, 0, 0, 0, [])) (by decide +kernel)]; rfl
theorem v_175_890 (lx : List Int32) (n : Nat) (b : Bool) (d : Nat) (ml : List Value) (t : T) (Q : Option Value → T → Prop) (st : List Value) : vc (some lx) zH_175 (n + 1) b d 175 890 ml st t Q = (st.all zc1 = true ∧ vtk 4 st [] (fun as rest => rest.length ≤ 8 ∧ vrc as 12 (twc d 102 as t (fun r t' => vc (some lx) zH_175 n true d 175 893 ml (r.toList ++ rest) t' Q)))) := by
  rw [vc_q (o := (36, 0, 102, 3, [(0, 12)])) (by decide +kernel)]; rfl
theorem v_175_893 (lx : List Int32) (n : Nat) (b : Bool) (d : Nat) (ml : List Value) (t : T) (Q : Option Value → T → Prop) (u v : Int32) (r : List Value) : vc (some lx) zH_175 (n + 1) b d 175 893 ml (.int v :: .int u :: r) t Q = (if u = v then vc (some lx) zH_175 n true d 175 931 ml r t Q else vc (some lx) zH_175 n true d 175 896 ml r t Q) := by
  rw [vc_q (o := (20, 0, 931, 0, [])) (by decide +kernel)]; rfl
theorem v_175_896 (lx : List Int32) (n : Nat) (b : Bool) (d : Nat) (ml : List Value) (t : T) (Q : Option Value → T → Prop) (st : List Value) : vc (some lx) zH_175 (n + 1) b d 175 896 ml st t Q = vc (some lx) zH_175 n true d 175 897 ml (.int 0 :: st) t Q := by
  rw [vc_q (o := (0, 0, 0, 0, [])) (by decide +kernel)]; rfl
theorem v_175_897 (lx : List Int32) (n : Nat) (b : Bool) (d : Nat) (ml : List Value) (t : T) (Q : Option Value → T → Prop) (v : Int32) : vc (some lx) zH_175 (n + 1) b d 175 897 ml [.int v] t Q = ((v = 0 ∨ v = 1) ∧ Q (some (.int v)) t) := by
  rw [vc_q (o := (41, 0, 0, 0, [])) (by decide +kernel)]; rfl
theorem v_175_898 (lx : List Int32) (n : Nat) (b : Bool) (d : Nat) (ml : List Value) (t : T) (Q : Option Value → T → Prop) (st : List Value) : vc (some lx) zH_175 (n + 1) b d 175 898 ml st t Q = vga ml 1 (fun v => vc (some lx) zH_175 n true d 175 899 ml (.ref v :: st) t Q) := by
  rw [vc_q (o := (2, 0, 1, 0, [])) (by decide +kernel)]; rfl
theorem v_175_899 (lx : List Int32) (n : Nat) (b : Bool) (d : Nat) (ml : List Value) (t : T) (Q : Option Value → T → Prop) (st : List Value) : vc (some lx) zH_175 (n + 1) b d 175 899 ml st t Q = vga ml 0 (fun v => vc (some lx) zH_175 n true d 175 900 ml (.ref v :: st) t Q) := by
  rw [vc_q (o := (2, 0, 0, 0, [])) (by decide +kernel)]; rfl
theorem v_175_900 (lx : List Int32) (n : Nat) (b : Bool) (d : Nat) (ml : List Value) (t : T) (Q : Option Value → T → Prop) (st : List Value) : vc (some lx) zH_175 (n + 1) b d 175 900 ml st t Q = vgi ml 3 (fun v => vc (some lx) zH_175 n true d 175 901 ml (.int v :: st) t Q) := by
  rw [vc_q (o := (1, 0, 3, 0, [])) (by decide +kernel)]; rfl
theorem v_175_901 (lx : List Int32) (n : Nat) (b : Bool) (d : Nat) (ml : List Value) (t : T) (Q : Option Value → T → Prop) (st : List Value) : vc (some lx) zH_175 (n + 1) b d 175 901 ml st t Q = vc (some lx) zH_175 n true d 175 902 ml (.int 1 :: st) t Q := by
  rw [vc_q (o := (0, 1, 0, 0, [])) (by decide +kernel)]; rfl
theorem v_175_902 (lx : List Int32) (n : Nat) (b : Bool) (d : Nat) (ml : List Value) (t : T) (Q : Option Value → T → Prop) (u v : Int32) (r : List Value) : vc (some lx) zH_175 (n + 1) b d 175 902 ml (.int v :: .int u :: r) t Q = vc (some lx) zH_175 n true d 175 903 ml (.int (u + v) :: r) t Q := by
  rw [vc_q (o := (6, 0, 0, 0, [])) (by decide +kernel)]; rfl
theorem v_175_903 (lx : List Int32) (n : Nat) (b : Bool) (d : Nat) (ml : List Value) (t : T) (Q : Option Value → T → Prop) (v : Int32) (u : Nat) (r : List Value) : vc (some lx) zH_175 (n + 1) b d 175 903 ml (.int v :: .ref u :: r) t Q = (u = zSCR ∧ vinb v lx.length ∧ vc (some lx) zH_175 n true d 175 904 ml (.int (lx.getD v.toNatClampNeg 0) :: r) t Q) := by
  rw [vc_q (o := (44, 0, 0, 0, [])) (by decide +kernel)]; rfl
theorem v_175_904 (lx : List Int32) (n : Nat) (b : Bool) (d : Nat) (ml : List Value) (t : T) (Q : Option Value → T → Prop) (st : List Value) : vc (some lx) zH_175 (n + 1) b d 175 904 ml st t Q = vga ml 0 (fun v => vc (some lx) zH_175 n true d 175 905 ml (.ref v :: st) t Q) := by
  rw [vc_q (o := (2, 0, 0, 0, [])) (by decide +kernel)]; rfl
theorem v_175_905 (lx : List Int32) (n : Nat) (b : Bool) (d : Nat) (ml : List Value) (t : T) (Q : Option Value → T → Prop) (st : List Value) : vc (some lx) zH_175 (n + 1) b d 175 905 ml st t Q = vgi ml 3 (fun v => vc (some lx) zH_175 n true d 175 906 ml (.int v :: st) t Q) := by
  rw [vc_q (o := (1, 0, 3, 0, [])) (by decide +kernel)]; rfl
theorem v_175_906 (lx : List Int32) (n : Nat) (b : Bool) (d : Nat) (ml : List Value) (t : T) (Q : Option Value → T → Prop) (st : List Value) : vc (some lx) zH_175 (n + 1) b d 175 906 ml st t Q = vc (some lx) zH_175 n true d 175 907 ml (.int 2 :: st) t Q := by
  rw [vc_q (o := (0, 2, 0, 0, [])) (by decide +kernel)]; rfl
theorem v_175_907 (lx : List Int32) (n : Nat) (b : Bool) (d : Nat) (ml : List Value) (t : T) (Q : Option Value → T → Prop) (u v : Int32) (r : List Value) : vc (some lx) zH_175 (n + 1) b d 175 907 ml (.int v :: .int u :: r) t Q = vc (some lx) zH_175 n true d 175 908 ml (.int (u + v) :: r) t Q := by
  rw [vc_q (o := (6, 0, 0, 0, [])) (by decide +kernel)]; rfl
theorem v_175_908 (lx : List Int32) (n : Nat) (b : Bool) (d : Nat) (ml : List Value) (t : T) (Q : Option Value → T → Prop) (v : Int32) (u : Nat) (r : List Value) : vc (some lx) zH_175 (n + 1) b d 175 908 ml (.int v :: .ref u :: r) t Q = (u = zSCR ∧ vinb v lx.length ∧ vc (some lx) zH_175 n true d 175 909 ml (.int (lx.getD v.toNatClampNeg 0) :: r) t Q) := by
  rw [vc_q (o := (44, 0, 0, 0, [])) (by decide +kernel)]; rfl
theorem v_175_909 (lx : List Int32) (n : Nat) (b : Bool) (d : Nat) (ml : List Value) (t : T) (Q : Option Value → T → Prop) (st : List Value) : vc (some lx) zH_175 (n + 1) b d 175 909 ml st t Q = (st.all zc1 = true ∧ vtk 3 st [] (fun as rest => rest.length ≤ 8 ∧ vrc as 0 (twc d 21 as t (fun r t' => vc (some lx) zH_175 n true d 175 912 ml (r.toList ++ rest) t' Q)))) := by
  rw [vc_q (o := (36, 0, 21, 2, [(0, 0)])) (by decide +kernel)]; rfl
theorem v_175_912 (lx : List Int32) (n : Nat) (b : Bool) (d : Nat) (ml : List Value) (t : T) (Q : Option Value → T → Prop) (st : List Value) : vc (some lx) zH_175 (n + 1) b d 175 912 ml st t Q = vga ml 2 (fun v => vc (some lx) zH_175 n true d 175 913 ml (.ref v :: st) t Q) := by
  rw [vc_q (o := (2, 0, 2, 0, [])) (by decide +kernel)]; rfl
theorem v_175_913 (lx : List Int32) (n : Nat) (b : Bool) (d : Nat) (ml : List Value) (t : T) (Q : Option Value → T → Prop) (st : List Value) : vc (some lx) zH_175 (n + 1) b d 175 913 ml st t Q = vga ml 0 (fun v => vc (some lx) zH_175 n true d 175 914 ml (.ref v :: st) t Q) := by
  rw [vc_q (o := (2, 0, 0, 0, [])) (by decide +kernel)]; rfl
theorem v_175_914 (lx : List Int32) (n : Nat) (b : Bool) (d : Nat) (ml : List Value) (t : T) (Q : Option Value → T → Prop) (st : List Value) : vc (some lx) zH_175 (n + 1) b d 175 914 ml st t Q = vgi ml 3 (fun v => vc (some lx) zH_175 n true d 175 915 ml (.int v :: st) t Q) := by
  rw [vc_q (o := (1, 0, 3, 0, [])) (by decide +kernel)]; rfl
theorem v_175_915 (lx : List Int32) (n : Nat) (b : Bool) (d : Nat) (ml : List Value) (t : T) (Q : Option Value → T → Prop) (st : List Value) : vc (some lx) zH_175 (n + 1) b d 175 915 ml st t Q = vc (some lx) zH_175 n true d 175 916 ml (.int 1 :: st) t Q := by
  rw [vc_q (o := (0, 1, 0, 0, [])) (by decide +kernel)]; rfl
theorem v_175_916 (lx : List Int32) (n : Nat) (b : Bool) (d : Nat) (ml : List Value) (t : T) (Q : Option Value → T → Prop) (u v : Int32) (r : List Value) : vc (some lx) zH_175 (n + 1) b d 175 916 ml (.int v :: .int u :: r) t Q = vc (some lx) zH_175 n true d 175 917 ml (.int (u + v) :: r) t Q := by
  rw [vc_q (o := (6, 0, 0, 0, [])) (by decide +kernel)]; rfl
theorem v_175_917 (lx : List Int32) (n : Nat) (b : Bool) (d : Nat) (ml : List Value) (t : T) (Q : Option Value → T → Prop) (v : Int32) (u : Nat) (r : List Value) : vc (some lx) zH_175 (n + 1) b d 175 917 ml (.int v :: .ref u :: r) t Q = (u = zSCR ∧ vinb v lx.length ∧ vc (some lx) zH_175 n true d 175 918 ml (.int (lx.getD v.toNatClampNeg 0) :: r) t Q) := by
  rw [vc_q (o := (44, 0, 0, 0, [])) (by decide +kernel)]; rfl
theorem v_175_918 (lx : List Int32) (n : Nat) (b : Bool) (d : Nat) (ml : List Value) (t : T) (Q : Option Value → T → Prop) (st : List Value) : vc (some lx) zH_175 (n + 1) b d 175 918 ml st t Q = vga ml 0 (fun v => vc (some lx) zH_175 n true d 175 919 ml (.ref v :: st) t Q) := by
  rw [vc_q (o := (2, 0, 0, 0, [])) (by decide +kernel)]; rfl
theorem v_175_919 (lx : List Int32) (n : Nat) (b : Bool) (d : Nat) (ml : List Value) (t : T) (Q : Option Value → T → Prop) (st : List Value) : vc (some lx) zH_175 (n + 1) b d 175 919 ml st t Q = vgi ml 3 (fun v => vc (some lx) zH_175 n true d 175 920 ml (.int v :: st) t Q) := by
  rw [vc_q (o := (1, 0, 3, 0, [])) (by decide +kernel)]; rfl
theorem v_175_920 (lx : List Int32) (n : Nat) (b : Bool) (d : Nat) (ml : List Value) (t : T) (Q : Option Value → T → Prop) (st : List Value) : vc (some lx) zH_175 (n + 1) b d 175 920 ml st t Q = vc (some lx) zH_175 n true d 175 921 ml (.int 2 :: st) t Q := by
  rw [vc_q (o := (0, 2, 0, 0, [])) (by decide +kernel)]; rfl
theorem v_175_921 (lx : List Int32) (n : Nat) (b : Bool) (d : Nat) (ml : List Value) (t : T) (Q : Option Value → T → Prop) (u v : Int32) (r : List Value) : vc (some lx) zH_175 (n + 1) b d 175 921 ml (.int v :: .int u :: r) t Q = vc (some lx) zH_175 n true d 175 922 ml (.int (u + v) :: r) t Q := by
  rw [vc_q (o := (6, 0, 0, 0, [])) (by decide +kernel)]; rfl
theorem v_175_922 (lx : List Int32) (n : Nat) (b : Bool) (d : Nat) (ml : List Value) (t : T) (Q : Option Value → T → Prop) (v : Int32) (u : Nat) (r : List Value) : vc (some lx) zH_175 (n + 1) b d 175 922 ml (.int v :: .ref u :: r) t Q = (u = zSCR ∧ vinb v lx.length ∧ vc (some lx) zH_175 n true d 175 923 ml (.int (lx.getD v.toNatClampNeg 0) :: r) t Q) := by
  rw [vc_q (o := (44, 0, 0, 0, [])) (by decide +kernel)]; rfl
theorem v_175_923 (lx : List Int32) (n : Nat) (b : Bool) (d : Nat) (ml : List Value) (t : T) (Q : Option Value → T → Prop) (st : List Value) : vc (some lx) zH_175 (n + 1) b d 175 923 ml st t Q = (st.all zc1 = true ∧ vtk 3 st [] (fun as rest => rest.length ≤ 8 ∧ vrc as 12 (twc d 103 as t (fun r t' => vc (some lx) zH_175 n true d 175 926 ml (r.toList ++ rest) t' Q)))) := by
  rw [vc_q (o := (36, 0, 103, 2, [(0, 12)])) (by decide +kernel)]; rfl
theorem v_175_926 (lx : List Int32) (n : Nat) (b : Bool) (d : Nat) (ml : List Value) (t : T) (Q : Option Value → T → Prop) (u v : Int32) (r : List Value) : vc (some lx) zH_175 (n + 1) b d 175 926 ml (.int v :: .int u :: r) t Q = (if u = v then vc (some lx) zH_175 n true d 175 931 ml r t Q else vc (some lx) zH_175 n true d 175 929 ml r t Q) := by
  rw [vc_q (o := (20, 0, 931, 0, [])) (by decide +kernel)]; rfl
theorem v_175_929 (lx : List Int32) (n : Nat) (b : Bool) (d : Nat) (ml : List Value) (t : T) (Q : Option Value → T → Prop) (st : List Value) : vc (some lx) zH_175 (n + 1) b d 175 929 ml st t Q = vc (some lx) zH_175 n true d 175 930 ml (.int 0 :: st) t Q := by
  rw [vc_q (o := (0, 0, 0, 0, [])) (by decide +kernel)]; rfl
theorem v_175_930 (lx : List Int32) (n : Nat) (b : Bool) (d : Nat) (ml : List Value) (t : T) (Q : Option Value → T → Prop) (v : Int32) : vc (some lx) zH_175 (n + 1) b d 175 930 ml [.int v] t Q = ((v = 0 ∨ v = 1) ∧ Q (some (.int v)) t) := by
  rw [vc_q (o := (41, 0, 0, 0, [])) (by decide +kernel)]; rfl
theorem v_175_931 (lx : List Int32) (n : Nat) (b : Bool) (d : Nat) (ml : List Value) (t : T) (Q : Option Value → T → Prop) (st : List Value) : vc (some lx) zH_175 (n + 1) b d 175 931 ml st t Q = vgi ml 3 (fun v => vset ml 3 (.int (v + 6)) (fun l => vc (some lx) zH_175 n true d 175 934 l st t Q)) := by
  rw [vc_q (o := (5, 6, 3, 0, [])) (by decide +kernel)]; rfl
theorem v_175_934 (lx : List Int32) (n : Nat) (b : Bool) (d : Nat) (ml : List Value) (t : T) (Q : Option Value → T → Prop) (st : List Value) : vc (some lx) zH_175 (n + 1) b d 175 934 ml st t Q = vc (some lx) zH_175 n true d 175 18 ml st t Q := by
  rw [vc_q (o := (22, 0, 18, 0, [])) (by decide +kernel)]; rfl
theorem v_175_937 (lx : List Int32) (n : Nat) (b : Bool) (d : Nat) (ml : List Value) (t : T) (Q : Option Value → T → Prop) (st : List Value) : vc (some lx) zH_175 (n + 1) b d 175 937 ml st t Q = vc (some lx) zH_175 n true d 175 938 ml (.int 1 :: st) t Q := by
  rw [vc_q (o := (0, 1, 0, 0, [])) (by decide +kernel)]; rfl
theorem v_175_938 (lx : List Int32) (n : Nat) (b : Bool) (d : Nat) (ml : List Value) (t : T) (Q : Option Value → T → Prop) (v : Int32) : vc (some lx) zH_175 (n + 1) b d 175 938 ml [.int v] t Q = ((v = 0 ∨ v = 1) ∧ Q (some (.int v)) t) := by
  rw [vc_q (o := (41, 0, 0, 0, [])) (by decide +kernel)]; rfl
